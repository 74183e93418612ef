theorem g_aastN {X : Xt} {Y : Yt} {cc : ByteArray} {nL : Nat} {own : String} {cells slots : Nat} {S : Mm} {pc : Nat} {L : List (Nat × AV)} {st : List AV} (C : Cx X Y cc nL own) {k q : Ln} {t n ci i : Nat} (hk : kd k = (t, n)) (hq : kd q = (0, ci)) (ht : (t = 3 ∧ ci = 3) ∨ (t = 4 ∧ ci = 2)) (hlv : S.2.2 k = true) (hqv : S.2.2 q = true) (hi : i < n) (hn : n < 2 ^ 31) (hd : decode cc pc = .ok (.aastore, 1)) (kk : G X Y cells slots (wR S k i (some q)) (pc + 1) L st) : G X Y cells slots S pc L (vr q :: vi (nI i) :: vr k :: st) :=
  g_aast C hk hq ht hlv hqv (vp_in_nI hi hn) hd (by rw [cl i]; exact kk)
/-! the names that a constructor takes -/
def frT (i : Nat) (k : Ln) : Bool := decide (k.1 = 1) && decide (k.2.1 = i) && decide (3 ≤ k.2.2) && decide (k.2.2 ≤ 9)
def frD (i : Nat) (k : Ln) : Bool := decide (k.1 = 1) && decide (k.2.1 = i) && decide (11 ≤ k.2.2) && decide (k.2.2 ≤ 12)
def frMm (i : Nat) (k : Ln) : Bool := decide (k.1 = 1) && decide (k.2.1 = i) && decide (1 ≤ k.2.2) && decide (k.2.2 ≤ 12)
def frN (i : Nat) (k : Ln) : Bool := decide (k.1 = 1) && decide (k.2.1 = i) && decide (k.2.2 ≤ 12)
def frC (k : Ln) : Bool := decide (k.1 = 0) && decide (k.2.1 = 0) && decide (6 ≤ k.2.2) && decide (k.2.2 ≤ 7)
def frV (k : Ln) : Bool := (decide (k.1 = 0) && decide (k.2.1 = 0) && decide (9 ≤ k.2.2) && decide (k.2.2 ≤ 10)) || isRw k
def frX (k : Ln) : Bool := (decide (k.1 = 0) && decide (k.2.1 = 0) && decide (1 ≤ k.2.2) && decide (k.2.2 ≤ 10)) || isRw k
def tilM (S : Mm) (i : Nat) : Mm := wR (nwm (wR (nwm (wR (nwm (wR (nwm (wR (nwm (wR (nwm (wR (nwm S (1, i, 3)) (1, i, 2) 0 (some (1, i, 3))) (1, i, 4)) (1, i, 2) 1 (some (1, i, 4))) (1, i, 5)) (1, i, 2) 2 (some (1, i, 5))) (1, i, 6)) (1, i, 2) 3 (some (1, i, 6))) (1, i, 7)) (1, i, 2) 4 (some (1, i, 7))) (1, i, 8)) (1, i, 2) 5 (some (1, i, 8))) (1, i, 9)) (1, i, 2) 6 (some (1, i, 9))
set_option maxHeartbeats 400000 in
set_option maxRecDepth 100000 in
theorem c_tilI (l : Launch) (E : En) (base aw : Nat) (S : Mm) (i : Nat) (hl : S.2.2 (1, i, 2) = true) (hd : ∀ o, 3 ≤ o → o ≤ 9 → S.2.2 (1, i, o) = false) : Cn l E base aw yX4_init cX4_init 1 (none) 1 7 42 (frT i) S [vr (1, i, 2)] (fun r S' => r = none ∧ S' = tilM S i) := by
  refine Cn.of (by decide) (Nat.le_of_ble_eq_true rfl) ?_
  intro X Y hl hE hbase haw hfr C B
  subst hl; subst hE; subst hbase; subst haw
  refine g_aload_n (pc := 0) C dX4_init_0 rfl ?_
  refine g_obj (pc := 1) C obX4_3 ob_i ob_c (by rw [B.1]; decide) (Nat.le_of_ble_eq_true rfl) dX4_init_1 ?_
  refine g_aload_n (pc := 4) C dX4_init_4 rfl ?_
  refine g_wst (pc := 5) C wsX4_9 dX4_init_5 ?_
  refine g_wln (pc := 8) C dX4_init_8 ?_
  refine g_newi (pc := 9) C (1, i, 3) 6 rfl (by simp [wR, wI, nwm, hl, hd]) (by simp [wK]) (by rw [hfr]; simp [frT]) (by simp [argL, sto]) (by simp [argL, pushR]) (by decide) (by decide) (by decide) ac_int (by rw [B.1]; decide) (by rw [B.1]; decide) dX4_init_9 ?_
  refine g_putr (pc := 11) C fX4_13 (Or.inr ⟨B.2.2.1, fi4_0⟩) rfl (by simp [wR, wI, nwm, hl, hd]) dX4_init_11 rfl (fun _ => ⟨rfl, rfl⟩) (by simp [wR, wI, nwm, hl, hd]) ?_
  refine g_aload_n (pc := 14) C dX4_init_14 rfl ?_
  refine g_wst (pc := 15) C wsX4_9 dX4_init_15 ?_
  refine g_wln (pc := 18) C dX4_init_18 ?_
  refine g_newi (pc := 19) C (1, i, 4) 6 rfl (by simp [wR, wI, nwm, hl, hd]) (by simp [wK]) (by rw [hfr]; simp [frT]) (by simp [argL, sto]) (by simp [argL, pushR]) (by decide) (by decide) (by decide) ac_int (by rw [B.1]; decide) (by rw [B.1]; decide) dX4_init_19 ?_
  refine g_putr (pc := 21) C fX4_18 (Or.inr ⟨B.2.2.1, fi4_1⟩) rfl (by simp [wR, wI, nwm, hl, hd]) dX4_init_21 rfl (fun _ => ⟨rfl, rfl⟩) (by simp [wR, wI, nwm, hl, hd]) ?_
  refine g_aload_n (pc := 24) C dX4_init_24 rfl ?_
  refine g_wst (pc := 25) C wsX4_9 dX4_init_25 ?_
  refine g_wln (pc := 28) C dX4_init_28 ?_
  refine g_newi (pc := 29) C (1, i, 5) 6 rfl (by simp [wR, wI, nwm, hl, hd]) (by simp [wK]) (by rw [hfr]; simp [frT]) (by simp [argL, sto]) (by simp [argL, pushR]) (by decide) (by decide) (by decide) ac_int (by rw [B.1]; decide) (by rw [B.1]; decide) dX4_init_29 ?_
  refine g_putr (pc := 31) C fX4_21 (Or.inr ⟨B.2.2.1, fi4_2⟩) rfl (by simp [wR, wI, nwm, hl, hd]) dX4_init_31 rfl (fun _ => ⟨rfl, rfl⟩) (by simp [wR, wI, nwm, hl, hd]) ?_
  refine g_aload_n (pc := 34) C dX4_init_34 rfl ?_
  refine g_wst (pc := 35) C wsX4_9 dX4_init_35 ?_
  refine g_wln (pc := 38) C dX4_init_38 ?_
  refine g_newi (pc := 39) C (1, i, 6) 6 rfl (by simp [wR, wI, nwm, hl, hd]) (by simp [wK]) (by rw [hfr]; simp [frT]) (by simp [argL, sto]) (by simp [argL, pushR]) (by decide) (by decide) (by decide) ac_int (by rw [B.1]; decide) (by rw [B.1]; decide) dX4_init_39 ?_
  refine g_putr (pc := 41) C fX4_24 (Or.inr ⟨B.2.2.1, fi4_3⟩) rfl (by simp [wR, wI, nwm, hl, hd]) dX4_init_41 rfl (fun _ => ⟨rfl, rfl⟩) (by simp [wR, wI, nwm, hl, hd]) ?_
  refine g_aload_n (pc := 44) C dX4_init_44 rfl ?_
  refine g_wst (pc := 45) C wsX4_9 dX4_init_45 ?_
  refine g_wln (pc := 48) C dX4_init_48 ?_
  refine g_newi (pc := 49) C (1, i, 7) 6 rfl (by simp [wR, wI, nwm, hl, hd]) (by simp [wK]) (by rw [hfr]; simp [frT]) (by simp [argL, sto]) (by simp [argL, pushR]) (by decide) (by decide) (by decide) ac_int (by rw [B.1]; decide) (by rw [B.1]; decide) dX4_init_49 ?_
  refine g_putr (pc := 51) C fX4_27 (Or.inr ⟨B.2.2.1, fi4_4⟩) rfl (by simp [wR, wI, nwm, hl, hd]) dX4_init_51 rfl (fun _ => ⟨rfl, rfl⟩) (by simp [wR, wI, nwm, hl, hd]) ?_
  refine g_aload_n (pc := 54) C dX4_init_54 rfl ?_
  refine g_wst (pc := 55) C wsX4_9 dX4_init_55 ?_
  refine g_wln (pc := 58) C dX4_init_58 ?_
  refine g_newi (pc := 59) C (1, i, 8) 6 rfl (by simp [wR, wI, nwm, hl, hd]) (by simp [wK]) (by rw [hfr]; simp [frT]) (by simp [argL, sto]) (by simp [argL, pushR]) (by decide) (by decide) (by decide) ac_int (by rw [B.1]; decide) (by rw [B.1]; decide) dX4_init_59 ?_
  refine g_putr (pc := 61) C fX4_30 (Or.inr ⟨B.2.2.1, fi4_5⟩) rfl (by simp [wR, wI, nwm, hl, hd]) dX4_init_61 rfl (fun _ => ⟨rfl, rfl⟩) (by simp [wR, wI, nwm, hl, hd]) ?_
  refine g_aload_n (pc := 64) C dX4_init_64 rfl ?_
  refine g_wst (pc := 65) C wsX4_9 dX4_init_65 ?_
  refine g_wln (pc := 68) C dX4_init_68 ?_
  refine g_newi (pc := 69) C (1, i, 9) 6 rfl (by simp [wR, wI, nwm, hl, hd]) (by simp [wK]) (by rw [hfr]; simp [frT]) (by simp [argL, sto]) (by simp [argL, pushR]) (by decide) (by decide) (by decide) ac_int (by rw [B.1]; decide) (by rw [B.1]; decide) dX4_init_69 ?_
  refine g_putr (pc := 71) C fX4_33 (Or.inr ⟨B.2.2.1, fi4_6⟩) rfl (by simp [wR, wI, nwm, hl, hd]) dX4_init_71 rfl (fun _ => ⟨rfl, rfl⟩) (by simp [wR, wI, nwm, hl, hd]) ?_
  exact g_vret (pc := 74) C B dX4_init_74 (⟨rfl, rfl⟩)

def diM (S : Mm) (i : Nat) : Mm := wR (nwm (wR (nwm S (1, i, 11)) (1, i, 10) 0 (some (1, i, 11))) (1, i, 12)) (1, i, 10) 1 (some (1, i, 12))
set_option maxHeartbeats 400000 in
set_option maxRecDepth 100000 in
theorem c_diI (l : Launch) (E : En) (base aw : Nat) (S : Mm) (i : Nat) (hl : S.2.2 (1, i, 10) = true) (hd : ∀ o, 11 ≤ o → o ≤ 12 → S.2.2 (1, i, o) = false) : Cn l E base aw yX1_init cX1_init 1 (none) 1 2 768 (frD i) S [vr (1, i, 10)] (fun r S' => r = none ∧ S' = diM S i) := by
  refine Cn.of (by decide) (Nat.le_of_ble_eq_true rfl) ?_
  intro X Y hl hE hbase haw hfr C B
  subst hl; subst hE; subst hbase; subst haw
  refine g_aload_n (pc := 0) C dX1_init_0 rfl ?_
  refine g_obj (pc := 1) C obX1_3 ob_i ob_c (by rw [B.1]; decide) (Nat.le_of_ble_eq_true rfl) dX1_init_1 ?_
  refine g_aload_n (pc := 4) C dX1_init_4 rfl ?_
  refine g_sipush (pc := 5) C 384 dX1_init_5 (by decide) ?_
  refine g_newi (pc := 8) C (1, i, 11) 384 rfl (by simp [wR, wI, nwm, hl, hd]) (by simp [wK]) (by rw [hfr]; simp [frD]) (by simp [argL, sto]) (by simp [argL, pushR]) (by decide) (by decide) (by decide) ac_int (by rw [B.1]; decide) (by rw [B.1]; decide) dX1_init_8 ?_
  refine g_putr (pc := 10) C fX1_9 (Or.inr ⟨B.2.2.1, fi1_0⟩) rfl (by simp [wR, wI, nwm, hl, hd]) dX1_init_10 rfl (fun _ => ⟨rfl, rfl⟩) (by simp [wR, wI, nwm, hl, hd]) ?_
  refine g_aload_n (pc := 13) C dX1_init_13 rfl ?_
  refine g_sipush (pc := 14) C 384 dX1_init_14 (by decide) ?_
  refine g_newi (pc := 17) C (1, i, 12) 384 rfl (by simp [wR, wI, nwm, hl, hd]) (by simp [wK]) (by rw [hfr]; simp [frD]) (by simp [argL, sto]) (by simp [argL, pushR]) (by decide) (by decide) (by decide) ac_int (by rw [B.1]; decide) (by rw [B.1]; decide) dX1_init_17 ?_
  refine g_putr (pc := 19) C fX1_15 (Or.inr ⟨B.2.2.1, fi1_1⟩) rfl (by simp [wR, wI, nwm, hl, hd]) dX1_init_19 rfl (fun _ => ⟨rfl, rfl⟩) (by simp [wR, wI, nwm, hl, hd]) ?_
  exact g_vret (pc := 22) C B dX1_init_22 (⟨rfl, rfl⟩)

theorem tilM_2 (S : Mm) (i : Nat) (k : Ln) : (tilM S i).2.2 k = (frT i k || S.2.2 k) := by
  rcases k with ⟨a, b, c⟩
  by_cases h : a = 1 ∧ b = i
  · obtain ⟨rfl, rfl⟩ := h
    by_cases h2 : 3 ≤ c ∧ c ≤ 9
    · rcases (show c = 3 ∨ c = 4 ∨ c = 5 ∨ c = 6 ∨ c = 7 ∨ c = 8 ∨ c = 9 by omega) with rfl | rfl | rfl | rfl | rfl | rfl | rfl <;> simp [tilM, frT, wR, nwm]
    · have : c ≠ 3 ∧ c ≠ 4 ∧ c ≠ 5 ∧ c ≠ 6 ∧ c ≠ 7 ∧ c ≠ 8 ∧ c ≠ 9 := by omega
      have h3 : (decide (3 ≤ c) && decide (c ≤ 9)) = false := by simp; omega
      simp [tilM, frT, wR, nwm, this, h3]
  · have : ∀ o, (a, b, c) ≠ ((1, i, o) : Ln) := fun o e => h (by cases e; exact ⟨rfl, rfl⟩)
    have h3 : (decide (a = 1) && decide (b = i)) = false := by simp; exact fun e => fun e2 => h ⟨e, e2⟩
    simp [tilM, frT, wR, nwm, this, h3]
theorem diM_2 (S : Mm) (i : Nat) (k : Ln) : (diM S i).2.2 k = (frD i k || S.2.2 k) := by
  rcases k with ⟨a, b, c⟩
  by_cases h : a = 1 ∧ b = i
  · obtain ⟨rfl, rfl⟩ := h
    by_cases h2 : 11 ≤ c ∧ c ≤ 12
    · rcases (show c = 11 ∨ c = 12 by omega) with rfl | rfl <;> simp [diM, frD, wR, nwm]
    · have : c ≠ 11 ∧ c ≠ 12 := by omega
      have h3 : (decide (11 ≤ c) && decide (c ≤ 12)) = false := by simp; omega
      simp [diM, frD, wR, nwm, this, h3]
  · have : ∀ o, (a, b, c) ≠ ((1, i, o) : Ln) := fun o e => h (by cases e; exact ⟨rfl, rfl⟩)
    have h3 : (decide (a = 1) && decide (b = i)) = false := by simp; exact fun e => fun e2 => h ⟨e, e2⟩
    simp [diM, frD, wR, nwm, this, h3]
def macM (S : Mm) (i : Nat) : Mm := wI (wR (diM (nwm (wR (tilM (nwm (wR (nwm S (1, i, 1)) (1, i, 0) 0 (some (1, i, 1))) (1, i, 2)) i) (1, i, 0) 1 (some (1, i, 2))) (1, i, 10)) i) (1, i, 0) 2 (some (1, i, 10))) (1, i, 0) 4 1
set_option maxHeartbeats 400000 in
set_option maxRecDepth 100000 in
theorem c_macI (l : Launch) (E : En) (base aw : Nat) (S : Mm) (i : Nat) (hl : S.2.2 (1, i, 0) = true) (hd : ∀ o, 1 ≤ o → o ≤ 12 → S.2.2 (1, i, o) = false) : Cn l E base aw yX3_init cX3_init 1 (none) 2 12 828 (frMm i) S [vr (1, i, 0)] (fun r S' => r = none ∧ S' = macM S i) := by
  refine Cn.of (by decide) (Nat.le_of_ble_eq_true rfl) ?_
  intro X Y hl hE hbase haw hfr C B
  subst hl; subst hE; subst hbase; subst haw
  refine g_aload_n (pc := 0) C dX3_init_0 rfl ?_
  refine g_obj (pc := 1) C obX3_3 ob_i ob_c (by rw [B.1]; decide) (Nat.le_of_ble_eq_true rfl) dX3_init_1 ?_
  refine g_aload_n (pc := 4) C dX3_init_4 rfl ?_
  refine g_bipush (pc := 5) C 8 dX3_init_5 (by decide) ?_
  refine g_anew (pc := 7) C (1, i, 1) 8 rfl (Or.inr ⟨rfl, rfl⟩) (by simp [wR, wI, nwm, hl, hd, tilM_2, diM_2, frT, frD]) (by simp [wK]) (by rw [hfr]; simp [frMm]) (by simp [argL, sto]) (by simp [argL, pushR]) (by decide) (by decide) (by decide) kX3_9 (by rw [B.1]; decide) (by rw [B.1]; decide) dX3_init_7 ?_
  refine g_putr (pc := 10) C fX3_11 (Or.inr ⟨B.2.2.1, fi3_0⟩) rfl (by simp [wR, wI, nwm, hl, hd, tilM_2, diM_2, frT, frD]) dX3_init_10 rfl (fun _ => ⟨rfl, rfl⟩) (by simp [wR, wI, nwm, hl, hd, tilM_2, diM_2, frT, frD]) ?_
  refine g_aload_n (pc := 13) C dX3_init_13 rfl ?_
  refine g_new (pc := 14) C (1, i, 2) nX3_17 rfl (by simp [wR, wI, nwm, hl, hd, tilM_2, diM_2, frT, frD]) (by simp [wK]) (by rw [hfr]; simp [frMm]) (by simp [argL, sto]) (by simp [argL, pushR]) (by rw [B.1]; decide) (by rw [B.1]; decide) dX3_init_14 ?_
  refine g_dup (pc := 17) C dX3_init_17 ?_
  refine g_callIf (pc := 18) C mX3_19 (c_tilI _ _ _ _ (nwm (wR (nwm S (1, i, 1)) (1, i, 0) 0 (some (1, i, 1))) (1, i, 2)) i (by simp [wR, nwm]) (fun o h1 h2 => by simp [wR, nwm, hd o (by omega) (by omega)]; omega)) rfl rfl (by rw [B.1]; decide) (by rw [B.1]; decide) (Nat.le_of_ble_eq_true rfl) dX3_init_18 (fun q hq => by rw [hfr]; simp [frT, frMm] at hq ⊢; omega) (by simp [okR, argL, frT]) (by simp [okR, argL, frT]) (fun rr SS hP => ?_)
  rw [hP.1, hP.2]
  refine g_putr (pc := 21) C fX3_20 (Or.inr ⟨B.2.2.1, fi3_1⟩) rfl (by simp [wR, wI, nwm, hl, hd, tilM_2, diM_2, frT, frD]) dX3_init_21 rfl (fun _ => ⟨rfl, rfl⟩) (by simp [wR, wI, nwm, hl, hd, tilM_2, diM_2, frT, frD]) ?_
  refine g_aload_n (pc := 24) C dX3_init_24 rfl ?_
  refine g_new (pc := 25) C (1, i, 10) nX3_24 rfl (by simp [wR, wI, nwm, hl, hd, tilM_2, diM_2, frT, frD]) (by simp [wK]) (by rw [hfr]; simp [frMm]) (by simp [argL, sto]) (by simp [argL, pushR]) (by rw [B.1]; decide) (by rw [B.1]; decide) dX3_init_25 ?_
  refine g_dup (pc := 28) C dX3_init_28 ?_
  refine g_callIf (pc := 29) C mX3_26 (c_diI _ _ _ _ (nwm (wR (tilM (nwm (wR (nwm S (1, i, 1)) (1, i, 0) 0 (some (1, i, 1))) (1, i, 2)) i) (1, i, 0) 1 (some (1, i, 2))) (1, i, 10)) i (by simp [wR, nwm]) (fun o h1 h2 => by simp [wR, nwm, tilM_2, frT, hd o (by omega) (by omega)]; omega)) rfl rfl (by rw [B.1]; decide) (by rw [B.1]; decide) (Nat.le_of_ble_eq_true rfl) dX3_init_29 (fun q hq => by rw [hfr]; simp [frD, frMm] at hq ⊢; omega) (by simp [okR, argL, frD]) (by simp [okR, argL, frD]) (fun rr SS hP => ?_)
  rw [hP.1, hP.2]
  refine g_putr (pc := 32) C fX3_27 (Or.inr ⟨B.2.2.1, fi3_2⟩) rfl (by simp [wR, wI, nwm, hl, hd, tilM_2, diM_2, frT, frD]) dX3_init_32 rfl (fun _ => ⟨rfl, rfl⟩) (by simp [wR, wI, nwm, hl, hd, tilM_2, diM_2, frT, frD]) ?_
  refine g_aload_n (pc := 35) C dX3_init_35 rfl ?_
  refine g_iconst (pc := 36) C 1 dX3_init_36 (by decide) ?_
  refine g_puti (pc := 37) C fX3_31 (Or.inl fm3_4) rfl (by simp [wR, wI, nwm, hl, hd, tilM_2, diM_2, frT, frD]) dX3_init_37 (Or.inr ⟨rfl, Or.inr rfl⟩) ?_
  exact g_vret (pc := 40) C B dX3_init_40 (⟨rfl, rfl⟩)

