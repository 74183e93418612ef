def chgM (S : Mm) : Mm := wR (nwm (wR (nwm S (0, 0, 6)) (0, 0, 5) 0 (some (0, 0, 6))) (0, 0, 7)) (0, 0, 5) 1 (some (0, 0, 7))
set_option maxHeartbeats 400000 in
set_option maxRecDepth 100000 in
theorem c_chgI (l : Launch) (E : En) (base aw : Nat) (S : Mm) (hl : S.2.2 (0, 0, 5) = true) (hd : ∀ o, 6 ≤ o → o ≤ 7 → S.2.2 (0, 0, o) = false) : Cn l E base aw yX0_init cX0_init 1 (none) 1 2 12 frC S [vr (0, 0, 5)] (fun r S' => r = none ∧ S' = chgM S) := by
  refine Cn.of (by decide) (Nat.le_of_ble_eq_true rfl) ?_
  intro X Y hl hE hbase haw hfr C B
  subst hl; subst hE; subst hbase; subst haw
  refine g_aload_n (pc := 0) C dX0_init_0 rfl ?_
  refine g_obj (pc := 1) C obX0_3 ob_i ob_c (by rw [B.1]; decide) (Nat.le_of_ble_eq_true rfl) dX0_init_1 ?_
  refine g_aload_n (pc := 4) C dX0_init_4 rfl ?_
  refine g_wst (pc := 5) C wsX0_9 dX0_init_5 ?_
  refine g_wln (pc := 8) C dX0_init_8 ?_
  refine g_newi (pc := 9) C (0, 0, 6) 6 rfl (by simp [wR, wI, nwm, hl, hd]) (by simp [wK]) (by rw [hfr]; simp [frC]) (by simp [argL, sto]) (by simp [argL, pushR]) (by decide) (by decide) (by decide) ac_int (by rw [B.1]; decide) (by rw [B.1]; decide) dX0_init_9 ?_
  refine g_putr (pc := 11) C fX0_13 (Or.inr ⟨B.2.2.1, fi0_0⟩) rfl (by simp [wR, wI, nwm, hl, hd]) dX0_init_11 rfl (fun _ => ⟨rfl, rfl⟩) (by simp [wR, wI, nwm, hl, hd]) ?_
  refine g_aload_n (pc := 14) C dX0_init_14 rfl ?_
  refine g_wst (pc := 15) C wsX0_9 dX0_init_15 ?_
  refine g_wln (pc := 18) C dX0_init_18 ?_
  refine g_newi (pc := 19) C (0, 0, 7) 6 rfl (by simp [wR, wI, nwm, hl, hd]) (by simp [wK]) (by rw [hfr]; simp [frC]) (by simp [argL, sto]) (by simp [argL, pushR]) (by decide) (by decide) (by decide) ac_int (by rw [B.1]; decide) (by rw [B.1]; decide) dX0_init_19 ?_
  refine g_putr (pc := 21) C fX0_18 (Or.inr ⟨B.2.2.1, fi0_1⟩) rfl (by simp [wR, wI, nwm, hl, hd]) dX0_init_21 rfl (fun _ => ⟨rfl, rfl⟩) (by simp [wR, wI, nwm, hl, hd]) ?_
  exact g_vret (pc := 24) C B dX0_init_24 (⟨rfl, rfl⟩)

def vaM (S : Mm) : Mm := wR (nwm (wR (grM S) (0, 0, 8) 0 (some (0, 0, 9))) (0, 0, 10)) (0, 0, 8) 1 (some (0, 0, 10))
set_option maxHeartbeats 400000 in
set_option maxRecDepth 100000 in
theorem c_vaI (l : Launch) (E : En) (base aw : Nat) (S : Mm) (hl : S.2.2 (0, 0, 8) = true) (hd : ∀ o, 9 ≤ o → o ≤ 10 → S.2.2 (0, 0, o) = false) (hd4 : ∀ r, r < 9 → S.2.2 (4, 0, r) = false) : Cn l E base aw yX5_init cX5_init 1 (none) 1 11 1826 frV S [vr (0, 0, 8)] (fun r S' => r = none ∧ S' = vaM S) := by
  refine Cn.of (by decide) (Nat.le_of_ble_eq_true rfl) ?_
  intro X Y hl hE hbase haw hfr C B
  subst hl; subst hE; subst hbase; subst haw
  refine g_aload_n (pc := 0) C dX5_init_0 rfl ?_
  refine g_obj (pc := 1) C obX5_3 ob_i ob_c (by rw [B.1]; decide) (Nat.le_of_ble_eq_true rfl) dX5_init_1 ?_
  refine g_aload_n (pc := 4) C dX5_init_4 rfl ?_
  refine g_bipush (pc := 5) C 9 dX5_init_5 (by decide) ?_
  refine g_sipush (pc := 7) C 201 dX5_init_7 (by decide) ?_
  refine g_grid (pc := 10) C (by simp [wR, wI, nwm, hl, hd, grM, isRw]) (fun r hr => by simp [wR, wI, nwm, hd4 r hr]) (by rw [hfr]; simp [frV]) (fun r hr => by rw [hfr]; simp [frV, isRw, hr]) (by simp [noG, isRw, argL]) (by simp [noG, isRw, argL, pushR]) kX5_9 ac_int (by rw [B.1]; decide) (by rw [B.1]; decide) dX5_init_10 ?_
  refine g_putr (pc := 14) C fX5_11 (Or.inr ⟨B.2.2.1, fi5_0⟩) rfl (by simp [wR, wI, nwm, hl, hd, grM, isRw]) dX5_init_14 rfl (fun _ => ⟨rfl, rfl⟩) (by simp [wR, wI, nwm, hl, hd, grM, isRw]) ?_
  refine g_aload_n (pc := 17) C dX5_init_17 rfl ?_
  refine g_bipush (pc := 18) C 8 dX5_init_18 (by decide) ?_
  refine g_newi (pc := 20) C (0, 0, 10) 8 rfl (by simp [wR, wI, nwm, hl, hd, grM, isRw]) (by simp [wK]) (by rw [hfr]; simp [frV]) (by simp [argL, sto]) (by simp [argL, pushR]) (by decide) (by decide) (by decide) ac_int (by rw [B.1]; decide) (by rw [B.1]; decide) dX5_init_20 ?_
  refine g_putr (pc := 22) C fX5_16 (Or.inr ⟨B.2.2.1, fi5_1⟩) rfl (by simp [wR, wI, nwm, hl, hd, grM, isRw]) dX5_init_22 rfl (fun _ => ⟨rfl, rfl⟩) (by simp [wR, wI, nwm, hl, hd, grM, isRw]) ?_
  exact g_vret (pc := 25) C B dX5_init_25 (⟨rfl, rfl⟩)

theorem frV_X (q : Ln) (h : frV q = true) : frX q = true := by
  unfold frV at h; unfold frX
  rcases Bool.or_eq_true_iff.mp h with h | h
  · simp at h ⊢; exact Or.inl (by omega)
  · rw [h, Bool.or_true]
def shM (S : Mm) : Mm := wR (vaM (nwm (wR (chgM (nwm (wR (nwm (wR (nwm (flM (wR (nwm (wR (nwm S (0, 0, 1)) (0, 0, 0) 0 (some (0, 0, 1))) (0, 0, 2)) (0, 0, 0) 1 (some (0, 0, 2))) (0, 0, 2) 1 16) (0, 0, 3)) (0, 0, 0) 2 (some (0, 0, 3))) (0, 0, 4)) (0, 0, 0) 3 (some (0, 0, 4))) (0, 0, 5))) (0, 0, 0) 4 (some (0, 0, 5))) (0, 0, 8))) (0, 0, 0) 5 (some (0, 0, 8))
set_option maxHeartbeats 400000 in
set_option maxRecDepth 100000 in
theorem c_shI (l : Launch) (E : En) (base aw : Nat) (S : Mm) (hl : S.2.2 (0, 0, 0) = true) (hd : ∀ o, 1 ≤ o → o ≤ 10 → S.2.2 (0, 0, o) = false) (hd4 : ∀ r, r < 9 → S.2.2 (4, 0, r) = false) : Cn l E base aw yX6_init cX6_init 1 (none) 2 19 1877 frX S [vr (0, 0, 0)] (fun r S' => r = none ∧ S' = shM S) := by
  refine Cn.of (by decide) (Nat.le_of_ble_eq_true rfl) ?_
  intro X Y hl hE hbase haw hfr C B
  subst hl; subst hE; subst hbase; subst haw
  refine g_aload_n (pc := 0) C dX6_init_0 rfl ?_
  refine g_obj (pc := 1) C obX6_1 ob_i ob_c (by rw [B.1]; decide) (Nat.le_of_ble_eq_true rfl) dX6_init_1 ?_
  refine g_aload_n (pc := 4) C dX6_init_4 rfl ?_
  refine g_bipush (pc := 5) C 6 dX6_init_5 (by decide) ?_
  refine g_anew (pc := 7) C (0, 0, 1) 6 rfl (Or.inl ⟨rfl, rfl⟩) (by simp [wR, wI, nwm, hl, hd, chgM, vaM, grM, isRw, flM_2]) (by simp [wK]) (by rw [hfr]; simp [frX]) (by simp [argL, sto]) (by simp [argL, pushR]) (by decide) (by decide) (by decide) kX6_9 (by rw [B.1]; decide) (by rw [B.1]; decide) dX6_init_7 ?_
  refine g_putr (pc := 10) C fX6_11 (Or.inr ⟨B.2.2.1, fi6_0⟩) rfl (by simp [wR, wI, nwm, hl, hd, chgM, vaM, grM, isRw, flM_2]) dX6_init_10 rfl (fun _ => ⟨rfl, rfl⟩) (by simp [wR, wI, nwm, hl, hd, chgM, vaM, grM, isRw, flM_2]) ?_
  refine g_aload_n (pc := 13) C dX6_init_13 rfl ?_
  refine g_bipush (pc := 14) C 16 dX6_init_14 (by decide) ?_
  refine g_newi (pc := 16) C (0, 0, 2) 16 rfl (by simp [wR, wI, nwm, hl, hd, chgM, vaM, grM, isRw, flM_2]) (by simp [wK]) (by rw [hfr]; simp [frX]) (by simp [argL, sto]) (by simp [argL, pushR]) (by decide) (by decide) (by decide) ac_int (by rw [B.1]; decide) (by rw [B.1]; decide) dX6_init_16 ?_
  refine g_putr (pc := 18) C fX6_15 (Or.inr ⟨B.2.2.1, fi6_1⟩) rfl (by simp [wR, wI, nwm, hl, hd, chgM, vaM, grM, isRw, flM_2]) dX6_init_18 rfl (fun _ => ⟨rfl, rfl⟩) (by simp [wR, wI, nwm, hl, hd, chgM, vaM, grM, isRw, flM_2]) ?_
  refine g_aload_n (pc := 21) C dX6_init_21 rfl ?_
  refine g_getr (pc := 22) C fX6_15 rfl (by simp [wR, wI, nwm, hl, hd, chgM, vaM, grM, isRw, flM_2]) dX6_init_22 rfl (show _ = some (0, 0, 2) by simp [wR, wI, nwm]) ?_
  refine g_iconst (pc := 25) C 1 dX6_init_25 (by decide) ?_
  refine g_callS (pc := 26) C B mX6_19 (c_fill _ _ _ _ (wR (nwm (wR (nwm S (0, 0, 1)) (0, 0, 0) 0 (some (0, 0, 1))) (0, 0, 2)) (0, 0, 0) 1 (some (0, 0, 2))) (0, 0, 2) 16 1 rfl (by simp [wR, nwm]) (by decide)) rfl rfl (by decide) (by decide) (Nat.le_of_ble_eq_true rfl) dX6_init_26 (fun rr SS hP => ?_)
  rw [hP.1, hP.2]
  refine g_aload_n (pc := 29) C dX6_init_29 rfl ?_
  refine g_bipush (pc := 30) C 7 dX6_init_30 (by decide) ?_
  refine g_newi (pc := 32) C (0, 0, 3) 7 rfl (by simp [wR, wI, nwm, hl, hd, chgM, vaM, grM, isRw, flM_2]) (by simp [wK]) (by rw [hfr]; simp [frX]) (by simp [argL, sto]) (by simp [argL, pushR]) (by decide) (by decide) (by decide) ac_int (by rw [B.1]; decide) (by rw [B.1]; decide) dX6_init_32 ?_
  refine g_putr (pc := 34) C fX6_25 (Or.inr ⟨B.2.2.1, fi6_2⟩) rfl (by simp [wR, wI, nwm, hl, hd, chgM, vaM, grM, isRw, flM_2]) dX6_init_34 rfl (fun _ => ⟨rfl, rfl⟩) (by simp [wR, wI, nwm, hl, hd, chgM, vaM, grM, isRw, flM_2]) ?_
  refine g_aload_n (pc := 37) C dX6_init_37 rfl ?_
  refine g_wst (pc := 38) C wsX6_28 dX6_init_38 ?_
  refine g_wln (pc := 41) C dX6_init_41 ?_
  refine g_newi (pc := 42) C (0, 0, 4) 6 rfl (by simp [wR, wI, nwm, hl, hd, chgM, vaM, grM, isRw, flM_2]) (by simp [wK]) (by rw [hfr]; simp [frX]) (by simp [argL, sto]) (by simp [argL, pushR]) (by decide) (by decide) (by decide) ac_int (by rw [B.1]; decide) (by rw [B.1]; decide) dX6_init_42 ?_
  refine g_putr (pc := 44) C fX6_31 (Or.inr ⟨B.2.2.1, fi6_3⟩) rfl (by simp [wR, wI, nwm, hl, hd, chgM, vaM, grM, isRw, flM_2]) dX6_init_44 rfl (fun _ => ⟨rfl, rfl⟩) (by simp [wR, wI, nwm, hl, hd, chgM, vaM, grM, isRw, flM_2]) ?_
  refine g_aload_n (pc := 47) C dX6_init_47 rfl ?_
  refine g_new (pc := 48) C (0, 0, 5) nX6_34 rfl (by simp [wR, wI, nwm, hl, hd, chgM, vaM, grM, isRw, flM_2]) (by simp [wK]) (by rw [hfr]; simp [frX]) (by simp [argL, sto]) (by simp [argL, pushR]) (by rw [B.1]; decide) (by rw [B.1]; decide) dX6_init_48 ?_
  refine g_dup (pc := 51) C dX6_init_51 ?_
  refine g_callIf (pc := 52) C mX6_36 (c_chgI _ _ _ _ (nwm (wR (nwm (wR (nwm (flM (wR (nwm (wR (nwm S (0, 0, 1)) (0, 0, 0) 0 (some (0, 0, 1))) (0, 0, 2)) (0, 0, 0) 1 (some (0, 0, 2))) (0, 0, 2) 1 16) (0, 0, 3)) (0, 0, 0) 2 (some (0, 0, 3))) (0, 0, 4)) (0, 0, 0) 3 (some (0, 0, 4))) (0, 0, 5)) (by simp [wR, wI, nwm, chgM, flM_2, isRw]) (fun o h1 h2 => by simp [wR, wI, nwm, chgM, flM_2, isRw, hd o (by omega) (by omega)]; omega)) rfl rfl (by rw [B.1]; decide) (by rw [B.1]; decide) (Nat.le_of_ble_eq_true rfl) dX6_init_52 (fun q hq => by rw [hfr]; simp [frC, frX] at hq ⊢; omega) (by simp [okR, argL, pushR, frC, isRw]) (by simp [okR, argL, pushR, frC, isRw]) (fun rr SS hP => ?_)
  rw [hP.1, hP.2]
  refine g_putr (pc := 55) C fX6_37 (Or.inr ⟨B.2.2.1, fi6_4⟩) rfl (by simp [wR, wI, nwm, hl, hd, chgM, vaM, grM, isRw, flM_2]) dX6_init_55 rfl (fun _ => ⟨rfl, rfl⟩) (by simp [wR, wI, nwm, hl, hd, chgM, vaM, grM, isRw, flM_2]) ?_
  refine g_aload_n (pc := 58) C dX6_init_58 rfl ?_
  refine g_new (pc := 59) C (0, 0, 8) nX6_41 rfl (by simp [wR, wI, nwm, hl, hd, chgM, vaM, grM, isRw, flM_2]) (by simp [wK]) (by rw [hfr]; simp [frX]) (by simp [argL, sto]) (by simp [argL, pushR]) (by rw [B.1]; decide) (by rw [B.1]; decide) dX6_init_59 ?_
  refine g_dup (pc := 62) C dX6_init_62 ?_
  refine g_callIf (pc := 63) C mX6_43 (c_vaI _ _ _ _ (nwm (wR (chgM (nwm (wR (nwm (wR (nwm (flM (wR (nwm (wR (nwm S (0, 0, 1)) (0, 0, 0) 0 (some (0, 0, 1))) (0, 0, 2)) (0, 0, 0) 1 (some (0, 0, 2))) (0, 0, 2) 1 16) (0, 0, 3)) (0, 0, 0) 2 (some (0, 0, 3))) (0, 0, 4)) (0, 0, 0) 3 (some (0, 0, 4))) (0, 0, 5))) (0, 0, 0) 4 (some (0, 0, 5))) (0, 0, 8)) (by simp [wR, wI, nwm, chgM, flM_2, isRw]) (fun o h1 h2 => by simp [wR, wI, nwm, chgM, flM_2, isRw, hd o (by omega) (by omega)]; omega) (fun r hr => by simp [wR, wI, nwm, chgM, flM_2, isRw, hd4 r hr])) rfl rfl (by rw [B.1]; decide) (by rw [B.1]; decide) (Nat.le_of_ble_eq_true rfl) dX6_init_63 (fun q hq => by rw [hfr]; exact frV_X q hq) (by simp [okR, argL, pushR, frV, isRw]) (by simp [okR, argL, pushR, frV, isRw]) (fun rr SS hP => ?_)
  rw [hP.1, hP.2]
  refine g_putr (pc := 66) C fX6_44 (Or.inr ⟨B.2.2.1, fi6_5⟩) rfl (by simp [wR, wI, nwm, hl, hd, chgM, vaM, grM, isRw, flM_2]) dX6_init_66 rfl (fun _ => ⟨rfl, rfl⟩) (by simp [wR, wI, nwm, hl, hd, chgM, vaM, grM, isRw, flM_2]) ?_
  exact g_vret (pc := 69) C B dX6_init_69 (⟨rfl, rfl⟩)

def ini (S : Mm) : List Nat → Mm
  | [] => S
  | f :: fs => wR (nwm (ini S fs) (2, 0, f)) (2, 0, 0) f (some (2, 0, f))
theorem ini_l (S : Mm) (f : Nat) : ∀ fs, (ini S fs).2.2 (2, 0, f) = (decide (f ∈ fs) || S.2.2 (2, 0, f))
  | [] => by simp [ini]
  | g :: fs => by
    have ih := ini_l S f fs
    by_cases e : f = g
    · subst e; simp [ini, wR, nwm]
    · simp [ini, wR, nwm, e, ih]
def frJ (k : Ln) : Bool := decide (k.1 = 2) && decide (k.2.1 = 0) && decide (1 ≤ k.2.2)
def on16 (T : Mm) : Mm := wI (wI (wI (wI (wI (wI (wI (wI (wI (wI (wI (wI (wI (wI (wI (wI T (2, 0, 20) 0 1) (2, 0, 20) 1 1) (2, 0, 20) 2 1) (2, 0, 20) 3 1) (2, 0, 20) 4 1) (2, 0, 20) 5 1) (2, 0, 20) 6 1) (2, 0, 20) 7 1) (2, 0, 20) 8 1) (2, 0, 20) 9 1) (2, 0, 20) 10 1) (2, 0, 20) 11 1) (2, 0, 20) 12 1) (2, 0, 20) 13 1) (2, 0, 20) 14 1) (2, 0, 20) 15 1
def mi1 (S : Mm) : Mm := wR (on16 (nwm (ini S [19, 18, 17, 16, 15, 14, 13, 12, 11, 10, 9, 8, 7, 6, 5, 4, 3, 2]) (2, 0, 20))) (2, 0, 0) 20 (some (2, 0, 20))
theorem mi1_l (S : Mm) (f : Nat) : (mi1 S).2.2 (2, 0, f) = (decide (f ∈ (20 :: [19, 18, 17, 16, 15, 14, 13, 12, 11, 10, 9, 8, 7, 6, 5, 4, 3, 2])) || S.2.2 (2, 0, f)) := by
  have h := ini_l S f [19, 18, 17, 16, 15, 14, 13, 12, 11, 10, 9, 8, 7, 6, 5, 4, 3, 2]
  by_cases e : f = 20
  · subst e; simp [mi1, on16, wR, wI, nwm]
  · simp [mi1, on16, wR, wI, nwm, e] at h ⊢; exact h
def miM (S : Mm) : Mm := ini (mi1 S) [33, 32, 31, 30, 29, 28, 26, 25, 24, 23, 22, 21]
set_option maxHeartbeats 1000000 in
set_option maxRecDepth 100000 in
theorem c_miI (l : Launch) (E : En) (base aw : Nat) (S : Mm) (hl : S.2.2 (2, 0, 0) = true) (hd : ∀ f, 1 ≤ f → S.2.2 (2, 0, f) = false) : Cn l E base aw yX7_init cX7_init 1 (none) 1 31 21169 frJ S [vr (2, 0, 0)] (fun r S' => r = none ∧ S' = miM S) := by
  refine Cn.of (by decide) (Nat.le_of_ble_eq_true rfl) ?_
  intro X Y hl hE hbase haw hfr C B
  subst hl; subst hE; subst hbase; subst haw
  refine g_aload_n (pc := 0) C dX7_init_0 rfl ?_
  refine g_obj (pc := 1) C obX7_1 ob_i ob_c (by rw [B.1]; decide) (Nat.le_of_ble_eq_true rfl) dX7_init_1 ?_
  refine g_aload_n (pc := 4) C dX7_init_4 rfl ?_
  refine g_bipush (pc := 5) C 6 dX7_init_5 (by decide) ?_
  refine g_newi (pc := 7) C (2, 0, 2) 6 rfl (by simp [wR, wI, nwm, ini_l, mi1_l, hl, hd]) (by simp [wK]) (by rw [hfr]; simp [frJ]) (by simp [argL, sto]) (by simp [argL, pushR]) (by decide) (by decide) (by decide) ac_int (by rw [B.1]; decide) (by rw [B.1]; decide) dX7_init_7 ?_
  refine g_putr (pc := 9) C fX7_7 (Or.inr ⟨B.2.2.1, fi7_2⟩) rfl (by simp [wR, wI, nwm, ini_l, mi1_l, hl, hd]) dX7_init_9 rfl (fun _ => ⟨rfl, rfl⟩) (by simp [wR, wI, nwm, ini_l, mi1_l, hl, hd]) ?_
  refine g_eqS (S' := ini S [2]) rfl ?_
  refine g_aload_n (pc := 12) C dX7_init_12 rfl ?_
  refine g_bipush (pc := 13) C 36 dX7_init_13 (by decide) ?_
  refine g_newi (pc := 15) C (2, 0, 3) 36 rfl (by simp [wR, wI, nwm, ini_l, mi1_l, hl, hd]) (by simp [wK]) (by rw [hfr]; simp [frJ]) (by simp [argL, sto]) (by simp [argL, pushR]) (by decide) (by decide) (by decide) ac_int (by rw [B.1]; decide) (by rw [B.1]; decide) dX7_init_15 ?_
  refine g_putr (pc := 17) C fX7_13 (Or.inr ⟨B.2.2.1, fi7_3⟩) rfl (by simp [wR, wI, nwm, ini_l, mi1_l, hl, hd]) dX7_init_17 rfl (fun _ => ⟨rfl, rfl⟩) (by simp [wR, wI, nwm, ini_l, mi1_l, hl, hd]) ?_
  refine g_eqS (S' := ini S [3, 2]) rfl ?_
  refine g_aload_n (pc := 20) C dX7_init_20 rfl ?_
  refine g_bipush (pc := 21) C 36 dX7_init_21 (by decide) ?_
  refine g_newi (pc := 23) C (2, 0, 4) 36 rfl (by simp [wR, wI, nwm, ini_l, mi1_l, hl, hd]) (by simp [wK]) (by rw [hfr]; simp [frJ]) (by simp [argL, sto]) (by simp [argL, pushR]) (by decide) (by decide) (by decide) ac_int (by rw [B.1]; decide) (by rw [B.1]; decide) dX7_init_23 ?_
  refine g_putr (pc := 25) C fX7_16 (Or.inr ⟨B.2.2.1, fi7_4⟩) rfl (by simp [wR, wI, nwm, ini_l, mi1_l, hl, hd]) dX7_init_25 rfl (fun _ => ⟨rfl, rfl⟩) (by simp [wR, wI, nwm, ini_l, mi1_l, hl, hd]) ?_
  refine g_eqS (S' := ini S [4, 3, 2]) rfl ?_
  refine g_aload_n (pc := 28) C dX7_init_28 rfl ?_
  refine g_bipush (pc := 29) C 36 dX7_init_29 (by decide) ?_
  refine g_newi (pc := 31) C (2, 0, 5) 36 rfl (by simp [wR, wI, nwm, ini_l, mi1_l, hl, hd]) (by simp [wK]) (by rw [hfr]; simp [frJ]) (by simp [argL, sto]) (by simp [argL, pushR]) (by decide) (by decide) (by decide) ac_int (by rw [B.1]; decide) (by rw [B.1]; decide) dX7_init_31 ?_
  refine g_putr (pc := 33) C fX7_19 (Or.inr ⟨B.2.2.1, fi7_5⟩) rfl (by simp [wR, wI, nwm, ini_l, mi1_l, hl, hd]) dX7_init_33 rfl (fun _ => ⟨rfl, rfl⟩) (by simp [wR, wI, nwm, ini_l, mi1_l, hl, hd]) ?_
  refine g_eqS (S' := ini S [5, 4, 3, 2]) rfl ?_
  refine g_aload_n (pc := 36) C dX7_init_36 rfl ?_
  refine g_bipush (pc := 37) C 36 dX7_init_37 (by decide) ?_
  refine g_newi (pc := 39) C (2, 0, 6) 36 rfl (by simp [wR, wI, nwm, ini_l, mi1_l, hl, hd]) (by simp [wK]) (by rw [hfr]; simp [frJ]) (by simp [argL, sto]) (by simp [argL, pushR]) (by decide) (by decide) (by decide) ac_int (by rw [B.1]; decide) (by rw [B.1]; decide) dX7_init_39 ?_
  refine g_putr (pc := 41) C fX7_22 (Or.inr ⟨B.2.2.1, fi7_6⟩) rfl (by simp [wR, wI, nwm, ini_l, mi1_l, hl, hd]) dX7_init_41 rfl (fun _ => ⟨rfl, rfl⟩) (by simp [wR, wI, nwm, ini_l, mi1_l, hl, hd]) ?_
  refine g_eqS (S' := ini S [6, 5, 4, 3, 2]) rfl ?_
  refine g_aload_n (pc := 44) C dX7_init_44 rfl ?_
  refine g_bipush (pc := 45) C 36 dX7_init_45 (by decide) ?_
  refine g_newi (pc := 47) C (2, 0, 7) 36 rfl (by simp [wR, wI, nwm, ini_l, mi1_l, hl, hd]) (by simp [wK]) (by rw [hfr]; simp [frJ]) (by simp [argL, sto]) (by simp [argL, pushR]) (by decide) (by decide) (by decide) ac_int (by rw [B.1]; decide) (by rw [B.1]; decide) dX7_init_47 ?_
  refine g_putr (pc := 49) C fX7_25 (Or.inr ⟨B.2.2.1, fi7_7⟩) rfl (by simp [wR, wI, nwm, ini_l, mi1_l, hl, hd]) dX7_init_49 rfl (fun _ => ⟨rfl, rfl⟩) (by simp [wR, wI, nwm, ini_l, mi1_l, hl, hd]) ?_
  refine g_eqS (S' := ini S [7, 6, 5, 4, 3, 2]) rfl ?_
  refine g_aload_n (pc := 52) C dX7_init_52 rfl ?_
  refine g_bipush (pc := 53) C 6 dX7_init_53 (by decide) ?_
  refine g_newz (pc := 55) C (2, 0, 8) 6 rfl (by simp [wR, wI, nwm, ini_l, mi1_l, hl, hd]) (by simp [wK]) (by rw [hfr]; simp [frJ]) (by simp [argL, sto]) (by simp [argL, pushR]) (by decide) (by decide) (by decide) ac_boolean (by rw [B.1]; decide) (by rw [B.1]; decide) dX7_init_55 ?_
  refine g_putr (pc := 57) C fX7_28 (Or.inr ⟨B.2.2.1, fi7_8⟩) rfl (by simp [wR, wI, nwm, ini_l, mi1_l, hl, hd]) dX7_init_57 rfl (fun _ => ⟨rfl, rfl⟩) (by simp [wR, wI, nwm, ini_l, mi1_l, hl, hd]) ?_
  refine g_eqS (S' := ini S [8, 7, 6, 5, 4, 3, 2]) rfl ?_
  refine g_aload_n (pc := 60) C dX7_init_60 rfl ?_
  refine g_bipush (pc := 61) C 6 dX7_init_61 (by decide) ?_
  refine g_newi (pc := 63) C (2, 0, 9) 6 rfl (by simp [wR, wI, nwm, ini_l, mi1_l, hl, hd]) (by simp [wK]) (by rw [hfr]; simp [frJ]) (by simp [argL, sto]) (by simp [argL, pushR]) (by decide) (by decide) (by decide) ac_int (by rw [B.1]; decide) (by rw [B.1]; decide) dX7_init_63 ?_
  refine g_putr (pc := 65) C fX7_32 (Or.inr ⟨B.2.2.1, fi7_9⟩) rfl (by simp [wR, wI, nwm, ini_l, mi1_l, hl, hd]) dX7_init_65 rfl (fun _ => ⟨rfl, rfl⟩) (by simp [wR, wI, nwm, ini_l, mi1_l, hl, hd]) ?_
  refine g_eqS (S' := ini S [9, 8, 7, 6, 5, 4, 3, 2]) rfl ?_
  refine g_aload_n (pc := 68) C dX7_init_68 rfl ?_
  refine g_bipush (pc := 69) C 48 dX7_init_69 (by decide) ?_
  refine g_newi (pc := 71) C (2, 0, 10) 48 rfl (by simp [wR, wI, nwm, ini_l, mi1_l, hl, hd]) (by simp [wK]) (by rw [hfr]; simp [frJ]) (by simp [argL, sto]) (by simp [argL, pushR]) (by decide) (by decide) (by decide) ac_int (by rw [B.1]; decide) (by rw [B.1]; decide) dX7_init_71 ?_
  refine g_putr (pc := 73) C fX7_35 (Or.inr ⟨B.2.2.1, fi7_10⟩) rfl (by simp [wR, wI, nwm, ini_l, mi1_l, hl, hd]) dX7_init_73 rfl (fun _ => ⟨rfl, rfl⟩) (by simp [wR, wI, nwm, ini_l, mi1_l, hl, hd]) ?_
  refine g_eqS (S' := ini S [10, 9, 8, 7, 6, 5, 4, 3, 2]) rfl ?_
  refine g_aload_n (pc := 76) C dX7_init_76 rfl ?_
  refine g_bipush (pc := 77) C 48 dX7_init_77 (by decide) ?_
  refine g_newi (pc := 79) C (2, 0, 11) 48 rfl (by simp [wR, wI, nwm, ini_l, mi1_l, hl, hd]) (by simp [wK]) (by rw [hfr]; simp [frJ]) (by simp [argL, sto]) (by simp [argL, pushR]) (by decide) (by decide) (by decide) ac_int (by rw [B.1]; decide) (by rw [B.1]; decide) dX7_init_79 ?_
  refine g_putr (pc := 81) C fX7_38 (Or.inr ⟨B.2.2.1, fi7_11⟩) rfl (by simp [wR, wI, nwm, ini_l, mi1_l, hl, hd]) dX7_init_81 rfl (fun _ => ⟨rfl, rfl⟩) (by simp [wR, wI, nwm, ini_l, mi1_l, hl, hd]) ?_
  refine g_eqS (S' := ini S [11, 10, 9, 8, 7, 6, 5, 4, 3, 2]) rfl ?_
  refine g_aload_n (pc := 84) C dX7_init_84 rfl ?_
  refine g_bipush (pc := 85) C 48 dX7_init_85 (by decide) ?_
  refine g_newi (pc := 87) C (2, 0, 12) 48 rfl (by simp [wR, wI, nwm, ini_l, mi1_l, hl, hd]) (by simp [wK]) (by rw [hfr]; simp [frJ]) (by simp [argL, sto]) (by simp [argL, pushR]) (by decide) (by decide) (by decide) ac_int (by rw [B.1]; decide) (by rw [B.1]; decide) dX7_init_87 ?_
  refine g_putr (pc := 89) C fX7_41 (Or.inr ⟨B.2.2.1, fi7_12⟩) rfl (by simp [wR, wI, nwm, ini_l, mi1_l, hl, hd]) dX7_init_89 rfl (fun _ => ⟨rfl, rfl⟩) (by simp [wR, wI, nwm, ini_l, mi1_l, hl, hd]) ?_
  refine g_eqS (S' := ini S [12, 11, 10, 9, 8, 7, 6, 5, 4, 3, 2]) rfl ?_
  refine g_aload_n (pc := 92) C dX7_init_92 rfl ?_
  refine g_bipush (pc := 93) C 48 dX7_init_93 (by decide) ?_
  refine g_newi (pc := 95) C (2, 0, 13) 48 rfl (by simp [wR, wI, nwm, ini_l, mi1_l, hl, hd]) (by simp [wK]) (by rw [hfr]; simp [frJ]) (by simp [argL, sto]) (by simp [argL, pushR]) (by decide) (by decide) (by decide) ac_int (by rw [B.1]; decide) (by rw [B.1]; decide) dX7_init_95 ?_
  refine g_putr (pc := 97) C fX7_44 (Or.inr ⟨B.2.2.1, fi7_13⟩) rfl (by simp [wR, wI, nwm, ini_l, mi1_l, hl, hd]) dX7_init_97 rfl (fun _ => ⟨rfl, rfl⟩) (by simp [wR, wI, nwm, ini_l, mi1_l, hl, hd]) ?_
  refine g_eqS (S' := ini S [13, 12, 11, 10, 9, 8, 7, 6, 5, 4, 3, 2]) rfl ?_
  refine g_aload_n (pc := 100) C dX7_init_100 rfl ?_
  refine g_bipush (pc := 101) C 48 dX7_init_101 (by decide) ?_
  refine g_newi (pc := 103) C (2, 0, 14) 48 rfl (by simp [wR, wI, nwm, ini_l, mi1_l, hl, hd]) (by simp [wK]) (by rw [hfr]; simp [frJ]) (by simp [argL, sto]) (by simp [argL, pushR]) (by decide) (by decide) (by decide) ac_int (by rw [B.1]; decide) (by rw [B.1]; decide) dX7_init_103 ?_
  refine g_putr (pc := 105) C fX7_47 (Or.inr ⟨B.2.2.1, fi7_14⟩) rfl (by simp [wR, wI, nwm, ini_l, mi1_l, hl, hd]) dX7_init_105 rfl (fun _ => ⟨rfl, rfl⟩) (by simp [wR, wI, nwm, ini_l, mi1_l, hl, hd]) ?_
  refine g_eqS (S' := ini S [14, 13, 12, 11, 10, 9, 8, 7, 6, 5, 4, 3, 2]) rfl ?_
  refine g_aload_n (pc := 108) C dX7_init_108 rfl ?_
  refine g_bipush (pc := 109) C 48 dX7_init_109 (by decide) ?_
  refine g_newi (pc := 111) C (2, 0, 15) 48 rfl (by simp [wR, wI, nwm, ini_l, mi1_l, hl, hd]) (by simp [wK]) (by rw [hfr]; simp [frJ]) (by simp [argL, sto]) (by simp [argL, pushR]) (by decide) (by decide) (by decide) ac_int (by rw [B.1]; decide) (by rw [B.1]; decide) dX7_init_111 ?_
  refine g_putr (pc := 113) C fX7_50 (Or.inr ⟨B.2.2.1, fi7_15⟩) rfl (by simp [wR, wI, nwm, ini_l, mi1_l, hl, hd]) dX7_init_113 rfl (fun _ => ⟨rfl, rfl⟩) (by simp [wR, wI, nwm, ini_l, mi1_l, hl, hd]) ?_
  refine g_eqS (S' := ini S [15, 14, 13, 12, 11, 10, 9, 8, 7, 6, 5, 4, 3, 2]) rfl ?_
  refine g_aload_n (pc := 116) C dX7_init_116 rfl ?_
  refine g_bipush (pc := 117) C 48 dX7_init_117 (by decide) ?_
  refine g_newi (pc := 119) C (2, 0, 16) 48 rfl (by simp [wR, wI, nwm, ini_l, mi1_l, hl, hd]) (by simp [wK]) (by rw [hfr]; simp [frJ]) (by simp [argL, sto]) (by simp [argL, pushR]) (by decide) (by decide) (by decide) ac_int (by rw [B.1]; decide) (by rw [B.1]; decide) dX7_init_119 ?_
  refine g_putr (pc := 121) C fX7_53 (Or.inr ⟨B.2.2.1, fi7_16⟩) rfl (by simp [wR, wI, nwm, ini_l, mi1_l, hl, hd]) dX7_init_121 rfl (fun _ => ⟨rfl, rfl⟩) (by simp [wR, wI, nwm, ini_l, mi1_l, hl, hd]) ?_
  refine g_eqS (S' := ini S [16, 15, 14, 13, 12, 11, 10, 9, 8, 7, 6, 5, 4, 3, 2]) rfl ?_
  refine g_aload_n (pc := 124) C dX7_init_124 rfl ?_
  refine g_bipush (pc := 125) C 48 dX7_init_125 (by decide) ?_
  refine g_newi (pc := 127) C (2, 0, 17) 48 rfl (by simp [wR, wI, nwm, ini_l, mi1_l, hl, hd]) (by simp [wK]) (by rw [hfr]; simp [frJ]) (by simp [argL, sto]) (by simp [argL, pushR]) (by decide) (by decide) (by decide) ac_int (by rw [B.1]; decide) (by rw [B.1]; decide) dX7_init_127 ?_
  refine g_putr (pc := 129) C fX7_56 (Or.inr ⟨B.2.2.1, fi7_17⟩) rfl (by simp [wR, wI, nwm, ini_l, mi1_l, hl, hd]) dX7_init_129 rfl (fun _ => ⟨rfl, rfl⟩) (by simp [wR, wI, nwm, ini_l, mi1_l, hl, hd]) ?_
  refine g_eqS (S' := ini S [17, 16, 15, 14, 13, 12, 11, 10, 9, 8, 7, 6, 5, 4, 3, 2]) rfl ?_
  refine g_aload_n (pc := 132) C dX7_init_132 rfl ?_
  refine g_bipush (pc := 133) C 48 dX7_init_133 (by decide) ?_
  refine g_newz (pc := 135) C (2, 0, 18) 48 rfl (by simp [wR, wI, nwm, ini_l, mi1_l, hl, hd]) (by simp [wK]) (by rw [hfr]; simp [frJ]) (by simp [argL, sto]) (by simp [argL, pushR]) (by decide) (by decide) (by decide) ac_boolean (by rw [B.1]; decide) (by rw [B.1]; decide) dX7_init_135 ?_
  refine g_putr (pc := 137) C fX7_59 (Or.inr ⟨B.2.2.1, fi7_18⟩) rfl (by simp [wR, wI, nwm, ini_l, mi1_l, hl, hd]) dX7_init_137 rfl (fun _ => ⟨rfl, rfl⟩) (by simp [wR, wI, nwm, ini_l, mi1_l, hl, hd]) ?_
  refine g_eqS (S' := ini S [18, 17, 16, 15, 14, 13, 12, 11, 10, 9, 8, 7, 6, 5, 4, 3, 2]) rfl ?_
  refine g_aload_n (pc := 140) C dX7_init_140 rfl ?_
  refine g_bipush (pc := 141) C 48 dX7_init_141 (by decide) ?_
  refine g_newz (pc := 143) C (2, 0, 19) 48 rfl (by simp [wR, wI, nwm, ini_l, mi1_l, hl, hd]) (by simp [wK]) (by rw [hfr]; simp [frJ]) (by simp [argL, sto]) (by simp [argL, pushR]) (by decide) (by decide) (by decide) ac_boolean (by rw [B.1]; decide) (by rw [B.1]; decide) dX7_init_143 ?_
  refine g_putr (pc := 145) C fX7_62 (Or.inr ⟨B.2.2.1, fi7_19⟩) rfl (by simp [wR, wI, nwm, ini_l, mi1_l, hl, hd]) dX7_init_145 rfl (fun _ => ⟨rfl, rfl⟩) (by simp [wR, wI, nwm, ini_l, mi1_l, hl, hd]) ?_
  refine g_eqS (S' := ini S [19, 18, 17, 16, 15, 14, 13, 12, 11, 10, 9, 8, 7, 6, 5, 4, 3, 2]) rfl ?_
  refine g_aload_n (pc := 148) C dX7_init_148 rfl ?_
  refine g_bipush (pc := 149) C 16 dX7_init_149 (by decide) ?_
  refine g_newi (pc := 151) C (2, 0, 20) 16 rfl (by simp [wR, wI, nwm, ini_l, mi1_l, hl, hd]) (by simp [wK]) (by rw [hfr]; simp [frJ]) (by simp [argL, sto]) (by simp [argL, pushR]) (by decide) (by decide) (by decide) ac_int (by rw [B.1]; decide) (by rw [B.1]; decide) dX7_init_151 ?_
  refine g_dup (pc := 153) C dX7_init_153 ?_
  refine g_iconst (pc := 154) C 0 dX7_init_154 (by decide) ?_
  refine g_iconst (pc := 155) C 1 dX7_init_155 (by decide) ?_
  refine g_eqix3 (nI 0) rfl ?_
  refine g_iastN (pc := 156) C rfl (by simp [wR, wI, nwm, ini_l, mi1_l, hl, hd]) (by omega) (by decide) dX7_init_156 ?_
  refine g_dup (pc := 157) C dX7_init_157 ?_
  refine g_iconst (pc := 158) C 1 dX7_init_158 (by decide) ?_
  refine g_iconst (pc := 159) C 1 dX7_init_159 (by decide) ?_
  refine g_eqix3 (nI 1) rfl ?_
  refine g_iastN (pc := 160) C rfl (by simp [wR, wI, nwm, ini_l, mi1_l, hl, hd]) (by omega) (by decide) dX7_init_160 ?_
  refine g_dup (pc := 161) C dX7_init_161 ?_
  refine g_iconst (pc := 162) C 2 dX7_init_162 (by decide) ?_
  refine g_iconst (pc := 163) C 1 dX7_init_163 (by decide) ?_
  refine g_eqix3 (nI 2) rfl ?_
  refine g_iastN (pc := 164) C rfl (by simp [wR, wI, nwm, ini_l, mi1_l, hl, hd]) (by omega) (by decide) dX7_init_164 ?_
  refine g_dup (pc := 165) C dX7_init_165 ?_
  refine g_iconst (pc := 166) C 3 dX7_init_166 (by decide) ?_
  refine g_iconst (pc := 167) C 1 dX7_init_167 (by decide) ?_
  refine g_eqix3 (nI 3) rfl ?_
  refine g_iastN (pc := 168) C rfl (by simp [wR, wI, nwm, ini_l, mi1_l, hl, hd]) (by omega) (by decide) dX7_init_168 ?_
  refine g_dup (pc := 169) C dX7_init_169 ?_
  refine g_iconst (pc := 170) C 4 dX7_init_170 (by decide) ?_
  refine g_iconst (pc := 171) C 1 dX7_init_171 (by decide) ?_
  refine g_eqix3 (nI 4) rfl ?_
  refine g_iastN (pc := 172) C rfl (by simp [wR, wI, nwm, ini_l, mi1_l, hl, hd]) (by omega) (by decide) dX7_init_172 ?_
  refine g_dup (pc := 173) C dX7_init_173 ?_
  refine g_iconst (pc := 174) C 5 dX7_init_174 (by decide) ?_
  refine g_iconst (pc := 175) C 1 dX7_init_175 (by decide) ?_
  refine g_eqix3 (nI 5) rfl ?_
  refine g_iastN (pc := 176) C rfl (by simp [wR, wI, nwm, ini_l, mi1_l, hl, hd]) (by omega) (by decide) dX7_init_176 ?_
  refine g_dup (pc := 177) C dX7_init_177 ?_
  refine g_bipush (pc := 178) C 6 dX7_init_178 (by decide) ?_
  refine g_iconst (pc := 180) C 1 dX7_init_180 (by decide) ?_
  refine g_eqix3 (nI 6) rfl ?_
  refine g_iastN (pc := 181) C rfl (by simp [wR, wI, nwm, ini_l, mi1_l, hl, hd]) (by omega) (by decide) dX7_init_181 ?_
  refine g_dup (pc := 182) C dX7_init_182 ?_
  refine g_bipush (pc := 183) C 7 dX7_init_183 (by decide) ?_
  refine g_iconst (pc := 185) C 1 dX7_init_185 (by decide) ?_
  refine g_eqix3 (nI 7) rfl ?_
  refine g_iastN (pc := 186) C rfl (by simp [wR, wI, nwm, ini_l, mi1_l, hl, hd]) (by omega) (by decide) dX7_init_186 ?_
  refine g_dup (pc := 187) C dX7_init_187 ?_
  refine g_bipush (pc := 188) C 8 dX7_init_188 (by decide) ?_
  refine g_iconst (pc := 190) C 1 dX7_init_190 (by decide) ?_
  refine g_eqix3 (nI 8) rfl ?_
  refine g_iastN (pc := 191) C rfl (by simp [wR, wI, nwm, ini_l, mi1_l, hl, hd]) (by omega) (by decide) dX7_init_191 ?_
  refine g_dup (pc := 192) C dX7_init_192 ?_
  refine g_bipush (pc := 193) C 9 dX7_init_193 (by decide) ?_
  refine g_iconst (pc := 195) C 1 dX7_init_195 (by decide) ?_
  refine g_eqix3 (nI 9) rfl ?_
  refine g_iastN (pc := 196) C rfl (by simp [wR, wI, nwm, ini_l, mi1_l, hl, hd]) (by omega) (by decide) dX7_init_196 ?_
  refine g_dup (pc := 197) C dX7_init_197 ?_
  refine g_bipush (pc := 198) C 10 dX7_init_198 (by decide) ?_
  refine g_iconst (pc := 200) C 1 dX7_init_200 (by decide) ?_
  refine g_eqix3 (nI 10) rfl ?_
  refine g_iastN (pc := 201) C rfl (by simp [wR, wI, nwm, ini_l, mi1_l, hl, hd]) (by omega) (by decide) dX7_init_201 ?_
  refine g_dup (pc := 202) C dX7_init_202 ?_
  refine g_bipush (pc := 203) C 11 dX7_init_203 (by decide) ?_
  refine g_iconst (pc := 205) C 1 dX7_init_205 (by decide) ?_
  refine g_eqix3 (nI 11) rfl ?_
  refine g_iastN (pc := 206) C rfl (by simp [wR, wI, nwm, ini_l, mi1_l, hl, hd]) (by omega) (by decide) dX7_init_206 ?_
  refine g_dup (pc := 207) C dX7_init_207 ?_
  refine g_bipush (pc := 208) C 12 dX7_init_208 (by decide) ?_
  refine g_iconst (pc := 210) C 1 dX7_init_210 (by decide) ?_
  refine g_eqix3 (nI 12) rfl ?_
  refine g_iastN (pc := 211) C rfl (by simp [wR, wI, nwm, ini_l, mi1_l, hl, hd]) (by omega) (by decide) dX7_init_211 ?_
  refine g_dup (pc := 212) C dX7_init_212 ?_
  refine g_bipush (pc := 213) C 13 dX7_init_213 (by decide) ?_
  refine g_iconst (pc := 215) C 1 dX7_init_215 (by decide) ?_
  refine g_eqix3 (nI 13) rfl ?_
  refine g_iastN (pc := 216) C rfl (by simp [wR, wI, nwm, ini_l, mi1_l, hl, hd]) (by omega) (by decide) dX7_init_216 ?_
  refine g_dup (pc := 217) C dX7_init_217 ?_
  refine g_bipush (pc := 218) C 14 dX7_init_218 (by decide) ?_
  refine g_iconst (pc := 220) C 1 dX7_init_220 (by decide) ?_
  refine g_eqix3 (nI 14) rfl ?_
  refine g_iastN (pc := 221) C rfl (by simp [wR, wI, nwm, ini_l, mi1_l, hl, hd]) (by omega) (by decide) dX7_init_221 ?_
  refine g_dup (pc := 222) C dX7_init_222 ?_
  refine g_bipush (pc := 223) C 15 dX7_init_223 (by decide) ?_
  refine g_iconst (pc := 225) C 1 dX7_init_225 (by decide) ?_
  refine g_eqix3 (nI 15) rfl ?_
  refine g_iastN (pc := 226) C rfl (by simp [wR, wI, nwm, ini_l, mi1_l, hl, hd]) (by omega) (by decide) dX7_init_226 ?_
  refine g_putr (pc := 227) C fX7_65 (Or.inr ⟨B.2.2.1, fi7_20⟩) rfl (by simp [wR, wI, nwm, ini_l, mi1_l, hl, hd]) dX7_init_227 rfl (fun _ => ⟨rfl, rfl⟩) (by simp [wR, wI, nwm, ini_l, mi1_l, hl, hd]) ?_
  refine g_eqS (S' := mi1 S) rfl ?_
  refine g_aload_n (pc := 230) C dX7_init_230 rfl ?_
  refine g_sipush (pc := 231) C 2304 dX7_init_231 (by decide) ?_
  refine g_newi (pc := 234) C (2, 0, 21) 2304 rfl (by simp [wR, wI, nwm, ini_l, mi1_l, hl, hd]) (by simp [wK]) (by rw [hfr]; simp [frJ]) (by simp [argL, sto]) (by simp [argL, pushR]) (by decide) (by decide) (by decide) ac_int (by rw [B.1]; decide) (by rw [B.1]; decide) dX7_init_234 ?_
  refine g_putr (pc := 236) C fX7_68 (Or.inr ⟨B.2.2.1, fi7_21⟩) rfl (by simp [wR, wI, nwm, ini_l, mi1_l, hl, hd]) dX7_init_236 rfl (fun _ => ⟨rfl, rfl⟩) (by simp [wR, wI, nwm, ini_l, mi1_l, hl, hd]) ?_
  refine g_eqS (S' := ini (mi1 S) [21]) rfl ?_
  refine g_aload_n (pc := 239) C dX7_init_239 rfl ?_
  refine g_sipush (pc := 240) C 2304 dX7_init_240 (by decide) ?_
  refine g_newi (pc := 243) C (2, 0, 22) 2304 rfl (by simp [wR, wI, nwm, ini_l, mi1_l, hl, hd]) (by simp [wK]) (by rw [hfr]; simp [frJ]) (by simp [argL, sto]) (by simp [argL, pushR]) (by decide) (by decide) (by decide) ac_int (by rw [B.1]; decide) (by rw [B.1]; decide) dX7_init_243 ?_
  refine g_putr (pc := 245) C fX7_71 (Or.inr ⟨B.2.2.1, fi7_22⟩) rfl (by simp [wR, wI, nwm, ini_l, mi1_l, hl, hd]) dX7_init_245 rfl (fun _ => ⟨rfl, rfl⟩) (by simp [wR, wI, nwm, ini_l, mi1_l, hl, hd]) ?_
  refine g_eqS (S' := ini (mi1 S) [22, 21]) rfl ?_
  refine g_aload_n (pc := 248) C dX7_init_248 rfl ?_
  refine g_bipush (pc := 249) C 6 dX7_init_249 (by decide) ?_
  refine g_newi (pc := 251) C (2, 0, 23) 6 rfl (by simp [wR, wI, nwm, ini_l, mi1_l, hl, hd]) (by simp [wK]) (by rw [hfr]; simp [frJ]) (by simp [argL, sto]) (by simp [argL, pushR]) (by decide) (by decide) (by decide) ac_int (by rw [B.1]; decide) (by rw [B.1]; decide) dX7_init_251 ?_
  refine g_putr (pc := 253) C fX7_74 (Or.inr ⟨B.2.2.1, fi7_23⟩) rfl (by simp [wR, wI, nwm, ini_l, mi1_l, hl, hd]) dX7_init_253 rfl (fun _ => ⟨rfl, rfl⟩) (by simp [wR, wI, nwm, ini_l, mi1_l, hl, hd]) ?_
  refine g_eqS (S' := ini (mi1 S) [23, 22, 21]) rfl ?_
  refine g_aload_n (pc := 256) C dX7_init_256 rfl ?_
  refine g_bipush (pc := 257) C 6 dX7_init_257 (by decide) ?_
  refine g_newi (pc := 259) C (2, 0, 24) 6 rfl (by simp [wR, wI, nwm, ini_l, mi1_l, hl, hd]) (by simp [wK]) (by rw [hfr]; simp [frJ]) (by simp [argL, sto]) (by simp [argL, pushR]) (by decide) (by decide) (by decide) ac_int (by rw [B.1]; decide) (by rw [B.1]; decide) dX7_init_259 ?_
  refine g_putr (pc := 261) C fX7_77 (Or.inr ⟨B.2.2.1, fi7_24⟩) rfl (by simp [wR, wI, nwm, ini_l, mi1_l, hl, hd]) dX7_init_261 rfl (fun _ => ⟨rfl, rfl⟩) (by simp [wR, wI, nwm, ini_l, mi1_l, hl, hd]) ?_
  refine g_eqS (S' := ini (mi1 S) [24, 23, 22, 21]) rfl ?_
  refine g_aload_n (pc := 264) C dX7_init_264 rfl ?_
  refine g_bipush (pc := 265) C 6 dX7_init_265 (by decide) ?_
  refine g_newi (pc := 267) C (2, 0, 25) 6 rfl (by simp [wR, wI, nwm, ini_l, mi1_l, hl, hd]) (by simp [wK]) (by rw [hfr]; simp [frJ]) (by simp [argL, sto]) (by simp [argL, pushR]) (by decide) (by decide) (by decide) ac_int (by rw [B.1]; decide) (by rw [B.1]; decide) dX7_init_267 ?_
  refine g_putr (pc := 269) C fX7_80 (Or.inr ⟨B.2.2.1, fi7_25⟩) rfl (by simp [wR, wI, nwm, ini_l, mi1_l, hl, hd]) dX7_init_269 rfl (fun _ => ⟨rfl, rfl⟩) (by simp [wR, wI, nwm, ini_l, mi1_l, hl, hd]) ?_
  refine g_eqS (S' := ini (mi1 S) [25, 24, 23, 22, 21]) rfl ?_
  refine g_aload_n (pc := 272) C dX7_init_272 rfl ?_
  refine g_bipush (pc := 273) C 6 dX7_init_273 (by decide) ?_
  refine g_newi (pc := 275) C (2, 0, 26) 6 rfl (by simp [wR, wI, nwm, ini_l, mi1_l, hl, hd]) (by simp [wK]) (by rw [hfr]; simp [frJ]) (by simp [argL, sto]) (by simp [argL, pushR]) (by decide) (by decide) (by decide) ac_int (by rw [B.1]; decide) (by rw [B.1]; decide) dX7_init_275 ?_
  refine g_putr (pc := 277) C fX7_83 (Or.inr ⟨B.2.2.1, fi7_26⟩) rfl (by simp [wR, wI, nwm, ini_l, mi1_l, hl, hd]) dX7_init_277 rfl (fun _ => ⟨rfl, rfl⟩) (by simp [wR, wI, nwm, ini_l, mi1_l, hl, hd]) ?_
  refine g_eqS (S' := ini (mi1 S) [26, 25, 24, 23, 22, 21]) rfl ?_
  refine g_aload_n (pc := 280) C dX7_init_280 rfl ?_
  refine g_bipush (pc := 281) C 6 dX7_init_281 (by decide) ?_
  refine g_newi (pc := 283) C (2, 0, 28) 6 rfl (by simp [wR, wI, nwm, ini_l, mi1_l, hl, hd]) (by simp [wK]) (by rw [hfr]; simp [frJ]) (by simp [argL, sto]) (by simp [argL, pushR]) (by decide) (by decide) (by decide) ac_int (by rw [B.1]; decide) (by rw [B.1]; decide) dX7_init_283 ?_
  refine g_putr (pc := 285) C fX7_86 (Or.inr ⟨B.2.2.1, fi7_28⟩) rfl (by simp [wR, wI, nwm, ini_l, mi1_l, hl, hd]) dX7_init_285 rfl (fun _ => ⟨rfl, rfl⟩) (by simp [wR, wI, nwm, ini_l, mi1_l, hl, hd]) ?_
  refine g_eqS (S' := ini (mi1 S) [28, 26, 25, 24, 23, 22, 21]) rfl ?_
  refine g_aload_n (pc := 288) C dX7_init_288 rfl ?_
  refine g_bipush (pc := 289) C 8 dX7_init_289 (by decide) ?_
  refine g_newi (pc := 291) C (2, 0, 29) 8 rfl (by simp [wR, wI, nwm, ini_l, mi1_l, hl, hd]) (by simp [wK]) (by rw [hfr]; simp [frJ]) (by simp [argL, sto]) (by simp [argL, pushR]) (by decide) (by decide) (by decide) ac_int (by rw [B.1]; decide) (by rw [B.1]; decide) dX7_init_291 ?_
  refine g_putr (pc := 293) C fX7_89 (Or.inr ⟨B.2.2.1, fi7_29⟩) rfl (by simp [wR, wI, nwm, ini_l, mi1_l, hl, hd]) dX7_init_293 rfl (fun _ => ⟨rfl, rfl⟩) (by simp [wR, wI, nwm, ini_l, mi1_l, hl, hd]) ?_
  refine g_eqS (S' := ini (mi1 S) [29, 28, 26, 25, 24, 23, 22, 21]) rfl ?_
  refine g_aload_n (pc := 296) C dX7_init_296 rfl ?_
  refine g_bipush (pc := 297) C 7 dX7_init_297 (by decide) ?_
  refine g_newi (pc := 299) C (2, 0, 30) 7 rfl (by simp [wR, wI, nwm, ini_l, mi1_l, hl, hd]) (by simp [wK]) (by rw [hfr]; simp [frJ]) (by simp [argL, sto]) (by simp [argL, pushR]) (by decide) (by decide) (by decide) ac_int (by rw [B.1]; decide) (by rw [B.1]; decide) dX7_init_299 ?_
  refine g_putr (pc := 301) C fX7_92 (Or.inr ⟨B.2.2.1, fi7_30⟩) rfl (by simp [wR, wI, nwm, ini_l, mi1_l, hl, hd]) dX7_init_301 rfl (fun _ => ⟨rfl, rfl⟩) (by simp [wR, wI, nwm, ini_l, mi1_l, hl, hd]) ?_
  refine g_eqS (S' := ini (mi1 S) [30, 29, 28, 26, 25, 24, 23, 22, 21]) rfl ?_
  refine g_aload_n (pc := 304) C dX7_init_304 rfl ?_
  refine g_sipush (pc := 305) C 14007 dX7_init_305 (by decide) ?_
  refine g_newi (pc := 308) C (2, 0, 31) 14007 rfl (by simp [wR, wI, nwm, ini_l, mi1_l, hl, hd]) (by simp [wK]) (by rw [hfr]; simp [frJ]) (by simp [argL, sto]) (by simp [argL, pushR]) (by decide) (by decide) (by decide) ac_int (by rw [B.1]; decide) (by rw [B.1]; decide) dX7_init_308 ?_
  refine g_putr (pc := 310) C fX7_95 (Or.inr ⟨B.2.2.1, fi7_31⟩) rfl (by simp [wR, wI, nwm, ini_l, mi1_l, hl, hd]) dX7_init_310 rfl (fun _ => ⟨rfl, rfl⟩) (by simp [wR, wI, nwm, ini_l, mi1_l, hl, hd]) ?_
  refine g_eqS (S' := ini (mi1 S) [31, 30, 29, 28, 26, 25, 24, 23, 22, 21]) rfl ?_
  refine g_aload_n (pc := 313) C dX7_init_313 rfl ?_
  refine g_bipush (pc := 314) C 6 dX7_init_314 (by decide) ?_
  refine g_newi (pc := 316) C (2, 0, 32) 6 rfl (by simp [wR, wI, nwm, ini_l, mi1_l, hl, hd]) (by simp [wK]) (by rw [hfr]; simp [frJ]) (by simp [argL, sto]) (by simp [argL, pushR]) (by decide) (by decide) (by decide) ac_int (by rw [B.1]; decide) (by rw [B.1]; decide) dX7_init_316 ?_
  refine g_putr (pc := 318) C fX7_98 (Or.inr ⟨B.2.2.1, fi7_32⟩) rfl (by simp [wR, wI, nwm, ini_l, mi1_l, hl, hd]) dX7_init_318 rfl (fun _ => ⟨rfl, rfl⟩) (by simp [wR, wI, nwm, ini_l, mi1_l, hl, hd]) ?_
  refine g_eqS (S' := ini (mi1 S) [32, 31, 30, 29, 28, 26, 25, 24, 23, 22, 21]) rfl ?_
  refine g_aload_n (pc := 321) C dX7_init_321 rfl ?_
  refine g_sipush (pc := 322) C 1809 dX7_init_322 (by decide) ?_
  refine g_newi (pc := 325) C (2, 0, 33) 1809 rfl (by simp [wR, wI, nwm, ini_l, mi1_l, hl, hd]) (by simp [wK]) (by rw [hfr]; simp [frJ]) (by simp [argL, sto]) (by simp [argL, pushR]) (by decide) (by decide) (by decide) ac_int (by rw [B.1]; decide) (by rw [B.1]; decide) dX7_init_325 ?_
  refine g_putr (pc := 327) C fX7_101 (Or.inr ⟨B.2.2.1, fi7_33⟩) rfl (by simp [wR, wI, nwm, ini_l, mi1_l, hl, hd]) dX7_init_327 rfl (fun _ => ⟨rfl, rfl⟩) (by simp [wR, wI, nwm, ini_l, mi1_l, hl, hd]) ?_
  refine g_eqS (S' := ini (mi1 S) [33, 32, 31, 30, 29, 28, 26, 25, 24, 23, 22, 21]) rfl ?_
  exact g_vret (pc := 330) C B dX7_init_330 (⟨rfl, rfl⟩)

