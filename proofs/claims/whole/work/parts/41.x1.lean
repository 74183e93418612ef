def flM (S : Mm) (k : Ln) (v : Int32) : Nat → Mm
  | 0 => S
  | w + 1 => wI (flM S k v w) k w v
theorem flM_2 (S : Mm) (k : Ln) (v : Int32) : ∀ w, (flM S k v w).2 = S.2
  | 0 => rfl
  | w + 1 => flM_2 S k v w
theorem flM_but (S : Mm) (k : Ln) (v : Int32) : ∀ w, but (fun k' _ => k' = k) S (flM S k v w)
  | 0 => but.rf
  | w + 1 => (flM_but S k v w).wI rfl
theorem flM_at (S : Mm) (k : Ln) (v : Int32) : ∀ n w, w < n → (flM S k v n).1 k w = v
  | 0, w, h => by omega
  | n + 1, w, h => by
    by_cases e : w = n
    · subst e; exact wI_same
    · exact (wI_ne (fun q => e q.2)).trans (flM_at S k v n w (by omega))
set_option maxHeartbeats 400000 in
set_option maxRecDepth 100000 in
theorem lp_fill {X : Xt} {Y : Yt} {P : Option AV → Mm → Prop} {nm : String}  (C : Cx X Y cJ7_fill_53178 4 RJ7) (B : Bx X Y nm (none) 0 0 0 P) {S : Mm} {k : Ln} {n : Nat} {v : Int32} (hk : kd k = (1, n)) (hlv0 : S.2.2 k = true) (hn : n < 100000) (K : G X Y 0 0 (flM S k v n) 20 [(0, vr k), (1, vi (v)), (2, vi (nI n)), (3, vi (nI n))] []) : ∀ n9 w, w + n9 = n → G X Y 0 0 (flM S k v w) 5 [(0, vr k), (1, vi (v)), (2, vi (nI w)), (3, vi (nI n))] [] := by
  intro n9
  induction n9 with
  | zero =>
    intro w hw
    have e : n = w := by omega
    subst e
    have hlv : (flM S k v n).2.2 k = true := by rw [flM_2]; exact hlv0
    refine g_iload_n (pc := 5) C dJ7_fill_53178_5 rfl ?_
    refine g_iload_n (pc := 6) C dJ7_fill_53178_6 rfl ?_
    refine g_icmp_ge (pc := 7) C 20 dJ7_fill_53178_7 (by decide) (fun _ => ?_) (fun h7 => absurd ((nI_leI (a := n) (b := n) (by omega) (by omega)).mpr (by omega)) h7)
    exact K
  | succ n9 ih =>
    intro w hw
    have hlv : (flM S k v w).2.2 k = true := by rw [flM_2]; exact hlv0
    refine g_iload_n (pc := 5) C dJ7_fill_53178_5 rfl ?_
    refine g_iload_n (pc := 6) C dJ7_fill_53178_6 rfl ?_
    refine g_icmp_ge (pc := 7) C 20 dJ7_fill_53178_7 (by decide) (fun h7 => absurd h7 (fun q => absurd ((nI_leI (a := n) (b := w) (by omega) (by omega)).mp q) (by omega))) (fun _ => ?_)
    refine g_aload_n (pc := 10) C dJ7_fill_53178_10 rfl ?_
    refine g_iload_n (pc := 11) C dJ7_fill_53178_11 rfl ?_
    refine g_iload_n (pc := 12) C dJ7_fill_53178_12 rfl ?_
    refine g_iastN (pc := 13) C hk hlv (by omega) (by omega) dJ7_fill_53178_13 ?_
    refine g_iincN (pc := 14) C 1 dJ7_fill_53178_14 rfl (by decide) (by decide) ?_
    refine g_goto (pc := 17) C 5 dJ7_fill_53178_17 (by decide) ?_
    exact g_subR (ih (w + 1) (by omega)) ⟨rfl, rfl, rfl, rfl, trivial⟩
set_option maxHeartbeats 400000 in
set_option maxRecDepth 100000 in
/-- Arrays.fill -/
theorem c_fill (l : Launch) (E : En) (base aw : Nat) (S : Mm) (k : Ln) (n : Nat) (v : Int32) (hk : kd k = (1, n)) (hlv : S.2.2 k = true) (hn : n < 100000) : Cn l E base aw yJ7_fill_53178 cJ7_fill_53178 4 (none) 0 0 0 noF S [vr k, vi v] (fun r S' => r = none ∧ S' = flM S k v n) := by
  refine Cn.of (by decide) (Nat.le_of_ble_eq_true rfl) ?_
  intro X Y hl hE hbase haw hfr C B
  subst hl; subst hE; subst hbase; subst haw
  refine g_iconst (pc := 0) C 0 dJ7_fill_53178_0 (by decide) ?_
  refine g_istore_n (pc := 1) C dJ7_fill_53178_1 (by decide) ?_
  refine g_aload_n (pc := 2) C dJ7_fill_53178_2 rfl ?_
  refine g_alen (pc := 3) C hk (by decide) hlv dJ7_fill_53178_3 ?_
  refine g_istore_n (pc := 4) C dJ7_fill_53178_4 (by decide) ?_
  refine g_subR (lp_fill C B hk hlv hn ?_ n 0 (by omega)) ⟨rfl, rfl, rfl, rfl, trivial⟩
  exact g_vret (pc := 20) C B dJ7_fill_53178_20 (⟨rfl, rfl⟩)

set_option maxHeartbeats 400000 in
set_option maxRecDepth 100000 in
theorem c_isG_t (l : Launch) (E : En) (base aw : Nat) (S : Mm) (g : Nat) (hg : g < 16) : Cn l E base aw yX6_isGood cX6_isGood 1 (some Jvm.ClassFile.FieldType.boolean) 0 0 0 noF S [vi (nI g)] (fun r S' => r = some (vi 1) ∧ S' = S) := by
  refine Cn.of (by decide) (Nat.le_of_ble_eq_true rfl) ?_
  intro X Y hl hE hbase haw hfr C B
  subst hl; subst hE; subst hbase; subst haw
  refine g_iload_n (pc := 0) C dX6_isGood_0 rfl ?_
  refine g_if_lt (pc := 1) C 14 dX6_isGood_1 (by decide) (fun h1 => absurd h1 (nI_pos (by omega))) (fun _ => ?_)
  refine g_iload_n (pc := 4) C dX6_isGood_4 rfl ?_
  refine g_bipush (pc := 5) C 16 dX6_isGood_5 (by decide) ?_
  refine g_icmp_ge (pc := 7) C 14 dX6_isGood_7 (by decide) (fun h7 => absurd h7 (fun q => absurd ((nI_leI (a := 16) (b := g) (by omega) (by omega)).mp q) (by omega))) (fun _ => ?_)
  refine g_iconst (pc := 10) C 1 dX6_isGood_10 (by decide) ?_
  refine g_goto (pc := 11) C 15 dX6_isGood_11 (by decide) ?_
  exact g_iret (pc := 15) C B rfl dX6_isGood_15 (⟨rfl, rfl⟩)

set_option maxHeartbeats 400000 in
set_option maxRecDepth 100000 in
theorem c_isG_f (l : Launch) (E : En) (base aw : Nat) (S : Mm) (p0 : Int32) (hx : ¬ okN 16 p0) : Cn l E base aw yX6_isGood cX6_isGood 1 (some Jvm.ClassFile.FieldType.boolean) 0 0 0 noF S [vi p0] (fun r S' => r = some (vi 0) ∧ S' = S) := by
  refine Cn.of (by decide) (Nat.le_of_ble_eq_true rfl) ?_
  intro X Y hl hE hbase haw hfr C B
  subst hl; subst hE; subst hbase; subst haw
  refine g_iload_n (pc := 0) C dX6_isGood_0 rfl ?_
  refine g_if_lt (pc := 1) C 14 dX6_isGood_1 (by decide) (fun h1 => ?_) (fun h1 => ?_)
  ·
    refine g_iconst (pc := 14) C 0 dX6_isGood_14 (by decide) ?_
    exact g_iret (pc := 15) C B rfl dX6_isGood_15 (⟨rfl, rfl⟩)
  ·
    refine g_iload_n (pc := 4) C dX6_isGood_4 rfl ?_
    refine g_bipush (pc := 5) C 16 dX6_isGood_5 (by decide) ?_
    refine g_icmp_ge (pc := 7) C 14 dX6_isGood_7 (by decide) (fun h7 => ?_) (fun h7 => ?_)
    ·
      refine g_iconst (pc := 14) C 0 dX6_isGood_14 (by decide) ?_
      exact g_iret (pc := 15) C B rfl dX6_isGood_15 (⟨rfl, rfl⟩)
    ·
      refine g_iconst (pc := 10) C 1 dX6_isGood_10 (by decide) ?_
      refine g_goto (pc := 11) C 15 dX6_isGood_11 (by decide) ?_
      exact g_iret (pc := 15) C B rfl dX6_isGood_15 (absurd (pk_ix p0 (n := 16) (by decide)) (by rintro (a | a | ⟨j, hj, e⟩) <;> first | exact h1 a | exact h7 a | exact hx ⟨j, hj, e⟩))

set_option maxHeartbeats 400000 in
set_option maxRecDepth 100000 in
theorem c_isW_t (l : Launch) (E : En) (base aw : Nat) (S : Mm) (g : Nat) (hg : g < 6) : Cn l E base aw yX6_isWorth cX6_isWorth 1 (some Jvm.ClassFile.FieldType.boolean) 0 0 0 noF S [vi (nI g)] (fun r S' => r = some (vi 1) ∧ S' = S) := by
  refine Cn.of (by decide) (Nat.le_of_ble_eq_true rfl) ?_
  intro X Y hl hE hbase haw hfr C B
  subst hl; subst hE; subst hbase; subst haw
  refine g_iload_n (pc := 0) C dX6_isWorth_0 rfl ?_
  refine g_if_lt (pc := 1) C 16 dX6_isWorth_1 (by decide) (fun h1 => absurd h1 (nI_pos (by omega))) (fun _ => ?_)
  refine g_iload_n (pc := 4) C dX6_isWorth_4 rfl ?_
  refine g_wst (pc := 5) C wsX6_28 dX6_isWorth_5 ?_
  refine g_wln (pc := 8) C dX6_isWorth_8 ?_
  refine g_icmp_ge (pc := 9) C 16 dX6_isWorth_9 (by decide) (fun h9 => absurd h9 (fun q => absurd ((nI_leI (a := 6) (b := g) (by omega) (by omega)).mp q) (by omega))) (fun _ => ?_)
  refine g_iconst (pc := 12) C 1 dX6_isWorth_12 (by decide) ?_
  refine g_goto (pc := 13) C 17 dX6_isWorth_13 (by decide) ?_
  exact g_iret (pc := 17) C B rfl dX6_isWorth_17 (⟨rfl, rfl⟩)

set_option maxHeartbeats 400000 in
set_option maxRecDepth 100000 in
theorem c_isW_f (l : Launch) (E : En) (base aw : Nat) (S : Mm) (p0 : Int32) (hx : ¬ okN 6 p0) : Cn l E base aw yX6_isWorth cX6_isWorth 1 (some Jvm.ClassFile.FieldType.boolean) 0 0 0 noF S [vi p0] (fun r S' => r = some (vi 0) ∧ S' = S) := by
  refine Cn.of (by decide) (Nat.le_of_ble_eq_true rfl) ?_
  intro X Y hl hE hbase haw hfr C B
  subst hl; subst hE; subst hbase; subst haw
  refine g_iload_n (pc := 0) C dX6_isWorth_0 rfl ?_
  refine g_if_lt (pc := 1) C 16 dX6_isWorth_1 (by decide) (fun h1 => ?_) (fun h1 => ?_)
  ·
    refine g_iconst (pc := 16) C 0 dX6_isWorth_16 (by decide) ?_
    exact g_iret (pc := 17) C B rfl dX6_isWorth_17 (⟨rfl, rfl⟩)
  ·
    refine g_iload_n (pc := 4) C dX6_isWorth_4 rfl ?_
    refine g_wst (pc := 5) C wsX6_28 dX6_isWorth_5 ?_
    refine g_wln (pc := 8) C dX6_isWorth_8 ?_
    refine g_icmp_ge (pc := 9) C 16 dX6_isWorth_9 (by decide) (fun h9 => ?_) (fun h9 => ?_)
    ·
      refine g_iconst (pc := 16) C 0 dX6_isWorth_16 (by decide) ?_
      exact g_iret (pc := 17) C B rfl dX6_isWorth_17 (⟨rfl, rfl⟩)
    ·
      refine g_iconst (pc := 12) C 1 dX6_isWorth_12 (by decide) ?_
      refine g_goto (pc := 13) C 17 dX6_isWorth_13 (by decide) ?_
      exact g_iret (pc := 17) C B rfl dX6_isWorth_17 (absurd (pk_ix p0 (n := 6) (by decide)) (by rintro (a | a | ⟨j, hj, e⟩) <;> first | exact h1 a | exact h9 a | exact hx ⟨j, hj, e⟩))

set_option maxHeartbeats 400000 in
set_option maxRecDepth 100000 in
theorem c_xblw (l : Launch) (E : En) (base aw : Nat) (S : Mm) (p : Int32) : Cn l E base aw yX6_isPriceBelow cX6_isPriceBelow 1 (some Jvm.ClassFile.FieldType.boolean) 0 0 0 noF S [vi p] (fun r S' => r = some (vi (blw p)) ∧ S' = S) := by
  refine Cn.of (by decide) (Nat.le_of_ble_eq_true rfl) ?_
  intro X Y hl hE hbase haw hfr C B
  subst hl; subst hE; subst hbase; subst haw
  refine g_iload_n (pc := 0) C dX6_isPriceBelow_0 rfl ?_
  refine g_bipush (pc := 1) C 10 dX6_isPriceBelow_1 (by decide) ?_
  refine g_icmp_lt (pc := 3) C 13 dX6_isPriceBelow_3 (by decide) (fun h3 => ?_) (fun h3 => ?_)
  ·
    refine g_iconst (pc := 13) C 1 dX6_isPriceBelow_13 (by decide) ?_
    refine g_goto (pc := 14) C 18 dX6_isPriceBelow_14 (by decide) ?_
    exact g_iret (pc := 18) C B rfl dX6_isPriceBelow_18 (⟨by show some (vi _) = some (vi (blw p)); unfold blw; rw [if_pos (Or.inl h3)], rfl⟩)
  ·
    refine g_iload_n (pc := 6) C dX6_isPriceBelow_6 rfl ?_
    refine g_bipush (pc := 7) C 10 dX6_isPriceBelow_7 (by decide) ?_
    refine g_irem (pc := 9) C dX6_isPriceBelow_9 (by decide) ?_
    refine g_if_eq (pc := 10) C 17 dX6_isPriceBelow_10 (by decide) (fun h10 => ?_) (fun h10 => ?_)
    ·
      refine g_iconst (pc := 17) C 0 dX6_isPriceBelow_17 (by decide) ?_
      exact g_iret (pc := 18) C B rfl dX6_isPriceBelow_18 (⟨by show some (vi _) = some (vi (blw p)); unfold blw; rw [if_neg (fun q => q.elim h3 (fun z => z h10))], rfl⟩)
    ·
      refine g_iconst (pc := 13) C 1 dX6_isPriceBelow_13 (by decide) ?_
      refine g_goto (pc := 14) C 18 dX6_isPriceBelow_14 (by decide) ?_
      exact g_iret (pc := 18) C B rfl dX6_isPriceBelow_18 (⟨by show some (vi _) = some (vi (blw p)); unfold blw; rw [if_pos (Or.inr h10)], rfl⟩)

set_option maxHeartbeats 400000 in
set_option maxRecDepth 100000 in
theorem c_xrefuse (l : Launch) (E : En) (base aw : Nat) (S : Mm) (mc : Nat) (lc : Nat → Nat) (hX : ShX S mc lc) (c : Int32) (k : Nat) (hc : -c = nI k) (hk1 : 1 ≤ k) (hk : k < 7) : Cn l E base aw yX6_refuse cX6_refuse 3 (some Jvm.ClassFile.FieldType.int) 0 0 0 noF S [vr (0, 0, 0), vi c] (fun r S' => r = some (vi c) ∧ S' = rfX S k) := by
  refine Cn.of (by decide) (Nat.le_of_ble_eq_true rfl) ?_
  intro X Y hl hE hbase haw hfr C B
  subst hl; subst hE; subst hbase; subst haw
  refine g_iload_n (pc := 0) C dX6_refuse_0 rfl ?_
  refine g_ineg (pc := 1) C dX6_refuse_1 ?_
  refine g_eqi (nI k) hc ?_
  refine g_istore_n (pc := 2) C dX6_refuse_2 (by decide) ?_
  refine g_iload_n (pc := 3) C dX6_refuse_3 rfl ?_
  refine g_iconst (pc := 4) C 1 dX6_refuse_4 (by decide) ?_
  refine g_icmp_lt (pc := 5) C 27 dX6_refuse_5 (by decide) (fun h5 => absurd h5 (fun q => absurd ((nI_ltI (a := k) (b := 1) (by omega) (by omega)).mp q) (by omega))) (fun _ => ?_)
  refine g_iload_n (pc := 8) C dX6_refuse_8 rfl ?_
  refine g_aload_n (pc := 9) C dX6_refuse_9 rfl ?_
  refine g_getr (pc := 10) C fX6_25 rfl (hX.1 0 (by decide)) dX6_refuse_10 rfl hX.r2 ?_
  refine g_alen (pc := 13) C rfl (by decide) (hX.1 3 (by decide)) dX6_refuse_13 ?_
  refine g_icmp_ge (pc := 14) C 27 dX6_refuse_14 (by decide) (fun h14 => absurd h14 (fun q => absurd ((nI_leI (a := 7) (b := k) (by omega) (by omega)).mp q) (by omega))) (fun _ => ?_)
  refine g_aload_n (pc := 17) C dX6_refuse_17 rfl ?_
  refine g_getr (pc := 18) C fX6_25 rfl (hX.1 0 (by decide)) dX6_refuse_18 rfl hX.r2 ?_
  refine g_iload_n (pc := 21) C dX6_refuse_21 rfl ?_
  refine g_dup2 (pc := 22) C dX6_refuse_22 ?_
  refine g_ialdN (pc := 23) C rfl (hX.1 3 (by decide)) (by omega) (by decide) dX6_refuse_23 ?_
  refine g_iconst (pc := 24) C 1 dX6_refuse_24 (by decide) ?_
  refine g_iadd (pc := 25) C dX6_refuse_25 ?_
  refine g_iastN (pc := 26) C rfl (hX.1 3 (by decide)) (by omega) (by decide) dX6_refuse_26 ?_
  refine g_iload_n (pc := 27) C dX6_refuse_27 rfl ?_
  exact g_iret (pc := 28) C B rfl dX6_refuse_28 (⟨rfl, rfl⟩)

set_option maxHeartbeats 400000 in
set_option maxRecDepth 100000 in
theorem c_mAt_t (l : Launch) (E : En) (base aw : Nat) (S : Mm) (mc : Nat) (lc : Nat → Nat) (hI : IX S mc lc) (i : Nat) (hi : i < mc) : Cn l E base aw yX6_machineAt cX6_machineAt 2 (some (Jvm.ClassFile.FieldType.object "SlotHouse$Machine")) 0 0 0 noF S [vr (0, 0, 0), vi (nI i)] (fun r S' => r = some (vr (1, i, 0)) ∧ S' = S) := by
  have hX := hI.1
  have hmc := hX.m6
  refine Cn.of (by decide) (Nat.le_of_ble_eq_true rfl) ?_
  intro X Y hl hE hbase haw hfr C B
  subst hl; subst hE; subst hbase; subst haw
  refine g_iload_n (pc := 0) C dX6_machineAt_0 rfl ?_
  refine g_if_lt (pc := 1) C 21 dX6_machineAt_1 (by decide) (fun h1 => absurd h1 (nI_pos (by omega))) (fun _ => ?_)
  refine g_iload_n (pc := 4) C dX6_machineAt_4 rfl ?_
  refine g_aload_n (pc := 5) C dX6_machineAt_5 rfl ?_
  refine g_geti (pc := 6) C fX6_48 rfl (hX.1 0 (by decide)) dX6_machineAt_6 rfl ?_
  refine g_eqi (nI mc) hI.2.1 ?_
  refine g_icmp_ge (pc := 9) C 21 dX6_machineAt_9 (by decide) (fun h9 => absurd h9 (fun q => absurd ((nI_leI (a := mc) (b := i) (by omega) (by omega)).mp q) (by omega))) (fun _ => ?_)
  refine g_aload_n (pc := 12) C dX6_machineAt_12 rfl ?_
  refine g_getr (pc := 13) C fX6_11 rfl (hX.1 0 (by decide)) dX6_machineAt_13 rfl hX.r0 ?_
  refine g_iload_n (pc := 16) C dX6_machineAt_16 rfl ?_
  refine g_aaldN (pc := 17) C rfl (by decide) (hX.1 1 (by decide)) (by omega) (by decide) (hX.m (by omega)) dX6_machineAt_17 ?_
  refine g_goto (pc := 18) C 22 dX6_machineAt_18 (by decide) ?_
  exact g_aret (pc := 22) C B (Or.inl ⟨_, rfl⟩) dX6_machineAt_22 (⟨rfl, rfl⟩)

set_option maxHeartbeats 400000 in
set_option maxRecDepth 100000 in
theorem c_mAt_f (l : Launch) (E : En) (base aw : Nat) (S : Mm) (mc : Nat) (lc : Nat → Nat) (hI : IX S mc lc) (p0 : Int32) (hx : ¬ okN mc p0) : Cn l E base aw yX6_machineAt cX6_machineAt 2 (some (Jvm.ClassFile.FieldType.object "SlotHouse$Machine")) 0 0 0 noF S [vr (0, 0, 0), vi p0] (fun r S' => r = some vn ∧ S' = S) := by
  have hX := hI.1
  have hmc := hX.m6
  refine Cn.of (by decide) (Nat.le_of_ble_eq_true rfl) ?_
  intro X Y hl hE hbase haw hfr C B
  subst hl; subst hE; subst hbase; subst haw
  refine g_iload_n (pc := 0) C dX6_machineAt_0 rfl ?_
  refine g_if_lt (pc := 1) C 21 dX6_machineAt_1 (by decide) (fun h1 => ?_) (fun h1 => ?_)
  ·
    refine g_null (pc := 21) C dX6_machineAt_21 ?_
    exact g_aret (pc := 22) C B (Or.inl ⟨_, rfl⟩) dX6_machineAt_22 (⟨rfl, rfl⟩)
  ·
    refine g_iload_n (pc := 4) C dX6_machineAt_4 rfl ?_
    refine g_aload_n (pc := 5) C dX6_machineAt_5 rfl ?_
    refine g_geti (pc := 6) C fX6_48 rfl (hX.1 0 (by decide)) dX6_machineAt_6 rfl ?_
    refine g_eqi (nI mc) hI.2.1 ?_
    refine g_icmp_ge (pc := 9) C 21 dX6_machineAt_9 (by decide) (fun h9 => ?_) (fun h9 => ?_)
    ·
      refine g_null (pc := 21) C dX6_machineAt_21 ?_
      exact g_aret (pc := 22) C B (Or.inl ⟨_, rfl⟩) dX6_machineAt_22 (⟨rfl, rfl⟩)
    ·
      exact absurd (okN_no (by omega) hx) (fun q => q.elim h1 h9)

set_option maxHeartbeats 400000 in
set_option maxRecDepth 100000 in
theorem c_lN_t (l : Launch) (E : En) (base aw : Nat) (S : Mm) (i n : Nat) (hm : MSh S i n) (hn : S.1 (1, i, 0) 3 = nI n) (j : Nat) (hj : j < n) : Cn l E base aw yX3_laneNumbered cX3_laneNumbered 2 (some (Jvm.ClassFile.FieldType.object "SlotHouse$Lane")) 0 0 0 noF S [vr (1, i, 0), vi (nI j)] (fun r S' => r = some (vr (3, i, j)) ∧ S' = S) := by
  have hn8 := hm.n8
  refine Cn.of (by decide) (Nat.le_of_ble_eq_true rfl) ?_
  intro X Y hl hE hbase haw hfr C B
  subst hl; subst hE; subst hbase; subst haw
  refine g_iload_n (pc := 0) C dX3_laneNumbered_0 rfl ?_
  refine g_if_lt (pc := 1) C 21 dX3_laneNumbered_1 (by decide) (fun h1 => absurd h1 (nI_pos (by omega))) (fun _ => ?_)
  refine g_iload_n (pc := 4) C dX3_laneNumbered_4 rfl ?_
  refine g_aload_n (pc := 5) C dX3_laneNumbered_5 rfl ?_
  refine g_geti (pc := 6) C fX3_35 rfl (hm.1 0 (by decide)) dX3_laneNumbered_6 rfl ?_
  refine g_eqi (nI n) hn ?_
  refine g_icmp_ge (pc := 9) C 21 dX3_laneNumbered_9 (by decide) (fun h9 => absurd h9 (fun q => absurd ((nI_leI (a := n) (b := j) (by omega) (by omega)).mp q) (by omega))) (fun _ => ?_)
  refine g_aload_n (pc := 12) C dX3_laneNumbered_12 rfl ?_
  refine g_getr (pc := 13) C fX3_11 rfl (hm.1 0 (by decide)) dX3_laneNumbered_13 rfl hm.r0 ?_
  refine g_iload_n (pc := 16) C dX3_laneNumbered_16 rfl ?_
  refine g_aaldN (pc := 17) C rfl (by decide) (hm.1 1 (by decide)) (by omega) (by decide) (hm.l (by omega)) dX3_laneNumbered_17 ?_
  refine g_goto (pc := 18) C 22 dX3_laneNumbered_18 (by decide) ?_
  exact g_aret (pc := 22) C B (Or.inl ⟨_, rfl⟩) dX3_laneNumbered_22 (⟨rfl, rfl⟩)

set_option maxHeartbeats 400000 in
set_option maxRecDepth 100000 in
theorem c_lN_f (l : Launch) (E : En) (base aw : Nat) (S : Mm) (i n : Nat) (hm : MSh S i n) (hn : S.1 (1, i, 0) 3 = nI n) (p0 : Int32) (hx : ¬ okN n p0) : Cn l E base aw yX3_laneNumbered cX3_laneNumbered 2 (some (Jvm.ClassFile.FieldType.object "SlotHouse$Lane")) 0 0 0 noF S [vr (1, i, 0), vi p0] (fun r S' => r = some vn ∧ S' = S) := by
  have hn8 := hm.n8
  refine Cn.of (by decide) (Nat.le_of_ble_eq_true rfl) ?_
  intro X Y hl hE hbase haw hfr C B
  subst hl; subst hE; subst hbase; subst haw
  refine g_iload_n (pc := 0) C dX3_laneNumbered_0 rfl ?_
  refine g_if_lt (pc := 1) C 21 dX3_laneNumbered_1 (by decide) (fun h1 => ?_) (fun h1 => ?_)
  ·
    refine g_null (pc := 21) C dX3_laneNumbered_21 ?_
    exact g_aret (pc := 22) C B (Or.inl ⟨_, rfl⟩) dX3_laneNumbered_22 (⟨rfl, rfl⟩)
  ·
    refine g_iload_n (pc := 4) C dX3_laneNumbered_4 rfl ?_
    refine g_aload_n (pc := 5) C dX3_laneNumbered_5 rfl ?_
    refine g_geti (pc := 6) C fX3_35 rfl (hm.1 0 (by decide)) dX3_laneNumbered_6 rfl ?_
    refine g_eqi (nI n) hn ?_
    refine g_icmp_ge (pc := 9) C 21 dX3_laneNumbered_9 (by decide) (fun h9 => ?_) (fun h9 => ?_)
    ·
      refine g_null (pc := 21) C dX3_laneNumbered_21 ?_
      exact g_aret (pc := 22) C B (Or.inl ⟨_, rfl⟩) dX3_laneNumbered_22 (⟨rfl, rfl⟩)
    ·
      exact absurd (okN_no (by omega) hx) (fun q => q.elim h1 h9)

set_option maxHeartbeats 400000 in
set_option maxRecDepth 100000 in
theorem c_lAt_t (l : Launch) (E : En) (base aw : Nat) (S : Mm) (mc : Nat) (lc : Nat → Nat) (hI : IX S mc lc) (i : Nat) (hi : i < mc) (j : Nat) (hj : j < lc i) : Cn l E base aw yX6_laneAt cX6_laneAt 4 (some (Jvm.ClassFile.FieldType.object "SlotHouse$Lane")) 1 0 0 noF S [vr (0, 0, 0), vi (nI i), vi (nI j)] (fun r S' => r = some (vr (3, i, j)) ∧ S' = S) := by
  have hX := hI.1
  have hm := hX.ms hi
  have hn := hI.2.2 i hi
  refine Cn.of (by decide) (Nat.le_of_ble_eq_true rfl) ?_
  intro X Y hl hE hbase haw hfr C B
  subst hl; subst hE; subst hbase; subst haw
  refine g_aload_n (pc := 0) C dX6_laneAt_0 rfl ?_
  refine g_iload_n (pc := 1) C dX6_laneAt_1 rfl ?_
  refine g_callV (pc := 2) C B mX6_57 (c_mAt_t _ _ _ _ _ mc lc hI i hi) rfl rfl rfl rfl (hX.1 0 (by decide)) (by decide) ⟨Nat.le_refl _, Nat.le_refl _⟩ (Nat.le_of_ble_eq_true rfl) dX6_laneAt_2 (fun rr SS hP => ?_)
  rw [hP.1, hP.2]
  refine g_astore_n (pc := 5) C dX6_laneAt_5 (by decide) ?_
  refine g_aload_n (pc := 6) C dX6_laneAt_6 rfl ?_
  refine g_ifnonnull (pc := 7) C 14 dX6_laneAt_7 (by decide) (fun _ _ => ?_) (fun h => by cases h)
  refine g_aload_n (pc := 14) C dX6_laneAt_14 rfl ?_
  refine g_iload_n (pc := 15) C dX6_laneAt_15 rfl ?_
  refine g_callV (pc := 16) C B mX6_250 (c_lN_t _ _ _ _ _ i (lc i) hm hn j (by omega)) rfl rfl rfl rfl (hm.1 0 (by decide)) (by decide) ⟨Nat.le_refl _, Nat.le_refl _⟩ (Nat.le_of_ble_eq_true rfl) dX6_laneAt_16 (fun rr SS hP => ?_)
  rw [hP.1, hP.2]
  exact g_aret (pc := 19) C B (Or.inl ⟨_, rfl⟩) dX6_laneAt_19 (⟨rfl, rfl⟩)

set_option maxHeartbeats 400000 in
set_option maxRecDepth 100000 in
theorem c_lAt_f (l : Launch) (E : En) (base aw : Nat) (S : Mm) (mc : Nat) (lc : Nat → Nat) (hI : IX S mc lc) (x y : Int32) (h : ¬ okL mc lc x y) : Cn l E base aw yX6_laneAt cX6_laneAt 4 (some (Jvm.ClassFile.FieldType.object "SlotHouse$Lane")) 1 0 0 noF S [vr (0, 0, 0), vi x, vi y] (fun r S' => r = some vn ∧ S' = S) := by
  have hX := hI.1
  by_cases hmm : okN mc x
  ·
    obtain ⟨i, hi, rfl⟩ := hmm
    have hm := hX.ms hi
    have hn := hI.2.2 i hi
    have hy : ¬ okN (lc i) y := fun ⟨j, hj, e⟩ => h ⟨i, j, hi, hj, rfl, e⟩
    refine Cn.of (by decide) (Nat.le_of_ble_eq_true rfl) ?_
    intro X Y hl hE hbase haw hfr C B
    subst hl; subst hE; subst hbase; subst haw
    refine g_aload_n (pc := 0) C dX6_laneAt_0 rfl ?_
    refine g_iload_n (pc := 1) C dX6_laneAt_1 rfl ?_
    refine g_callV (pc := 2) C B mX6_57 (c_mAt_t _ _ _ _ _ mc lc hI i hi) rfl rfl rfl rfl (hX.1 0 (by decide)) (by decide) ⟨Nat.le_refl _, Nat.le_refl _⟩ (Nat.le_of_ble_eq_true rfl) dX6_laneAt_2 (fun rr SS hP => ?_)
    rw [hP.1, hP.2]
    refine g_astore_n (pc := 5) C dX6_laneAt_5 (by decide) ?_
    refine g_aload_n (pc := 6) C dX6_laneAt_6 rfl ?_
    refine g_ifnonnull (pc := 7) C 14 dX6_laneAt_7 (by decide) (fun _ _ => ?_) (fun h => by cases h)
    refine g_aload_n (pc := 14) C dX6_laneAt_14 rfl ?_
    refine g_iload_n (pc := 15) C dX6_laneAt_15 rfl ?_
    refine g_callV (pc := 16) C B mX6_250 (c_lN_f _ _ _ _ _ i (lc i) hm hn y hy) rfl rfl rfl rfl (hm.1 0 (by decide)) (by decide) ⟨Nat.le_refl _, Nat.le_refl _⟩ (Nat.le_of_ble_eq_true rfl) dX6_laneAt_16 (fun rr SS hP => ?_)
    rw [hP.1, hP.2]
    exact g_aret (pc := 19) C B (Or.inl ⟨_, rfl⟩) dX6_laneAt_19 (⟨rfl, rfl⟩)
  ·
    have hx := hmm
    refine Cn.of (by decide) (Nat.le_of_ble_eq_true rfl) ?_
    intro X Y hl hE hbase haw hfr C B
    subst hl; subst hE; subst hbase; subst haw
    refine g_aload_n (pc := 0) C dX6_laneAt_0 rfl ?_
    refine g_iload_n (pc := 1) C dX6_laneAt_1 rfl ?_
    refine g_callV (pc := 2) C B mX6_57 (c_mAt_f _ _ _ _ _ mc lc hI x hx) rfl rfl rfl rfl (hX.1 0 (by decide)) (by decide) ⟨Nat.le_refl _, Nat.le_refl _⟩ (Nat.le_of_ble_eq_true rfl) dX6_laneAt_2 (fun rr SS hP => ?_)
    rw [hP.1, hP.2]
    refine g_astore_n (pc := 5) C dX6_laneAt_5 (by decide) ?_
    refine g_aload_n (pc := 6) C dX6_laneAt_6 rfl ?_
    refine g_ifnonnull (pc := 7) C 14 dX6_laneAt_7 (by decide) (fun _ h => by cases h) (fun _ => ?_)
    refine g_null (pc := 10) C dX6_laneAt_10 ?_
    refine g_goto (pc := 11) C 19 dX6_laneAt_11 (by decide) ?_
    exact g_aret (pc := 19) C B (Or.inl ⟨_, rfl⟩) dX6_laneAt_19 (⟨rfl, rfl⟩)

set_option maxHeartbeats 400000 in
set_option maxRecDepth 100000 in
theorem lp_xworth {X : Xt} {Y : Yt} {P : Option AV → Mm → Prop} {nm : String}  (C : Cx X Y cX6_worthOf 3 RX6) (B : Bx X Y nm (some Jvm.ClassFile.FieldType.int) 0 0 0 P) {S : Mm} {k : Ln} (hk : kd k = (1, 6)) (hlv : S.2.2 k = true) (K : G X Y 0 0 S 36 [(0, vr k), (1, vi (wsum (S.1 k) 6)), (2, vi (nI 6))] []) : ∀ n w, w + n = 6 → G X Y 0 0 S 4 [(0, vr k), (1, vi (wsum (S.1 k) w)), (2, vi (nI w))] [] := by
  intro n
  induction n with
  | zero =>
    intro w hw
    have e : 6 = w := by omega
    subst e
    refine g_iload_n (pc := 4) C dX6_worthOf_4 rfl ?_
    refine g_wst (pc := 5) C wsX6_28 dX6_worthOf_5 ?_
    refine g_wln (pc := 8) C dX6_worthOf_8 ?_
    refine g_icmp_ge (pc := 9) C 36 dX6_worthOf_9 (by decide) (fun _ => ?_) (fun h9 => absurd ((nI_leI (a := 6) (b := 6) (by omega) (by omega)).mpr (by omega)) h9)
    exact K
  | succ n ih =>
    intro w hw
    refine g_iload_n (pc := 4) C dX6_worthOf_4 rfl ?_
    refine g_wst (pc := 5) C wsX6_28 dX6_worthOf_5 ?_
    refine g_wln (pc := 8) C dX6_worthOf_8 ?_
    refine g_icmp_ge (pc := 9) C 36 dX6_worthOf_9 (by decide) (fun h9 => absurd h9 (fun q => absurd ((nI_leI (a := 6) (b := w) (by omega) (by omega)).mp q) (by omega))) (fun _ => ?_)
    refine g_iload_n (pc := 12) C dX6_worthOf_12 rfl ?_
    refine g_aload_n (pc := 13) C dX6_worthOf_13 rfl ?_
    refine g_alen (pc := 14) C hk (by decide) hlv dX6_worthOf_14 ?_
    refine g_icmp_ge (pc := 15) C 36 dX6_worthOf_15 (by decide) (fun h15 => absurd h15 (fun q => absurd ((nI_leI (a := 6) (b := w) (by omega) (by omega)).mp q) (by omega))) (fun _ => ?_)
    refine g_iload_n (pc := 18) C dX6_worthOf_18 rfl ?_
    refine g_wst (pc := 19) C wsX6_28 dX6_worthOf_19 ?_
    refine g_iload_n (pc := 22) C dX6_worthOf_22 rfl ?_
    refine g_wldN (pc := 23) C (by omega) dX6_worthOf_23 ?_
    refine g_aload_n (pc := 24) C dX6_worthOf_24 rfl ?_
    refine g_iload_n (pc := 25) C dX6_worthOf_25 rfl ?_
    refine g_ialdN (pc := 26) C hk hlv (by omega) (by decide) dX6_worthOf_26 ?_
    refine g_imul (pc := 27) C dX6_worthOf_27 ?_
    refine g_iadd (pc := 28) C dX6_worthOf_28 ?_
    refine g_istore_n (pc := 29) C dX6_worthOf_29 (by decide) ?_
    refine g_iincN (pc := 30) C 1 dX6_worthOf_30 rfl (by decide) (by decide) ?_
    refine g_goto (pc := 33) C 4 dX6_worthOf_33 (by decide) ?_
    exact g_subR (ih (w + 1) (by omega)) ⟨rfl, congrArg (fun z => some (vi (wsum (S.1 k) w + z))) (Int32.mul_comm _ _), rfl, trivial⟩
set_option maxHeartbeats 400000 in
set_option maxRecDepth 100000 in
/-- worthOf -/
theorem c_xworth (l : Launch) (E : En) (base aw : Nat) (S : Mm) (k : Ln) (hk : kd k = (1, 6)) (hlv : S.2.2 k = true) : Cn l E base aw yX6_worthOf cX6_worthOf 3 (some Jvm.ClassFile.FieldType.int) 0 0 0 noF S [vr k] (fun r S' => r = some (vi (wsum (S.1 k) 6)) ∧ S' = S) := by
  refine Cn.of (by decide) (Nat.le_of_ble_eq_true rfl) ?_
  intro X Y hl hE hbase haw hfr C B
  subst hl; subst hE; subst hbase; subst haw
  refine g_iconst (pc := 0) C 0 dX6_worthOf_0 (by decide) ?_
  refine g_istore_n (pc := 1) C dX6_worthOf_1 (by decide) ?_
  refine g_iconst (pc := 2) C 0 dX6_worthOf_2 (by decide) ?_
  refine g_istore_n (pc := 3) C dX6_worthOf_3 (by decide) ?_
  refine g_subR (lp_xworth C B hk hlv ?_ 6 0 rfl) ⟨rfl, rfl, rfl, trivial⟩
  refine g_iload_n (pc := 36) C dX6_worthOf_36 rfl ?_
  exact g_iret (pc := 37) C B rfl dX6_worthOf_37 (⟨rfl, rfl⟩)

def v_closed (S : Mm) (i : Nat) (j : Nat) : Int32 := if (S.1 (3, i, j) 8) = 0 then (if (S.1 (3, i, j) 9) = 0 then 0 else 1) else 1
set_option maxHeartbeats 400000 in
set_option maxRecDepth 100000 in
theorem c_closed (l : Launch) (E : En) (base aw : Nat) (S : Mm) (i j : Nat) (hlv : S.2.2 (3, i, j) = true) : Cn l E base aw yX2_isClosed cX2_isClosed 1 (some Jvm.ClassFile.FieldType.boolean) 0 0 0 noF S [vr (3, i, j)] (fun r S' => r = some (vi (v_closed S i j)) ∧ S' = S) := by
  refine Cn.of (by decide) (Nat.le_of_ble_eq_true rfl) ?_
  intro X Y hl hE hbase haw hfr C B
  subst hl; subst hE; subst hbase; subst haw
  refine g_aload_n (pc := 0) C dX2_isClosed_0 rfl ?_
  refine g_geti (pc := 1) C fX2_27 rfl hlv dX2_isClosed_1 rfl ?_
  refine g_if_ne (pc := 4) C 14 dX2_isClosed_4 (by decide) (fun h4 => ?_) (fun h4 => ?_)
  ·
    refine g_iconst (pc := 14) C 1 dX2_isClosed_14 (by decide) ?_
    refine g_goto (pc := 15) C 19 dX2_isClosed_15 (by decide) ?_
    exact g_iret (pc := 19) C B rfl dX2_isClosed_19 (⟨by show some (vi _) = some (vi (v_closed S i j)); unfold v_closed; rw [if_neg h4], rfl⟩)
  ·
    refine g_aload_n (pc := 7) C dX2_isClosed_7 rfl ?_
    refine g_geti (pc := 8) C fX2_31 rfl hlv dX2_isClosed_8 rfl ?_
    refine g_if_eq (pc := 11) C 18 dX2_isClosed_11 (by decide) (fun h11 => ?_) (fun h11 => ?_)
    ·
      refine g_iconst (pc := 18) C 0 dX2_isClosed_18 (by decide) ?_
      exact g_iret (pc := 19) C B rfl dX2_isClosed_19 (⟨by show some (vi _) = some (vi (v_closed S i j)); unfold v_closed; rw [if_pos h4, if_pos h11], rfl⟩)
    ·
      refine g_iconst (pc := 14) C 1 dX2_isClosed_14 (by decide) ?_
      refine g_goto (pc := 15) C 19 dX2_isClosed_15 (by decide) ?_
      exact g_iret (pc := 19) C B rfl dX2_isClosed_19 (⟨by show some (vi _) = some (vi (v_closed S i j)); unfold v_closed; rw [if_pos h4, if_neg h11], rfl⟩)

def t_miss (S : Mm) (i : Nat) (j : Nat) : Option AV × Mm := if ((wI (wI S (3, i, j) 6 ((S.1 (3, i, j) 6) - 1)) (3, i, j) 7 (((wI S (3, i, j) 6 ((S.1 (3, i, j) 6) - 1)).1 (3, i, j) 7) + 1)).1 (3, i, j) 7) < 3 then (none, wI (wI S (3, i, j) 6 ((S.1 (3, i, j) 6) - 1)) (3, i, j) 7 (((wI S (3, i, j) 6 ((S.1 (3, i, j) 6) - 1)).1 (3, i, j) 7) + 1)) else (none, wI (wI (wI S (3, i, j) 6 ((S.1 (3, i, j) 6) - 1)) (3, i, j) 7 (((wI S (3, i, j) 6 ((S.1 (3, i, j) 6) - 1)).1 (3, i, j) 7) + 1)) (3, i, j) 8 1)
set_option maxHeartbeats 400000 in
set_option maxRecDepth 100000 in
theorem c_miss (l : Launch) (E : En) (base aw : Nat) (S : Mm) (i j : Nat) (hlv : S.2.2 (3, i, j) = true) : Cn l E base aw yX2_miss cX2_miss 1 (none) 0 0 0 noF S [vr (3, i, j)] (fun r S' => (r, S') = t_miss S i j) := by
  refine Cn.of (by decide) (Nat.le_of_ble_eq_true rfl) ?_
  intro X Y hl hE hbase haw hfr C B
  subst hl; subst hE; subst hbase; subst haw
  refine g_aload_n (pc := 0) C dX2_miss_0 rfl ?_
  refine g_dup (pc := 1) C dX2_miss_1 ?_
  refine g_geti (pc := 2) C fX2_34 rfl hlv dX2_miss_2 rfl ?_
  refine g_iconst (pc := 5) C 1 dX2_miss_5 (by decide) ?_
  refine g_isub (pc := 6) C dX2_miss_6 ?_
  refine g_puti (pc := 7) C fX2_34 (Or.inl fm2_6) rfl hlv dX2_miss_7 (Or.inl rfl) ?_
  refine g_aload_n (pc := 10) C dX2_miss_10 rfl ?_
  refine g_dup (pc := 11) C dX2_miss_11 ?_
  refine g_geti (pc := 12) C fX2_37 rfl hlv dX2_miss_12 rfl ?_
  refine g_iconst (pc := 15) C 1 dX2_miss_15 (by decide) ?_
  refine g_iadd (pc := 16) C dX2_miss_16 ?_
  refine g_puti (pc := 17) C fX2_37 (Or.inl fm2_7) rfl hlv dX2_miss_17 (Or.inl rfl) ?_
  refine g_aload_n (pc := 20) C dX2_miss_20 rfl ?_
  refine g_geti (pc := 21) C fX2_37 rfl hlv dX2_miss_21 rfl ?_
  refine g_iconst (pc := 24) C 3 dX2_miss_24 (by decide) ?_
  refine g_icmp_lt (pc := 25) C 33 dX2_miss_25 (by decide) (fun h25 => ?_) (fun h25 => ?_)
  ·
    exact g_vret (pc := 33) C B dX2_miss_33 (by show (_, _) = t_miss S i j; unfold t_miss; rw [if_pos h25])
  ·
    refine g_aload_n (pc := 28) C dX2_miss_28 rfl ?_
    refine g_iconst (pc := 29) C 1 dX2_miss_29 (by decide) ?_
    refine g_puti (pc := 30) C fX2_27 (Or.inl fm2_8) rfl hlv dX2_miss_30 (Or.inr ⟨rfl, Or.inr rfl⟩) ?_
    exact g_vret (pc := 33) C B dX2_miss_33 (by show (_, _) = t_miss S i j; unfold t_miss; rw [if_neg h25])

def t_spoil (S : Mm) (i : Nat) (j : Nat) (p0 : Int32) : Option AV × Mm := if (S.1 (3, i, j) 2) = 2 then (if (S.1 (3, i, j) 5) ≤ 0 then (none, S) else (if p0 ≤ (S.1 (3, i, j) 3) then (none, S) else (none, wI S (3, i, j) 9 1))) else (none, S)
set_option maxHeartbeats 400000 in
set_option maxRecDepth 100000 in
theorem c_spoil (l : Launch) (E : En) (base aw : Nat) (S : Mm) (i j : Nat) (hlv : S.2.2 (3, i, j) = true) (p0 : Int32) : Cn l E base aw yX2_spoilAfter cX2_spoilAfter 2 (none) 0 0 0 noF S [vr (3, i, j), vi p0] (fun r S' => (r, S') = t_spoil S i j p0) := by
  refine Cn.of (by decide) (Nat.le_of_ble_eq_true rfl) ?_
  intro X Y hl hE hbase haw hfr C B
  subst hl; subst hE; subst hbase; subst haw
  refine g_aload_n (pc := 0) C dX2_spoilAfter_0 rfl ?_
  refine g_geti (pc := 1) C fX2_21 rfl hlv dX2_spoilAfter_1 rfl ?_
  refine g_iconst (pc := 4) C 2 dX2_spoilAfter_4 (by decide) ?_
  refine g_icmp_ne (pc := 5) C 28 dX2_spoilAfter_5 (by decide) (fun h5 => ?_) (fun h5 => ?_)
  ·
    exact g_vret (pc := 28) C B dX2_spoilAfter_28 (by show (_, _) = t_spoil S i j p0; unfold t_spoil; rw [if_neg h5])
  ·
    refine g_aload_n (pc := 8) C dX2_spoilAfter_8 rfl ?_
    refine g_geti (pc := 9) C fX2_40 rfl hlv dX2_spoilAfter_9 rfl ?_
    refine g_if_le (pc := 12) C 28 dX2_spoilAfter_12 (by decide) (fun h12 => ?_) (fun h12 => ?_)
    ·
      exact g_vret (pc := 28) C B dX2_spoilAfter_28 (by show (_, _) = t_spoil S i j p0; unfold t_spoil; rw [if_pos h5, if_pos h12])
    ·
      refine g_iload_n (pc := 15) C dX2_spoilAfter_15 rfl ?_
      refine g_aload_n (pc := 16) C dX2_spoilAfter_16 rfl ?_
      refine g_geti (pc := 17) C fX2_24 rfl hlv dX2_spoilAfter_17 rfl ?_
      refine g_icmp_le (pc := 20) C 28 dX2_spoilAfter_20 (by decide) (fun h20 => ?_) (fun h20 => ?_)
      ·
        exact g_vret (pc := 28) C B dX2_spoilAfter_28 (by show (_, _) = t_spoil S i j p0; unfold t_spoil; rw [if_pos h5, if_neg h12, if_pos h20])
      ·
        refine g_aload_n (pc := 23) C dX2_spoilAfter_23 rfl ?_
        refine g_iconst (pc := 24) C 1 dX2_spoilAfter_24 (by decide) ?_
        refine g_puti (pc := 25) C fX2_31 (Or.inl fm2_9) rfl hlv dX2_spoilAfter_25 (Or.inr ⟨rfl, Or.inr rfl⟩) ?_
        exact g_vret (pc := 28) C B dX2_spoilAfter_28 (by show (_, _) = t_spoil S i j p0; unfold t_spoil; rw [if_pos h5, if_neg h12, if_neg h20])

set_option maxHeartbeats 400000 in
set_option maxRecDepth 100000 in
theorem c_countSale (l : Launch) (E : En) (base aw : Nat) (S : Mm) (i n : Nat) (hm : MSh S i n) (g : Nat) (hg : g < 16) (u : Nat) (hu : u < 24) : Cn l E base aw yX1_countSale cX1_countSale 3 (none) 0 0 0 noF S [vr (1, i, 10), vi (nI g), vi (nI u)] (fun r S' => r = none ∧ S' = wI S (1, i, 11) (g * 24 + u) (S.1 (1, i, 11) (g * 24 + u) + 1)) := by
  refine Cn.of (by decide) (Nat.le_of_ble_eq_true rfl) ?_
  intro X Y hl hE hbase haw hfr C B
  subst hl; subst hE; subst hbase; subst haw
  refine g_aload_n (pc := 0) C dX1_countSale_0 rfl ?_
  refine g_getr (pc := 1) C fX1_9 rfl (hm.1 10 (by decide)) dX1_countSale_1 rfl hm.d0 ?_
  refine g_iload_n (pc := 4) C dX1_countSale_4 rfl ?_
  refine g_bipush (pc := 5) C 24 dX1_countSale_5 (by decide) ?_
  refine g_imul (pc := 7) C dX1_countSale_7 ?_
  refine g_eqi (nI (g * 24)) (pk_mul g 24) ?_
  refine g_iload_n (pc := 8) C dX1_countSale_8 rfl ?_
  refine g_iadd (pc := 9) C dX1_countSale_9 ?_
  refine g_eqi (nI ((g * 24) + u)) (nI_add (g * 24) u) ?_
  refine g_dup2 (pc := 10) C dX1_countSale_10 ?_
  refine g_ialdN (pc := 11) C rfl (hm.1 11 (by decide)) (by omega) (by decide) dX1_countSale_11 ?_
  refine g_iconst (pc := 12) C 1 dX1_countSale_12 (by decide) ?_
  refine g_iadd (pc := 13) C dX1_countSale_13 ?_
  refine g_iastN (pc := 14) C rfl (hm.1 11 (by decide)) (by omega) (by decide) dX1_countSale_14 ?_
  exact g_vret (pc := 15) C B dX1_countSale_15 (⟨rfl, rfl⟩)

set_option maxHeartbeats 400000 in
set_option maxRecDepth 100000 in
theorem c_countThere (l : Launch) (E : En) (base aw : Nat) (S : Mm) (i n : Nat) (hm : MSh S i n) (g : Nat) (hg : g < 16) (u : Nat) (hu : u < 24) : Cn l E base aw yX1_countThere cX1_countThere 3 (none) 0 0 0 noF S [vr (1, i, 10), vi (nI g), vi (nI u)] (fun r S' => r = none ∧ S' = wI S (1, i, 12) (g * 24 + u) (S.1 (1, i, 12) (g * 24 + u) + 1)) := by
  refine Cn.of (by decide) (Nat.le_of_ble_eq_true rfl) ?_
  intro X Y hl hE hbase haw hfr C B
  subst hl; subst hE; subst hbase; subst haw
  refine g_aload_n (pc := 0) C dX1_countThere_0 rfl ?_
  refine g_getr (pc := 1) C fX1_15 rfl (hm.1 10 (by decide)) dX1_countThere_1 rfl hm.d1 ?_
  refine g_iload_n (pc := 4) C dX1_countThere_4 rfl ?_
  refine g_bipush (pc := 5) C 24 dX1_countThere_5 (by decide) ?_
  refine g_imul (pc := 7) C dX1_countThere_7 ?_
  refine g_eqi (nI (g * 24)) (pk_mul g 24) ?_
  refine g_iload_n (pc := 8) C dX1_countThere_8 rfl ?_
  refine g_iadd (pc := 9) C dX1_countThere_9 ?_
  refine g_eqi (nI ((g * 24) + u)) (nI_add (g * 24) u) ?_
  refine g_dup2 (pc := 10) C dX1_countThere_10 ?_
  refine g_ialdN (pc := 11) C rfl (hm.1 12 (by decide)) (by omega) (by decide) dX1_countThere_11 ?_
  refine g_iconst (pc := 12) C 1 dX1_countThere_12 (by decide) ?_
  refine g_iadd (pc := 13) C dX1_countThere_13 ?_
  refine g_iastN (pc := 14) C rfl (hm.1 12 (by decide)) (by omega) (by decide) dX1_countThere_14 ?_
  exact g_vret (pc := 15) C B dX1_countThere_15 (⟨rfl, rfl⟩)

set_option maxHeartbeats 400000 in
set_option maxRecDepth 100000 in
theorem c_salesAt (l : Launch) (E : En) (base aw : Nat) (S : Mm) (i n : Nat) (hm : MSh S i n) (g : Nat) (hg : g < 16) (u : Nat) (hu : u < 24) : Cn l E base aw yX1_salesAt cX1_salesAt 3 (some Jvm.ClassFile.FieldType.int) 0 0 0 noF S [vr (1, i, 10), vi (nI g), vi (nI u)] (fun r S' => r = some (vi (S.1 (1, i, 11) (g * 24 + u))) ∧ S' = S) := by
  refine Cn.of (by decide) (Nat.le_of_ble_eq_true rfl) ?_
  intro X Y hl hE hbase haw hfr C B
  subst hl; subst hE; subst hbase; subst haw
  refine g_aload_n (pc := 0) C dX1_salesAt_0 rfl ?_
  refine g_getr (pc := 1) C fX1_9 rfl (hm.1 10 (by decide)) dX1_salesAt_1 rfl hm.d0 ?_
  refine g_iload_n (pc := 4) C dX1_salesAt_4 rfl ?_
  refine g_bipush (pc := 5) C 24 dX1_salesAt_5 (by decide) ?_
  refine g_imul (pc := 7) C dX1_salesAt_7 ?_
  refine g_eqi (nI (g * 24)) (pk_mul g 24) ?_
  refine g_iload_n (pc := 8) C dX1_salesAt_8 rfl ?_
  refine g_iadd (pc := 9) C dX1_salesAt_9 ?_
  refine g_eqi (nI ((g * 24) + u)) (nI_add (g * 24) u) ?_
  refine g_ialdN (pc := 10) C rfl (hm.1 11 (by decide)) (by omega) (by decide) dX1_salesAt_10 ?_
  exact g_iret (pc := 11) C B rfl dX1_salesAt_11 (⟨rfl, rfl⟩)

set_option maxHeartbeats 400000 in
set_option maxRecDepth 100000 in
theorem c_thereAt (l : Launch) (E : En) (base aw : Nat) (S : Mm) (i n : Nat) (hm : MSh S i n) (g : Nat) (hg : g < 16) (u : Nat) (hu : u < 24) : Cn l E base aw yX1_hoursThereAt cX1_hoursThereAt 3 (some Jvm.ClassFile.FieldType.int) 0 0 0 noF S [vr (1, i, 10), vi (nI g), vi (nI u)] (fun r S' => r = some (vi (S.1 (1, i, 12) (g * 24 + u))) ∧ S' = S) := by
  refine Cn.of (by decide) (Nat.le_of_ble_eq_true rfl) ?_
  intro X Y hl hE hbase haw hfr C B
  subst hl; subst hE; subst hbase; subst haw
  refine g_aload_n (pc := 0) C dX1_hoursThereAt_0 rfl ?_
  refine g_getr (pc := 1) C fX1_15 rfl (hm.1 10 (by decide)) dX1_hoursThereAt_1 rfl hm.d1 ?_
  refine g_iload_n (pc := 4) C dX1_hoursThereAt_4 rfl ?_
  refine g_bipush (pc := 5) C 24 dX1_hoursThereAt_5 (by decide) ?_
  refine g_imul (pc := 7) C dX1_hoursThereAt_7 ?_
  refine g_eqi (nI (g * 24)) (pk_mul g 24) ?_
  refine g_iload_n (pc := 8) C dX1_hoursThereAt_8 rfl ?_
  refine g_iadd (pc := 9) C dX1_hoursThereAt_9 ?_
  refine g_eqi (nI ((g * 24) + u)) (nI_add (g * 24) u) ?_
  refine g_ialdN (pc := 10) C rfl (hm.1 12 (by decide)) (by omega) (by decide) dX1_hoursThereAt_10 ?_
  exact g_iret (pc := 11) C B rfl dX1_hoursThereAt_11 (⟨rfl, rfl⟩)

def v_xrate (S : Mm) (i : Nat) (g : Nat) (u : Nat) : Int32 := if (S.1 (1, i, 12) (g * 24 + u)) ≤ 0 then 0 else (1000 * (S.1 (1, i, 11) (g * 24 + u))) / (S.1 (1, i, 12) (g * 24 + u))
set_option maxHeartbeats 400000 in
set_option maxRecDepth 100000 in
theorem c_xrate (l : Launch) (E : En) (base aw : Nat) (S : Mm) (i n : Nat) (hm : MSh S i n) (g : Nat) (hg : g < 16) (u : Nat) (hu : u < 24) : Cn l E base aw yX1_rate cX1_rate 4 (some Jvm.ClassFile.FieldType.int) 1 0 0 noF S [vr (1, i, 10), vi (nI g), vi (nI u)] (fun r S' => r = some (vi (v_xrate S i g u)) ∧ S' = S) := by
  refine Cn.of (by decide) (Nat.le_of_ble_eq_true rfl) ?_
  intro X Y hl hE hbase haw hfr C B
  subst hl; subst hE; subst hbase; subst haw
  refine g_aload_n (pc := 0) C dX1_rate_0 rfl ?_
  refine g_iload_n (pc := 1) C dX1_rate_1 rfl ?_
  refine g_iload_n (pc := 2) C dX1_rate_2 rfl ?_
  refine g_callV (pc := 3) C B mX1_22 (c_thereAt _ _ _ _ _ i n hm g hg u hu) rfl rfl rfl rfl (hm.1 10 (by decide)) (by decide) ⟨Nat.le_refl _, Nat.le_refl _⟩ (Nat.le_of_ble_eq_true rfl) dX1_rate_3 (fun rr SS hP => ?_)
  rw [hP.1, hP.2]
  refine g_istore_n (pc := 6) C dX1_rate_6 (by decide) ?_
  refine g_iload_n (pc := 7) C dX1_rate_7 rfl ?_
  refine g_if_le (pc := 8) C 26 dX1_rate_8 (by decide) (fun h8 => ?_) (fun h8 => ?_)
  ·
    refine g_iconst (pc := 26) C 0 dX1_rate_26 (by decide) ?_
    exact g_iret (pc := 27) C B rfl dX1_rate_27 (⟨by show some (vi _) = some (vi (v_xrate S i g u)); unfold v_xrate; rw [if_pos h8], rfl⟩)
  ·
    refine g_sipush (pc := 11) C 1000 dX1_rate_11 (by decide) ?_
    refine g_aload_n (pc := 14) C dX1_rate_14 rfl ?_
    refine g_iload_n (pc := 15) C dX1_rate_15 rfl ?_
    refine g_iload_n (pc := 16) C dX1_rate_16 rfl ?_
    refine g_callV (pc := 17) C B mX1_25 (c_salesAt _ _ _ _ _ i n hm g hg u hu) rfl rfl rfl rfl (hm.1 10 (by decide)) (by decide) ⟨Nat.le_refl _, Nat.le_refl _⟩ (Nat.le_of_ble_eq_true rfl) dX1_rate_17 (fun rr SS hP => ?_)
    rw [hP.1, hP.2]
    refine g_imul (pc := 20) C dX1_rate_20 ?_
    refine g_iload_n (pc := 21) C dX1_rate_21 rfl ?_
    refine g_idiv (pc := 22) C dX1_rate_22 (fun q => h8 (by rw [q]; decide)) ?_
    refine g_goto (pc := 23) C 27 dX1_rate_23 (by decide) ?_
    exact g_iret (pc := 27) C B rfl dX1_rate_27 (⟨by show some (vi _) = some (vi (v_xrate S i g u)); unfold v_xrate; rw [if_neg h8], rfl⟩)

def fsX (S : Mm) (i g h : Nat) : Nat → Int32
  | 0 => 0
  | k + 1 => fsX S i g h k + v_xrate S i g ((h + k) % 24)
set_option maxHeartbeats 400000 in
set_option maxRecDepth 100000 in
theorem lp_foretold {X : Xt} {Y : Yt} {P : Option AV → Mm → Prop} {nm : String}  (C : Cx X Y cX1_foretold 6 RX1) (B : Bx X Y nm (some Jvm.ClassFile.FieldType.int) 2 0 0 P) {S : Mm} {i n g h t : Nat} (hm : MSh S i n) (hg : g < 16) (hh : h ≤ 3000) (ht : t ≤ 240) (K : G X Y 0 0 S 35 [(0, vr (1, i, 10)), (1, vi (nI g)), (2, vi (nI h)), (3, vi (nI t)), (4, vi (fsX S i g h t)), (5, vi (nI t))] []) : ∀ n9 w, w + n9 = t → G X Y 0 0 S 6 [(0, vr (1, i, 10)), (1, vi (nI g)), (2, vi (nI h)), (3, vi (nI t)), (4, vi (fsX S i g h w)), (5, vi (nI w))] [] := by
  intro n9
  induction n9 with
  | zero =>
    intro w hw
    have e : t = w := by omega
    subst e
    refine g_iload (pc := 6) C dX1_foretold_6 rfl ?_
    refine g_iload_n (pc := 8) C dX1_foretold_8 rfl ?_
    refine g_icmp_ge (pc := 9) C 35 dX1_foretold_9 (by decide) (fun _ => ?_) (fun h9 => absurd ((nI_leI (a := t) (b := t) (by omega) (by omega)).mpr (by omega)) h9)
    exact K
  | succ n9 ih =>
    intro w hw
    refine g_iload (pc := 6) C dX1_foretold_6 rfl ?_
    refine g_iload_n (pc := 8) C dX1_foretold_8 rfl ?_
    refine g_icmp_ge (pc := 9) C 35 dX1_foretold_9 (by decide) (fun h9 => absurd h9 (fun q => absurd ((nI_leI (a := t) (b := w) (by omega) (by omega)).mp q) (by omega))) (fun _ => ?_)
    refine g_iload (pc := 12) C dX1_foretold_12 rfl ?_
    refine g_aload_n (pc := 14) C dX1_foretold_14 rfl ?_
    refine g_iload_n (pc := 15) C dX1_foretold_15 rfl ?_
    refine g_iload_n (pc := 16) C dX1_foretold_16 rfl ?_
    refine g_iload (pc := 17) C dX1_foretold_17 rfl ?_
    refine g_iadd (pc := 19) C dX1_foretold_19 ?_
    refine g_eqi (nI (h + w)) (nI_add h w) ?_
    refine g_bipush (pc := 20) C 24 dX1_foretold_20 (by decide) ?_
    refine g_irem (pc := 22) C dX1_foretold_22 (by decide) ?_
    refine g_eqi (nI ((h + w) % 24)) (pk_rem (a := h + w) (d := 24) (by omega) (by decide) (by decide)) ?_
    refine g_callV (pc := 23) C B mX1_18 (c_xrate _ _ _ _ _ i n hm g hg ((h + w) % 24) (by omega)) rfl rfl rfl rfl (hm.1 10 (by decide)) (by decide) ⟨Nat.le_refl _, Nat.le_refl _⟩ (Nat.le_of_ble_eq_true rfl) dX1_foretold_23 (fun rr SS hP => ?_)
    rw [hP.1, hP.2]
    refine g_iadd (pc := 26) C dX1_foretold_26 ?_
    refine g_istore (pc := 27) C dX1_foretold_27 (by decide) ?_
    refine g_iincN (pc := 29) C 1 dX1_foretold_29 rfl (by decide) (by decide) ?_
    refine g_goto (pc := 32) C 6 dX1_foretold_32 (by decide) ?_
    exact g_subR (ih (w + 1) (by omega)) ⟨rfl, rfl, rfl, rfl, rfl, rfl, trivial⟩
set_option maxHeartbeats 400000 in
set_option maxRecDepth 100000 in
theorem c_foretold (l : Launch) (E : En) (base aw : Nat) (S : Mm) (i n : Nat) (hm : MSh S i n) (g : Nat) (hg : g < 16) (h : Nat) (hh : h ≤ 3000) (t : Nat) (ht : t ≤ 240) : Cn l E base aw yX1_foretold cX1_foretold 6 (some Jvm.ClassFile.FieldType.int) 2 0 0 noF S [vr (1, i, 10), vi (nI g), vi (nI h), vi (nI t)] (fun r S' => r = some (vi (fsX S i g h t)) ∧ S' = S) := by
  refine Cn.of (by decide) (Nat.le_of_ble_eq_true rfl) ?_
  intro X Y hl hE hbase haw hfr C B
  subst hl; subst hE; subst hbase; subst haw
  refine g_iconst (pc := 0) C 0 dX1_foretold_0 (by decide) ?_
  refine g_istore (pc := 1) C dX1_foretold_1 (by decide) ?_
  refine g_iconst (pc := 3) C 0 dX1_foretold_3 (by decide) ?_
  refine g_istore (pc := 4) C dX1_foretold_4 (by decide) ?_
  refine g_subR (lp_foretold C B hm hg hh ht ?_ t 0 (by omega)) ⟨rfl, rfl, rfl, rfl, rfl, rfl, trivial⟩
  refine g_iload (pc := 35) C dX1_foretold_35 rfl ?_
  exact g_iret (pc := 37) C B rfl dX1_foretold_37 (⟨rfl, rfl⟩)

def whX (S : Mm) (i g h : Nat) (q : Int32) : Nat → Nat → Int32 → Int32
  | 0, _, _ => -9
  | f + 1, c, s => if s + v_xrate S i g ((h + c - 1) % 24) < q then whX S i g h q f (c + 1) (s + v_xrate S i g ((h + c - 1) % 24)) else nI c
set_option maxHeartbeats 400000 in
set_option maxRecDepth 100000 in
theorem lp_till {X : Xt} {Y : Yt} {P : Option AV → Mm → Prop} {nm : String} (C : Cx X Y cX1_hoursTill 6 RX1) (B : Bx X Y nm (some .int) 2 0 0 P) {S : Mm} {i n g h : Nat} {q : Int32} (hm : MSh S i n) (hg : g < 16) (hh : h ≤ 3000) : ∀ (f c : Nat) (s : Int32), 1 ≤ c → c + f = 241 → P (some (vi (whX S i g h q f c s))) S → G X Y 0 0 S 6 [(0, vr (1, i, 10)), (1, vi (nI g)), (2, vi (nI h)), (3, vi (q)), (4, vi (s)), (5, vi (nI c))] [] := by
  intro f
  induction f with
  | zero =>
    intro c s hc1 hc hP0
    have e : 241 = c := by omega
    subst e
    refine g_iload (pc := 6) C dX1_hoursTill_6 rfl ?_
    refine g_sipush (pc := 8) C 240 dX1_hoursTill_8 (by decide) ?_
    refine g_icmp_gt (pc := 11) C 48 dX1_hoursTill_11 (by decide) (fun _ => ?_) (fun h11 => absurd ((nI_ltI (a := 240) (b := 241) (by omega) (by omega)).mpr (by omega)) h11)
    refine g_bipush (pc := 48) C (-9) dX1_hoursTill_48 (by decide) ?_
    exact g_iret (pc := 50) C B rfl dX1_hoursTill_50 (hP0)
  | succ f ih =>
    intro c s hc1 hc hP0
    refine g_iload (pc := 6) C dX1_hoursTill_6 rfl ?_
    refine g_sipush (pc := 8) C 240 dX1_hoursTill_8 (by decide) ?_
    refine g_icmp_gt (pc := 11) C 48 dX1_hoursTill_11 (by decide) (fun h11 => absurd h11 (fun q => absurd ((nI_ltI (a := 240) (b := c) (by omega) (by omega)).mp q) (by omega))) (fun _ => ?_)
    refine g_iload (pc := 14) C dX1_hoursTill_14 rfl ?_
    refine g_aload_n (pc := 16) C dX1_hoursTill_16 rfl ?_
    refine g_iload_n (pc := 17) C dX1_hoursTill_17 rfl ?_
    refine g_iload_n (pc := 18) C dX1_hoursTill_18 rfl ?_
    refine g_iload (pc := 19) C dX1_hoursTill_19 rfl ?_
    refine g_iadd (pc := 21) C dX1_hoursTill_21 ?_
    refine g_eqi (nI (h + c)) (nI_add h c) ?_
    refine g_iconst (pc := 22) C 1 dX1_hoursTill_22 (by decide) ?_
    refine g_isub (pc := 23) C dX1_hoursTill_23 ?_
    refine g_eqi (nI (h + c - 1)) (pk_sub (a := h + c) (b := 1) (by omega)) ?_
    refine g_bipush (pc := 24) C 24 dX1_hoursTill_24 (by decide) ?_
    refine g_irem (pc := 26) C dX1_hoursTill_26 (by decide) ?_
    refine g_eqi (nI ((h + c - 1) % 24)) (pk_rem (a := h + c - 1) (d := 24) (by omega) (by decide) (by decide)) ?_
    refine g_callV (pc := 27) C B mX1_18 (c_xrate _ _ _ _ _ i n hm g hg ((h + c - 1) % 24) (by omega)) rfl rfl rfl rfl (hm.1 10 (by decide)) (by decide) ⟨Nat.le_refl _, Nat.le_refl _⟩ (Nat.le_of_ble_eq_true rfl) dX1_hoursTill_27 (fun rr SS hP => ?_)
    rw [hP.1, hP.2]
    refine g_iadd (pc := 30) C dX1_hoursTill_30 ?_
    refine g_istore (pc := 31) C dX1_hoursTill_31 (by decide) ?_
    refine g_iload (pc := 33) C dX1_hoursTill_33 rfl ?_
    refine g_iload_n (pc := 35) C dX1_hoursTill_35 rfl ?_
    refine g_icmp_lt (pc := 36) C 42 dX1_hoursTill_36 (by decide) (fun h36 => ?_) (fun h36 => ?_)
    ·
      refine g_iincN (pc := 42) C 1 dX1_hoursTill_42 rfl (by decide) (by decide) ?_
      refine g_goto (pc := 45) C 6 dX1_hoursTill_45 (by decide) ?_
      refine g_subR (ih (c + 1) (s + v_xrate S i g ((h + c - 1) % 24)) (by omega) (by omega) (by rw [whX, if_pos h36] at hP0; exact hP0)) ⟨rfl, rfl, rfl, rfl, rfl, rfl, trivial⟩
    ·
      refine g_iload (pc := 39) C dX1_hoursTill_39 rfl ?_
      exact g_iret (pc := 41) C B rfl dX1_hoursTill_41 (by rw [whX, if_neg h36] at hP0; exact hP0)
set_option maxHeartbeats 400000 in
set_option maxRecDepth 100000 in
theorem c_till (l : Launch) (E : En) (base aw : Nat) (S : Mm) (i n : Nat) (hm : MSh S i n) (g : Nat) (hg : g < 16) (h : Nat) (hh : h ≤ 3000) (q : Int32) : Cn l E base aw yX1_hoursTill cX1_hoursTill 6 (some Jvm.ClassFile.FieldType.int) 2 0 0 noF S [vr (1, i, 10), vi (nI g), vi (nI h), vi q] (fun r S' => r = some (vi (whX S i g h q 240 1 0)) ∧ S' = S) := by
  refine Cn.of (by decide) (Nat.le_of_ble_eq_true rfl) ?_
  intro X Y hl hE hbase haw hfr C B
  subst hl; subst hE; subst hbase; subst haw
  refine g_iconst (pc := 0) C 0 dX1_hoursTill_0 (by decide) ?_
  refine g_istore (pc := 1) C dX1_hoursTill_1 (by decide) ?_
  refine g_iconst (pc := 3) C 1 dX1_hoursTill_3 (by decide) ?_
  refine g_istore (pc := 4) C dX1_hoursTill_4 (by decide) ?_
  exact g_subR (lp_till C B hm hg hh 240 1 0 (by decide) rfl ⟨rfl, rfl⟩) ⟨rfl, rfl, rfl, rfl, rfl, rfl, trivial⟩

