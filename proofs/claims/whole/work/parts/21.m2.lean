set_option maxHeartbeats 4000000 in
set_option maxRecDepth 100000 in
theorem c_in_t (l : Launch) (E : En) (base aw : Nat) (S : Mm) (v lo hi : Int32) (h : lo ≤ v ∧ v ≤ hi) : Cn l E base aw yX7_in cX7_in 3 (some Jvm.ClassFile.FieldType.boolean) 0 0 0 noF S [vi v, vi lo, vi hi] (fun r S' => r = some (vi 1) ∧ S' = S) := by
  refine Cn.of (by decide) (Nat.le_of_ble_eq_true rfl) ?_
  intro X Y hl hE hbase haw hfr C B
  subst hl; subst hE; subst hbase; subst haw
  refine g_iload_n (pc := 0) C dX7_in_0 rfl ?_
  refine g_iload_n (pc := 1) C dX7_in_1 rfl ?_
  refine g_icmp_lt (pc := 2) C 14 dX7_in_2 (by decide) (fun h2 => absurd h2 (Int32.not_lt.mpr h.1)) (fun _ => ?_)
  refine g_iload_n (pc := 5) C dX7_in_5 rfl ?_
  refine g_iload_n (pc := 6) C dX7_in_6 rfl ?_
  refine g_icmp_gt (pc := 7) C 14 dX7_in_7 (by decide) (fun h7 => absurd h7 (Int32.not_lt.mpr h.2)) (fun _ => ?_)
  refine g_iconst (pc := 10) C 1 dX7_in_10 (by decide) ?_
  refine g_goto (pc := 11) C 15 dX7_in_11 (by decide) ?_
  exact g_iret (pc := 15) C B rfl dX7_in_15 (⟨rfl, rfl⟩)

set_option maxHeartbeats 4000000 in
set_option maxRecDepth 100000 in
theorem c_in_f (l : Launch) (E : En) (base aw : Nat) (S : Mm) (v lo hi : Int32) (h : ¬ (lo ≤ v ∧ v ≤ hi)) : Cn l E base aw yX7_in cX7_in 3 (some Jvm.ClassFile.FieldType.boolean) 0 0 0 noF S [vi v, vi lo, vi hi] (fun r S' => r = some (vi 0) ∧ S' = S) := by
  refine Cn.of (by decide) (Nat.le_of_ble_eq_true rfl) ?_
  intro X Y hl hE hbase haw hfr C B
  subst hl; subst hE; subst hbase; subst haw
  refine g_iload_n (pc := 0) C dX7_in_0 rfl ?_
  refine g_iload_n (pc := 1) C dX7_in_1 rfl ?_
  refine g_icmp_lt (pc := 2) C 14 dX7_in_2 (by decide) (fun h2 => ?_) (fun h2 => ?_)
  ·
    refine g_iconst (pc := 14) C 0 dX7_in_14 (by decide) ?_
    exact g_iret (pc := 15) C B rfl dX7_in_15 (⟨rfl, rfl⟩)
  ·
    refine g_iload_n (pc := 5) C dX7_in_5 rfl ?_
    refine g_iload_n (pc := 6) C dX7_in_6 rfl ?_
    refine g_icmp_gt (pc := 7) C 14 dX7_in_7 (by decide) (fun h7 => ?_) (fun h7 => ?_)
    ·
      refine g_iconst (pc := 14) C 0 dX7_in_14 (by decide) ?_
      exact g_iret (pc := 15) C B rfl dX7_in_15 (⟨rfl, rfl⟩)
    ·
      refine g_iconst (pc := 10) C 1 dX7_in_10 (by decide) ?_
      refine g_goto (pc := 11) C 15 dX7_in_11 (by decide) ?_
      exact g_iret (pc := 15) C B rfl dX7_in_15 (absurd ⟨Int32.not_lt.mp h2, Int32.not_lt.mp h7⟩ h)

def okL (mc : Nat) (lc : Nat → Nat) (x y : Int32) : Prop := ∃ i j, i < mc ∧ j < lc i ∧ x = nI i ∧ y = nI j
set_option maxHeartbeats 4000000 in
set_option maxRecDepth 100000 in
theorem c_isL_t (l : Launch) (E : En) (base aw : Nat) (S : Mm) (mc : Nat) (lc : Nat → Nat) (hI : IM S mc lc) (i : Nat) (hi : i < mc) (j : Nat) (hj : j < lc i) : Cn l E base aw yX7_isLane cX7_isLane 3 (some Jvm.ClassFile.FieldType.boolean) 2 0 0 noF S [vr (2, 0, 0), vi (nI i), vi (nI j)] (fun r S' => r = some (vi 1) ∧ S' = S) := by
  have hM := hI.1
  have hmc := hI.2.2.1
  have hlc := (hI.2.2.2 i (by omega)).2
  refine Cn.of (by decide) (Nat.le_of_ble_eq_true rfl) ?_
  intro X Y hl hE hbase haw hfr C B
  subst hl; subst hE; subst hbase; subst haw
  refine g_aload_n (pc := 0) C dX7_isLane_0 rfl ?_
  refine g_iload_n (pc := 1) C dX7_isLane_1 rfl ?_
  refine g_callV (pc := 2) C B mX7_112 (c_isM_t _ _ _ _ _ mc lc hI i hi) rfl rfl rfl rfl hM.1 (by decide) ⟨Nat.le_refl _, Nat.le_refl _⟩ (Nat.le_of_ble_eq_true rfl) dX7_isLane_2 (fun r S' hP => ?_)
  rw [hP.1, hP.2]
  refine g_if_eq (pc := 5) C 28 dX7_isLane_5 (by decide) (fun h5 => absurd h5 (by decide)) (fun _ => ?_)
  refine g_iload_n (pc := 8) C dX7_isLane_8 rfl ?_
  refine g_iconst (pc := 9) C 0 dX7_isLane_9 (by decide) ?_
  refine g_aload_n (pc := 10) C dX7_isLane_10 rfl ?_
  refine g_getr (pc := 11) C fX7_7 rfl hM.1 dX7_isLane_11 rfl (hM.2 2 rfl).1 ?_
  refine g_iload_n (pc := 14) C dX7_isLane_14 rfl ?_
  refine g_ialdN (pc := 15) C rfl (hM.2 2 rfl).2 (by omega) (by decide) dX7_isLane_15 ?_
  refine g_iconst (pc := 16) C 1 dX7_isLane_16 (by decide) ?_
  refine g_isub (pc := 17) C dX7_isLane_17 ?_
  refine g_callS (pc := 18) C B mX7_108 (c_in_t _ _ _ _ _ _ _ _ (by rw [(hI.2.2.2 i (by omega)).1]; exact in_t hj (by omega))) rfl rfl (by decide) ⟨Nat.le_refl _, Nat.le_refl _⟩ (Nat.le_of_ble_eq_true rfl) dX7_isLane_18 (fun r S' hP => ?_)
  rw [hP.1, hP.2]
  refine g_if_eq (pc := 21) C 28 dX7_isLane_21 (by decide) (fun h21 => absurd h21 (by decide)) (fun _ => ?_)
  refine g_iconst (pc := 24) C 1 dX7_isLane_24 (by decide) ?_
  refine g_goto (pc := 25) C 29 dX7_isLane_25 (by decide) ?_
  exact g_iret (pc := 29) C B rfl dX7_isLane_29 (⟨rfl, rfl⟩)

set_option maxHeartbeats 4000000 in
set_option maxRecDepth 100000 in
theorem c_isL_f (l : Launch) (E : En) (base aw : Nat) (S : Mm) (mc : Nat) (lc : Nat → Nat) (hI : IM S mc lc) (x y : Int32) (hx : ¬ okL mc lc x y) : Cn l E base aw yX7_isLane cX7_isLane 3 (some Jvm.ClassFile.FieldType.boolean) 2 0 0 noF S [vr (2, 0, 0), vi x, vi y] (fun r S' => r = some (vi 0) ∧ S' = S) := by
  have hM := hI.1
  have hmc := hI.2.2.1
  by_cases hm : okN mc x
  ·
    obtain ⟨i, hi, rfl⟩ := hm
    have hlc := (hI.2.2.2 i (by omega)).2
    have hy : ¬ okN (lc i) y := fun ⟨j, hj, e⟩ => hx ⟨i, j, hi, hj, rfl, e⟩
    refine Cn.of (by decide) (Nat.le_of_ble_eq_true rfl) ?_
    intro X Y hl hE hbase haw hfr C B
    subst hl; subst hE; subst hbase; subst haw
    refine g_aload_n (pc := 0) C dX7_isLane_0 rfl ?_
    refine g_iload_n (pc := 1) C dX7_isLane_1 rfl ?_
    refine g_callV (pc := 2) C B mX7_112 (c_isM_t _ _ _ _ _ mc lc hI i hi) rfl rfl rfl rfl hM.1 (by decide) ⟨Nat.le_refl _, Nat.le_refl _⟩ (Nat.le_of_ble_eq_true rfl) dX7_isLane_2 (fun r S' hP => ?_)
    rw [hP.1, hP.2]
    refine g_if_eq (pc := 5) C 28 dX7_isLane_5 (by decide) (fun h5 => absurd h5 (by decide)) (fun _ => ?_)
    refine g_iload_n (pc := 8) C dX7_isLane_8 rfl ?_
    refine g_iconst (pc := 9) C 0 dX7_isLane_9 (by decide) ?_
    refine g_aload_n (pc := 10) C dX7_isLane_10 rfl ?_
    refine g_getr (pc := 11) C fX7_7 rfl hM.1 dX7_isLane_11 rfl (hM.2 2 rfl).1 ?_
    refine g_iload_n (pc := 14) C dX7_isLane_14 rfl ?_
    refine g_ialdN (pc := 15) C rfl (hM.2 2 rfl).2 (by omega) (by decide) dX7_isLane_15 ?_
    refine g_iconst (pc := 16) C 1 dX7_isLane_16 (by decide) ?_
    refine g_isub (pc := 17) C dX7_isLane_17 ?_
    refine g_callS (pc := 18) C B mX7_108 (c_in_f _ _ _ _ _ _ _ _ (by rw [(hI.2.2.2 i (by omega)).1]; exact in_f (by omega) hy)) rfl rfl (by decide) ⟨Nat.le_refl _, Nat.le_refl _⟩ (Nat.le_of_ble_eq_true rfl) dX7_isLane_18 (fun r S' hP => ?_)
    rw [hP.1, hP.2]
    refine g_if_eq (pc := 21) C 28 dX7_isLane_21 (by decide) (fun _ => ?_) (fun h21 => absurd (by decide) h21)
    refine g_iconst (pc := 28) C 0 dX7_isLane_28 (by decide) ?_
    exact g_iret (pc := 29) C B rfl dX7_isLane_29 (⟨rfl, rfl⟩)
  ·
    have hx := hm
    refine Cn.of (by decide) (Nat.le_of_ble_eq_true rfl) ?_
    intro X Y hl hE hbase haw hfr C B
    subst hl; subst hE; subst hbase; subst haw
    refine g_aload_n (pc := 0) C dX7_isLane_0 rfl ?_
    refine g_iload_n (pc := 1) C dX7_isLane_1 rfl ?_
    refine g_callV (pc := 2) C B mX7_112 (c_isM_f _ _ _ _ _ mc lc hI x hx) rfl rfl rfl rfl hM.1 (by decide) ⟨Nat.le_refl _, Nat.le_refl _⟩ (Nat.le_of_ble_eq_true rfl) dX7_isLane_2 (fun r S' hP => ?_)
    rw [hP.1, hP.2]
    refine g_if_eq (pc := 5) C 28 dX7_isLane_5 (by decide) (fun _ => ?_) (fun h5 => absurd (by decide) h5)
    refine g_iconst (pc := 28) C 0 dX7_isLane_28 (by decide) ?_
    exact g_iret (pc := 29) C B rfl dX7_isLane_29 (⟨rfl, rfl⟩)

def t_X7_machine (S : Mm)  : Option AV × Mm := if (S.1 (2, 0, 0) 1) = 6 then (some (vi ((-6))), rfM S 6) else (some (vi (((wI S (2, 0, 0) 1 ((S.1 (2, 0, 0) 1) + 1)).1 (2, 0, 0) 1) - 1)), wI S (2, 0, 0) 1 ((S.1 (2, 0, 0) 1) + 1))
set_option maxHeartbeats 4000000 in
set_option maxRecDepth 100000 in
/-- machine() -/
theorem c_X7_machine (l : Launch) (E : En) (base aw : Nat) (S : Mm) (mc : Nat) (lc : Nat → Nat) (hI : IM S mc lc) : Cn l E base aw yX7_machine cX7_machine 1 (some Jvm.ClassFile.FieldType.int) 1 0 0 noF S [vr (2, 0, 0)] (fun r S' => (r, S') = t_X7_machine S ) := by
  have hM := hI.1
  have hmc := hI.2.2.1
  refine Cn.of (by decide) (Nat.le_of_ble_eq_true rfl) ?_
  intro X Y hl hE hbase haw hfr C B
  subst hl; subst hE; subst hbase; subst haw
  refine g_aload_n (pc := 0) C dX7_machine_0 rfl ?_
  refine g_geti (pc := 1) C fX7_104 rfl hM.1 dX7_machine_1 rfl ?_
  refine g_bipush (pc := 4) C 6 dX7_machine_4 (by decide) ?_
  refine g_icmp_ne (pc := 6) C 16 dX7_machine_6 (by decide) (fun h6 => ?_) (fun h6 => ?_)
  ·
    refine g_aload_n (pc := 16) C dX7_machine_16 rfl ?_
    refine g_dup (pc := 17) C dX7_machine_17 ?_
    refine g_geti (pc := 18) C fX7_104 rfl hM.1 dX7_machine_18 rfl ?_
    refine g_iconst (pc := 21) C 1 dX7_machine_21 (by decide) ?_
    refine g_iadd (pc := 22) C dX7_machine_22 ?_
    refine g_puti (pc := 23) C fX7_104 (Or.inl fm7_1) rfl hM.1 dX7_machine_23 (Or.inl rfl) ?_
    refine g_aload_n (pc := 26) C dX7_machine_26 rfl ?_
    refine g_geti (pc := 27) C fX7_104 rfl hM.1 dX7_machine_27 rfl ?_
    refine g_iconst (pc := 30) C 1 dX7_machine_30 (by decide) ?_
    refine g_isub (pc := 31) C dX7_machine_31 ?_
    exact g_iret (pc := 32) C B rfl dX7_machine_32 (by show (_, _) = t_X7_machine S ; unfold t_X7_machine; rw [if_neg h6])
  ·
    refine g_aload_n (pc := 9) C dX7_machine_9 rfl ?_
    refine g_bipush (pc := 10) C (-6) dX7_machine_10 (by decide) ?_
    refine g_callV (pc := 12) C B mX7_116 (c_mrefuse _ _ _ _ _ hM (-6) 6 (by decide) (by decide)) rfl rfl rfl rfl hM.1 (by decide) ⟨Nat.le_refl _, Nat.le_refl _⟩ (Nat.le_of_ble_eq_true rfl) dX7_machine_12 (fun r S' hP => ?_)
    rw [hP.1, hP.2]
    exact g_iret (pc := 15) C B rfl dX7_machine_15 (by show (_, _) = t_X7_machine S ; unfold t_X7_machine; rw [if_pos h6])

def t_X7_size (S : Mm) (g : Nat) (v : Int32) : Option AV × Mm := if 1 ≤ v then (if v ≤ 9 then (some (vi (S.1 (2, 0, 20) g)), wI S (2, 0, 20) g v) else (some (vi ((-6))), rfM S 6)) else (some (vi ((-4))), rfM S 4)
set_option maxHeartbeats 4000000 in
set_option maxRecDepth 100000 in
/-- size(g, v) -/
theorem c_X7_size (l : Launch) (E : En) (base aw : Nat) (S : Mm) (hM : ShM S) (g : Nat) (hg : g < 16) (v : Int32) : Cn l E base aw yX7_size cX7_size 4 (some Jvm.ClassFile.FieldType.int) 1 0 0 noF S [vr (2, 0, 0), vi (nI g), vi v] (fun r S' => (r, S') = t_X7_size S g v) := by
  refine Cn.of (by decide) (Nat.le_of_ble_eq_true rfl) ?_
  intro X Y hl hE hbase haw hfr C B
  subst hl; subst hE; subst hbase; subst haw
  refine g_iload_n (pc := 0) C dX7_size_0 rfl ?_
  refine g_iconst (pc := 1) C 0 dX7_size_1 (by decide) ?_
  refine g_bipush (pc := 2) C 15 dX7_size_2 (by decide) ?_
  refine g_callS (pc := 4) C B mX7_108 (c_in_t _ _ _ _ _ _ _ _ (okW_t (n := 15) (by omega) (by decide))) rfl rfl (by decide) ⟨Nat.le_refl _, Nat.le_refl _⟩ (Nat.le_of_ble_eq_true rfl) dX7_size_4 (fun r S' hP => ?_)
  rw [hP.1, hP.2]
  refine g_if_ne (pc := 7) C 16 dX7_size_7 (by decide) (fun _ => ?_) (fun h7 => absurd h7 (by decide))
  refine g_iload_n (pc := 16) C dX7_size_16 rfl ?_
  refine g_iconst (pc := 17) C 1 dX7_size_17 (by decide) ?_
  refine g_icmp_ge (pc := 18) C 28 dX7_size_18 (by decide) (fun h18 => ?_) (fun h18 => ?_)
  ·
    refine g_iload_n (pc := 28) C dX7_size_28 rfl ?_
    refine g_bipush (pc := 29) C 9 dX7_size_29 (by decide) ?_
    refine g_icmp_le (pc := 31) C 41 dX7_size_31 (by decide) (fun h31 => ?_) (fun h31 => ?_)
    ·
      refine g_aload_n (pc := 41) C dX7_size_41 rfl ?_
      refine g_getr (pc := 42) C fX7_65 rfl hM.1 dX7_size_42 rfl (hM.2 20 rfl).1 ?_
      refine g_iload_n (pc := 45) C dX7_size_45 rfl ?_
      refine g_ialdN (pc := 46) C rfl (hM.2 20 rfl).2 (by omega) (by decide) dX7_size_46 ?_
      refine g_istore_n (pc := 47) C dX7_size_47 (by decide) ?_
      refine g_aload_n (pc := 48) C dX7_size_48 rfl ?_
      refine g_getr (pc := 49) C fX7_65 rfl hM.1 dX7_size_49 rfl (hM.2 20 rfl).1 ?_
      refine g_iload_n (pc := 52) C dX7_size_52 rfl ?_
      refine g_iload_n (pc := 53) C dX7_size_53 rfl ?_
      refine g_iastN (pc := 54) C rfl (hM.2 20 rfl).2 (by omega) (by decide) dX7_size_54 ?_
      refine g_iload_n (pc := 55) C dX7_size_55 rfl ?_
      exact g_iret (pc := 56) C B rfl dX7_size_56 (by show (_, _) = t_X7_size S g v; unfold t_X7_size; rw [if_pos h18, if_pos h31])
    ·
      refine g_aload_n (pc := 34) C dX7_size_34 rfl ?_
      refine g_bipush (pc := 35) C (-6) dX7_size_35 (by decide) ?_
      refine g_callV (pc := 37) C B mX7_116 (c_mrefuse _ _ _ _ _ hM (-6) 6 (by decide) (by decide)) rfl rfl rfl rfl hM.1 (by decide) ⟨Nat.le_refl _, Nat.le_refl _⟩ (Nat.le_of_ble_eq_true rfl) dX7_size_37 (fun r S' hP => ?_)
      rw [hP.1, hP.2]
      exact g_iret (pc := 40) C B rfl dX7_size_40 (by show (_, _) = t_X7_size S g v; unfold t_X7_size; rw [if_pos h18, if_neg h31])
  ·
    refine g_aload_n (pc := 21) C dX7_size_21 rfl ?_
    refine g_bipush (pc := 22) C (-4) dX7_size_22 (by decide) ?_
    refine g_callV (pc := 24) C B mX7_116 (c_mrefuse _ _ _ _ _ hM (-4) 4 (by decide) (by decide)) rfl rfl rfl rfl hM.1 (by decide) ⟨Nat.le_refl _, Nat.le_refl _⟩ (Nat.le_of_ble_eq_true rfl) dX7_size_24 (fun r S' hP => ?_)
    rw [hP.1, hP.2]
    exact g_iret (pc := 27) C B rfl dX7_size_27 (by show (_, _) = t_X7_size S g v; unfold t_X7_size; rw [if_neg h18])

set_option maxHeartbeats 4000000 in
set_option maxRecDepth 100000 in
theorem c_X7_size_b (l : Launch) (E : En) (base aw : Nat) (S : Mm) (hM : ShM S) (p0 p1 : Int32) (hx : ¬ okN 16 p0) : Cn l E base aw yX7_size cX7_size 4 (some Jvm.ClassFile.FieldType.int) 1 0 0 noF S [vr (2, 0, 0), vi p0, vi p1] (fun r S' => r = some (vi (-1)) ∧ S' = rfM S 1) := by
  refine Cn.of (by decide) (Nat.le_of_ble_eq_true rfl) ?_
  intro X Y hl hE hbase haw hfr C B
  subst hl; subst hE; subst hbase; subst haw
  refine g_iload_n (pc := 0) C dX7_size_0 rfl ?_
  refine g_iconst (pc := 1) C 0 dX7_size_1 (by decide) ?_
  refine g_bipush (pc := 2) C 15 dX7_size_2 (by decide) ?_
  refine g_callS (pc := 4) C B mX7_108 (c_in_f _ _ _ _ _ _ _ _ (okW_f (n := 15) (by decide) hx)) rfl rfl (by decide) ⟨Nat.le_refl _, Nat.le_refl _⟩ (Nat.le_of_ble_eq_true rfl) dX7_size_4 (fun r S' hP => ?_)
  rw [hP.1, hP.2]
  refine g_if_ne (pc := 7) C 16 dX7_size_7 (by decide) (fun h7 => absurd (by decide) h7) (fun _ => ?_)
  refine g_aload_n (pc := 10) C dX7_size_10 rfl ?_
  refine g_iconst (pc := 11) C (-1) dX7_size_11 (by decide) ?_
  refine g_callV (pc := 12) C B mX7_116 (c_mrefuse _ _ _ _ _ hM (-1) 1 (by decide) (by decide)) rfl rfl rfl rfl hM.1 (by decide) ⟨Nat.le_refl _, Nat.le_refl _⟩ (Nat.le_of_ble_eq_true rfl) dX7_size_12 (fun r S' hP => ?_)
  rw [hP.1, hP.2]
  exact g_iret (pc := 15) C B rfl dX7_size_15 (⟨rfl, rfl⟩)

set_option maxHeartbeats 4000000 in
set_option maxRecDepth 100000 in
theorem c_X7_given_b (l : Launch) (E : En) (base aw : Nat) (S : Mm) (hM : ShM S) (p0 : Int32) (hx : ¬ okN 6 p0) : Cn l E base aw yX7_given cX7_given 2 (some Jvm.ClassFile.FieldType.int) 1 0 0 noF S [vr (2, 0, 0), vi p0] (fun r S' => r = some (vi (-1)) ∧ S' = rfM S 1) := by
  refine Cn.of (by decide) (Nat.le_of_ble_eq_true rfl) ?_
  intro X Y hl hE hbase haw hfr C B
  subst hl; subst hE; subst hbase; subst haw
  refine g_iload_n (pc := 0) C dX7_given_0 rfl ?_
  refine g_iconst (pc := 1) C 0 dX7_given_1 (by decide) ?_
  refine g_iconst (pc := 2) C 5 dX7_given_2 (by decide) ?_
  refine g_callS (pc := 3) C B mX7_108 (c_in_f _ _ _ _ _ _ _ _ (okW_f (n := 5) (by decide) hx)) rfl rfl (by decide) ⟨Nat.le_refl _, Nat.le_refl _⟩ (Nat.le_of_ble_eq_true rfl) dX7_given_3 (fun r S' hP => ?_)
  rw [hP.1, hP.2]
  refine g_if_eq (pc := 6) C 18 dX7_given_6 (by decide) (fun _ => ?_) (fun h6 => absurd (by decide) h6)
  refine g_aload_n (pc := 18) C dX7_given_18 rfl ?_
  refine g_iconst (pc := 19) C (-1) dX7_given_19 (by decide) ?_
  refine g_callV (pc := 20) C B mX7_116 (c_mrefuse _ _ _ _ _ hM (-1) 1 (by decide) (by decide)) rfl rfl rfl rfl hM.1 (by decide) ⟨Nat.le_refl _, Nat.le_refl _⟩ (Nat.le_of_ble_eq_true rfl) dX7_given_20 (fun r S' hP => ?_)
  rw [hP.1, hP.2]
  exact g_iret (pc := 23) C B rfl dX7_given_23 (⟨rfl, rfl⟩)

def t_X7_given (S : Mm) (g : Nat) : Option AV × Mm := (some (vi (S.1 (2, 0, 28) g)), S)
set_option maxHeartbeats 4000000 in
set_option maxRecDepth 100000 in
/-- given(w) -/
theorem c_X7_given (l : Launch) (E : En) (base aw : Nat) (S : Mm) (hM : ShM S) (g : Nat) (hg : g < 6) : Cn l E base aw yX7_given cX7_given 2 (some Jvm.ClassFile.FieldType.int) 1 0 0 noF S [vr (2, 0, 0), vi (nI g)] (fun r S' => (r, S') = t_X7_given S g) := by
  refine Cn.of (by decide) (Nat.le_of_ble_eq_true rfl) ?_
  intro X Y hl hE hbase haw hfr C B
  subst hl; subst hE; subst hbase; subst haw
  refine g_iload_n (pc := 0) C dX7_given_0 rfl ?_
  refine g_iconst (pc := 1) C 0 dX7_given_1 (by decide) ?_
  refine g_iconst (pc := 2) C 5 dX7_given_2 (by decide) ?_
  refine g_callS (pc := 3) C B mX7_108 (c_in_t _ _ _ _ _ _ _ _ (okW_t (n := 5) (by omega) (by decide))) rfl rfl (by decide) ⟨Nat.le_refl _, Nat.le_refl _⟩ (Nat.le_of_ble_eq_true rfl) dX7_given_3 (fun r S' hP => ?_)
  rw [hP.1, hP.2]
  refine g_if_eq (pc := 6) C 18 dX7_given_6 (by decide) (fun h6 => absurd h6 (by decide)) (fun _ => ?_)
  refine g_aload_n (pc := 9) C dX7_given_9 rfl ?_
  refine g_getr (pc := 10) C fX7_86 rfl hM.1 dX7_given_10 rfl (hM.2 28 rfl).1 ?_
  refine g_iload_n (pc := 13) C dX7_given_13 rfl ?_
  refine g_ialdN (pc := 14) C rfl (hM.2 28 rfl).2 (by omega) (by decide) dX7_given_14 ?_
  refine g_goto (pc := 15) C 23 dX7_given_15 (by decide) ?_
  exact g_iret (pc := 23) C B rfl dX7_given_23 (by show (_, _) = t_X7_given S g; unfold t_X7_given; rfl)

theorem c_mblw (l : Launch) (E : En) (base aw : Nat) (S : Mm) (p : Int32) : Cn l E base aw yX7_isBelow cX7_isBelow 1 (some Jvm.ClassFile.FieldType.boolean) 0 0 0 noF S [vi p] (fun r S' => r = some (vi (blw p)) ∧ S' = S) := c_mbelow l E base aw S p
set_option maxHeartbeats 4000000 in
set_option maxRecDepth 100000 in
/-- price of no lane -/
theorem c_X7_price_b (l : Launch) (E : En) (base aw : Nat) (S : Mm) (mc : Nat) (lc : Nat → Nat) (hI : IM S mc lc) (p0 p1 p2 : Int32) (h : ¬ (okL mc lc p0 p1)) : Cn l E base aw yX7_price cX7_price 5 (some Jvm.ClassFile.FieldType.int) 3 0 0 noF S [vr (2, 0, 0), vi p0, vi p1, vi p2] (fun r S' => r = some (vi (-1)) ∧ S' = rfM S 1) := by
  have hM := hI.1
  have hmc := hI.2.2.1
  have hx : ¬ okL mc lc p0 p1 := fun q => h q
  refine Cn.of (by decide) (Nat.le_of_ble_eq_true rfl) ?_
  intro X Y hl hE hbase haw hfr C B
  subst hl; subst hE; subst hbase; subst haw
  refine g_aload_n (pc := 0) C dX7_price_0 rfl ?_
  refine g_iload_n (pc := 1) C dX7_price_1 rfl ?_
  refine g_iload_n (pc := 2) C dX7_price_2 rfl ?_
  refine g_callV (pc := 3) C B mX7_123 (c_isL_f _ _ _ _ _ mc lc hI p0 p1 hx) rfl rfl rfl rfl hM.1 (by decide) ⟨Nat.le_refl _, Nat.le_refl _⟩ (Nat.le_of_ble_eq_true rfl) dX7_price_3 (fun r S' hP => ?_)
  rw [hP.1, hP.2]
  refine g_if_ne (pc := 6) C 15 dX7_price_6 (by decide) (fun h6 => absurd (by decide) h6) (fun _ => ?_)
  refine g_aload_n (pc := 9) C dX7_price_9 rfl ?_
  refine g_iconst (pc := 10) C (-1) dX7_price_10 (by decide) ?_
  refine g_callV (pc := 11) C B mX7_116 (c_mrefuse _ _ _ _ _ hM (-1) 1 (by decide) (by decide)) rfl rfl rfl rfl hM.1 (by decide) ⟨Nat.le_refl _, Nat.le_refl _⟩ (Nat.le_of_ble_eq_true rfl) dX7_price_11 (fun r S' hP => ?_)
  rw [hP.1, hP.2]
  exact g_iret (pc := 14) C B rfl dX7_price_14 (⟨rfl, rfl⟩)

def t_X7_price (S : Mm) (i : Nat) (j : Nat) (p0 : Int32) : Option AV × Mm := if (blw p0) = 0 then (if p0 ≤ 5000 then (some (vi (S.1 (2, 0, 11) ((8 * i) + j))), wI S (2, 0, 11) ((8 * i) + j) p0) else (some (vi ((-6))), rfM S 6)) else (some (vi ((-4))), rfM S 4)
set_option maxHeartbeats 4000000 in
set_option maxRecDepth 100000 in
/-- price(i, j, v) -/
theorem c_X7_price (l : Launch) (E : En) (base aw : Nat) (S : Mm) (mc : Nat) (lc : Nat → Nat) (hI : IM S mc lc) (i : Nat) (hi : i < mc) (j : Nat) (hj : j < lc i) (p0 : Int32) : Cn l E base aw yX7_price cX7_price 5 (some Jvm.ClassFile.FieldType.int) 3 0 0 noF S [vr (2, 0, 0), vi (nI i), vi (nI j), vi p0] (fun r S' => (r, S') = t_X7_price S i j p0) := by
  have hM := hI.1
  have hmc := hI.2.2.1
  have hlc := (hI.2.2.2 i (by omega)).2
  refine Cn.of (by decide) (Nat.le_of_ble_eq_true rfl) ?_
  intro X Y hl hE hbase haw hfr C B
  subst hl; subst hE; subst hbase; subst haw
  refine g_aload_n (pc := 0) C dX7_price_0 rfl ?_
  refine g_iload_n (pc := 1) C dX7_price_1 rfl ?_
  refine g_iload_n (pc := 2) C dX7_price_2 rfl ?_
  refine g_callV (pc := 3) C B mX7_123 (c_isL_t _ _ _ _ _ mc lc hI i hi j hj) rfl rfl rfl rfl hM.1 (by decide) ⟨Nat.le_refl _, Nat.le_refl _⟩ (Nat.le_of_ble_eq_true rfl) dX7_price_3 (fun r S' hP => ?_)
  rw [hP.1, hP.2]
  refine g_if_ne (pc := 6) C 15 dX7_price_6 (by decide) (fun _ => ?_) (fun h6 => absurd h6 (by decide))
  refine g_iload_n (pc := 15) C dX7_price_15 rfl ?_
  refine g_callS (pc := 16) C B mX7_120 (c_mblw _ _ _ _ _ _) rfl rfl (by decide) ⟨Nat.le_refl _, Nat.le_refl _⟩ (Nat.le_of_ble_eq_true rfl) dX7_price_16 (fun r S' hP => ?_)
  rw [hP.1, hP.2]
  refine g_if_eq (pc := 19) C 29 dX7_price_19 (by decide) (fun h19 => ?_) (fun h19 => ?_)
  ·
    refine g_iload_n (pc := 29) C dX7_price_29 rfl ?_
    refine g_sipush (pc := 30) C 5000 dX7_price_30 (by decide) ?_
    refine g_icmp_le (pc := 33) C 43 dX7_price_33 (by decide) (fun h33 => ?_) (fun h33 => ?_)
    ·
      refine g_aload_n (pc := 43) C dX7_price_43 rfl ?_
      refine g_getr (pc := 44) C fX7_38 rfl hM.1 dX7_price_44 rfl (hM.2 11 rfl).1 ?_
      refine g_bipush (pc := 47) C 8 dX7_price_47 (by decide) ?_
      refine g_iload_n (pc := 49) C dX7_price_49 rfl ?_
      refine g_imul (pc := 50) C dX7_price_50 ?_
      refine g_eqi (nI (8 * i)) (pk_mul 8 i) ?_
      refine g_iload_n (pc := 51) C dX7_price_51 rfl ?_
      refine g_iadd (pc := 52) C dX7_price_52 ?_
      refine g_eqi (nI ((8 * i) + j)) (nI_add (8 * i) j) ?_
      refine g_ialdN (pc := 53) C rfl (hM.2 11 rfl).2 (by omega) (by decide) dX7_price_53 ?_
      refine g_istore (pc := 54) C dX7_price_54 (by decide) ?_
      refine g_aload_n (pc := 56) C dX7_price_56 rfl ?_
      refine g_getr (pc := 57) C fX7_38 rfl hM.1 dX7_price_57 rfl (hM.2 11 rfl).1 ?_
      refine g_bipush (pc := 60) C 8 dX7_price_60 (by decide) ?_
      refine g_iload_n (pc := 62) C dX7_price_62 rfl ?_
      refine g_imul (pc := 63) C dX7_price_63 ?_
      refine g_eqi (nI (8 * i)) (pk_mul 8 i) ?_
      refine g_iload_n (pc := 64) C dX7_price_64 rfl ?_
      refine g_iadd (pc := 65) C dX7_price_65 ?_
      refine g_eqi (nI ((8 * i) + j)) (nI_add (8 * i) j) ?_
      refine g_iload_n (pc := 66) C dX7_price_66 rfl ?_
      refine g_iastN (pc := 67) C rfl (hM.2 11 rfl).2 (by omega) (by decide) dX7_price_67 ?_
      refine g_iload (pc := 68) C dX7_price_68 rfl ?_
      exact g_iret (pc := 70) C B rfl dX7_price_70 (by show (_, _) = t_X7_price S i j p0; unfold t_X7_price; rw [if_pos h19, if_pos h33])
    ·
      refine g_aload_n (pc := 36) C dX7_price_36 rfl ?_
      refine g_bipush (pc := 37) C (-6) dX7_price_37 (by decide) ?_
      refine g_callV (pc := 39) C B mX7_116 (c_mrefuse _ _ _ _ _ hM (-6) 6 (by decide) (by decide)) rfl rfl rfl rfl hM.1 (by decide) ⟨Nat.le_refl _, Nat.le_refl _⟩ (Nat.le_of_ble_eq_true rfl) dX7_price_39 (fun r S' hP => ?_)
      rw [hP.1, hP.2]
      exact g_iret (pc := 42) C B rfl dX7_price_42 (by show (_, _) = t_X7_price S i j p0; unfold t_X7_price; rw [if_pos h19, if_neg h33])
  ·
    refine g_aload_n (pc := 22) C dX7_price_22 rfl ?_
    refine g_bipush (pc := 23) C (-4) dX7_price_23 (by decide) ?_
    refine g_callV (pc := 25) C B mX7_116 (c_mrefuse _ _ _ _ _ hM (-4) 4 (by decide) (by decide)) rfl rfl rfl rfl hM.1 (by decide) ⟨Nat.le_refl _, Nat.le_refl _⟩ (Nat.le_of_ble_eq_true rfl) dX7_price_25 (fun r S' hP => ?_)
    rw [hP.1, hP.2]
    exact g_iret (pc := 28) C B rfl dX7_price_28 (by show (_, _) = t_X7_price S i j p0; unfold t_X7_price; rw [if_neg h19])

set_option maxHeartbeats 4000000 in
set_option maxRecDepth 100000 in
/-- tube of no machine or worth -/
theorem c_X7_tube_b (l : Launch) (E : En) (base aw : Nat) (S : Mm) (mc : Nat) (lc : Nat → Nat) (hI : IM S mc lc) (p0 p1 p2 : Int32) (h : ¬ (okN mc p0 ∧ okN 6 p1)) : Cn l E base aw yX7_tube cX7_tube 4 (some Jvm.ClassFile.FieldType.int) 2 0 0 noF S [vr (2, 0, 0), vi p0, vi p1, vi p2] (fun r S' => r = some (vi (-1)) ∧ S' = rfM S 1) := by
  have hM := hI.1
  have hmc := hI.2.2.1
  by_cases hm0 : okN mc p0
  ·
    obtain ⟨i, hi, rfl⟩ := hm0
    have hx : ¬ okN 6 p1 := fun q => h ⟨⟨i, hi, rfl⟩, q⟩
    refine Cn.of (by decide) (Nat.le_of_ble_eq_true rfl) ?_
    intro X Y hl hE hbase haw hfr C B
    subst hl; subst hE; subst hbase; subst haw
    refine g_aload_n (pc := 0) C dX7_tube_0 rfl ?_
    refine g_iload_n (pc := 1) C dX7_tube_1 rfl ?_
    refine g_callV (pc := 2) C B mX7_112 (c_isM_t _ _ _ _ _ mc lc hI i hi) rfl rfl rfl rfl hM.1 (by decide) ⟨Nat.le_refl _, Nat.le_refl _⟩ (Nat.le_of_ble_eq_true rfl) dX7_tube_2 (fun r S' hP => ?_)
    rw [hP.1, hP.2]
    refine g_if_eq (pc := 5) C 17 dX7_tube_5 (by decide) (fun h5 => absurd h5 (by decide)) (fun _ => ?_)
    refine g_iload_n (pc := 8) C dX7_tube_8 rfl ?_
    refine g_iconst (pc := 9) C 0 dX7_tube_9 (by decide) ?_
    refine g_iconst (pc := 10) C 5 dX7_tube_10 (by decide) ?_
    refine g_callS (pc := 11) C B mX7_108 (c_in_f _ _ _ _ _ _ _ _ (okW_f (n := 5) (by decide) hx)) rfl rfl (by decide) ⟨Nat.le_refl _, Nat.le_refl _⟩ (Nat.le_of_ble_eq_true rfl) dX7_tube_11 (fun r S' hP => ?_)
    rw [hP.1, hP.2]
    refine g_if_ne (pc := 14) C 23 dX7_tube_14 (by decide) (fun h14 => absurd (by decide) h14) (fun _ => ?_)
    refine g_aload_n (pc := 17) C dX7_tube_17 rfl ?_
    refine g_iconst (pc := 18) C (-1) dX7_tube_18 (by decide) ?_
    refine g_callV (pc := 19) C B mX7_116 (c_mrefuse _ _ _ _ _ hM (-1) 1 (by decide) (by decide)) rfl rfl rfl rfl hM.1 (by decide) ⟨Nat.le_refl _, Nat.le_refl _⟩ (Nat.le_of_ble_eq_true rfl) dX7_tube_19 (fun r S' hP => ?_)
    rw [hP.1, hP.2]
    exact g_iret (pc := 22) C B rfl dX7_tube_22 (⟨rfl, rfl⟩)
  ·
    have hx := hm0
    refine Cn.of (by decide) (Nat.le_of_ble_eq_true rfl) ?_
    intro X Y hl hE hbase haw hfr C B
    subst hl; subst hE; subst hbase; subst haw
    refine g_aload_n (pc := 0) C dX7_tube_0 rfl ?_
    refine g_iload_n (pc := 1) C dX7_tube_1 rfl ?_
    refine g_callV (pc := 2) C B mX7_112 (c_isM_f _ _ _ _ _ mc lc hI p0 hx) rfl rfl rfl rfl hM.1 (by decide) ⟨Nat.le_refl _, Nat.le_refl _⟩ (Nat.le_of_ble_eq_true rfl) dX7_tube_2 (fun r S' hP => ?_)
    rw [hP.1, hP.2]
    refine g_if_eq (pc := 5) C 17 dX7_tube_5 (by decide) (fun _ => ?_) (fun h5 => absurd (by decide) h5)
    refine g_aload_n (pc := 17) C dX7_tube_17 rfl ?_
    refine g_iconst (pc := 18) C (-1) dX7_tube_18 (by decide) ?_
    refine g_callV (pc := 19) C B mX7_116 (c_mrefuse _ _ _ _ _ hM (-1) 1 (by decide) (by decide)) rfl rfl rfl rfl hM.1 (by decide) ⟨Nat.le_refl _, Nat.le_refl _⟩ (Nat.le_of_ble_eq_true rfl) dX7_tube_19 (fun r S' hP => ?_)
    rw [hP.1, hP.2]
    exact g_iret (pc := 22) C B rfl dX7_tube_22 (⟨rfl, rfl⟩)

def t_X7_tube (S : Mm) (i : Nat) (w : Nat) (n : Int32) : Option AV × Mm := if 0 ≤ n then (if n ≤ (50 - (S.1 (2, 0, 3) ((6 * i) + w))) then (some (vi ((wI (wI S (2, 0, 3) ((6 * i) + w) ((S.1 (2, 0, 3) ((6 * i) + w)) + n)) (2, 0, 6) ((6 * i) + w) (((wI S (2, 0, 3) ((6 * i) + w) ((S.1 (2, 0, 3) ((6 * i) + w)) + n)).1 (2, 0, 6) ((6 * i) + w)) + n)).1 (2, 0, 3) ((6 * i) + w))), wI (wI S (2, 0, 3) ((6 * i) + w) ((S.1 (2, 0, 3) ((6 * i) + w)) + n)) (2, 0, 6) ((6 * i) + w) (((wI S (2, 0, 3) ((6 * i) + w) ((S.1 (2, 0, 3) ((6 * i) + w)) + n)).1 (2, 0, 6) ((6 * i) + w)) + n)) else (some (vi ((-6))), rfM S 6)) else (some (vi ((-4))), rfM S 4)
set_option maxHeartbeats 4000000 in
set_option maxRecDepth 100000 in
/-- tube(i, w, n) -/
theorem c_X7_tube (l : Launch) (E : En) (base aw : Nat) (S : Mm) (mc : Nat) (lc : Nat → Nat) (hI : IM S mc lc) (i : Nat) (hi : i < mc) (w : Nat) (hw : w < 6) (n : Int32) : Cn l E base aw yX7_tube cX7_tube 4 (some Jvm.ClassFile.FieldType.int) 2 0 0 noF S [vr (2, 0, 0), vi (nI i), vi (nI w), vi n] (fun r S' => (r, S') = t_X7_tube S i w n) := by
  have hM := hI.1
  have hmc := hI.2.2.1
  refine Cn.of (by decide) (Nat.le_of_ble_eq_true rfl) ?_
  intro X Y hl hE hbase haw hfr C B
  subst hl; subst hE; subst hbase; subst haw
  refine g_aload_n (pc := 0) C dX7_tube_0 rfl ?_
  refine g_iload_n (pc := 1) C dX7_tube_1 rfl ?_
  refine g_callV (pc := 2) C B mX7_112 (c_isM_t _ _ _ _ _ mc lc hI i hi) rfl rfl rfl rfl hM.1 (by decide) ⟨Nat.le_refl _, Nat.le_refl _⟩ (Nat.le_of_ble_eq_true rfl) dX7_tube_2 (fun r S' hP => ?_)
  rw [hP.1, hP.2]
  refine g_if_eq (pc := 5) C 17 dX7_tube_5 (by decide) (fun h5 => absurd h5 (by decide)) (fun _ => ?_)
  refine g_iload_n (pc := 8) C dX7_tube_8 rfl ?_
  refine g_iconst (pc := 9) C 0 dX7_tube_9 (by decide) ?_
  refine g_iconst (pc := 10) C 5 dX7_tube_10 (by decide) ?_
  refine g_callS (pc := 11) C B mX7_108 (c_in_t _ _ _ _ _ _ _ _ (okW_t (n := 5) (by omega) (by decide))) rfl rfl (by decide) ⟨Nat.le_refl _, Nat.le_refl _⟩ (Nat.le_of_ble_eq_true rfl) dX7_tube_11 (fun r S' hP => ?_)
  rw [hP.1, hP.2]
  refine g_if_ne (pc := 14) C 23 dX7_tube_14 (by decide) (fun _ => ?_) (fun h14 => absurd h14 (by decide))
  refine g_iload_n (pc := 23) C dX7_tube_23 rfl ?_
  refine g_if_ge (pc := 24) C 34 dX7_tube_24 (by decide) (fun h24 => ?_) (fun h24 => ?_)
  ·
    refine g_iload_n (pc := 34) C dX7_tube_34 rfl ?_
    refine g_bipush (pc := 35) C 50 dX7_tube_35 (by decide) ?_
    refine g_aload_n (pc := 37) C dX7_tube_37 rfl ?_
    refine g_getr (pc := 38) C fX7_13 rfl hM.1 dX7_tube_38 rfl (hM.2 3 rfl).1 ?_
    refine g_bipush (pc := 41) C 6 dX7_tube_41 (by decide) ?_
    refine g_iload_n (pc := 43) C dX7_tube_43 rfl ?_
    refine g_imul (pc := 44) C dX7_tube_44 ?_
    refine g_eqi (nI (6 * i)) (pk_mul 6 i) ?_
    refine g_iload_n (pc := 45) C dX7_tube_45 rfl ?_
    refine g_iadd (pc := 46) C dX7_tube_46 ?_
    refine g_eqi (nI ((6 * i) + w)) (nI_add (6 * i) w) ?_
    refine g_ialdN (pc := 47) C rfl (hM.2 3 rfl).2 (by omega) (by decide) dX7_tube_47 ?_
    refine g_isub (pc := 48) C dX7_tube_48 ?_
    refine g_icmp_le (pc := 49) C 59 dX7_tube_49 (by decide) (fun h49 => ?_) (fun h49 => ?_)
    ·
      refine g_aload_n (pc := 59) C dX7_tube_59 rfl ?_
      refine g_getr (pc := 60) C fX7_13 rfl hM.1 dX7_tube_60 rfl (hM.2 3 rfl).1 ?_
      refine g_bipush (pc := 63) C 6 dX7_tube_63 (by decide) ?_
      refine g_iload_n (pc := 65) C dX7_tube_65 rfl ?_
      refine g_imul (pc := 66) C dX7_tube_66 ?_
      refine g_eqi (nI (6 * i)) (pk_mul 6 i) ?_
      refine g_iload_n (pc := 67) C dX7_tube_67 rfl ?_
      refine g_iadd (pc := 68) C dX7_tube_68 ?_
      refine g_eqi (nI ((6 * i) + w)) (nI_add (6 * i) w) ?_
      refine g_dup2 (pc := 69) C dX7_tube_69 ?_
      refine g_ialdN (pc := 70) C rfl (hM.2 3 rfl).2 (by omega) (by decide) dX7_tube_70 ?_
      refine g_iload_n (pc := 71) C dX7_tube_71 rfl ?_
      refine g_iadd (pc := 72) C dX7_tube_72 ?_
      refine g_iastN (pc := 73) C rfl (hM.2 3 rfl).2 (by omega) (by decide) dX7_tube_73 ?_
      refine g_aload_n (pc := 74) C dX7_tube_74 rfl ?_
      refine g_getr (pc := 75) C fX7_22 rfl hM.1 dX7_tube_75 rfl (hM.2 6 rfl).1 ?_
      refine g_bipush (pc := 78) C 6 dX7_tube_78 (by decide) ?_
      refine g_iload_n (pc := 80) C dX7_tube_80 rfl ?_
      refine g_imul (pc := 81) C dX7_tube_81 ?_
      refine g_eqi (nI (6 * i)) (pk_mul 6 i) ?_
      refine g_iload_n (pc := 82) C dX7_tube_82 rfl ?_
      refine g_iadd (pc := 83) C dX7_tube_83 ?_
      refine g_eqi (nI ((6 * i) + w)) (nI_add (6 * i) w) ?_
      refine g_dup2 (pc := 84) C dX7_tube_84 ?_
      refine g_ialdN (pc := 85) C rfl (hM.2 6 rfl).2 (by omega) (by decide) dX7_tube_85 ?_
      refine g_iload_n (pc := 86) C dX7_tube_86 rfl ?_
      refine g_iadd (pc := 87) C dX7_tube_87 ?_
      refine g_iastN (pc := 88) C rfl (hM.2 6 rfl).2 (by omega) (by decide) dX7_tube_88 ?_
      refine g_aload_n (pc := 89) C dX7_tube_89 rfl ?_
      refine g_getr (pc := 90) C fX7_13 rfl hM.1 dX7_tube_90 rfl (hM.2 3 rfl).1 ?_
      refine g_bipush (pc := 93) C 6 dX7_tube_93 (by decide) ?_
      refine g_iload_n (pc := 95) C dX7_tube_95 rfl ?_
      refine g_imul (pc := 96) C dX7_tube_96 ?_
      refine g_eqi (nI (6 * i)) (pk_mul 6 i) ?_
      refine g_iload_n (pc := 97) C dX7_tube_97 rfl ?_
      refine g_iadd (pc := 98) C dX7_tube_98 ?_
      refine g_eqi (nI ((6 * i) + w)) (nI_add (6 * i) w) ?_
      refine g_ialdN (pc := 99) C rfl (hM.2 3 rfl).2 (by omega) (by decide) dX7_tube_99 ?_
      exact g_iret (pc := 100) C B rfl dX7_tube_100 (by show (_, _) = t_X7_tube S i w n; unfold t_X7_tube; rw [if_pos h24, if_pos h49])
    ·
      refine g_aload_n (pc := 52) C dX7_tube_52 rfl ?_
      refine g_bipush (pc := 53) C (-6) dX7_tube_53 (by decide) ?_
      refine g_callV (pc := 55) C B mX7_116 (c_mrefuse _ _ _ _ _ hM (-6) 6 (by decide) (by decide)) rfl rfl rfl rfl hM.1 (by decide) ⟨Nat.le_refl _, Nat.le_refl _⟩ (Nat.le_of_ble_eq_true rfl) dX7_tube_55 (fun r S' hP => ?_)
      rw [hP.1, hP.2]
      exact g_iret (pc := 58) C B rfl dX7_tube_58 (by show (_, _) = t_X7_tube S i w n; unfold t_X7_tube; rw [if_pos h24, if_neg h49])
  ·
    refine g_aload_n (pc := 27) C dX7_tube_27 rfl ?_
    refine g_bipush (pc := 28) C (-4) dX7_tube_28 (by decide) ?_
    refine g_callV (pc := 30) C B mX7_116 (c_mrefuse _ _ _ _ _ hM (-4) 4 (by decide) (by decide)) rfl rfl rfl rfl hM.1 (by decide) ⟨Nat.le_refl _, Nat.le_refl _⟩ (Nat.le_of_ble_eq_true rfl) dX7_tube_30 (fun r S' hP => ?_)
    rw [hP.1, hP.2]
    exact g_iret (pc := 33) C B rfl dX7_tube_33 (by show (_, _) = t_X7_tube S i w n; unfold t_X7_tube; rw [if_neg h24])

set_option maxHeartbeats 4000000 in
set_option maxRecDepth 100000 in
/-- stick of no lane -/
theorem c_X7_stick_b (l : Launch) (E : En) (base aw : Nat) (S : Mm) (mc : Nat) (lc : Nat → Nat) (hI : IM S mc lc) (p0 p1 p2 : Int32) (h : ¬ (okL mc lc p0 p1)) : Cn l E base aw yX7_stick cX7_stick 4 (some Jvm.ClassFile.FieldType.int) 3 0 0 noF S [vr (2, 0, 0), vi p0, vi p1, vi p2] (fun r S' => r = some (vi (-1)) ∧ S' = rfM S 1) := by
  have hM := hI.1
  have hmc := hI.2.2.1
  have hx : ¬ okL mc lc p0 p1 := fun q => h q
  refine Cn.of (by decide) (Nat.le_of_ble_eq_true rfl) ?_
  intro X Y hl hE hbase haw hfr C B
  subst hl; subst hE; subst hbase; subst haw
  refine g_aload_n (pc := 0) C dX7_stick_0 rfl ?_
  refine g_iload_n (pc := 1) C dX7_stick_1 rfl ?_
  refine g_iload_n (pc := 2) C dX7_stick_2 rfl ?_
  refine g_callV (pc := 3) C B mX7_123 (c_isL_f _ _ _ _ _ mc lc hI p0 p1 hx) rfl rfl rfl rfl hM.1 (by decide) ⟨Nat.le_refl _, Nat.le_refl _⟩ (Nat.le_of_ble_eq_true rfl) dX7_stick_3 (fun r S' hP => ?_)
  rw [hP.1, hP.2]
  refine g_if_ne (pc := 6) C 15 dX7_stick_6 (by decide) (fun h6 => absurd (by decide) h6) (fun _ => ?_)
  refine g_aload_n (pc := 9) C dX7_stick_9 rfl ?_
  refine g_iconst (pc := 10) C (-1) dX7_stick_10 (by decide) ?_
  refine g_callV (pc := 11) C B mX7_116 (c_mrefuse _ _ _ _ _ hM (-1) 1 (by decide) (by decide)) rfl rfl rfl rfl hM.1 (by decide) ⟨Nat.le_refl _, Nat.le_refl _⟩ (Nat.le_of_ble_eq_true rfl) dX7_stick_11 (fun r S' hP => ?_)
  rw [hP.1, hP.2]
  exact g_iret (pc := 14) C B rfl dX7_stick_14 (⟨rfl, rfl⟩)

def t_X7_stick (S : Mm) (i : Nat) (j : Nat) (p0 : Int32) : Option AV × Mm := if (S.1 (2, 0, 14) ((8 * i) + j)) = 1 then (if 0 ≤ p0 then (if p0 ≤ (9 - (S.1 (2, 0, 16) ((8 * i) + j))) then (some (vi ((wI S (2, 0, 16) ((8 * i) + j) ((S.1 (2, 0, 16) ((8 * i) + j)) + p0)).1 (2, 0, 16) ((8 * i) + j))), wI S (2, 0, 16) ((8 * i) + j) ((S.1 (2, 0, 16) ((8 * i) + j)) + p0)) else (some (vi ((-6))), rfM S 6)) else (some (vi ((-4))), rfM S 4)) else (some (vi ((-2))), rfM S 2)
set_option maxHeartbeats 4000000 in
set_option maxRecDepth 100000 in
/-- stick(i, j, n) -/
theorem c_X7_stick (l : Launch) (E : En) (base aw : Nat) (S : Mm) (mc : Nat) (lc : Nat → Nat) (hI : IM S mc lc) (i : Nat) (hi : i < mc) (j : Nat) (hj : j < lc i) (p0 : Int32) : Cn l E base aw yX7_stick cX7_stick 4 (some Jvm.ClassFile.FieldType.int) 3 0 0 noF S [vr (2, 0, 0), vi (nI i), vi (nI j), vi p0] (fun r S' => (r, S') = t_X7_stick S i j p0) := by
  have hM := hI.1
  have hmc := hI.2.2.1
  have hlc := (hI.2.2.2 i (by omega)).2
  refine Cn.of (by decide) (Nat.le_of_ble_eq_true rfl) ?_
  intro X Y hl hE hbase haw hfr C B
  subst hl; subst hE; subst hbase; subst haw
  refine g_aload_n (pc := 0) C dX7_stick_0 rfl ?_
  refine g_iload_n (pc := 1) C dX7_stick_1 rfl ?_
  refine g_iload_n (pc := 2) C dX7_stick_2 rfl ?_
  refine g_callV (pc := 3) C B mX7_123 (c_isL_t _ _ _ _ _ mc lc hI i hi j hj) rfl rfl rfl rfl hM.1 (by decide) ⟨Nat.le_refl _, Nat.le_refl _⟩ (Nat.le_of_ble_eq_true rfl) dX7_stick_3 (fun r S' hP => ?_)
  rw [hP.1, hP.2]
  refine g_if_ne (pc := 6) C 15 dX7_stick_6 (by decide) (fun _ => ?_) (fun h6 => absurd h6 (by decide))
  refine g_aload_n (pc := 15) C dX7_stick_15 rfl ?_
  refine g_getr (pc := 16) C fX7_47 rfl hM.1 dX7_stick_16 rfl (hM.2 14 rfl).1 ?_
  refine g_bipush (pc := 19) C 8 dX7_stick_19 (by decide) ?_
  refine g_iload_n (pc := 21) C dX7_stick_21 rfl ?_
  refine g_imul (pc := 22) C dX7_stick_22 ?_
  refine g_eqi (nI (8 * i)) (pk_mul 8 i) ?_
  refine g_iload_n (pc := 23) C dX7_stick_23 rfl ?_
  refine g_iadd (pc := 24) C dX7_stick_24 ?_
  refine g_eqi (nI ((8 * i) + j)) (nI_add (8 * i) j) ?_
  refine g_ialdN (pc := 25) C rfl (hM.2 14 rfl).2 (by omega) (by decide) dX7_stick_25 ?_
  refine g_iconst (pc := 26) C 1 dX7_stick_26 (by decide) ?_
  refine g_icmp_eq (pc := 27) C 37 dX7_stick_27 (by decide) (fun h27 => ?_) (fun h27 => ?_)
  ·
    refine g_iload_n (pc := 37) C dX7_stick_37 rfl ?_
    refine g_if_ge (pc := 38) C 48 dX7_stick_38 (by decide) (fun h38 => ?_) (fun h38 => ?_)
    ·
      refine g_iload_n (pc := 48) C dX7_stick_48 rfl ?_
      refine g_bipush (pc := 49) C 9 dX7_stick_49 (by decide) ?_
      refine g_aload_n (pc := 51) C dX7_stick_51 rfl ?_
      refine g_getr (pc := 52) C fX7_53 rfl hM.1 dX7_stick_52 rfl (hM.2 16 rfl).1 ?_
      refine g_bipush (pc := 55) C 8 dX7_stick_55 (by decide) ?_
      refine g_iload_n (pc := 57) C dX7_stick_57 rfl ?_
      refine g_imul (pc := 58) C dX7_stick_58 ?_
      refine g_eqi (nI (8 * i)) (pk_mul 8 i) ?_
      refine g_iload_n (pc := 59) C dX7_stick_59 rfl ?_
      refine g_iadd (pc := 60) C dX7_stick_60 ?_
      refine g_eqi (nI ((8 * i) + j)) (nI_add (8 * i) j) ?_
      refine g_ialdN (pc := 61) C rfl (hM.2 16 rfl).2 (by omega) (by decide) dX7_stick_61 ?_
      refine g_isub (pc := 62) C dX7_stick_62 ?_
      refine g_icmp_le (pc := 63) C 73 dX7_stick_63 (by decide) (fun h63 => ?_) (fun h63 => ?_)
      ·
        refine g_aload_n (pc := 73) C dX7_stick_73 rfl ?_
        refine g_getr (pc := 74) C fX7_53 rfl hM.1 dX7_stick_74 rfl (hM.2 16 rfl).1 ?_
        refine g_bipush (pc := 77) C 8 dX7_stick_77 (by decide) ?_
        refine g_iload_n (pc := 79) C dX7_stick_79 rfl ?_
        refine g_imul (pc := 80) C dX7_stick_80 ?_
        refine g_eqi (nI (8 * i)) (pk_mul 8 i) ?_
        refine g_iload_n (pc := 81) C dX7_stick_81 rfl ?_
        refine g_iadd (pc := 82) C dX7_stick_82 ?_
        refine g_eqi (nI ((8 * i) + j)) (nI_add (8 * i) j) ?_
        refine g_dup2 (pc := 83) C dX7_stick_83 ?_
        refine g_ialdN (pc := 84) C rfl (hM.2 16 rfl).2 (by omega) (by decide) dX7_stick_84 ?_
        refine g_iload_n (pc := 85) C dX7_stick_85 rfl ?_
        refine g_iadd (pc := 86) C dX7_stick_86 ?_
        refine g_iastN (pc := 87) C rfl (hM.2 16 rfl).2 (by omega) (by decide) dX7_stick_87 ?_
        refine g_aload_n (pc := 88) C dX7_stick_88 rfl ?_
        refine g_getr (pc := 89) C fX7_53 rfl hM.1 dX7_stick_89 rfl (hM.2 16 rfl).1 ?_
        refine g_bipush (pc := 92) C 8 dX7_stick_92 (by decide) ?_
        refine g_iload_n (pc := 94) C dX7_stick_94 rfl ?_
        refine g_imul (pc := 95) C dX7_stick_95 ?_
        refine g_eqi (nI (8 * i)) (pk_mul 8 i) ?_
        refine g_iload_n (pc := 96) C dX7_stick_96 rfl ?_
        refine g_iadd (pc := 97) C dX7_stick_97 ?_
        refine g_eqi (nI ((8 * i) + j)) (nI_add (8 * i) j) ?_
        refine g_ialdN (pc := 98) C rfl (hM.2 16 rfl).2 (by omega) (by decide) dX7_stick_98 ?_
        exact g_iret (pc := 99) C B rfl dX7_stick_99 (by show (_, _) = t_X7_stick S i j p0; unfold t_X7_stick; rw [if_pos h27, if_pos h38, if_pos h63])
      ·
        refine g_aload_n (pc := 66) C dX7_stick_66 rfl ?_
        refine g_bipush (pc := 67) C (-6) dX7_stick_67 (by decide) ?_
        refine g_callV (pc := 69) C B mX7_116 (c_mrefuse _ _ _ _ _ hM (-6) 6 (by decide) (by decide)) rfl rfl rfl rfl hM.1 (by decide) ⟨Nat.le_refl _, Nat.le_refl _⟩ (Nat.le_of_ble_eq_true rfl) dX7_stick_69 (fun r S' hP => ?_)
        rw [hP.1, hP.2]
        exact g_iret (pc := 72) C B rfl dX7_stick_72 (by show (_, _) = t_X7_stick S i j p0; unfold t_X7_stick; rw [if_pos h27, if_pos h38, if_neg h63])
    ·
      refine g_aload_n (pc := 41) C dX7_stick_41 rfl ?_
      refine g_bipush (pc := 42) C (-4) dX7_stick_42 (by decide) ?_
      refine g_callV (pc := 44) C B mX7_116 (c_mrefuse _ _ _ _ _ hM (-4) 4 (by decide) (by decide)) rfl rfl rfl rfl hM.1 (by decide) ⟨Nat.le_refl _, Nat.le_refl _⟩ (Nat.le_of_ble_eq_true rfl) dX7_stick_44 (fun r S' hP => ?_)
      rw [hP.1, hP.2]
      exact g_iret (pc := 47) C B rfl dX7_stick_47 (by show (_, _) = t_X7_stick S i j p0; unfold t_X7_stick; rw [if_pos h27, if_neg h38])
  ·
    refine g_aload_n (pc := 30) C dX7_stick_30 rfl ?_
    refine g_bipush (pc := 31) C (-2) dX7_stick_31 (by decide) ?_
    refine g_callV (pc := 33) C B mX7_116 (c_mrefuse _ _ _ _ _ hM (-2) 2 (by decide) (by decide)) rfl rfl rfl rfl hM.1 (by decide) ⟨Nat.le_refl _, Nat.le_refl _⟩ (Nat.le_of_ble_eq_true rfl) dX7_stick_33 (fun r S' hP => ?_)
    rw [hP.1, hP.2]
    exact g_iret (pc := 36) C B rfl dX7_stick_36 (by show (_, _) = t_X7_stick S i j p0; unfold t_X7_stick; rw [if_neg h27])

set_option maxHeartbeats 4000000 in
set_option maxRecDepth 100000 in
/-- fill of no lane -/
theorem c_X7_fill_b (l : Launch) (E : En) (base aw : Nat) (S : Mm) (mc : Nat) (lc : Nat → Nat) (hI : IM S mc lc) (p0 p1 p2 : Int32) (h : ¬ (okL mc lc p0 p1)) : Cn l E base aw yX7_fill cX7_fill 5 (some Jvm.ClassFile.FieldType.int) 3 0 0 noF S [vr (2, 0, 0), vi p0, vi p1, vi p2] (fun r S' => r = some (vi (-1)) ∧ S' = rfM S 1) := by
  have hM := hI.1
  have hmc := hI.2.2.1
  have hx : ¬ okL mc lc p0 p1 := fun q => h q
  refine Cn.of (by decide) (Nat.le_of_ble_eq_true rfl) ?_
  intro X Y hl hE hbase haw hfr C B
  subst hl; subst hE; subst hbase; subst haw
  refine g_aload_n (pc := 0) C dX7_fill_0 rfl ?_
  refine g_iload_n (pc := 1) C dX7_fill_1 rfl ?_
  refine g_iload_n (pc := 2) C dX7_fill_2 rfl ?_
  refine g_callV (pc := 3) C B mX7_123 (c_isL_f _ _ _ _ _ mc lc hI p0 p1 hx) rfl rfl rfl rfl hM.1 (by decide) ⟨Nat.le_refl _, Nat.le_refl _⟩ (Nat.le_of_ble_eq_true rfl) dX7_fill_3 (fun r S' hP => ?_)
  rw [hP.1, hP.2]
  refine g_if_ne (pc := 6) C 15 dX7_fill_6 (by decide) (fun h6 => absurd (by decide) h6) (fun _ => ?_)
  refine g_aload_n (pc := 9) C dX7_fill_9 rfl ?_
  refine g_iconst (pc := 10) C (-1) dX7_fill_10 (by decide) ?_
  refine g_callV (pc := 11) C B mX7_116 (c_mrefuse _ _ _ _ _ hM (-1) 1 (by decide) (by decide)) rfl rfl rfl rfl hM.1 (by decide) ⟨Nat.le_refl _, Nat.le_refl _⟩ (Nat.le_of_ble_eq_true rfl) dX7_fill_11 (fun r S' hP => ?_)
  rw [hP.1, hP.2]
  exact g_iret (pc := 14) C B rfl dX7_fill_14 (⟨rfl, rfl⟩)

def t_X7_fill (S : Mm) (i : Nat) (j : Nat) (p0 : Int32) : Option AV × Mm := if (S.1 (2, 0, 19) ((8 * i) + j)) = 0 then (if 0 ≤ p0 then (if p0 ≤ ((S.1 (2, 0, 12) ((8 * i) + j)) - (S.1 (2, 0, 13) ((8 * i) + j))) then (some (vi ((wI (wI S (2, 0, 13) ((8 * i) + j) ((S.1 (2, 0, 13) ((8 * i) + j)) + p0)) (2, 0, 26) i (((wI S (2, 0, 13) ((8 * i) + j) ((S.1 (2, 0, 13) ((8 * i) + j)) + p0)).1 (2, 0, 26) i) + p0)).1 (2, 0, 13) ((8 * i) + j))), wI (wI S (2, 0, 13) ((8 * i) + j) ((S.1 (2, 0, 13) ((8 * i) + j)) + p0)) (2, 0, 26) i (((wI S (2, 0, 13) ((8 * i) + j) ((S.1 (2, 0, 13) ((8 * i) + j)) + p0)).1 (2, 0, 26) i) + p0)) else (some (vi ((-6))), rfM S 6)) else (some (vi ((-4))), rfM S 4)) else (some (vi ((-3))), rfM S 3)
set_option maxHeartbeats 4000000 in
set_option maxRecDepth 100000 in
/-- fill(i, j, n) -/
theorem c_X7_fill (l : Launch) (E : En) (base aw : Nat) (S : Mm) (mc : Nat) (lc : Nat → Nat) (hI : IM S mc lc) (i : Nat) (hi : i < mc) (j : Nat) (hj : j < lc i) (p0 : Int32) : Cn l E base aw yX7_fill cX7_fill 5 (some Jvm.ClassFile.FieldType.int) 3 0 0 noF S [vr (2, 0, 0), vi (nI i), vi (nI j), vi p0] (fun r S' => (r, S') = t_X7_fill S i j p0) := by
  have hM := hI.1
  have hmc := hI.2.2.1
  have hlc := (hI.2.2.2 i (by omega)).2
  refine Cn.of (by decide) (Nat.le_of_ble_eq_true rfl) ?_
  intro X Y hl hE hbase haw hfr C B
  subst hl; subst hE; subst hbase; subst haw
  refine g_aload_n (pc := 0) C dX7_fill_0 rfl ?_
  refine g_iload_n (pc := 1) C dX7_fill_1 rfl ?_
  refine g_iload_n (pc := 2) C dX7_fill_2 rfl ?_
  refine g_callV (pc := 3) C B mX7_123 (c_isL_t _ _ _ _ _ mc lc hI i hi j hj) rfl rfl rfl rfl hM.1 (by decide) ⟨Nat.le_refl _, Nat.le_refl _⟩ (Nat.le_of_ble_eq_true rfl) dX7_fill_3 (fun r S' hP => ?_)
  rw [hP.1, hP.2]
  refine g_if_ne (pc := 6) C 15 dX7_fill_6 (by decide) (fun _ => ?_) (fun h6 => absurd h6 (by decide))
  refine g_bipush (pc := 15) C 8 dX7_fill_15 (by decide) ?_
  refine g_iload_n (pc := 17) C dX7_fill_17 rfl ?_
  refine g_imul (pc := 18) C dX7_fill_18 ?_
  refine g_eqi (nI (8 * i)) (pk_mul 8 i) ?_
  refine g_iload_n (pc := 19) C dX7_fill_19 rfl ?_
  refine g_iadd (pc := 20) C dX7_fill_20 ?_
  refine g_eqi (nI ((8 * i) + j)) (nI_add (8 * i) j) ?_
  refine g_istore (pc := 21) C dX7_fill_21 (by decide) ?_
  refine g_aload_n (pc := 23) C dX7_fill_23 rfl ?_
  refine g_getr (pc := 24) C fX7_62 rfl hM.1 dX7_fill_24 rfl (hM.2 19 rfl).1 ?_
  refine g_iload (pc := 27) C dX7_fill_27 rfl ?_
  refine g_baldN (pc := 29) C rfl (hM.2 19 rfl).2 (by omega) (by decide) dX7_fill_29 ?_
  refine g_if_eq (pc := 30) C 40 dX7_fill_30 (by decide) (fun h30 => ?_) (fun h30 => ?_)
  ·
    refine g_iload_n (pc := 40) C dX7_fill_40 rfl ?_
    refine g_if_ge (pc := 41) C 51 dX7_fill_41 (by decide) (fun h41 => ?_) (fun h41 => ?_)
    ·
      refine g_iload_n (pc := 51) C dX7_fill_51 rfl ?_
      refine g_aload_n (pc := 52) C dX7_fill_52 rfl ?_
      refine g_getr (pc := 53) C fX7_41 rfl hM.1 dX7_fill_53 rfl (hM.2 12 rfl).1 ?_
      refine g_iload (pc := 56) C dX7_fill_56 rfl ?_
      refine g_ialdN (pc := 58) C rfl (hM.2 12 rfl).2 (by omega) (by decide) dX7_fill_58 ?_
      refine g_aload_n (pc := 59) C dX7_fill_59 rfl ?_
      refine g_getr (pc := 60) C fX7_44 rfl hM.1 dX7_fill_60 rfl (hM.2 13 rfl).1 ?_
      refine g_iload (pc := 63) C dX7_fill_63 rfl ?_
      refine g_ialdN (pc := 65) C rfl (hM.2 13 rfl).2 (by omega) (by decide) dX7_fill_65 ?_
      refine g_isub (pc := 66) C dX7_fill_66 ?_
      refine g_icmp_le (pc := 67) C 77 dX7_fill_67 (by decide) (fun h67 => ?_) (fun h67 => ?_)
      ·
        refine g_aload_n (pc := 77) C dX7_fill_77 rfl ?_
        refine g_getr (pc := 78) C fX7_44 rfl hM.1 dX7_fill_78 rfl (hM.2 13 rfl).1 ?_
        refine g_iload (pc := 81) C dX7_fill_81 rfl ?_
        refine g_dup2 (pc := 83) C dX7_fill_83 ?_
        refine g_ialdN (pc := 84) C rfl (hM.2 13 rfl).2 (by omega) (by decide) dX7_fill_84 ?_
        refine g_iload_n (pc := 85) C dX7_fill_85 rfl ?_
        refine g_iadd (pc := 86) C dX7_fill_86 ?_
        refine g_iastN (pc := 87) C rfl (hM.2 13 rfl).2 (by omega) (by decide) dX7_fill_87 ?_
        refine g_aload_n (pc := 88) C dX7_fill_88 rfl ?_
        refine g_getr (pc := 89) C fX7_83 rfl hM.1 dX7_fill_89 rfl (hM.2 26 rfl).1 ?_
        refine g_iload_n (pc := 92) C dX7_fill_92 rfl ?_
        refine g_dup2 (pc := 93) C dX7_fill_93 ?_
        refine g_ialdN (pc := 94) C rfl (hM.2 26 rfl).2 (by omega) (by decide) dX7_fill_94 ?_
        refine g_iload_n (pc := 95) C dX7_fill_95 rfl ?_
        refine g_iadd (pc := 96) C dX7_fill_96 ?_
        refine g_iastN (pc := 97) C rfl (hM.2 26 rfl).2 (by omega) (by decide) dX7_fill_97 ?_
        refine g_aload_n (pc := 98) C dX7_fill_98 rfl ?_
        refine g_getr (pc := 99) C fX7_44 rfl hM.1 dX7_fill_99 rfl (hM.2 13 rfl).1 ?_
        refine g_iload (pc := 102) C dX7_fill_102 rfl ?_
        refine g_ialdN (pc := 104) C rfl (hM.2 13 rfl).2 (by omega) (by decide) dX7_fill_104 ?_
        exact g_iret (pc := 105) C B rfl dX7_fill_105 (by show (_, _) = t_X7_fill S i j p0; unfold t_X7_fill; rw [if_pos h30, if_pos h41, if_pos h67])
      ·
        refine g_aload_n (pc := 70) C dX7_fill_70 rfl ?_
        refine g_bipush (pc := 71) C (-6) dX7_fill_71 (by decide) ?_
        refine g_callV (pc := 73) C B mX7_116 (c_mrefuse _ _ _ _ _ hM (-6) 6 (by decide) (by decide)) rfl rfl rfl rfl hM.1 (by decide) ⟨Nat.le_refl _, Nat.le_refl _⟩ (Nat.le_of_ble_eq_true rfl) dX7_fill_73 (fun r S' hP => ?_)
        rw [hP.1, hP.2]
        exact g_iret (pc := 76) C B rfl dX7_fill_76 (by show (_, _) = t_X7_fill S i j p0; unfold t_X7_fill; rw [if_pos h30, if_pos h41, if_neg h67])
    ·
      refine g_aload_n (pc := 44) C dX7_fill_44 rfl ?_
      refine g_bipush (pc := 45) C (-4) dX7_fill_45 (by decide) ?_
      refine g_callV (pc := 47) C B mX7_116 (c_mrefuse _ _ _ _ _ hM (-4) 4 (by decide) (by decide)) rfl rfl rfl rfl hM.1 (by decide) ⟨Nat.le_refl _, Nat.le_refl _⟩ (Nat.le_of_ble_eq_true rfl) dX7_fill_47 (fun r S' hP => ?_)
      rw [hP.1, hP.2]
      exact g_iret (pc := 50) C B rfl dX7_fill_50 (by show (_, _) = t_X7_fill S i j p0; unfold t_X7_fill; rw [if_pos h30, if_neg h41])
  ·
    refine g_aload_n (pc := 33) C dX7_fill_33 rfl ?_
    refine g_bipush (pc := 34) C (-3) dX7_fill_34 (by decide) ?_
    refine g_callV (pc := 36) C B mX7_116 (c_mrefuse _ _ _ _ _ hM (-3) 3 (by decide) (by decide)) rfl rfl rfl rfl hM.1 (by decide) ⟨Nat.le_refl _, Nat.le_refl _⟩ (Nat.le_of_ble_eq_true rfl) dX7_fill_36 (fun r S' hP => ?_)
    rw [hP.1, hP.2]
    exact g_iret (pc := 39) C B rfl dX7_fill_39 (by show (_, _) = t_X7_fill S i j p0; unfold t_X7_fill; rw [if_neg h30])

set_option maxHeartbeats 4000000 in
set_option maxRecDepth 100000 in
/-- found of no lane -/
theorem c_X7_found_b (l : Launch) (E : En) (base aw : Nat) (S : Mm) (mc : Nat) (lc : Nat → Nat) (hI : IM S mc lc) (p0 p1 p2 : Int32) (h : ¬ (okL mc lc p0 p1)) : Cn l E base aw yX7_found cX7_found 6 (some Jvm.ClassFile.FieldType.int) 3 0 0 noF S [vr (2, 0, 0), vi p0, vi p1, vi p2] (fun r S' => r = some (vi (-1)) ∧ S' = rfM S 1) := by
  have hM := hI.1
  have hmc := hI.2.2.1
  have hx : ¬ okL mc lc p0 p1 := fun q => h q
  refine Cn.of (by decide) (Nat.le_of_ble_eq_true rfl) ?_
  intro X Y hl hE hbase haw hfr C B
  subst hl; subst hE; subst hbase; subst haw
  refine g_aload_n (pc := 0) C dX7_found_0 rfl ?_
  refine g_iload_n (pc := 1) C dX7_found_1 rfl ?_
  refine g_iload_n (pc := 2) C dX7_found_2 rfl ?_
  refine g_callV (pc := 3) C B mX7_123 (c_isL_f _ _ _ _ _ mc lc hI p0 p1 hx) rfl rfl rfl rfl hM.1 (by decide) ⟨Nat.le_refl _, Nat.le_refl _⟩ (Nat.le_of_ble_eq_true rfl) dX7_found_3 (fun r S' hP => ?_)
  rw [hP.1, hP.2]
  refine g_if_ne (pc := 6) C 15 dX7_found_6 (by decide) (fun h6 => absurd (by decide) h6) (fun _ => ?_)
  refine g_aload_n (pc := 9) C dX7_found_9 rfl ?_
  refine g_iconst (pc := 10) C (-1) dX7_found_10 (by decide) ?_
  refine g_callV (pc := 11) C B mX7_116 (c_mrefuse _ _ _ _ _ hM (-1) 1 (by decide) (by decide)) rfl rfl rfl rfl hM.1 (by decide) ⟨Nat.le_refl _, Nat.le_refl _⟩ (Nat.le_of_ble_eq_true rfl) dX7_found_11 (fun r S' hP => ?_)
  rw [hP.1, hP.2]
  exact g_iret (pc := 14) C B rfl dX7_found_14 (⟨rfl, rfl⟩)

def t_X7_found (S : Mm) (i : Nat) (j : Nat) (p0 : Int32) : Option AV × Mm := if 0 ≤ p0 then (if p0 ≤ (S.1 (2, 0, 12) ((8 * i) + j)) then (some (vi (S.1 (2, 0, 13) ((8 * i) + j))), wI (wI S (2, 0, 23) i ((S.1 (2, 0, 23) i) + ((S.1 (2, 0, 13) ((8 * i) + j)) - p0))) (2, 0, 13) ((8 * i) + j) p0) else (some (vi ((-6))), rfM S 6)) else (some (vi ((-4))), rfM S 4)
set_option maxHeartbeats 4000000 in
set_option maxRecDepth 100000 in
/-- found(i, j, n) -/
theorem c_X7_found (l : Launch) (E : En) (base aw : Nat) (S : Mm) (mc : Nat) (lc : Nat → Nat) (hI : IM S mc lc) (i : Nat) (hi : i < mc) (j : Nat) (hj : j < lc i) (p0 : Int32) : Cn l E base aw yX7_found cX7_found 6 (some Jvm.ClassFile.FieldType.int) 3 0 0 noF S [vr (2, 0, 0), vi (nI i), vi (nI j), vi p0] (fun r S' => (r, S') = t_X7_found S i j p0) := by
  have hM := hI.1
  have hmc := hI.2.2.1
  have hlc := (hI.2.2.2 i (by omega)).2
  refine Cn.of (by decide) (Nat.le_of_ble_eq_true rfl) ?_
  intro X Y hl hE hbase haw hfr C B
  subst hl; subst hE; subst hbase; subst haw
  refine g_aload_n (pc := 0) C dX7_found_0 rfl ?_
  refine g_iload_n (pc := 1) C dX7_found_1 rfl ?_
  refine g_iload_n (pc := 2) C dX7_found_2 rfl ?_
  refine g_callV (pc := 3) C B mX7_123 (c_isL_t _ _ _ _ _ mc lc hI i hi j hj) rfl rfl rfl rfl hM.1 (by decide) ⟨Nat.le_refl _, Nat.le_refl _⟩ (Nat.le_of_ble_eq_true rfl) dX7_found_3 (fun r S' hP => ?_)
  rw [hP.1, hP.2]
  refine g_if_ne (pc := 6) C 15 dX7_found_6 (by decide) (fun _ => ?_) (fun h6 => absurd h6 (by decide))
  refine g_bipush (pc := 15) C 8 dX7_found_15 (by decide) ?_
  refine g_iload_n (pc := 17) C dX7_found_17 rfl ?_
  refine g_imul (pc := 18) C dX7_found_18 ?_
  refine g_eqi (nI (8 * i)) (pk_mul 8 i) ?_
  refine g_iload_n (pc := 19) C dX7_found_19 rfl ?_
  refine g_iadd (pc := 20) C dX7_found_20 ?_
  refine g_eqi (nI ((8 * i) + j)) (nI_add (8 * i) j) ?_
  refine g_istore (pc := 21) C dX7_found_21 (by decide) ?_
  refine g_iload_n (pc := 23) C dX7_found_23 rfl ?_
  refine g_if_ge (pc := 24) C 34 dX7_found_24 (by decide) (fun h24 => ?_) (fun h24 => ?_)
  ·
    refine g_iload_n (pc := 34) C dX7_found_34 rfl ?_
    refine g_aload_n (pc := 35) C dX7_found_35 rfl ?_
    refine g_getr (pc := 36) C fX7_41 rfl hM.1 dX7_found_36 rfl (hM.2 12 rfl).1 ?_
    refine g_iload (pc := 39) C dX7_found_39 rfl ?_
    refine g_ialdN (pc := 41) C rfl (hM.2 12 rfl).2 (by omega) (by decide) dX7_found_41 ?_
    refine g_icmp_le (pc := 42) C 52 dX7_found_42 (by decide) (fun h42 => ?_) (fun h42 => ?_)
    ·
      refine g_aload_n (pc := 52) C dX7_found_52 rfl ?_
      refine g_getr (pc := 53) C fX7_44 rfl hM.1 dX7_found_53 rfl (hM.2 13 rfl).1 ?_
      refine g_iload (pc := 56) C dX7_found_56 rfl ?_
      refine g_ialdN (pc := 58) C rfl (hM.2 13 rfl).2 (by omega) (by decide) dX7_found_58 ?_
      refine g_istore (pc := 59) C dX7_found_59 (by decide) ?_
      refine g_aload_n (pc := 61) C dX7_found_61 rfl ?_
      refine g_getr (pc := 62) C fX7_74 rfl hM.1 dX7_found_62 rfl (hM.2 23 rfl).1 ?_
      refine g_iload_n (pc := 65) C dX7_found_65 rfl ?_
      refine g_dup2 (pc := 66) C dX7_found_66 ?_
      refine g_ialdN (pc := 67) C rfl (hM.2 23 rfl).2 (by omega) (by decide) dX7_found_67 ?_
      refine g_iload (pc := 68) C dX7_found_68 rfl ?_
      refine g_iload_n (pc := 70) C dX7_found_70 rfl ?_
      refine g_isub (pc := 71) C dX7_found_71 ?_
      refine g_iadd (pc := 72) C dX7_found_72 ?_
      refine g_iastN (pc := 73) C rfl (hM.2 23 rfl).2 (by omega) (by decide) dX7_found_73 ?_
      refine g_aload_n (pc := 74) C dX7_found_74 rfl ?_
      refine g_getr (pc := 75) C fX7_44 rfl hM.1 dX7_found_75 rfl (hM.2 13 rfl).1 ?_
      refine g_iload (pc := 78) C dX7_found_78 rfl ?_
      refine g_iload_n (pc := 80) C dX7_found_80 rfl ?_
      refine g_iastN (pc := 81) C rfl (hM.2 13 rfl).2 (by omega) (by decide) dX7_found_81 ?_
      refine g_iload (pc := 82) C dX7_found_82 rfl ?_
      exact g_iret (pc := 84) C B rfl dX7_found_84 (by show (_, _) = t_X7_found S i j p0; unfold t_X7_found; rw [if_pos h24, if_pos h42])
    ·
      refine g_aload_n (pc := 45) C dX7_found_45 rfl ?_
      refine g_bipush (pc := 46) C (-6) dX7_found_46 (by decide) ?_
      refine g_callV (pc := 48) C B mX7_116 (c_mrefuse _ _ _ _ _ hM (-6) 6 (by decide) (by decide)) rfl rfl rfl rfl hM.1 (by decide) ⟨Nat.le_refl _, Nat.le_refl _⟩ (Nat.le_of_ble_eq_true rfl) dX7_found_48 (fun r S' hP => ?_)
      rw [hP.1, hP.2]
      exact g_iret (pc := 51) C B rfl dX7_found_51 (by show (_, _) = t_X7_found S i j p0; unfold t_X7_found; rw [if_pos h24, if_neg h42])
  ·
    refine g_aload_n (pc := 27) C dX7_found_27 rfl ?_
    refine g_bipush (pc := 28) C (-4) dX7_found_28 (by decide) ?_
    refine g_callV (pc := 30) C B mX7_116 (c_mrefuse _ _ _ _ _ hM (-4) 4 (by decide) (by decide)) rfl rfl rfl rfl hM.1 (by decide) ⟨Nat.le_refl _, Nat.le_refl _⟩ (Nat.le_of_ble_eq_true rfl) dX7_found_30 (fun r S' hP => ?_)
    rw [hP.1, hP.2]
    exact g_iret (pc := 33) C B rfl dX7_found_33 (by show (_, _) = t_X7_found S i j p0; unfold t_X7_found; rw [if_neg h24])

set_option maxHeartbeats 4000000 in
set_option maxRecDepth 100000 in
/-- empty of no lane -/
theorem c_X7_empty_b (l : Launch) (E : En) (base aw : Nat) (S : Mm) (mc : Nat) (lc : Nat → Nat) (hI : IM S mc lc) (p0 p1 : Int32) (h : ¬ (okL mc lc p0 p1)) : Cn l E base aw yX7_empty cX7_empty 5 (some Jvm.ClassFile.FieldType.int) 3 0 0 noF S [vr (2, 0, 0), vi p0, vi p1] (fun r S' => r = some (vi (-1)) ∧ S' = rfM S 1) := by
  have hM := hI.1
  have hmc := hI.2.2.1
  have hx : ¬ okL mc lc p0 p1 := fun q => h q
  refine Cn.of (by decide) (Nat.le_of_ble_eq_true rfl) ?_
  intro X Y hl hE hbase haw hfr C B
  subst hl; subst hE; subst hbase; subst haw
  refine g_aload_n (pc := 0) C dX7_empty_0 rfl ?_
  refine g_iload_n (pc := 1) C dX7_empty_1 rfl ?_
  refine g_iload_n (pc := 2) C dX7_empty_2 rfl ?_
  refine g_callV (pc := 3) C B mX7_123 (c_isL_f _ _ _ _ _ mc lc hI p0 p1 hx) rfl rfl rfl rfl hM.1 (by decide) ⟨Nat.le_refl _, Nat.le_refl _⟩ (Nat.le_of_ble_eq_true rfl) dX7_empty_3 (fun r S' hP => ?_)
  rw [hP.1, hP.2]
  refine g_if_ne (pc := 6) C 15 dX7_empty_6 (by decide) (fun h6 => absurd (by decide) h6) (fun _ => ?_)
  refine g_aload_n (pc := 9) C dX7_empty_9 rfl ?_
  refine g_iconst (pc := 10) C (-1) dX7_empty_10 (by decide) ?_
  refine g_callV (pc := 11) C B mX7_116 (c_mrefuse _ _ _ _ _ hM (-1) 1 (by decide) (by decide)) rfl rfl rfl rfl hM.1 (by decide) ⟨Nat.le_refl _, Nat.le_refl _⟩ (Nat.le_of_ble_eq_true rfl) dX7_empty_11 (fun r S' hP => ?_)
  rw [hP.1, hP.2]
  exact g_iret (pc := 14) C B rfl dX7_empty_14 (⟨rfl, rfl⟩)

def t_X7_empty (S : Mm) (i : Nat) (j : Nat) : Option AV × Mm := (some (vi (S.1 (2, 0, 13) ((8 * i) + j))), wI (wI (wI S (2, 0, 24) i ((S.1 (2, 0, 24) i) + (S.1 (2, 0, 13) ((8 * i) + j)))) (2, 0, 13) ((8 * i) + j) 0) (2, 0, 19) ((8 * i) + j) 0)
set_option maxHeartbeats 4000000 in
set_option maxRecDepth 100000 in
/-- empty(i, j, n) -/
theorem c_X7_empty (l : Launch) (E : En) (base aw : Nat) (S : Mm) (mc : Nat) (lc : Nat → Nat) (hI : IM S mc lc) (i : Nat) (hi : i < mc) (j : Nat) (hj : j < lc i) : Cn l E base aw yX7_empty cX7_empty 5 (some Jvm.ClassFile.FieldType.int) 3 0 0 noF S [vr (2, 0, 0), vi (nI i), vi (nI j)] (fun r S' => (r, S') = t_X7_empty S i j) := by
  have hM := hI.1
  have hmc := hI.2.2.1
  have hlc := (hI.2.2.2 i (by omega)).2
  refine Cn.of (by decide) (Nat.le_of_ble_eq_true rfl) ?_
  intro X Y hl hE hbase haw hfr C B
  subst hl; subst hE; subst hbase; subst haw
  refine g_aload_n (pc := 0) C dX7_empty_0 rfl ?_
  refine g_iload_n (pc := 1) C dX7_empty_1 rfl ?_
  refine g_iload_n (pc := 2) C dX7_empty_2 rfl ?_
  refine g_callV (pc := 3) C B mX7_123 (c_isL_t _ _ _ _ _ mc lc hI i hi j hj) rfl rfl rfl rfl hM.1 (by decide) ⟨Nat.le_refl _, Nat.le_refl _⟩ (Nat.le_of_ble_eq_true rfl) dX7_empty_3 (fun r S' hP => ?_)
  rw [hP.1, hP.2]
  refine g_if_ne (pc := 6) C 15 dX7_empty_6 (by decide) (fun _ => ?_) (fun h6 => absurd h6 (by decide))
  refine g_bipush (pc := 15) C 8 dX7_empty_15 (by decide) ?_
  refine g_iload_n (pc := 17) C dX7_empty_17 rfl ?_
  refine g_imul (pc := 18) C dX7_empty_18 ?_
  refine g_eqi (nI (8 * i)) (pk_mul 8 i) ?_
  refine g_iload_n (pc := 19) C dX7_empty_19 rfl ?_
  refine g_iadd (pc := 20) C dX7_empty_20 ?_
  refine g_eqi (nI ((8 * i) + j)) (nI_add (8 * i) j) ?_
  refine g_istore_n (pc := 21) C dX7_empty_21 (by decide) ?_
  refine g_aload_n (pc := 22) C dX7_empty_22 rfl ?_
  refine g_getr (pc := 23) C fX7_44 rfl hM.1 dX7_empty_23 rfl (hM.2 13 rfl).1 ?_
  refine g_iload_n (pc := 26) C dX7_empty_26 rfl ?_
  refine g_ialdN (pc := 27) C rfl (hM.2 13 rfl).2 (by omega) (by decide) dX7_empty_27 ?_
  refine g_istore (pc := 28) C dX7_empty_28 (by decide) ?_
  refine g_aload_n (pc := 30) C dX7_empty_30 rfl ?_
  refine g_getr (pc := 31) C fX7_77 rfl hM.1 dX7_empty_31 rfl (hM.2 24 rfl).1 ?_
  refine g_iload_n (pc := 34) C dX7_empty_34 rfl ?_
  refine g_dup2 (pc := 35) C dX7_empty_35 ?_
  refine g_ialdN (pc := 36) C rfl (hM.2 24 rfl).2 (by omega) (by decide) dX7_empty_36 ?_
  refine g_iload (pc := 37) C dX7_empty_37 rfl ?_
  refine g_iadd (pc := 39) C dX7_empty_39 ?_
  refine g_iastN (pc := 40) C rfl (hM.2 24 rfl).2 (by omega) (by decide) dX7_empty_40 ?_
  refine g_aload_n (pc := 41) C dX7_empty_41 rfl ?_
  refine g_getr (pc := 42) C fX7_44 rfl hM.1 dX7_empty_42 rfl (hM.2 13 rfl).1 ?_
  refine g_iload_n (pc := 45) C dX7_empty_45 rfl ?_
  refine g_iconst (pc := 46) C 0 dX7_empty_46 (by decide) ?_
  refine g_iastN (pc := 47) C rfl (hM.2 13 rfl).2 (by omega) (by decide) dX7_empty_47 ?_
  refine g_aload_n (pc := 48) C dX7_empty_48 rfl ?_
  refine g_getr (pc := 49) C fX7_62 rfl hM.1 dX7_empty_49 rfl (hM.2 19 rfl).1 ?_
  refine g_iload_n (pc := 52) C dX7_empty_52 rfl ?_
  refine g_iconst (pc := 53) C 0 dX7_empty_53 (by decide) ?_
  refine g_bastN (pc := 54) C rfl (hM.2 19 rfl).2 (by omega) (by decide) (Or.inl rfl) dX7_empty_54 ?_
  refine g_iload (pc := 55) C dX7_empty_55 rfl ?_
  exact g_iret (pc := 57) C B rfl dX7_empty_57 (by show (_, _) = t_X7_empty S i j; unfold t_X7_empty; rfl)

