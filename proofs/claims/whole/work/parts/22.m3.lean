set_option maxHeartbeats 4000000 in
set_option maxRecDepth 100000 in
theorem c_X7_shut_b (l : Launch) (E : En) (base aw : Nat) (S : Mm) (mc : Nat) (lc : Nat → Nat) (hI : IM S mc lc) (p0 p1 p2 : Int32) (hx : ¬ okL mc lc p0 p1) : Cn l E base aw yX7_shut cX7_shut 4 (some Jvm.ClassFile.FieldType.boolean) 3 0 0 noF S [vr (2, 0, 0), vi p0, vi p1, vi p2] (fun r S' => r = some (vi 0) ∧ S' = S) := by
  have hM := hI.1
  have hmc := hI.2.2.1
  refine Cn.of (by decide) (Nat.le_of_ble_eq_true rfl) ?_
  intro X Y hl hE hbase haw hfr C B
  subst hl; subst hE; subst hbase; subst haw
  refine g_aload_n (pc := 0) C dX7_shut_0 rfl ?_
  refine g_iload_n (pc := 1) C dX7_shut_1 rfl ?_
  refine g_iload_n (pc := 2) C dX7_shut_2 rfl ?_
  refine g_callV (pc := 3) C B mX7_123 (c_isL_f _ _ _ _ _ mc lc hI p0 p1 hx) rfl rfl rfl rfl hM.1 (by decide) ⟨Nat.le_refl _, Nat.le_refl _⟩ (Nat.le_of_ble_eq_true rfl) dX7_shut_3 (fun r S' hP => ?_)
  rw [hP.1, hP.2]
  refine g_if_eq (pc := 6) C 24 dX7_shut_6 (by decide) (fun _ => ?_) (fun h6 => absurd (by decide) h6)
  refine g_iconst (pc := 24) C 0 dX7_shut_24 (by decide) ?_
  exact g_iret (pc := 25) C B rfl dX7_shut_25 (⟨rfl, rfl⟩)

def t_X7_shut (S : Mm) (i : Nat) (j : Nat) (p0 : Int32) : Option AV × Mm := if (S.1 (2, 0, 18) ((8 * i) + j)) = p0 then (some (vi (0)), S) else (if p0 = 0 then (some (vi (1)), wI (wI S (2, 0, 18) ((8 * i) + j) p0) (2, 0, 17) ((8 * i) + j) 0) else (some (vi (1)), wI (wI S (2, 0, 18) ((8 * i) + j) p0) (2, 0, 17) ((8 * i) + j) ((wI S (2, 0, 18) ((8 * i) + j) p0).1 (2, 0, 17) ((8 * i) + j))))
set_option maxHeartbeats 4000000 in
set_option maxRecDepth 100000 in
/-- shut(i, j, on) -/
theorem c_X7_shut (l : Launch) (E : En) (base aw : Nat) (S : Mm) (mc : Nat) (lc : Nat → Nat) (hI : IM S mc lc) (i : Nat) (hi : i < mc) (j : Nat) (hj : j < lc i) (p0 : Int32) (hon : p0 = 0 ∨ p0 = 1) : Cn l E base aw yX7_shut cX7_shut 4 (some Jvm.ClassFile.FieldType.boolean) 3 0 0 noF S [vr (2, 0, 0), vi (nI i), vi (nI j), vi p0] (fun r S' => (r, S') = t_X7_shut S i j p0) := by
  have hM := hI.1
  have hmc := hI.2.2.1
  have hlc := (hI.2.2.2 i (by omega)).2
  refine Cn.of (by decide) (Nat.le_of_ble_eq_true rfl) ?_
  intro X Y hl hE hbase haw hfr C B
  subst hl; subst hE; subst hbase; subst haw
  refine g_aload_n (pc := 0) C dX7_shut_0 rfl ?_
  refine g_iload_n (pc := 1) C dX7_shut_1 rfl ?_
  refine g_iload_n (pc := 2) C dX7_shut_2 rfl ?_
  refine g_callV (pc := 3) C B mX7_123 (c_isL_t _ _ _ _ _ mc lc hI i hi j hj) rfl rfl rfl rfl hM.1 (by decide) ⟨Nat.le_refl _, Nat.le_refl _⟩ (Nat.le_of_ble_eq_true rfl) dX7_shut_3 (fun r S' hP => ?_)
  rw [hP.1, hP.2]
  refine g_if_eq (pc := 6) C 24 dX7_shut_6 (by decide) (fun h6 => absurd h6 (by decide)) (fun _ => ?_)
  refine g_aload_n (pc := 9) C dX7_shut_9 rfl ?_
  refine g_getr (pc := 10) C fX7_59 rfl hM.1 dX7_shut_10 rfl (hM.2 18 rfl).1 ?_
  refine g_bipush (pc := 13) C 8 dX7_shut_13 (by decide) ?_
  refine g_iload_n (pc := 15) C dX7_shut_15 rfl ?_
  refine g_imul (pc := 16) C dX7_shut_16 ?_
  refine g_eqi (nI (8 * i)) (pk_mul 8 i) ?_
  refine g_iload_n (pc := 17) C dX7_shut_17 rfl ?_
  refine g_iadd (pc := 18) C dX7_shut_18 ?_
  refine g_eqi (nI ((8 * i) + j)) (nI_add (8 * i) j) ?_
  refine g_baldN (pc := 19) C rfl (hM.2 18 rfl).2 (by omega) (by decide) dX7_shut_19 ?_
  refine g_iload_n (pc := 20) C dX7_shut_20 rfl ?_
  refine g_icmp_ne (pc := 21) C 26 dX7_shut_21 (by decide) (fun h21 => ?_) (fun h21 => ?_)
  ·
    refine g_aload_n (pc := 26) C dX7_shut_26 rfl ?_
    refine g_getr (pc := 27) C fX7_59 rfl hM.1 dX7_shut_27 rfl (hM.2 18 rfl).1 ?_
    refine g_bipush (pc := 30) C 8 dX7_shut_30 (by decide) ?_
    refine g_iload_n (pc := 32) C dX7_shut_32 rfl ?_
    refine g_imul (pc := 33) C dX7_shut_33 ?_
    refine g_eqi (nI (8 * i)) (pk_mul 8 i) ?_
    refine g_iload_n (pc := 34) C dX7_shut_34 rfl ?_
    refine g_iadd (pc := 35) C dX7_shut_35 ?_
    refine g_eqi (nI ((8 * i) + j)) (nI_add (8 * i) j) ?_
    refine g_iload_n (pc := 36) C dX7_shut_36 rfl ?_
    refine g_bastN (pc := 37) C rfl (hM.2 18 rfl).2 (by omega) (by decide) (by assumption) dX7_shut_37 ?_
    refine g_aload_n (pc := 38) C dX7_shut_38 rfl ?_
    refine g_getr (pc := 39) C fX7_56 rfl hM.1 dX7_shut_39 rfl (hM.2 17 rfl).1 ?_
    refine g_bipush (pc := 42) C 8 dX7_shut_42 (by decide) ?_
    refine g_iload_n (pc := 44) C dX7_shut_44 rfl ?_
    refine g_imul (pc := 45) C dX7_shut_45 ?_
    refine g_eqi (nI (8 * i)) (pk_mul 8 i) ?_
    refine g_iload_n (pc := 46) C dX7_shut_46 rfl ?_
    refine g_iadd (pc := 47) C dX7_shut_47 ?_
    refine g_eqi (nI ((8 * i) + j)) (nI_add (8 * i) j) ?_
    refine g_iload_n (pc := 48) C dX7_shut_48 rfl ?_
    refine g_if_eq (pc := 49) C 66 dX7_shut_49 (by decide) (fun h49 => ?_) (fun h49 => ?_)
    ·
      refine g_iconst (pc := 66) C 0 dX7_shut_66 (by decide) ?_
      refine g_iastN (pc := 67) C rfl (hM.2 17 rfl).2 (by omega) (by decide) dX7_shut_67 ?_
      refine g_iconst (pc := 68) C 1 dX7_shut_68 (by decide) ?_
      exact g_iret (pc := 69) C B rfl dX7_shut_69 (by show (_, _) = t_X7_shut S i j p0; unfold t_X7_shut; rw [if_neg h21, if_pos h49])
    ·
      refine g_aload_n (pc := 52) C dX7_shut_52 rfl ?_
      refine g_getr (pc := 53) C fX7_56 rfl hM.1 dX7_shut_53 rfl (hM.2 17 rfl).1 ?_
      refine g_bipush (pc := 56) C 8 dX7_shut_56 (by decide) ?_
      refine g_iload_n (pc := 58) C dX7_shut_58 rfl ?_
      refine g_imul (pc := 59) C dX7_shut_59 ?_
      refine g_eqi (nI (8 * i)) (pk_mul 8 i) ?_
      refine g_iload_n (pc := 60) C dX7_shut_60 rfl ?_
      refine g_iadd (pc := 61) C dX7_shut_61 ?_
      refine g_eqi (nI ((8 * i) + j)) (nI_add (8 * i) j) ?_
      refine g_ialdN (pc := 62) C rfl (hM.2 17 rfl).2 (by omega) (by decide) dX7_shut_62 ?_
      refine g_goto (pc := 63) C 67 dX7_shut_63 (by decide) ?_
      refine g_iastN (pc := 67) C rfl (hM.2 17 rfl).2 (by omega) (by decide) dX7_shut_67 ?_
      refine g_iconst (pc := 68) C 1 dX7_shut_68 (by decide) ?_
      exact g_iret (pc := 69) C B rfl dX7_shut_69 (by show (_, _) = t_X7_shut S i j p0; unfold t_X7_shut; rw [if_neg h21, if_neg h49])
  ·
    refine g_iconst (pc := 24) C 0 dX7_shut_24 (by decide) ?_
    exact g_iret (pc := 25) C B rfl dX7_shut_25 (by show (_, _) = t_X7_shut S i j p0; unfold t_X7_shut; rw [if_pos h21])

set_option maxHeartbeats 4000000 in
set_option maxRecDepth 100000 in
theorem c_X7_power_b (l : Launch) (E : En) (base aw : Nat) (S : Mm) (mc : Nat) (lc : Nat → Nat) (hI : IM S mc lc) (p0 p1 : Int32) (hx : ¬ okN mc p0) : Cn l E base aw yX7_power cX7_power 3 (some Jvm.ClassFile.FieldType.boolean) 3 0 0 noF S [vr (2, 0, 0), vi p0, vi p1] (fun r S' => r = some (vi 0) ∧ S' = S) := by
  have hM := hI.1
  have hmc := hI.2.2.1
  refine Cn.of (by decide) (Nat.le_of_ble_eq_true rfl) ?_
  intro X Y hl hE hbase haw hfr C B
  subst hl; subst hE; subst hbase; subst haw
  refine g_aload_n (pc := 0) C dX7_power_0 rfl ?_
  refine g_iload_n (pc := 1) C dX7_power_1 rfl ?_
  refine g_callV (pc := 2) C B mX7_112 (c_isM_f _ _ _ _ _ mc lc hI p0 hx) rfl rfl rfl rfl hM.1 (by decide) ⟨Nat.le_refl _, Nat.le_refl _⟩ (Nat.le_of_ble_eq_true rfl) dX7_power_2 (fun r S' hP => ?_)
  rw [hP.1, hP.2]
  refine g_if_eq (pc := 5) C 18 dX7_power_5 (by decide) (fun _ => ?_) (fun h5 => absurd (by decide) h5)
  refine g_iconst (pc := 18) C 0 dX7_power_18 (by decide) ?_
  exact g_iret (pc := 19) C B rfl dX7_power_19 (⟨rfl, rfl⟩)

def t_X7_power (S : Mm) (i : Nat) (p0 : Int32) : Option AV × Mm := if (S.1 (2, 0, 8) i) = p0 then (if p0 = 0 then (some (vi (1)), wI (wI S (2, 0, 8) i 1) (2, 0, 9) i 0) else (some (vi (1)), wI (wI S (2, 0, 8) i 0) (2, 0, 9) i 0)) else (some (vi (0)), S)
set_option maxHeartbeats 4000000 in
set_option maxRecDepth 100000 in
/-- power(i, on) -/
theorem c_X7_power (l : Launch) (E : En) (base aw : Nat) (S : Mm) (mc : Nat) (lc : Nat → Nat) (hI : IM S mc lc) (i : Nat) (hi : i < mc) (p0 : Int32) : Cn l E base aw yX7_power cX7_power 3 (some Jvm.ClassFile.FieldType.boolean) 3 0 0 noF S [vr (2, 0, 0), vi (nI i), vi p0] (fun r S' => (r, S') = t_X7_power S i p0) := by
  have hM := hI.1
  have hmc := hI.2.2.1
  refine Cn.of (by decide) (Nat.le_of_ble_eq_true rfl) ?_
  intro X Y hl hE hbase haw hfr C B
  subst hl; subst hE; subst hbase; subst haw
  refine g_aload_n (pc := 0) C dX7_power_0 rfl ?_
  refine g_iload_n (pc := 1) C dX7_power_1 rfl ?_
  refine g_callV (pc := 2) C B mX7_112 (c_isM_t _ _ _ _ _ mc lc hI i hi) rfl rfl rfl rfl hM.1 (by decide) ⟨Nat.le_refl _, Nat.le_refl _⟩ (Nat.le_of_ble_eq_true rfl) dX7_power_2 (fun r S' hP => ?_)
  rw [hP.1, hP.2]
  refine g_if_eq (pc := 5) C 18 dX7_power_5 (by decide) (fun h5 => absurd h5 (by decide)) (fun _ => ?_)
  refine g_aload_n (pc := 8) C dX7_power_8 rfl ?_
  refine g_getr (pc := 9) C fX7_28 rfl hM.1 dX7_power_9 rfl (hM.2 8 rfl).1 ?_
  refine g_iload_n (pc := 12) C dX7_power_12 rfl ?_
  refine g_baldN (pc := 13) C rfl (hM.2 8 rfl).2 (by omega) (by decide) dX7_power_13 ?_
  refine g_iload_n (pc := 14) C dX7_power_14 rfl ?_
  refine g_icmp_eq (pc := 15) C 20 dX7_power_15 (by decide) (fun h15 => ?_) (fun h15 => ?_)
  ·
    refine g_aload_n (pc := 20) C dX7_power_20 rfl ?_
    refine g_getr (pc := 21) C fX7_28 rfl hM.1 dX7_power_21 rfl (hM.2 8 rfl).1 ?_
    refine g_iload_n (pc := 24) C dX7_power_24 rfl ?_
    refine g_iload_n (pc := 25) C dX7_power_25 rfl ?_
    refine g_if_ne (pc := 26) C 33 dX7_power_26 (by decide) (fun h26 => ?_) (fun h26 => ?_)
    ·
      refine g_iconst (pc := 33) C 0 dX7_power_33 (by decide) ?_
      refine g_bastN (pc := 34) C rfl (hM.2 8 rfl).2 (by omega) (by decide) (Or.inl rfl) dX7_power_34 ?_
      refine g_aload_n (pc := 35) C dX7_power_35 rfl ?_
      refine g_getr (pc := 36) C fX7_32 rfl hM.1 dX7_power_36 rfl (hM.2 9 rfl).1 ?_
      refine g_iload_n (pc := 39) C dX7_power_39 rfl ?_
      refine g_iconst (pc := 40) C 0 dX7_power_40 (by decide) ?_
      refine g_iastN (pc := 41) C rfl (hM.2 9 rfl).2 (by omega) (by decide) dX7_power_41 ?_
      refine g_iconst (pc := 42) C 1 dX7_power_42 (by decide) ?_
      exact g_iret (pc := 43) C B rfl dX7_power_43 (by show (_, _) = t_X7_power S i p0; unfold t_X7_power; rw [if_pos h15, if_neg h26])
    ·
      refine g_iconst (pc := 29) C 1 dX7_power_29 (by decide) ?_
      refine g_goto (pc := 30) C 34 dX7_power_30 (by decide) ?_
      refine g_bastN (pc := 34) C rfl (hM.2 8 rfl).2 (by omega) (by decide) (Or.inr rfl) dX7_power_34 ?_
      refine g_aload_n (pc := 35) C dX7_power_35 rfl ?_
      refine g_getr (pc := 36) C fX7_32 rfl hM.1 dX7_power_36 rfl (hM.2 9 rfl).1 ?_
      refine g_iload_n (pc := 39) C dX7_power_39 rfl ?_
      refine g_iconst (pc := 40) C 0 dX7_power_40 (by decide) ?_
      refine g_iastN (pc := 41) C rfl (hM.2 9 rfl).2 (by omega) (by decide) dX7_power_41 ?_
      refine g_iconst (pc := 42) C 1 dX7_power_42 (by decide) ?_
      exact g_iret (pc := 43) C B rfl dX7_power_43 (by show (_, _) = t_X7_power S i p0; unfold t_X7_power; rw [if_pos h15, if_pos h26])
  ·
    refine g_iconst (pc := 18) C 0 dX7_power_18 (by decide) ?_
    exact g_iret (pc := 19) C B rfl dX7_power_19 (by show (_, _) = t_X7_power S i p0; unfold t_X7_power; rw [if_neg h15])

def v_X7_nextServes (S : Mm) (i : Nat) (j : Nat) : Int32 := if (S.1 (2, 0, 2) i) ≤ (nI (j + 1)) then 0 else (if (S.1 (2, 0, 10) (((8 * i) + j) + 1)) = (S.1 (2, 0, 10) ((8 * i) + j)) then (if (S.1 (2, 0, 13) (((8 * i) + j) + 1)) ≤ 0 then 0 else (if (S.1 (2, 0, 18) (((8 * i) + j) + 1)) = 0 then (if (S.1 (2, 0, 19) (((8 * i) + j) + 1)) = 0 then 1 else 0) else 0)) else 0)
set_option maxHeartbeats 4000000 in
set_option maxRecDepth 100000 in
/-- nextServes(i, j) -/
theorem c_X7_nextServes (l : Launch) (E : En) (base aw : Nat) (S : Mm) (mc : Nat) (lc : Nat → Nat) (hI : IM S mc lc) (i : Nat) (hi : i < mc) (j : Nat) (hj : j < lc i) : Cn l E base aw yX7_nextServes cX7_nextServes 4 (some Jvm.ClassFile.FieldType.boolean) 1 0 0 noF S [vr (2, 0, 0), vi (nI i), vi (nI j)] (fun r S' => r = some (vi (v_X7_nextServes S i j)) ∧ S' = S) := by
  have hM := hI.1
  have hmc := hI.2.2.1
  have hlc := (hI.2.2.2 i (by omega)).2
  refine Cn.of (by decide) (Nat.le_of_ble_eq_true rfl) ?_
  intro X Y hl hE hbase haw hfr C B
  subst hl; subst hE; subst hbase; subst haw
  refine g_bipush (pc := 0) C 8 dX7_nextServes_0 (by decide) ?_
  refine g_iload_n (pc := 2) C dX7_nextServes_2 rfl ?_
  refine g_imul (pc := 3) C dX7_nextServes_3 ?_
  refine g_eqi (nI (8 * i)) (pk_mul 8 i) ?_
  refine g_iload_n (pc := 4) C dX7_nextServes_4 rfl ?_
  refine g_iadd (pc := 5) C dX7_nextServes_5 ?_
  refine g_eqi (nI ((8 * i) + j)) (nI_add (8 * i) j) ?_
  refine g_iconst (pc := 6) C 1 dX7_nextServes_6 (by decide) ?_
  refine g_iadd (pc := 7) C dX7_nextServes_7 ?_
  refine g_eqi (nI (((8 * i) + j) + 1)) (nI_add ((8 * i) + j) 1) ?_
  refine g_istore_n (pc := 8) C dX7_nextServes_8 (by decide) ?_
  refine g_iload_n (pc := 9) C dX7_nextServes_9 rfl ?_
  refine g_iconst (pc := 10) C 1 dX7_nextServes_10 (by decide) ?_
  refine g_iadd (pc := 11) C dX7_nextServes_11 ?_
  refine g_eqi (nI (j + 1)) (nI_add j 1) ?_
  refine g_aload_n (pc := 12) C dX7_nextServes_12 rfl ?_
  refine g_getr (pc := 13) C fX7_7 rfl hM.1 dX7_nextServes_13 rfl (hM.2 2 rfl).1 ?_
  refine g_iload_n (pc := 16) C dX7_nextServes_16 rfl ?_
  refine g_ialdN (pc := 17) C rfl (hM.2 2 rfl).2 (by omega) (by decide) dX7_nextServes_17 ?_
  refine g_icmp_ge (pc := 18) C 72 dX7_nextServes_18 (by decide) (fun h18 => ?_) (fun h18 => ?_)
  ·
    refine g_iconst (pc := 72) C 0 dX7_nextServes_72 (by decide) ?_
    exact g_iret (pc := 73) C B rfl dX7_nextServes_73 (⟨by show some (vi _) = some (vi (v_X7_nextServes S i j)); unfold v_X7_nextServes; rw [if_pos h18], rfl⟩)
  ·
    have hj1 : j + 1 < lc i := by rw [(hI.2.2.2 i (by omega)).1, nI_leI (by omega) (by omega)] at h18; omega
    refine g_aload_n (pc := 21) C dX7_nextServes_21 rfl ?_
    refine g_getr (pc := 22) C fX7_35 rfl hM.1 dX7_nextServes_22 rfl (hM.2 10 rfl).1 ?_
    refine g_iload_n (pc := 25) C dX7_nextServes_25 rfl ?_
    refine g_ialdN (pc := 26) C rfl (hM.2 10 rfl).2 (by omega) (by decide) dX7_nextServes_26 ?_
    refine g_aload_n (pc := 27) C dX7_nextServes_27 rfl ?_
    refine g_getr (pc := 28) C fX7_35 rfl hM.1 dX7_nextServes_28 rfl (hM.2 10 rfl).1 ?_
    refine g_bipush (pc := 31) C 8 dX7_nextServes_31 (by decide) ?_
    refine g_iload_n (pc := 33) C dX7_nextServes_33 rfl ?_
    refine g_imul (pc := 34) C dX7_nextServes_34 ?_
    refine g_eqi (nI (8 * i)) (pk_mul 8 i) ?_
    refine g_iload_n (pc := 35) C dX7_nextServes_35 rfl ?_
    refine g_iadd (pc := 36) C dX7_nextServes_36 ?_
    refine g_eqi (nI ((8 * i) + j)) (nI_add (8 * i) j) ?_
    refine g_ialdN (pc := 37) C rfl (hM.2 10 rfl).2 (by omega) (by decide) dX7_nextServes_37 ?_
    refine g_icmp_ne (pc := 38) C 72 dX7_nextServes_38 (by decide) (fun h38 => ?_) (fun h38 => ?_)
    ·
      refine g_iconst (pc := 72) C 0 dX7_nextServes_72 (by decide) ?_
      exact g_iret (pc := 73) C B rfl dX7_nextServes_73 (⟨by show some (vi _) = some (vi (v_X7_nextServes S i j)); unfold v_X7_nextServes; rw [if_neg h18, if_neg h38], rfl⟩)
    ·
      refine g_aload_n (pc := 41) C dX7_nextServes_41 rfl ?_
      refine g_getr (pc := 42) C fX7_44 rfl hM.1 dX7_nextServes_42 rfl (hM.2 13 rfl).1 ?_
      refine g_iload_n (pc := 45) C dX7_nextServes_45 rfl ?_
      refine g_ialdN (pc := 46) C rfl (hM.2 13 rfl).2 (by omega) (by decide) dX7_nextServes_46 ?_
      refine g_if_le (pc := 47) C 72 dX7_nextServes_47 (by decide) (fun h47 => ?_) (fun h47 => ?_)
      ·
        refine g_iconst (pc := 72) C 0 dX7_nextServes_72 (by decide) ?_
        exact g_iret (pc := 73) C B rfl dX7_nextServes_73 (⟨by show some (vi _) = some (vi (v_X7_nextServes S i j)); unfold v_X7_nextServes; rw [if_neg h18, if_pos h38, if_pos h47], rfl⟩)
      ·
        refine g_aload_n (pc := 50) C dX7_nextServes_50 rfl ?_
        refine g_getr (pc := 51) C fX7_59 rfl hM.1 dX7_nextServes_51 rfl (hM.2 18 rfl).1 ?_
        refine g_iload_n (pc := 54) C dX7_nextServes_54 rfl ?_
        refine g_baldN (pc := 55) C rfl (hM.2 18 rfl).2 (by omega) (by decide) dX7_nextServes_55 ?_
        refine g_if_ne (pc := 56) C 72 dX7_nextServes_56 (by decide) (fun h56 => ?_) (fun h56 => ?_)
        ·
          refine g_iconst (pc := 72) C 0 dX7_nextServes_72 (by decide) ?_
          exact g_iret (pc := 73) C B rfl dX7_nextServes_73 (⟨by show some (vi _) = some (vi (v_X7_nextServes S i j)); unfold v_X7_nextServes; rw [if_neg h18, if_pos h38, if_neg h47, if_neg h56], rfl⟩)
        ·
          refine g_aload_n (pc := 59) C dX7_nextServes_59 rfl ?_
          refine g_getr (pc := 60) C fX7_62 rfl hM.1 dX7_nextServes_60 rfl (hM.2 19 rfl).1 ?_
          refine g_iload_n (pc := 63) C dX7_nextServes_63 rfl ?_
          refine g_baldN (pc := 64) C rfl (hM.2 19 rfl).2 (by omega) (by decide) dX7_nextServes_64 ?_
          refine g_if_ne (pc := 65) C 72 dX7_nextServes_65 (by decide) (fun h65 => ?_) (fun h65 => ?_)
          ·
            refine g_iconst (pc := 72) C 0 dX7_nextServes_72 (by decide) ?_
            exact g_iret (pc := 73) C B rfl dX7_nextServes_73 (⟨by show some (vi _) = some (vi (v_X7_nextServes S i j)); unfold v_X7_nextServes; rw [if_neg h18, if_pos h38, if_neg h47, if_pos h56, if_neg h65], rfl⟩)
          ·
            refine g_iconst (pc := 68) C 1 dX7_nextServes_68 (by decide) ?_
            refine g_goto (pc := 69) C 73 dX7_nextServes_69 (by decide) ?_
            exact g_iret (pc := 73) C B rfl dX7_nextServes_73 (⟨by show some (vi _) = some (vi (v_X7_nextServes S i j)); unfold v_X7_nextServes; rw [if_neg h18, if_pos h38, if_neg h47, if_pos h56, if_pos h65], rfl⟩)

def v_X7_sells (S : Mm) (i : Nat) (j : Nat) : Int32 := if (S.1 (2, 0, 18) ((8 * i) + j)) = 0 then (if (S.1 (2, 0, 19) ((8 * i) + j)) = 0 then (if 0 < (S.1 (2, 0, 13) ((8 * i) + j)) then 1 else (if (S.1 (2, 0, 14) ((8 * i) + j)) = 3 then (if (v_X7_nextServes S i j) = 0 then 0 else 1) else 0)) else 0) else 0
set_option maxHeartbeats 4000000 in
set_option maxRecDepth 100000 in
/-- sells(i, j) -/
theorem c_X7_sells (l : Launch) (E : En) (base aw : Nat) (S : Mm) (mc : Nat) (lc : Nat → Nat) (hI : IM S mc lc) (i : Nat) (hi : i < mc) (j : Nat) (hj : j < lc i) : Cn l E base aw yX7_sells cX7_sells 4 (some Jvm.ClassFile.FieldType.boolean) 2 0 0 noF S [vr (2, 0, 0), vi (nI i), vi (nI j)] (fun r S' => r = some (vi (v_X7_sells S i j)) ∧ S' = S) := by
  have hM := hI.1
  have hmc := hI.2.2.1
  have hlc := (hI.2.2.2 i (by omega)).2
  refine Cn.of (by decide) (Nat.le_of_ble_eq_true rfl) ?_
  intro X Y hl hE hbase haw hfr C B
  subst hl; subst hE; subst hbase; subst haw
  refine g_bipush (pc := 0) C 8 dX7_sells_0 (by decide) ?_
  refine g_iload_n (pc := 2) C dX7_sells_2 rfl ?_
  refine g_imul (pc := 3) C dX7_sells_3 ?_
  refine g_eqi (nI (8 * i)) (pk_mul 8 i) ?_
  refine g_iload_n (pc := 4) C dX7_sells_4 rfl ?_
  refine g_iadd (pc := 5) C dX7_sells_5 ?_
  refine g_eqi (nI ((8 * i) + j)) (nI_add (8 * i) j) ?_
  refine g_istore_n (pc := 6) C dX7_sells_6 (by decide) ?_
  refine g_aload_n (pc := 7) C dX7_sells_7 rfl ?_
  refine g_getr (pc := 8) C fX7_59 rfl hM.1 dX7_sells_8 rfl (hM.2 18 rfl).1 ?_
  refine g_iload_n (pc := 11) C dX7_sells_11 rfl ?_
  refine g_baldN (pc := 12) C rfl (hM.2 18 rfl).2 (by omega) (by decide) dX7_sells_12 ?_
  refine g_if_ne (pc := 13) C 25 dX7_sells_13 (by decide) (fun h13 => ?_) (fun h13 => ?_)
  ·
    refine g_iconst (pc := 25) C 0 dX7_sells_25 (by decide) ?_
    exact g_iret (pc := 26) C B rfl dX7_sells_26 (⟨by show some (vi _) = some (vi (v_X7_sells S i j)); unfold v_X7_sells; rw [if_neg h13], rfl⟩)
  ·
    refine g_aload_n (pc := 16) C dX7_sells_16 rfl ?_
    refine g_getr (pc := 17) C fX7_62 rfl hM.1 dX7_sells_17 rfl (hM.2 19 rfl).1 ?_
    refine g_iload_n (pc := 20) C dX7_sells_20 rfl ?_
    refine g_baldN (pc := 21) C rfl (hM.2 19 rfl).2 (by omega) (by decide) dX7_sells_21 ?_
    refine g_if_eq (pc := 22) C 27 dX7_sells_22 (by decide) (fun h22 => ?_) (fun h22 => ?_)
    ·
      refine g_aload_n (pc := 27) C dX7_sells_27 rfl ?_
      refine g_getr (pc := 28) C fX7_44 rfl hM.1 dX7_sells_28 rfl (hM.2 13 rfl).1 ?_
      refine g_iload_n (pc := 31) C dX7_sells_31 rfl ?_
      refine g_ialdN (pc := 32) C rfl (hM.2 13 rfl).2 (by omega) (by decide) dX7_sells_32 ?_
      refine g_if_gt (pc := 33) C 55 dX7_sells_33 (by decide) (fun h33 => ?_) (fun h33 => ?_)
      ·
        refine g_iconst (pc := 55) C 1 dX7_sells_55 (by decide) ?_
        refine g_goto (pc := 56) C 60 dX7_sells_56 (by decide) ?_
        exact g_iret (pc := 60) C B rfl dX7_sells_60 (⟨by show some (vi _) = some (vi (v_X7_sells S i j)); unfold v_X7_sells; rw [if_pos h13, if_pos h22, if_pos h33], rfl⟩)
      ·
        refine g_aload_n (pc := 36) C dX7_sells_36 rfl ?_
        refine g_getr (pc := 37) C fX7_47 rfl hM.1 dX7_sells_37 rfl (hM.2 14 rfl).1 ?_
        refine g_iload_n (pc := 40) C dX7_sells_40 rfl ?_
        refine g_ialdN (pc := 41) C rfl (hM.2 14 rfl).2 (by omega) (by decide) dX7_sells_41 ?_
        refine g_iconst (pc := 42) C 3 dX7_sells_42 (by decide) ?_
        refine g_icmp_ne (pc := 43) C 59 dX7_sells_43 (by decide) (fun h43 => ?_) (fun h43 => ?_)
        ·
          refine g_iconst (pc := 59) C 0 dX7_sells_59 (by decide) ?_
          exact g_iret (pc := 60) C B rfl dX7_sells_60 (⟨by show some (vi _) = some (vi (v_X7_sells S i j)); unfold v_X7_sells; rw [if_pos h13, if_pos h22, if_neg h33, if_neg h43], rfl⟩)
        ·
          refine g_aload_n (pc := 46) C dX7_sells_46 rfl ?_
          refine g_iload_n (pc := 47) C dX7_sells_47 rfl ?_
          refine g_iload_n (pc := 48) C dX7_sells_48 rfl ?_
          refine g_callV (pc := 49) C B mX7_127 (c_X7_nextServes _ _ _ _ _ mc lc hI i hi j hj) rfl rfl rfl rfl hM.1 (by decide) ⟨Nat.le_refl _, Nat.le_refl _⟩ (Nat.le_of_ble_eq_true rfl) dX7_sells_49 (fun r S' hP => ?_)
          rw [hP.1, hP.2]
          refine g_if_eq (pc := 52) C 59 dX7_sells_52 (by decide) (fun h52 => ?_) (fun h52 => ?_)
          ·
            refine g_iconst (pc := 59) C 0 dX7_sells_59 (by decide) ?_
            exact g_iret (pc := 60) C B rfl dX7_sells_60 (⟨by show some (vi _) = some (vi (v_X7_sells S i j)); unfold v_X7_sells; rw [if_pos h13, if_pos h22, if_neg h33, if_pos h43, if_pos h52], rfl⟩)
          ·
            refine g_iconst (pc := 55) C 1 dX7_sells_55 (by decide) ?_
            refine g_goto (pc := 56) C 60 dX7_sells_56 (by decide) ?_
            exact g_iret (pc := 60) C B rfl dX7_sells_60 (⟨by show some (vi _) = some (vi (v_X7_sells S i j)); unfold v_X7_sells; rw [if_pos h13, if_pos h22, if_neg h33, if_pos h43, if_neg h52], rfl⟩)
    ·
      refine g_iconst (pc := 25) C 0 dX7_sells_25 (by decide) ?_
      exact g_iret (pc := 26) C B rfl dX7_sells_26 (⟨by show some (vi _) = some (vi (v_X7_sells S i j)); unfold v_X7_sells; rw [if_pos h13, if_neg h22], rfl⟩)

def v_X7_mayTake (S : Mm) (i : Nat) (j : Nat) : Int32 := if (S.1 (2, 0, 2) i) ≤ (nI j) then 0 else (if (S.1 (2, 0, 18) ((8 * i) + j)) = 0 then (if (S.1 (2, 0, 19) ((8 * i) + j)) = 0 then (S.1 (2, 0, 12) ((8 * i) + j)) - (S.1 (2, 0, 13) ((8 * i) + j)) else 0) else 0)
set_option maxHeartbeats 4000000 in
set_option maxRecDepth 100000 in
/-- mayTake(i, j) -/
theorem c_X7_mayTake (l : Launch) (E : En) (base aw : Nat) (S : Mm) (mc : Nat) (lc : Nat → Nat) (hI : IM S mc lc) (i : Nat) (hi : i < mc) (j : Nat) (hj : j < 8) : Cn l E base aw yX7_mayTake cX7_mayTake 4 (some Jvm.ClassFile.FieldType.int) 1 0 0 noF S [vr (2, 0, 0), vi (nI i), vi (nI j)] (fun r S' => r = some (vi (v_X7_mayTake S i j)) ∧ S' = S) := by
  have hM := hI.1
  have hmc := hI.2.2.1
  refine Cn.of (by decide) (Nat.le_of_ble_eq_true rfl) ?_
  intro X Y hl hE hbase haw hfr C B
  subst hl; subst hE; subst hbase; subst haw
  refine g_bipush (pc := 0) C 8 dX7_mayTake_0 (by decide) ?_
  refine g_iload_n (pc := 2) C dX7_mayTake_2 rfl ?_
  refine g_imul (pc := 3) C dX7_mayTake_3 ?_
  refine g_eqi (nI (8 * i)) (pk_mul 8 i) ?_
  refine g_iload_n (pc := 4) C dX7_mayTake_4 rfl ?_
  refine g_iadd (pc := 5) C dX7_mayTake_5 ?_
  refine g_eqi (nI ((8 * i) + j)) (nI_add (8 * i) j) ?_
  refine g_istore_n (pc := 6) C dX7_mayTake_6 (by decide) ?_
  refine g_iload_n (pc := 7) C dX7_mayTake_7 rfl ?_
  refine g_aload_n (pc := 8) C dX7_mayTake_8 rfl ?_
  refine g_getr (pc := 9) C fX7_7 rfl hM.1 dX7_mayTake_9 rfl (hM.2 2 rfl).1 ?_
  refine g_iload_n (pc := 12) C dX7_mayTake_12 rfl ?_
  refine g_ialdN (pc := 13) C rfl (hM.2 2 rfl).2 (by omega) (by decide) dX7_mayTake_13 ?_
  refine g_icmp_ge (pc := 14) C 51 dX7_mayTake_14 (by decide) (fun h14 => ?_) (fun h14 => ?_)
  ·
    refine g_iconst (pc := 51) C 0 dX7_mayTake_51 (by decide) ?_
    exact g_iret (pc := 52) C B rfl dX7_mayTake_52 (⟨by show some (vi _) = some (vi (v_X7_mayTake S i j)); unfold v_X7_mayTake; rw [if_pos h14], rfl⟩)
  ·
    refine g_aload_n (pc := 17) C dX7_mayTake_17 rfl ?_
    refine g_getr (pc := 18) C fX7_59 rfl hM.1 dX7_mayTake_18 rfl (hM.2 18 rfl).1 ?_
    refine g_iload_n (pc := 21) C dX7_mayTake_21 rfl ?_
    refine g_baldN (pc := 22) C rfl (hM.2 18 rfl).2 (by omega) (by decide) dX7_mayTake_22 ?_
    refine g_if_ne (pc := 23) C 51 dX7_mayTake_23 (by decide) (fun h23 => ?_) (fun h23 => ?_)
    ·
      refine g_iconst (pc := 51) C 0 dX7_mayTake_51 (by decide) ?_
      exact g_iret (pc := 52) C B rfl dX7_mayTake_52 (⟨by show some (vi _) = some (vi (v_X7_mayTake S i j)); unfold v_X7_mayTake; rw [if_neg h14, if_neg h23], rfl⟩)
    ·
      refine g_aload_n (pc := 26) C dX7_mayTake_26 rfl ?_
      refine g_getr (pc := 27) C fX7_62 rfl hM.1 dX7_mayTake_27 rfl (hM.2 19 rfl).1 ?_
      refine g_iload_n (pc := 30) C dX7_mayTake_30 rfl ?_
      refine g_baldN (pc := 31) C rfl (hM.2 19 rfl).2 (by omega) (by decide) dX7_mayTake_31 ?_
      refine g_if_ne (pc := 32) C 51 dX7_mayTake_32 (by decide) (fun h32 => ?_) (fun h32 => ?_)
      ·
        refine g_iconst (pc := 51) C 0 dX7_mayTake_51 (by decide) ?_
        exact g_iret (pc := 52) C B rfl dX7_mayTake_52 (⟨by show some (vi _) = some (vi (v_X7_mayTake S i j)); unfold v_X7_mayTake; rw [if_neg h14, if_pos h23, if_neg h32], rfl⟩)
      ·
        refine g_aload_n (pc := 35) C dX7_mayTake_35 rfl ?_
        refine g_getr (pc := 36) C fX7_41 rfl hM.1 dX7_mayTake_36 rfl (hM.2 12 rfl).1 ?_
        refine g_iload_n (pc := 39) C dX7_mayTake_39 rfl ?_
        refine g_ialdN (pc := 40) C rfl (hM.2 12 rfl).2 (by omega) (by decide) dX7_mayTake_40 ?_
        refine g_aload_n (pc := 41) C dX7_mayTake_41 rfl ?_
        refine g_getr (pc := 42) C fX7_44 rfl hM.1 dX7_mayTake_42 rfl (hM.2 13 rfl).1 ?_
        refine g_iload_n (pc := 45) C dX7_mayTake_45 rfl ?_
        refine g_ialdN (pc := 46) C rfl (hM.2 13 rfl).2 (by omega) (by decide) dX7_mayTake_46 ?_
        refine g_isub (pc := 47) C dX7_mayTake_47 ?_
        refine g_goto (pc := 48) C 52 dX7_mayTake_48 (by decide) ?_
        exact g_iret (pc := 52) C B rfl dX7_mayTake_52 (⟨by show some (vi _) = some (vi (v_X7_mayTake S i j)); unfold v_X7_mayTake; rw [if_neg h14, if_pos h23, if_pos h32], rfl⟩)

def v_X7_sizeAt (S : Mm) (gd : Nat → Nat) (i : Nat) (j : Nat) : Int32 := S.1 (2, 0, 20) (gd (8 * i + j))
set_option maxHeartbeats 4000000 in
set_option maxRecDepth 100000 in
/-- sizeAt(i, j) -/
theorem c_X7_sizeAt (l : Launch) (E : En) (base aw : Nat) (S : Mm) (mc : Nat) (lc : Nat → Nat) (hI : IM S mc lc) (gd : Nat → Nat) (hgd : ∀ a, a < 48 → S.1 (2, 0, 10) a = nI (gd a) ∧ gd a < 16) (i : Nat) (hi : i < mc) (j : Nat) (hj : j < 8) : Cn l E base aw yX7_sizeAt cX7_sizeAt 3 (some Jvm.ClassFile.FieldType.int) 1 0 0 noF S [vr (2, 0, 0), vi (nI i), vi (nI j)] (fun r S' => r = some (vi (v_X7_sizeAt S gd i j)) ∧ S' = S) := by
  have hM := hI.1
  have hmc := hI.2.2.1
  refine Cn.of (by decide) (Nat.le_of_ble_eq_true rfl) ?_
  intro X Y hl hE hbase haw hfr C B
  subst hl; subst hE; subst hbase; subst haw
  refine g_aload_n (pc := 0) C dX7_sizeAt_0 rfl ?_
  refine g_getr (pc := 1) C fX7_65 rfl hM.1 dX7_sizeAt_1 rfl (hM.2 20 rfl).1 ?_
  refine g_aload_n (pc := 4) C dX7_sizeAt_4 rfl ?_
  refine g_getr (pc := 5) C fX7_35 rfl hM.1 dX7_sizeAt_5 rfl (hM.2 10 rfl).1 ?_
  refine g_bipush (pc := 8) C 8 dX7_sizeAt_8 (by decide) ?_
  refine g_iload_n (pc := 10) C dX7_sizeAt_10 rfl ?_
  refine g_imul (pc := 11) C dX7_sizeAt_11 ?_
  refine g_eqi (nI (8 * i)) (pk_mul 8 i) ?_
  refine g_iload_n (pc := 12) C dX7_sizeAt_12 rfl ?_
  refine g_iadd (pc := 13) C dX7_sizeAt_13 ?_
  refine g_eqi (nI ((8 * i) + j)) (nI_add (8 * i) j) ?_
  refine g_ialdN (pc := 14) C rfl (hM.2 10 rfl).2 (by omega) (by decide) dX7_sizeAt_14 ?_
  refine g_eqi (nI (gd (8 * i + j))) (hgd (8 * i + j) (by omega)).1 ?_
  have hg16 := (hgd (8 * i + j) (by omega)).2
  refine g_ialdN (pc := 15) C rfl (hM.2 20 rfl).2 (by omega) (by decide) dX7_sizeAt_15 ?_
  exact g_iret (pc := 16) C B rfl dX7_sizeAt_16 (⟨by show some (vi _) = some (vi (v_X7_sizeAt S gd i j)); unfold v_X7_sizeAt; rfl, rfl⟩)

def v_X7_worthAt (S : Mm) (gd : Nat → Nat) (i : Nat) (j : Nat) (c : Int32) : Int32 := c * ((1000 * (S.1 (2, 0, 11) ((8 * i) + j))) - (v_X7_sizeAt S gd i j))
set_option maxHeartbeats 4000000 in
set_option maxRecDepth 100000 in
/-- worthAt(i, j, c) -/
theorem c_X7_worthAt (l : Launch) (E : En) (base aw : Nat) (S : Mm) (mc : Nat) (lc : Nat → Nat) (hI : IM S mc lc) (gd : Nat → Nat) (hgd : ∀ a, a < 48 → S.1 (2, 0, 10) a = nI (gd a) ∧ gd a < 16) (i : Nat) (hi : i < mc) (j : Nat) (hj : j < 8) (c : Int32) : Cn l E base aw yX7_worthAt cX7_worthAt 4 (some Jvm.ClassFile.FieldType.int) 2 0 0 noF S [vr (2, 0, 0), vi (nI i), vi (nI j), vi c] (fun r S' => r = some (vi (v_X7_worthAt S gd i j c)) ∧ S' = S) := by
  have hM := hI.1
  have hmc := hI.2.2.1
  refine Cn.of (by decide) (Nat.le_of_ble_eq_true rfl) ?_
  intro X Y hl hE hbase haw hfr C B
  subst hl; subst hE; subst hbase; subst haw
  refine g_iload_n (pc := 0) C dX7_worthAt_0 rfl ?_
  refine g_sipush (pc := 1) C 1000 dX7_worthAt_1 (by decide) ?_
  refine g_aload_n (pc := 4) C dX7_worthAt_4 rfl ?_
  refine g_getr (pc := 5) C fX7_38 rfl hM.1 dX7_worthAt_5 rfl (hM.2 11 rfl).1 ?_
  refine g_bipush (pc := 8) C 8 dX7_worthAt_8 (by decide) ?_
  refine g_iload_n (pc := 10) C dX7_worthAt_10 rfl ?_
  refine g_imul (pc := 11) C dX7_worthAt_11 ?_
  refine g_eqi (nI (8 * i)) (pk_mul 8 i) ?_
  refine g_iload_n (pc := 12) C dX7_worthAt_12 rfl ?_
  refine g_iadd (pc := 13) C dX7_worthAt_13 ?_
  refine g_eqi (nI ((8 * i) + j)) (nI_add (8 * i) j) ?_
  refine g_ialdN (pc := 14) C rfl (hM.2 11 rfl).2 (by omega) (by decide) dX7_worthAt_14 ?_
  refine g_imul (pc := 15) C dX7_worthAt_15 ?_
  refine g_aload_n (pc := 16) C dX7_worthAt_16 rfl ?_
  refine g_iload_n (pc := 17) C dX7_worthAt_17 rfl ?_
  refine g_iload_n (pc := 18) C dX7_worthAt_18 rfl ?_
  refine g_callV (pc := 19) C B mX7_166 (c_X7_sizeAt _ _ _ _ _ mc lc hI gd hgd i hi j hj) rfl rfl rfl rfl hM.1 (by decide) ⟨Nat.le_refl _, Nat.le_refl _⟩ (Nat.le_of_ble_eq_true rfl) dX7_worthAt_19 (fun r S' hP => ?_)
  rw [hP.1, hP.2]
  refine g_isub (pc := 22) C dX7_worthAt_22 ?_
  refine g_imul (pc := 23) C dX7_worthAt_23 ?_
  exact g_iret (pc := 24) C B rfl dX7_worthAt_24 (⟨by show some (vi _) = some (vi (v_X7_worthAt S gd i j c)); unfold v_X7_worthAt; rfl, rfl⟩)

def v_X7_rate (S : Mm) (i : Nat) (g : Nat) (t : Nat) : Int32 := if (S.1 (2, 0, 22) (((384 * i) + (24 * g)) + (t % 24))) = 0 then 0 else (1000 * (S.1 (2, 0, 21) (((384 * i) + (24 * g)) + (t % 24)))) / (S.1 (2, 0, 22) (((384 * i) + (24 * g)) + (t % 24)))
set_option maxHeartbeats 4000000 in
set_option maxRecDepth 100000 in
/-- rate(i, g, t) -/
theorem c_X7_rate (l : Launch) (E : En) (base aw : Nat) (S : Mm) (mc : Nat) (lc : Nat → Nat) (hI : IM S mc lc) (i : Nat) (hi : i < mc) (g : Nat) (hg : g < 16) (t : Nat) (ht : t < 100000) : Cn l E base aw yX7_rate cX7_rate 5 (some Jvm.ClassFile.FieldType.int) 0 0 0 noF S [vr (2, 0, 0), vi (nI i), vi (nI g), vi (nI t)] (fun r S' => r = some (vi (v_X7_rate S i g t)) ∧ S' = S) := by
  have hM := hI.1
  have hmc := hI.2.2.1
  refine Cn.of (by decide) (Nat.le_of_ble_eq_true rfl) ?_
  intro X Y hl hE hbase haw hfr C B
  subst hl; subst hE; subst hbase; subst haw
  refine g_sipush (pc := 0) C 384 dX7_rate_0 (by decide) ?_
  refine g_iload_n (pc := 3) C dX7_rate_3 rfl ?_
  refine g_imul (pc := 4) C dX7_rate_4 ?_
  refine g_eqi (nI (384 * i)) (pk_mul 384 i) ?_
  refine g_bipush (pc := 5) C 24 dX7_rate_5 (by decide) ?_
  refine g_iload_n (pc := 7) C dX7_rate_7 rfl ?_
  refine g_imul (pc := 8) C dX7_rate_8 ?_
  refine g_eqi (nI (24 * g)) (pk_mul 24 g) ?_
  refine g_iadd (pc := 9) C dX7_rate_9 ?_
  refine g_eqi (nI ((384 * i) + (24 * g))) (nI_add (384 * i) (24 * g)) ?_
  refine g_iload_n (pc := 10) C dX7_rate_10 rfl ?_
  refine g_bipush (pc := 11) C 24 dX7_rate_11 (by decide) ?_
  refine g_irem (pc := 13) C dX7_rate_13 (by decide) ?_
  refine g_eqi (nI (t % 24)) (pk_rem (a := t) (d := 24) (by omega) (by decide) (by decide)) ?_
  refine g_iadd (pc := 14) C dX7_rate_14 ?_
  refine g_eqi (nI (((384 * i) + (24 * g)) + (t % 24))) (nI_add ((384 * i) + (24 * g)) (t % 24)) ?_
  refine g_istore (pc := 15) C dX7_rate_15 (by decide) ?_
  refine g_aload_n (pc := 17) C dX7_rate_17 rfl ?_
  refine g_getr (pc := 18) C fX7_71 rfl hM.1 dX7_rate_18 rfl (hM.2 22 rfl).1 ?_
  refine g_iload (pc := 21) C dX7_rate_21 rfl ?_
  refine g_ialdN (pc := 23) C rfl (hM.2 22 rfl).2 (by omega) (by decide) dX7_rate_23 ?_
  refine g_if_ne (pc := 24) C 31 dX7_rate_24 (by decide) (fun h24 => ?_) (fun h24 => ?_)
  ·
    refine g_sipush (pc := 31) C 1000 dX7_rate_31 (by decide) ?_
    refine g_aload_n (pc := 34) C dX7_rate_34 rfl ?_
    refine g_getr (pc := 35) C fX7_68 rfl hM.1 dX7_rate_35 rfl (hM.2 21 rfl).1 ?_
    refine g_iload (pc := 38) C dX7_rate_38 rfl ?_
    refine g_ialdN (pc := 40) C rfl (hM.2 21 rfl).2 (by omega) (by decide) dX7_rate_40 ?_
    refine g_imul (pc := 41) C dX7_rate_41 ?_
    refine g_aload_n (pc := 42) C dX7_rate_42 rfl ?_
    refine g_getr (pc := 43) C fX7_71 rfl hM.1 dX7_rate_43 rfl (hM.2 22 rfl).1 ?_
    refine g_iload (pc := 46) C dX7_rate_46 rfl ?_
    refine g_ialdN (pc := 48) C rfl (hM.2 22 rfl).2 (by omega) (by decide) dX7_rate_48 ?_
    refine g_idiv (pc := 49) C dX7_rate_49 h24 ?_
    exact g_iret (pc := 50) C B rfl dX7_rate_50 (⟨by show some (vi _) = some (vi (v_X7_rate S i g t)); unfold v_X7_rate; rw [if_neg h24], rfl⟩)
  ·
    refine g_iconst (pc := 27) C 0 dX7_rate_27 (by decide) ?_
    refine g_goto (pc := 28) C 50 dX7_rate_28 (by decide) ?_
    exact g_iret (pc := 50) C B rfl dX7_rate_50 (⟨by show some (vi _) = some (vi (v_X7_rate S i g t)); unfold v_X7_rate; rw [if_pos h24], rfl⟩)

set_option maxHeartbeats 4000000 in
set_option maxRecDepth 100000 in
/-- counted of no machine or good -/
theorem c_X7_counted_b (l : Launch) (E : En) (base aw : Nat) (S : Mm) (mc : Nat) (lc : Nat → Nat) (hI : IM S mc lc) (p0 p1 p2 p3 : Int32) (h : ¬ (okN mc p0 ∧ okN 16 p1)) : Cn l E base aw yX7_counted cX7_counted 6 (some Jvm.ClassFile.FieldType.int) 2 0 0 noF S [vr (2, 0, 0), vi p0, vi p1, vi p2, vi p3] (fun r S' => r = some (vi (-1)) ∧ S' = rfM S 1) := by
  have hM := hI.1
  have hmc := hI.2.2.1
  by_cases hm0 : okN mc p0
  ·
    obtain ⟨i, hi, rfl⟩ := hm0
    have hx : ¬ okN 16 p1 := fun q => h ⟨⟨i, hi, rfl⟩, q⟩
    refine Cn.of (by decide) (Nat.le_of_ble_eq_true rfl) ?_
    intro X Y hl hE hbase haw hfr C B
    subst hl; subst hE; subst hbase; subst haw
    refine g_aload_n (pc := 0) C dX7_counted_0 rfl ?_
    refine g_iload_n (pc := 1) C dX7_counted_1 rfl ?_
    refine g_callV (pc := 2) C B mX7_112 (c_isM_t _ _ _ _ _ mc lc hI i hi) rfl rfl rfl rfl hM.1 (by decide) ⟨Nat.le_refl _, Nat.le_refl _⟩ (Nat.le_of_ble_eq_true rfl) dX7_counted_2 (fun r S' hP => ?_)
    rw [hP.1, hP.2]
    refine g_if_eq (pc := 5) C 18 dX7_counted_5 (by decide) (fun h5 => absurd h5 (by decide)) (fun _ => ?_)
    refine g_iload_n (pc := 8) C dX7_counted_8 rfl ?_
    refine g_iconst (pc := 9) C 0 dX7_counted_9 (by decide) ?_
    refine g_bipush (pc := 10) C 15 dX7_counted_10 (by decide) ?_
    refine g_callS (pc := 12) C B mX7_108 (c_in_f _ _ _ _ _ _ _ _ (okW_f (n := 15) (by decide) hx)) rfl rfl (by decide) ⟨Nat.le_refl _, Nat.le_refl _⟩ (Nat.le_of_ble_eq_true rfl) dX7_counted_12 (fun r S' hP => ?_)
    rw [hP.1, hP.2]
    refine g_if_ne (pc := 15) C 24 dX7_counted_15 (by decide) (fun h15 => absurd (by decide) h15) (fun _ => ?_)
    refine g_aload_n (pc := 18) C dX7_counted_18 rfl ?_
    refine g_iconst (pc := 19) C (-1) dX7_counted_19 (by decide) ?_
    refine g_callV (pc := 20) C B mX7_116 (c_mrefuse _ _ _ _ _ hM (-1) 1 (by decide) (by decide)) rfl rfl rfl rfl hM.1 (by decide) ⟨Nat.le_refl _, Nat.le_refl _⟩ (Nat.le_of_ble_eq_true rfl) dX7_counted_20 (fun r S' hP => ?_)
    rw [hP.1, hP.2]
    exact g_iret (pc := 23) C B rfl dX7_counted_23 (⟨rfl, rfl⟩)
  ·
    have hx := hm0
    refine Cn.of (by decide) (Nat.le_of_ble_eq_true rfl) ?_
    intro X Y hl hE hbase haw hfr C B
    subst hl; subst hE; subst hbase; subst haw
    refine g_aload_n (pc := 0) C dX7_counted_0 rfl ?_
    refine g_iload_n (pc := 1) C dX7_counted_1 rfl ?_
    refine g_callV (pc := 2) C B mX7_112 (c_isM_f _ _ _ _ _ mc lc hI p0 hx) rfl rfl rfl rfl hM.1 (by decide) ⟨Nat.le_refl _, Nat.le_refl _⟩ (Nat.le_of_ble_eq_true rfl) dX7_counted_2 (fun r S' hP => ?_)
    rw [hP.1, hP.2]
    refine g_if_eq (pc := 5) C 18 dX7_counted_5 (by decide) (fun _ => ?_) (fun h5 => absurd (by decide) h5)
    refine g_aload_n (pc := 18) C dX7_counted_18 rfl ?_
    refine g_iconst (pc := 19) C (-1) dX7_counted_19 (by decide) ?_
    refine g_callV (pc := 20) C B mX7_116 (c_mrefuse _ _ _ _ _ hM (-1) 1 (by decide) (by decide)) rfl rfl rfl rfl hM.1 (by decide) ⟨Nat.le_refl _, Nat.le_refl _⟩ (Nat.le_of_ble_eq_true rfl) dX7_counted_20 (fun r S' hP => ?_)
    rw [hP.1, hP.2]
    exact g_iret (pc := 23) C B rfl dX7_counted_23 (⟨rfl, rfl⟩)

set_option maxHeartbeats 4000000 in
set_option maxRecDepth 100000 in
theorem c_X7_counted_w (l : Launch) (E : En) (base aw : Nat) (S : Mm) (mc : Nat) (lc : Nat → Nat) (hI : IM S mc lc) (i : Nat) (hi : i < mc) (g : Nat) (hg : g < 16) (p2 p3 : Int32) (hx : ¬ okN 2 p3) : Cn l E base aw yX7_counted cX7_counted 6 (some Jvm.ClassFile.FieldType.int) 2 0 0 noF S [vr (2, 0, 0), vi (nI i), vi (nI g), vi p2, vi p3] (fun r S' => r = some (vi (-2)) ∧ S' = rfM S 2) := by
  have hM := hI.1
  have hmc := hI.2.2.1
  refine Cn.of (by decide) (Nat.le_of_ble_eq_true rfl) ?_
  intro X Y hl hE hbase haw hfr C B
  subst hl; subst hE; subst hbase; subst haw
  refine g_aload_n (pc := 0) C dX7_counted_0 rfl ?_
  refine g_iload_n (pc := 1) C dX7_counted_1 rfl ?_
  refine g_callV (pc := 2) C B mX7_112 (c_isM_t _ _ _ _ _ mc lc hI i hi) rfl rfl rfl rfl hM.1 (by decide) ⟨Nat.le_refl _, Nat.le_refl _⟩ (Nat.le_of_ble_eq_true rfl) dX7_counted_2 (fun r S' hP => ?_)
  rw [hP.1, hP.2]
  refine g_if_eq (pc := 5) C 18 dX7_counted_5 (by decide) (fun h5 => absurd h5 (by decide)) (fun _ => ?_)
  refine g_iload_n (pc := 8) C dX7_counted_8 rfl ?_
  refine g_iconst (pc := 9) C 0 dX7_counted_9 (by decide) ?_
  refine g_bipush (pc := 10) C 15 dX7_counted_10 (by decide) ?_
  refine g_callS (pc := 12) C B mX7_108 (c_in_t _ _ _ _ _ _ _ _ (okW_t (n := 15) (by omega) (by decide))) rfl rfl (by decide) ⟨Nat.le_refl _, Nat.le_refl _⟩ (Nat.le_of_ble_eq_true rfl) dX7_counted_12 (fun r S' hP => ?_)
  rw [hP.1, hP.2]
  refine g_if_ne (pc := 15) C 24 dX7_counted_15 (by decide) (fun _ => ?_) (fun h15 => absurd h15 (by decide))
  refine g_iload (pc := 24) C dX7_counted_24 rfl ?_
  refine g_iconst (pc := 26) C 0 dX7_counted_26 (by decide) ?_
  refine g_iconst (pc := 27) C 1 dX7_counted_27 (by decide) ?_
  refine g_callS (pc := 28) C B mX7_108 (c_in_f _ _ _ _ _ _ _ _ (okW_f (n := 1) (by decide) hx)) rfl rfl (by decide) ⟨Nat.le_refl _, Nat.le_refl _⟩ (Nat.le_of_ble_eq_true rfl) dX7_counted_28 (fun r S' hP => ?_)
  rw [hP.1, hP.2]
  refine g_if_ne (pc := 31) C 41 dX7_counted_31 (by decide) (fun h31 => absurd (by decide) h31) (fun _ => ?_)
  refine g_aload_n (pc := 34) C dX7_counted_34 rfl ?_
  refine g_bipush (pc := 35) C (-2) dX7_counted_35 (by decide) ?_
  refine g_callV (pc := 37) C B mX7_116 (c_mrefuse _ _ _ _ _ hM (-2) 2 (by decide) (by decide)) rfl rfl rfl rfl hM.1 (by decide) ⟨Nat.le_refl _, Nat.le_refl _⟩ (Nat.le_of_ble_eq_true rfl) dX7_counted_37 (fun r S' hP => ?_)
  rw [hP.1, hP.2]
  exact g_iret (pc := 40) C B rfl dX7_counted_40 (⟨rfl, rfl⟩)

set_option maxHeartbeats 4000000 in
set_option maxRecDepth 100000 in
theorem c_X7_counted_lo0 (l : Launch) (E : En) (base aw : Nat) (S : Mm) (mc : Nat) (lc : Nat → Nat) (hI : IM S mc lc) (i : Nat) (hi : i < mc) (g : Nat) (hg : g < 16) (p2 : Int32) (hlo : p2 < 0) : Cn l E base aw yX7_counted cX7_counted 6 (some Jvm.ClassFile.FieldType.int) 2 0 0 noF S [vr (2, 0, 0), vi (nI i), vi (nI g), vi p2, vi (nI 0)] (fun r S' => r = some (vi (-4)) ∧ S' = rfM S 4) := by
  have hM := hI.1
  have hmc := hI.2.2.1
  refine Cn.of (by decide) (Nat.le_of_ble_eq_true rfl) ?_
  intro X Y hl hE hbase haw hfr C B
  subst hl; subst hE; subst hbase; subst haw
  refine g_aload_n (pc := 0) C dX7_counted_0 rfl ?_
  refine g_iload_n (pc := 1) C dX7_counted_1 rfl ?_
  refine g_callV (pc := 2) C B mX7_112 (c_isM_t _ _ _ _ _ mc lc hI i hi) rfl rfl rfl rfl hM.1 (by decide) ⟨Nat.le_refl _, Nat.le_refl _⟩ (Nat.le_of_ble_eq_true rfl) dX7_counted_2 (fun r S' hP => ?_)
  rw [hP.1, hP.2]
  refine g_if_eq (pc := 5) C 18 dX7_counted_5 (by decide) (fun h5 => absurd h5 (by decide)) (fun _ => ?_)
  refine g_iload_n (pc := 8) C dX7_counted_8 rfl ?_
  refine g_iconst (pc := 9) C 0 dX7_counted_9 (by decide) ?_
  refine g_bipush (pc := 10) C 15 dX7_counted_10 (by decide) ?_
  refine g_callS (pc := 12) C B mX7_108 (c_in_t _ _ _ _ _ _ _ _ (okW_t (n := 15) (by omega) (by decide))) rfl rfl (by decide) ⟨Nat.le_refl _, Nat.le_refl _⟩ (Nat.le_of_ble_eq_true rfl) dX7_counted_12 (fun r S' hP => ?_)
  rw [hP.1, hP.2]
  refine g_if_ne (pc := 15) C 24 dX7_counted_15 (by decide) (fun _ => ?_) (fun h15 => absurd h15 (by decide))
  refine g_iload (pc := 24) C dX7_counted_24 rfl ?_
  refine g_iconst (pc := 26) C 0 dX7_counted_26 (by decide) ?_
  refine g_iconst (pc := 27) C 1 dX7_counted_27 (by decide) ?_
  refine g_callS (pc := 28) C B mX7_108 (c_in_t _ _ _ _ _ _ _ _ (okW_t (n := 1) (by omega) (by decide))) rfl rfl (by decide) ⟨Nat.le_refl _, Nat.le_refl _⟩ (Nat.le_of_ble_eq_true rfl) dX7_counted_28 (fun r S' hP => ?_)
  rw [hP.1, hP.2]
  refine g_if_ne (pc := 31) C 41 dX7_counted_31 (by decide) (fun _ => ?_) (fun h31 => absurd h31 (by decide))
  refine g_iload_n (pc := 41) C dX7_counted_41 rfl ?_
  refine g_if_ge (pc := 42) C 52 dX7_counted_42 (by decide) (fun h42 => absurd h42 (Int32.not_le.mpr hlo)) (fun _ => ?_)
  refine g_aload_n (pc := 45) C dX7_counted_45 rfl ?_
  refine g_bipush (pc := 46) C (-4) dX7_counted_46 (by decide) ?_
  refine g_callV (pc := 48) C B mX7_116 (c_mrefuse _ _ _ _ _ hM (-4) 4 (by decide) (by decide)) rfl rfl rfl rfl hM.1 (by decide) ⟨Nat.le_refl _, Nat.le_refl _⟩ (Nat.le_of_ble_eq_true rfl) dX7_counted_48 (fun r S' hP => ?_)
  rw [hP.1, hP.2]
  exact g_iret (pc := 51) C B rfl dX7_counted_51 (⟨rfl, rfl⟩)

set_option maxHeartbeats 4000000 in
set_option maxRecDepth 100000 in
theorem c_X7_counted_hi0 (l : Launch) (E : En) (base aw : Nat) (S : Mm) (mc : Nat) (lc : Nat → Nat) (hI : IM S mc lc) (i : Nat) (hi : i < mc) (g : Nat) (hg : g < 16) (p2 : Int32) (hlo : 0 ≤ p2) (hhi : ¬ p2 ≤ 23) : Cn l E base aw yX7_counted cX7_counted 6 (some Jvm.ClassFile.FieldType.int) 2 0 0 noF S [vr (2, 0, 0), vi (nI i), vi (nI g), vi p2, vi (nI 0)] (fun r S' => r = some (vi (-6)) ∧ S' = rfM S 6) := by
  have hM := hI.1
  have hmc := hI.2.2.1
  refine Cn.of (by decide) (Nat.le_of_ble_eq_true rfl) ?_
  intro X Y hl hE hbase haw hfr C B
  subst hl; subst hE; subst hbase; subst haw
  refine g_aload_n (pc := 0) C dX7_counted_0 rfl ?_
  refine g_iload_n (pc := 1) C dX7_counted_1 rfl ?_
  refine g_callV (pc := 2) C B mX7_112 (c_isM_t _ _ _ _ _ mc lc hI i hi) rfl rfl rfl rfl hM.1 (by decide) ⟨Nat.le_refl _, Nat.le_refl _⟩ (Nat.le_of_ble_eq_true rfl) dX7_counted_2 (fun r S' hP => ?_)
  rw [hP.1, hP.2]
  refine g_if_eq (pc := 5) C 18 dX7_counted_5 (by decide) (fun h5 => absurd h5 (by decide)) (fun _ => ?_)
  refine g_iload_n (pc := 8) C dX7_counted_8 rfl ?_
  refine g_iconst (pc := 9) C 0 dX7_counted_9 (by decide) ?_
  refine g_bipush (pc := 10) C 15 dX7_counted_10 (by decide) ?_
  refine g_callS (pc := 12) C B mX7_108 (c_in_t _ _ _ _ _ _ _ _ (okW_t (n := 15) (by omega) (by decide))) rfl rfl (by decide) ⟨Nat.le_refl _, Nat.le_refl _⟩ (Nat.le_of_ble_eq_true rfl) dX7_counted_12 (fun r S' hP => ?_)
  rw [hP.1, hP.2]
  refine g_if_ne (pc := 15) C 24 dX7_counted_15 (by decide) (fun _ => ?_) (fun h15 => absurd h15 (by decide))
  refine g_iload (pc := 24) C dX7_counted_24 rfl ?_
  refine g_iconst (pc := 26) C 0 dX7_counted_26 (by decide) ?_
  refine g_iconst (pc := 27) C 1 dX7_counted_27 (by decide) ?_
  refine g_callS (pc := 28) C B mX7_108 (c_in_t _ _ _ _ _ _ _ _ (okW_t (n := 1) (by omega) (by decide))) rfl rfl (by decide) ⟨Nat.le_refl _, Nat.le_refl _⟩ (Nat.le_of_ble_eq_true rfl) dX7_counted_28 (fun r S' hP => ?_)
  rw [hP.1, hP.2]
  refine g_if_ne (pc := 31) C 41 dX7_counted_31 (by decide) (fun _ => ?_) (fun h31 => absurd h31 (by decide))
  refine g_iload_n (pc := 41) C dX7_counted_41 rfl ?_
  refine g_if_ge (pc := 42) C 52 dX7_counted_42 (by decide) (fun _ => ?_) (fun h42 => absurd hlo h42)
  refine g_iload_n (pc := 52) C dX7_counted_52 rfl ?_
  refine g_bipush (pc := 53) C 23 dX7_counted_53 (by decide) ?_
  refine g_icmp_le (pc := 55) C 65 dX7_counted_55 (by decide) (fun h55 => absurd h55 hhi) (fun _ => ?_)
  refine g_aload_n (pc := 58) C dX7_counted_58 rfl ?_
  refine g_bipush (pc := 59) C (-6) dX7_counted_59 (by decide) ?_
  refine g_callV (pc := 61) C B mX7_116 (c_mrefuse _ _ _ _ _ hM (-6) 6 (by decide) (by decide)) rfl rfl rfl rfl hM.1 (by decide) ⟨Nat.le_refl _, Nat.le_refl _⟩ (Nat.le_of_ble_eq_true rfl) dX7_counted_61 (fun r S' hP => ?_)
  rw [hP.1, hP.2]
  exact g_iret (pc := 64) C B rfl dX7_counted_64 (⟨rfl, rfl⟩)

set_option maxHeartbeats 4000000 in
set_option maxRecDepth 100000 in
theorem c_X7_counted0 (l : Launch) (E : En) (base aw : Nat) (S : Mm) (mc : Nat) (lc : Nat → Nat) (hI : IM S mc lc) (i : Nat) (hi : i < mc) (g : Nat) (hg : g < 16) (t : Nat) (ht : t < 24) : Cn l E base aw yX7_counted cX7_counted 6 (some Jvm.ClassFile.FieldType.int) 2 0 0 noF S [vr (2, 0, 0), vi (nI i), vi (nI g), vi (nI t), vi (nI 0)] (fun r S' => r = some (vi (S.1 (2, 0, 21) (384 * i + 24 * g + t))) ∧ S' = S) := by
  have hM := hI.1
  have hmc := hI.2.2.1
  refine Cn.of (by decide) (Nat.le_of_ble_eq_true rfl) ?_
  intro X Y hl hE hbase haw hfr C B
  subst hl; subst hE; subst hbase; subst haw
  refine g_aload_n (pc := 0) C dX7_counted_0 rfl ?_
  refine g_iload_n (pc := 1) C dX7_counted_1 rfl ?_
  refine g_callV (pc := 2) C B mX7_112 (c_isM_t _ _ _ _ _ mc lc hI i hi) rfl rfl rfl rfl hM.1 (by decide) ⟨Nat.le_refl _, Nat.le_refl _⟩ (Nat.le_of_ble_eq_true rfl) dX7_counted_2 (fun r S' hP => ?_)
  rw [hP.1, hP.2]
  refine g_if_eq (pc := 5) C 18 dX7_counted_5 (by decide) (fun h5 => absurd h5 (by decide)) (fun _ => ?_)
  refine g_iload_n (pc := 8) C dX7_counted_8 rfl ?_
  refine g_iconst (pc := 9) C 0 dX7_counted_9 (by decide) ?_
  refine g_bipush (pc := 10) C 15 dX7_counted_10 (by decide) ?_
  refine g_callS (pc := 12) C B mX7_108 (c_in_t _ _ _ _ _ _ _ _ (okW_t (n := 15) (by omega) (by decide))) rfl rfl (by decide) ⟨Nat.le_refl _, Nat.le_refl _⟩ (Nat.le_of_ble_eq_true rfl) dX7_counted_12 (fun r S' hP => ?_)
  rw [hP.1, hP.2]
  refine g_if_ne (pc := 15) C 24 dX7_counted_15 (by decide) (fun _ => ?_) (fun h15 => absurd h15 (by decide))
  refine g_iload (pc := 24) C dX7_counted_24 rfl ?_
  refine g_iconst (pc := 26) C 0 dX7_counted_26 (by decide) ?_
  refine g_iconst (pc := 27) C 1 dX7_counted_27 (by decide) ?_
  refine g_callS (pc := 28) C B mX7_108 (c_in_t _ _ _ _ _ _ _ _ (okW_t (n := 1) (by omega) (by decide))) rfl rfl (by decide) ⟨Nat.le_refl _, Nat.le_refl _⟩ (Nat.le_of_ble_eq_true rfl) dX7_counted_28 (fun r S' hP => ?_)
  rw [hP.1, hP.2]
  refine g_if_ne (pc := 31) C 41 dX7_counted_31 (by decide) (fun _ => ?_) (fun h31 => absurd h31 (by decide))
  refine g_iload_n (pc := 41) C dX7_counted_41 rfl ?_
  refine g_if_ge (pc := 42) C 52 dX7_counted_42 (by decide) (fun _ => ?_) (fun h42 => absurd (nI_pos' (by omega)) h42)
  refine g_iload_n (pc := 52) C dX7_counted_52 rfl ?_
  refine g_bipush (pc := 53) C 23 dX7_counted_53 (by decide) ?_
  refine g_icmp_le (pc := 55) C 65 dX7_counted_55 (by decide) (fun _ => ?_) (fun h55 => absurd (nI_le (b := 23) (by omega) (by decide)) h55)
  refine g_sipush (pc := 65) C 384 dX7_counted_65 (by decide) ?_
  refine g_iload_n (pc := 68) C dX7_counted_68 rfl ?_
  refine g_imul (pc := 69) C dX7_counted_69 ?_
  refine g_eqi (nI (384 * i)) (pk_mul 384 i) ?_
  refine g_bipush (pc := 70) C 24 dX7_counted_70 (by decide) ?_
  refine g_iload_n (pc := 72) C dX7_counted_72 rfl ?_
  refine g_imul (pc := 73) C dX7_counted_73 ?_
  refine g_eqi (nI (24 * g)) (pk_mul 24 g) ?_
  refine g_iadd (pc := 74) C dX7_counted_74 ?_
  refine g_eqi (nI ((384 * i) + (24 * g))) (nI_add (384 * i) (24 * g)) ?_
  refine g_iload_n (pc := 75) C dX7_counted_75 rfl ?_
  refine g_iadd (pc := 76) C dX7_counted_76 ?_
  refine g_eqi (nI (((384 * i) + (24 * g)) + t)) (nI_add ((384 * i) + (24 * g)) t) ?_
  refine g_istore (pc := 77) C dX7_counted_77 (by decide) ?_
  refine g_iload (pc := 79) C dX7_counted_79 rfl ?_
  refine g_if_ne (pc := 81) C 94 dX7_counted_81 (by decide) (fun h81 => absurd (by decide) h81) (fun _ => ?_)
  refine g_aload_n (pc := 84) C dX7_counted_84 rfl ?_
  refine g_getr (pc := 85) C fX7_68 rfl hM.1 dX7_counted_85 rfl (hM.2 21 rfl).1 ?_
  refine g_iload (pc := 88) C dX7_counted_88 rfl ?_
  refine g_ialdN (pc := 90) C rfl (hM.2 21 rfl).2 (by omega) (by decide) dX7_counted_90 ?_
  refine g_goto (pc := 91) C 101 dX7_counted_91 (by decide) ?_
  exact g_iret (pc := 101) C B rfl dX7_counted_101 (⟨rfl, rfl⟩)

set_option maxHeartbeats 4000000 in
set_option maxRecDepth 100000 in
theorem c_X7_counted_lo1 (l : Launch) (E : En) (base aw : Nat) (S : Mm) (mc : Nat) (lc : Nat → Nat) (hI : IM S mc lc) (i : Nat) (hi : i < mc) (g : Nat) (hg : g < 16) (p2 : Int32) (hlo : p2 < 0) : Cn l E base aw yX7_counted cX7_counted 6 (some Jvm.ClassFile.FieldType.int) 2 0 0 noF S [vr (2, 0, 0), vi (nI i), vi (nI g), vi p2, vi (nI 1)] (fun r S' => r = some (vi (-4)) ∧ S' = rfM S 4) := by
  have hM := hI.1
  have hmc := hI.2.2.1
  refine Cn.of (by decide) (Nat.le_of_ble_eq_true rfl) ?_
  intro X Y hl hE hbase haw hfr C B
  subst hl; subst hE; subst hbase; subst haw
  refine g_aload_n (pc := 0) C dX7_counted_0 rfl ?_
  refine g_iload_n (pc := 1) C dX7_counted_1 rfl ?_
  refine g_callV (pc := 2) C B mX7_112 (c_isM_t _ _ _ _ _ mc lc hI i hi) rfl rfl rfl rfl hM.1 (by decide) ⟨Nat.le_refl _, Nat.le_refl _⟩ (Nat.le_of_ble_eq_true rfl) dX7_counted_2 (fun r S' hP => ?_)
  rw [hP.1, hP.2]
  refine g_if_eq (pc := 5) C 18 dX7_counted_5 (by decide) (fun h5 => absurd h5 (by decide)) (fun _ => ?_)
  refine g_iload_n (pc := 8) C dX7_counted_8 rfl ?_
  refine g_iconst (pc := 9) C 0 dX7_counted_9 (by decide) ?_
  refine g_bipush (pc := 10) C 15 dX7_counted_10 (by decide) ?_
  refine g_callS (pc := 12) C B mX7_108 (c_in_t _ _ _ _ _ _ _ _ (okW_t (n := 15) (by omega) (by decide))) rfl rfl (by decide) ⟨Nat.le_refl _, Nat.le_refl _⟩ (Nat.le_of_ble_eq_true rfl) dX7_counted_12 (fun r S' hP => ?_)
  rw [hP.1, hP.2]
  refine g_if_ne (pc := 15) C 24 dX7_counted_15 (by decide) (fun _ => ?_) (fun h15 => absurd h15 (by decide))
  refine g_iload (pc := 24) C dX7_counted_24 rfl ?_
  refine g_iconst (pc := 26) C 0 dX7_counted_26 (by decide) ?_
  refine g_iconst (pc := 27) C 1 dX7_counted_27 (by decide) ?_
  refine g_callS (pc := 28) C B mX7_108 (c_in_t _ _ _ _ _ _ _ _ (okW_t (n := 1) (by omega) (by decide))) rfl rfl (by decide) ⟨Nat.le_refl _, Nat.le_refl _⟩ (Nat.le_of_ble_eq_true rfl) dX7_counted_28 (fun r S' hP => ?_)
  rw [hP.1, hP.2]
  refine g_if_ne (pc := 31) C 41 dX7_counted_31 (by decide) (fun _ => ?_) (fun h31 => absurd h31 (by decide))
  refine g_iload_n (pc := 41) C dX7_counted_41 rfl ?_
  refine g_if_ge (pc := 42) C 52 dX7_counted_42 (by decide) (fun h42 => absurd h42 (Int32.not_le.mpr hlo)) (fun _ => ?_)
  refine g_aload_n (pc := 45) C dX7_counted_45 rfl ?_
  refine g_bipush (pc := 46) C (-4) dX7_counted_46 (by decide) ?_
  refine g_callV (pc := 48) C B mX7_116 (c_mrefuse _ _ _ _ _ hM (-4) 4 (by decide) (by decide)) rfl rfl rfl rfl hM.1 (by decide) ⟨Nat.le_refl _, Nat.le_refl _⟩ (Nat.le_of_ble_eq_true rfl) dX7_counted_48 (fun r S' hP => ?_)
  rw [hP.1, hP.2]
  exact g_iret (pc := 51) C B rfl dX7_counted_51 (⟨rfl, rfl⟩)

set_option maxHeartbeats 4000000 in
set_option maxRecDepth 100000 in
theorem c_X7_counted_hi1 (l : Launch) (E : En) (base aw : Nat) (S : Mm) (mc : Nat) (lc : Nat → Nat) (hI : IM S mc lc) (i : Nat) (hi : i < mc) (g : Nat) (hg : g < 16) (p2 : Int32) (hlo : 0 ≤ p2) (hhi : ¬ p2 ≤ 23) : Cn l E base aw yX7_counted cX7_counted 6 (some Jvm.ClassFile.FieldType.int) 2 0 0 noF S [vr (2, 0, 0), vi (nI i), vi (nI g), vi p2, vi (nI 1)] (fun r S' => r = some (vi (-6)) ∧ S' = rfM S 6) := by
  have hM := hI.1
  have hmc := hI.2.2.1
  refine Cn.of (by decide) (Nat.le_of_ble_eq_true rfl) ?_
  intro X Y hl hE hbase haw hfr C B
  subst hl; subst hE; subst hbase; subst haw
  refine g_aload_n (pc := 0) C dX7_counted_0 rfl ?_
  refine g_iload_n (pc := 1) C dX7_counted_1 rfl ?_
  refine g_callV (pc := 2) C B mX7_112 (c_isM_t _ _ _ _ _ mc lc hI i hi) rfl rfl rfl rfl hM.1 (by decide) ⟨Nat.le_refl _, Nat.le_refl _⟩ (Nat.le_of_ble_eq_true rfl) dX7_counted_2 (fun r S' hP => ?_)
  rw [hP.1, hP.2]
  refine g_if_eq (pc := 5) C 18 dX7_counted_5 (by decide) (fun h5 => absurd h5 (by decide)) (fun _ => ?_)
  refine g_iload_n (pc := 8) C dX7_counted_8 rfl ?_
  refine g_iconst (pc := 9) C 0 dX7_counted_9 (by decide) ?_
  refine g_bipush (pc := 10) C 15 dX7_counted_10 (by decide) ?_
  refine g_callS (pc := 12) C B mX7_108 (c_in_t _ _ _ _ _ _ _ _ (okW_t (n := 15) (by omega) (by decide))) rfl rfl (by decide) ⟨Nat.le_refl _, Nat.le_refl _⟩ (Nat.le_of_ble_eq_true rfl) dX7_counted_12 (fun r S' hP => ?_)
  rw [hP.1, hP.2]
  refine g_if_ne (pc := 15) C 24 dX7_counted_15 (by decide) (fun _ => ?_) (fun h15 => absurd h15 (by decide))
  refine g_iload (pc := 24) C dX7_counted_24 rfl ?_
  refine g_iconst (pc := 26) C 0 dX7_counted_26 (by decide) ?_
  refine g_iconst (pc := 27) C 1 dX7_counted_27 (by decide) ?_
  refine g_callS (pc := 28) C B mX7_108 (c_in_t _ _ _ _ _ _ _ _ (okW_t (n := 1) (by omega) (by decide))) rfl rfl (by decide) ⟨Nat.le_refl _, Nat.le_refl _⟩ (Nat.le_of_ble_eq_true rfl) dX7_counted_28 (fun r S' hP => ?_)
  rw [hP.1, hP.2]
  refine g_if_ne (pc := 31) C 41 dX7_counted_31 (by decide) (fun _ => ?_) (fun h31 => absurd h31 (by decide))
  refine g_iload_n (pc := 41) C dX7_counted_41 rfl ?_
  refine g_if_ge (pc := 42) C 52 dX7_counted_42 (by decide) (fun _ => ?_) (fun h42 => absurd hlo h42)
  refine g_iload_n (pc := 52) C dX7_counted_52 rfl ?_
  refine g_bipush (pc := 53) C 23 dX7_counted_53 (by decide) ?_
  refine g_icmp_le (pc := 55) C 65 dX7_counted_55 (by decide) (fun h55 => absurd h55 hhi) (fun _ => ?_)
  refine g_aload_n (pc := 58) C dX7_counted_58 rfl ?_
  refine g_bipush (pc := 59) C (-6) dX7_counted_59 (by decide) ?_
  refine g_callV (pc := 61) C B mX7_116 (c_mrefuse _ _ _ _ _ hM (-6) 6 (by decide) (by decide)) rfl rfl rfl rfl hM.1 (by decide) ⟨Nat.le_refl _, Nat.le_refl _⟩ (Nat.le_of_ble_eq_true rfl) dX7_counted_61 (fun r S' hP => ?_)
  rw [hP.1, hP.2]
  exact g_iret (pc := 64) C B rfl dX7_counted_64 (⟨rfl, rfl⟩)

set_option maxHeartbeats 4000000 in
set_option maxRecDepth 100000 in
theorem c_X7_counted1 (l : Launch) (E : En) (base aw : Nat) (S : Mm) (mc : Nat) (lc : Nat → Nat) (hI : IM S mc lc) (i : Nat) (hi : i < mc) (g : Nat) (hg : g < 16) (t : Nat) (ht : t < 24) : Cn l E base aw yX7_counted cX7_counted 6 (some Jvm.ClassFile.FieldType.int) 2 0 0 noF S [vr (2, 0, 0), vi (nI i), vi (nI g), vi (nI t), vi (nI 1)] (fun r S' => r = some (vi (S.1 (2, 0, 22) (384 * i + 24 * g + t))) ∧ S' = S) := by
  have hM := hI.1
  have hmc := hI.2.2.1
  refine Cn.of (by decide) (Nat.le_of_ble_eq_true rfl) ?_
  intro X Y hl hE hbase haw hfr C B
  subst hl; subst hE; subst hbase; subst haw
  refine g_aload_n (pc := 0) C dX7_counted_0 rfl ?_
  refine g_iload_n (pc := 1) C dX7_counted_1 rfl ?_
  refine g_callV (pc := 2) C B mX7_112 (c_isM_t _ _ _ _ _ mc lc hI i hi) rfl rfl rfl rfl hM.1 (by decide) ⟨Nat.le_refl _, Nat.le_refl _⟩ (Nat.le_of_ble_eq_true rfl) dX7_counted_2 (fun r S' hP => ?_)
  rw [hP.1, hP.2]
  refine g_if_eq (pc := 5) C 18 dX7_counted_5 (by decide) (fun h5 => absurd h5 (by decide)) (fun _ => ?_)
  refine g_iload_n (pc := 8) C dX7_counted_8 rfl ?_
  refine g_iconst (pc := 9) C 0 dX7_counted_9 (by decide) ?_
  refine g_bipush (pc := 10) C 15 dX7_counted_10 (by decide) ?_
  refine g_callS (pc := 12) C B mX7_108 (c_in_t _ _ _ _ _ _ _ _ (okW_t (n := 15) (by omega) (by decide))) rfl rfl (by decide) ⟨Nat.le_refl _, Nat.le_refl _⟩ (Nat.le_of_ble_eq_true rfl) dX7_counted_12 (fun r S' hP => ?_)
  rw [hP.1, hP.2]
  refine g_if_ne (pc := 15) C 24 dX7_counted_15 (by decide) (fun _ => ?_) (fun h15 => absurd h15 (by decide))
  refine g_iload (pc := 24) C dX7_counted_24 rfl ?_
  refine g_iconst (pc := 26) C 0 dX7_counted_26 (by decide) ?_
  refine g_iconst (pc := 27) C 1 dX7_counted_27 (by decide) ?_
  refine g_callS (pc := 28) C B mX7_108 (c_in_t _ _ _ _ _ _ _ _ (okW_t (n := 1) (by omega) (by decide))) rfl rfl (by decide) ⟨Nat.le_refl _, Nat.le_refl _⟩ (Nat.le_of_ble_eq_true rfl) dX7_counted_28 (fun r S' hP => ?_)
  rw [hP.1, hP.2]
  refine g_if_ne (pc := 31) C 41 dX7_counted_31 (by decide) (fun _ => ?_) (fun h31 => absurd h31 (by decide))
  refine g_iload_n (pc := 41) C dX7_counted_41 rfl ?_
  refine g_if_ge (pc := 42) C 52 dX7_counted_42 (by decide) (fun _ => ?_) (fun h42 => absurd (nI_pos' (by omega)) h42)
  refine g_iload_n (pc := 52) C dX7_counted_52 rfl ?_
  refine g_bipush (pc := 53) C 23 dX7_counted_53 (by decide) ?_
  refine g_icmp_le (pc := 55) C 65 dX7_counted_55 (by decide) (fun _ => ?_) (fun h55 => absurd (nI_le (b := 23) (by omega) (by decide)) h55)
  refine g_sipush (pc := 65) C 384 dX7_counted_65 (by decide) ?_
  refine g_iload_n (pc := 68) C dX7_counted_68 rfl ?_
  refine g_imul (pc := 69) C dX7_counted_69 ?_
  refine g_eqi (nI (384 * i)) (pk_mul 384 i) ?_
  refine g_bipush (pc := 70) C 24 dX7_counted_70 (by decide) ?_
  refine g_iload_n (pc := 72) C dX7_counted_72 rfl ?_
  refine g_imul (pc := 73) C dX7_counted_73 ?_
  refine g_eqi (nI (24 * g)) (pk_mul 24 g) ?_
  refine g_iadd (pc := 74) C dX7_counted_74 ?_
  refine g_eqi (nI ((384 * i) + (24 * g))) (nI_add (384 * i) (24 * g)) ?_
  refine g_iload_n (pc := 75) C dX7_counted_75 rfl ?_
  refine g_iadd (pc := 76) C dX7_counted_76 ?_
  refine g_eqi (nI (((384 * i) + (24 * g)) + t)) (nI_add ((384 * i) + (24 * g)) t) ?_
  refine g_istore (pc := 77) C dX7_counted_77 (by decide) ?_
  refine g_iload (pc := 79) C dX7_counted_79 rfl ?_
  refine g_if_ne (pc := 81) C 94 dX7_counted_81 (by decide) (fun _ => ?_) (fun h81 => absurd h81 (by decide))
  refine g_aload_n (pc := 94) C dX7_counted_94 rfl ?_
  refine g_getr (pc := 95) C fX7_71 rfl hM.1 dX7_counted_95 rfl (hM.2 22 rfl).1 ?_
  refine g_iload (pc := 98) C dX7_counted_98 rfl ?_
  refine g_ialdN (pc := 100) C rfl (hM.2 22 rfl).2 (by omega) (by decide) dX7_counted_100 ?_
  exact g_iret (pc := 101) C B rfl dX7_counted_101 (⟨rfl, rfl⟩)

set_option maxHeartbeats 4000000 in
set_option maxRecDepth 100000 in
theorem c_X7_loaded_lo (l : Launch) (E : En) (base aw : Nat) (S : Mm) (hM : ShM S) (p0 : Int32) (hlo : ¬ 0 ≤ p0) : Cn l E base aw yX7_loaded cX7_loaded 2 (some Jvm.ClassFile.FieldType.int) 1 0 0 noF S [vr (2, 0, 0), vi p0] (fun r S' => r = some (vi (-4)) ∧ S' = rfM S 4) := by
  refine Cn.of (by decide) (Nat.le_of_ble_eq_true rfl) ?_
  intro X Y hl hE hbase haw hfr C B
  subst hl; subst hE; subst hbase; subst haw
  refine g_iload_n (pc := 0) C dX7_loaded_0 rfl ?_
  refine g_if_ge (pc := 1) C 13 dX7_loaded_1 (by decide) (fun h1 => absurd h1 hlo) (fun _ => ?_)
  refine g_aload_n (pc := 4) C dX7_loaded_4 rfl ?_
  refine g_bipush (pc := 5) C (-4) dX7_loaded_5 (by decide) ?_
  refine g_callV (pc := 7) C B mX7_116 (c_mrefuse _ _ _ _ _ hM (-4) 4 (by decide) (by decide)) rfl rfl rfl rfl hM.1 (by decide) ⟨Nat.le_refl _, Nat.le_refl _⟩ (Nat.le_of_ble_eq_true rfl) dX7_loaded_7 (fun r S' hP => ?_)
  rw [hP.1, hP.2]
  refine g_goto (pc := 10) C 29 dX7_loaded_10 (by decide) ?_
  exact g_iret (pc := 29) C B rfl dX7_loaded_29 (⟨rfl, rfl⟩)

set_option maxHeartbeats 4000000 in
set_option maxRecDepth 100000 in
theorem c_X7_loaded_hi (l : Launch) (E : En) (base aw : Nat) (S : Mm) (hM : ShM S) (p0 : Int32) (hlo : 0 ≤ p0) (hhi : (8 : Int32) ≤ p0) : Cn l E base aw yX7_loaded cX7_loaded 2 (some Jvm.ClassFile.FieldType.int) 1 0 0 noF S [vr (2, 0, 0), vi p0] (fun r S' => r = some (vi 0) ∧ S' = S) := by
  refine Cn.of (by decide) (Nat.le_of_ble_eq_true rfl) ?_
  intro X Y hl hE hbase haw hfr C B
  subst hl; subst hE; subst hbase; subst haw
  refine g_iload_n (pc := 0) C dX7_loaded_0 rfl ?_
  refine g_if_ge (pc := 1) C 13 dX7_loaded_1 (by decide) (fun _ => ?_) (fun h1 => absurd hlo h1)
  refine g_iload_n (pc := 13) C dX7_loaded_13 rfl ?_
  refine g_bipush (pc := 14) C 8 dX7_loaded_14 (by decide) ?_
  refine g_icmp_ge (pc := 16) C 28 dX7_loaded_16 (by decide) (fun _ => ?_) (fun h16 => absurd hhi h16)
  refine g_iconst (pc := 28) C 0 dX7_loaded_28 (by decide) ?_
  exact g_iret (pc := 29) C B rfl dX7_loaded_29 (⟨rfl, rfl⟩)

set_option maxHeartbeats 4000000 in
set_option maxRecDepth 100000 in
theorem c_X7_loaded (l : Launch) (E : En) (base aw : Nat) (S : Mm) (hM : ShM S) (t : Nat) (ht : t < 8) : Cn l E base aw yX7_loaded cX7_loaded 2 (some Jvm.ClassFile.FieldType.int) 1 0 0 noF S [vr (2, 0, 0), vi (nI t)] (fun r S' => r = some (vi (S.1 (2, 0, 29) t)) ∧ S' = S) := by
  refine Cn.of (by decide) (Nat.le_of_ble_eq_true rfl) ?_
  intro X Y hl hE hbase haw hfr C B
  subst hl; subst hE; subst hbase; subst haw
  refine g_iload_n (pc := 0) C dX7_loaded_0 rfl ?_
  refine g_if_ge (pc := 1) C 13 dX7_loaded_1 (by decide) (fun _ => ?_) (fun h1 => absurd (nI_pos' (by omega)) h1)
  refine g_iload_n (pc := 13) C dX7_loaded_13 rfl ?_
  refine g_bipush (pc := 14) C 8 dX7_loaded_14 (by decide) ?_
  refine g_icmp_ge (pc := 16) C 28 dX7_loaded_16 (by decide) (fun h16 => absurd h16 (nI_ge (b := 8) ht (by decide))) (fun _ => ?_)
  refine g_aload_n (pc := 19) C dX7_loaded_19 rfl ?_
  refine g_getr (pc := 20) C fX7_89 rfl hM.1 dX7_loaded_20 rfl (hM.2 29 rfl).1 ?_
  refine g_iload_n (pc := 23) C dX7_loaded_23 rfl ?_
  refine g_ialdN (pc := 24) C rfl (hM.2 29 rfl).2 (by omega) (by decide) dX7_loaded_24 ?_
  refine g_goto (pc := 25) C 29 dX7_loaded_25 (by decide) ?_
  exact g_iret (pc := 29) C B rfl dX7_loaded_29 (⟨rfl, rfl⟩)

set_option maxHeartbeats 4000000 in
set_option maxRecDepth 100000 in
/-- tubeOf of no machine or worth -/
theorem c_X7_tubeOf_b (l : Launch) (E : En) (base aw : Nat) (S : Mm) (mc : Nat) (lc : Nat → Nat) (hI : IM S mc lc) (p0 p1 : Int32) (h : ¬ (okN mc p0 ∧ okN 6 p1)) : Cn l E base aw yX7_tubeOf cX7_tubeOf 3 (some Jvm.ClassFile.FieldType.int) 2 0 0 noF S [vr (2, 0, 0), vi p0, vi p1] (fun r S' => r = some (vi (-1)) ∧ S' = rfM S 1) := by
  have hM := hI.1
  have hmc := hI.2.2.1
  by_cases hm0 : okN mc p0
  ·
    obtain ⟨i, hi, rfl⟩ := hm0
    have hx : ¬ okN 6 p1 := fun q => h ⟨⟨i, hi, rfl⟩, q⟩
    refine Cn.of (by decide) (Nat.le_of_ble_eq_true rfl) ?_
    intro X Y hl hE hbase haw hfr C B
    subst hl; subst hE; subst hbase; subst haw
    refine g_aload_n (pc := 0) C dX7_tubeOf_0 rfl ?_
    refine g_iload_n (pc := 1) C dX7_tubeOf_1 rfl ?_
    refine g_callV (pc := 2) C B mX7_112 (c_isM_t _ _ _ _ _ mc lc hI i hi) rfl rfl rfl rfl hM.1 (by decide) ⟨Nat.le_refl _, Nat.le_refl _⟩ (Nat.le_of_ble_eq_true rfl) dX7_tubeOf_2 (fun r S' hP => ?_)
    rw [hP.1, hP.2]
    refine g_if_eq (pc := 5) C 31 dX7_tubeOf_5 (by decide) (fun h5 => absurd h5 (by decide)) (fun _ => ?_)
    refine g_iload_n (pc := 8) C dX7_tubeOf_8 rfl ?_
    refine g_iconst (pc := 9) C 0 dX7_tubeOf_9 (by decide) ?_
    refine g_iconst (pc := 10) C 5 dX7_tubeOf_10 (by decide) ?_
    refine g_callS (pc := 11) C B mX7_108 (c_in_f _ _ _ _ _ _ _ _ (okW_f (n := 5) (by decide) hx)) rfl rfl (by decide) ⟨Nat.le_refl _, Nat.le_refl _⟩ (Nat.le_of_ble_eq_true rfl) dX7_tubeOf_11 (fun r S' hP => ?_)
    rw [hP.1, hP.2]
    refine g_if_eq (pc := 14) C 31 dX7_tubeOf_14 (by decide) (fun _ => ?_) (fun h14 => absurd (by decide) h14)
    refine g_aload_n (pc := 31) C dX7_tubeOf_31 rfl ?_
    refine g_iconst (pc := 32) C (-1) dX7_tubeOf_32 (by decide) ?_
    refine g_callV (pc := 33) C B mX7_116 (c_mrefuse _ _ _ _ _ hM (-1) 1 (by decide) (by decide)) rfl rfl rfl rfl hM.1 (by decide) ⟨Nat.le_refl _, Nat.le_refl _⟩ (Nat.le_of_ble_eq_true rfl) dX7_tubeOf_33 (fun r S' hP => ?_)
    rw [hP.1, hP.2]
    exact g_iret (pc := 36) C B rfl dX7_tubeOf_36 (⟨rfl, rfl⟩)
  ·
    have hx := hm0
    refine Cn.of (by decide) (Nat.le_of_ble_eq_true rfl) ?_
    intro X Y hl hE hbase haw hfr C B
    subst hl; subst hE; subst hbase; subst haw
    refine g_aload_n (pc := 0) C dX7_tubeOf_0 rfl ?_
    refine g_iload_n (pc := 1) C dX7_tubeOf_1 rfl ?_
    refine g_callV (pc := 2) C B mX7_112 (c_isM_f _ _ _ _ _ mc lc hI p0 hx) rfl rfl rfl rfl hM.1 (by decide) ⟨Nat.le_refl _, Nat.le_refl _⟩ (Nat.le_of_ble_eq_true rfl) dX7_tubeOf_2 (fun r S' hP => ?_)
    rw [hP.1, hP.2]
    refine g_if_eq (pc := 5) C 31 dX7_tubeOf_5 (by decide) (fun _ => ?_) (fun h5 => absurd (by decide) h5)
    refine g_aload_n (pc := 31) C dX7_tubeOf_31 rfl ?_
    refine g_iconst (pc := 32) C (-1) dX7_tubeOf_32 (by decide) ?_
    refine g_callV (pc := 33) C B mX7_116 (c_mrefuse _ _ _ _ _ hM (-1) 1 (by decide) (by decide)) rfl rfl rfl rfl hM.1 (by decide) ⟨Nat.le_refl _, Nat.le_refl _⟩ (Nat.le_of_ble_eq_true rfl) dX7_tubeOf_33 (fun r S' hP => ?_)
    rw [hP.1, hP.2]
    exact g_iret (pc := 36) C B rfl dX7_tubeOf_36 (⟨rfl, rfl⟩)

set_option maxHeartbeats 4000000 in
set_option maxRecDepth 100000 in
theorem c_X7_tubeOf (l : Launch) (E : En) (base aw : Nat) (S : Mm) (mc : Nat) (lc : Nat → Nat) (hI : IM S mc lc) (i : Nat) (hi : i < mc) (w : Nat) (hw : w < 6) : Cn l E base aw yX7_tubeOf cX7_tubeOf 3 (some Jvm.ClassFile.FieldType.int) 2 0 0 noF S [vr (2, 0, 0), vi (nI i), vi (nI w)] (fun r S' => r = some (vi (S.1 (2, 0, 3) (6 * i + w))) ∧ S' = S) := by
  have hM := hI.1
  have hmc := hI.2.2.1
  refine Cn.of (by decide) (Nat.le_of_ble_eq_true rfl) ?_
  intro X Y hl hE hbase haw hfr C B
  subst hl; subst hE; subst hbase; subst haw
  refine g_aload_n (pc := 0) C dX7_tubeOf_0 rfl ?_
  refine g_iload_n (pc := 1) C dX7_tubeOf_1 rfl ?_
  refine g_callV (pc := 2) C B mX7_112 (c_isM_t _ _ _ _ _ mc lc hI i hi) rfl rfl rfl rfl hM.1 (by decide) ⟨Nat.le_refl _, Nat.le_refl _⟩ (Nat.le_of_ble_eq_true rfl) dX7_tubeOf_2 (fun r S' hP => ?_)
  rw [hP.1, hP.2]
  refine g_if_eq (pc := 5) C 31 dX7_tubeOf_5 (by decide) (fun h5 => absurd h5 (by decide)) (fun _ => ?_)
  refine g_iload_n (pc := 8) C dX7_tubeOf_8 rfl ?_
  refine g_iconst (pc := 9) C 0 dX7_tubeOf_9 (by decide) ?_
  refine g_iconst (pc := 10) C 5 dX7_tubeOf_10 (by decide) ?_
  refine g_callS (pc := 11) C B mX7_108 (c_in_t _ _ _ _ _ _ _ _ (okW_t (n := 5) (by omega) (by decide))) rfl rfl (by decide) ⟨Nat.le_refl _, Nat.le_refl _⟩ (Nat.le_of_ble_eq_true rfl) dX7_tubeOf_11 (fun r S' hP => ?_)
  rw [hP.1, hP.2]
  refine g_if_eq (pc := 14) C 31 dX7_tubeOf_14 (by decide) (fun h14 => absurd h14 (by decide)) (fun _ => ?_)
  refine g_aload_n (pc := 17) C dX7_tubeOf_17 rfl ?_
  refine g_getr (pc := 18) C fX7_13 rfl hM.1 dX7_tubeOf_18 rfl (hM.2 3 rfl).1 ?_
  refine g_bipush (pc := 21) C 6 dX7_tubeOf_21 (by decide) ?_
  refine g_iload_n (pc := 23) C dX7_tubeOf_23 rfl ?_
  refine g_imul (pc := 24) C dX7_tubeOf_24 ?_
  refine g_eqi (nI (6 * i)) (pk_mul 6 i) ?_
  refine g_iload_n (pc := 25) C dX7_tubeOf_25 rfl ?_
  refine g_iadd (pc := 26) C dX7_tubeOf_26 ?_
  refine g_eqi (nI ((6 * i) + w)) (nI_add (6 * i) w) ?_
  refine g_ialdN (pc := 27) C rfl (hM.2 3 rfl).2 (by omega) (by decide) dX7_tubeOf_27 ?_
  refine g_goto (pc := 28) C 36 dX7_tubeOf_28 (by decide) ?_
  exact g_iret (pc := 36) C B rfl dX7_tubeOf_36 (⟨rfl, rfl⟩)

set_option maxHeartbeats 4000000 in
set_option maxRecDepth 100000 in
/-- laneOf of no lane -/
theorem c_X7_laneOf_b (l : Launch) (E : En) (base aw : Nat) (S : Mm) (mc : Nat) (lc : Nat → Nat) (hI : IM S mc lc) (p0 p1 p2 : Int32) (h : ¬ (okL mc lc p0 p1)) : Cn l E base aw yX7_laneOf cX7_laneOf 5 (some Jvm.ClassFile.FieldType.int) 3 0 0 noF S [vr (2, 0, 0), vi p0, vi p1, vi p2] (fun r S' => r = some (vi (-1)) ∧ S' = rfM S 1) := by
  have hM := hI.1
  have hmc := hI.2.2.1
  have hx : ¬ okL mc lc p0 p1 := fun q => h q
  refine Cn.of (by decide) (Nat.le_of_ble_eq_true rfl) ?_
  intro X Y hl hE hbase haw hfr C B
  subst hl; subst hE; subst hbase; subst haw
  refine g_aload_n (pc := 0) C dX7_laneOf_0 rfl ?_
  refine g_iload_n (pc := 1) C dX7_laneOf_1 rfl ?_
  refine g_iload_n (pc := 2) C dX7_laneOf_2 rfl ?_
  refine g_callV (pc := 3) C B mX7_123 (c_isL_f _ _ _ _ _ mc lc hI p0 p1 hx) rfl rfl rfl rfl hM.1 (by decide) ⟨Nat.le_refl _, Nat.le_refl _⟩ (Nat.le_of_ble_eq_true rfl) dX7_laneOf_3 (fun r S' hP => ?_)
  rw [hP.1, hP.2]
  refine g_if_ne (pc := 6) C 15 dX7_laneOf_6 (by decide) (fun h6 => absurd (by decide) h6) (fun _ => ?_)
  refine g_aload_n (pc := 9) C dX7_laneOf_9 rfl ?_
  refine g_iconst (pc := 10) C (-1) dX7_laneOf_10 (by decide) ?_
  refine g_callV (pc := 11) C B mX7_116 (c_mrefuse _ _ _ _ _ hM (-1) 1 (by decide) (by decide)) rfl rfl rfl rfl hM.1 (by decide) ⟨Nat.le_refl _, Nat.le_refl _⟩ (Nat.le_of_ble_eq_true rfl) dX7_laneOf_11 (fun r S' hP => ?_)
  rw [hP.1, hP.2]
  exact g_iret (pc := 14) C B rfl dX7_laneOf_14 (⟨rfl, rfl⟩)

set_option maxHeartbeats 4000000 in
set_option maxRecDepth 100000 in
theorem c_X7_laneOf0 (l : Launch) (E : En) (base aw : Nat) (S : Mm) (mc : Nat) (lc : Nat → Nat) (hI : IM S mc lc) (i : Nat) (hi : i < mc) (j : Nat) (hj : j < lc i) : Cn l E base aw yX7_laneOf cX7_laneOf 5 (some Jvm.ClassFile.FieldType.int) 3 0 0 noF S [vr (2, 0, 0), vi (nI i), vi (nI j), vi (nI 0)] (fun r S' => r = some (vi (S.1 (2, 0, 10) (8 * i + j))) ∧ S' = S) := by
  have hM := hI.1
  have hmc := hI.2.2.1
  have hlc := (hI.2.2.2 i (by omega)).2
  refine Cn.of (by decide) (Nat.le_of_ble_eq_true rfl) ?_
  intro X Y hl hE hbase haw hfr C B
  subst hl; subst hE; subst hbase; subst haw
  refine g_aload_n (pc := 0) C dX7_laneOf_0 rfl ?_
  refine g_iload_n (pc := 1) C dX7_laneOf_1 rfl ?_
  refine g_iload_n (pc := 2) C dX7_laneOf_2 rfl ?_
  refine g_callV (pc := 3) C B mX7_123 (c_isL_t _ _ _ _ _ mc lc hI i hi j hj) rfl rfl rfl rfl hM.1 (by decide) ⟨Nat.le_refl _, Nat.le_refl _⟩ (Nat.le_of_ble_eq_true rfl) dX7_laneOf_3 (fun r S' hP => ?_)
  rw [hP.1, hP.2]
  refine g_if_ne (pc := 6) C 15 dX7_laneOf_6 (by decide) (fun _ => ?_) (fun h6 => absurd h6 (by decide))
  refine g_bipush (pc := 15) C 8 dX7_laneOf_15 (by decide) ?_
  refine g_iload_n (pc := 17) C dX7_laneOf_17 rfl ?_
  refine g_imul (pc := 18) C dX7_laneOf_18 ?_
  refine g_eqi (nI (8 * i)) (pk_mul 8 i) ?_
  refine g_iload_n (pc := 19) C dX7_laneOf_19 rfl ?_
  refine g_iadd (pc := 20) C dX7_laneOf_20 ?_
  refine g_eqi (nI ((8 * i) + j)) (nI_add (8 * i) j) ?_
  refine g_istore (pc := 21) C dX7_laneOf_21 (by decide) ?_
  refine g_iload_n (pc := 23) C dX7_laneOf_23 rfl ?_
  refine g_tabIn (pc := 24) (off := 52) C 76 dX7_laneOf_24 (by decide) (by decide) (by decide) (by decide) ?_
  refine g_aload_n (pc := 76) C dX7_laneOf_76 rfl ?_
  refine g_getr (pc := 77) C fX7_35 rfl hM.1 dX7_laneOf_77 rfl (hM.2 10 rfl).1 ?_
  refine g_iload (pc := 80) C dX7_laneOf_80 rfl ?_
  refine g_ialdN (pc := 82) C rfl (hM.2 10 rfl).2 (by omega) (by decide) dX7_laneOf_82 ?_
  exact g_iret (pc := 83) C B rfl dX7_laneOf_83 (⟨rfl, rfl⟩)

set_option maxHeartbeats 4000000 in
set_option maxRecDepth 100000 in
theorem c_X7_laneOf1 (l : Launch) (E : En) (base aw : Nat) (S : Mm) (mc : Nat) (lc : Nat → Nat) (hI : IM S mc lc) (i : Nat) (hi : i < mc) (j : Nat) (hj : j < lc i) : Cn l E base aw yX7_laneOf cX7_laneOf 5 (some Jvm.ClassFile.FieldType.int) 3 0 0 noF S [vr (2, 0, 0), vi (nI i), vi (nI j), vi (nI 1)] (fun r S' => r = some (vi (S.1 (2, 0, 11) (8 * i + j))) ∧ S' = S) := by
  have hM := hI.1
  have hmc := hI.2.2.1
  have hlc := (hI.2.2.2 i (by omega)).2
  refine Cn.of (by decide) (Nat.le_of_ble_eq_true rfl) ?_
  intro X Y hl hE hbase haw hfr C B
  subst hl; subst hE; subst hbase; subst haw
  refine g_aload_n (pc := 0) C dX7_laneOf_0 rfl ?_
  refine g_iload_n (pc := 1) C dX7_laneOf_1 rfl ?_
  refine g_iload_n (pc := 2) C dX7_laneOf_2 rfl ?_
  refine g_callV (pc := 3) C B mX7_123 (c_isL_t _ _ _ _ _ mc lc hI i hi j hj) rfl rfl rfl rfl hM.1 (by decide) ⟨Nat.le_refl _, Nat.le_refl _⟩ (Nat.le_of_ble_eq_true rfl) dX7_laneOf_3 (fun r S' hP => ?_)
  rw [hP.1, hP.2]
  refine g_if_ne (pc := 6) C 15 dX7_laneOf_6 (by decide) (fun _ => ?_) (fun h6 => absurd h6 (by decide))
  refine g_bipush (pc := 15) C 8 dX7_laneOf_15 (by decide) ?_
  refine g_iload_n (pc := 17) C dX7_laneOf_17 rfl ?_
  refine g_imul (pc := 18) C dX7_laneOf_18 ?_
  refine g_eqi (nI (8 * i)) (pk_mul 8 i) ?_
  refine g_iload_n (pc := 19) C dX7_laneOf_19 rfl ?_
  refine g_iadd (pc := 20) C dX7_laneOf_20 ?_
  refine g_eqi (nI ((8 * i) + j)) (nI_add (8 * i) j) ?_
  refine g_istore (pc := 21) C dX7_laneOf_21 (by decide) ?_
  refine g_iload_n (pc := 23) C dX7_laneOf_23 rfl ?_
  refine g_tabIn (pc := 24) (off := 60) C 84 dX7_laneOf_24 (by decide) (by decide) (by decide) (by decide) ?_
  refine g_aload_n (pc := 84) C dX7_laneOf_84 rfl ?_
  refine g_getr (pc := 85) C fX7_38 rfl hM.1 dX7_laneOf_85 rfl (hM.2 11 rfl).1 ?_
  refine g_iload (pc := 88) C dX7_laneOf_88 rfl ?_
  refine g_ialdN (pc := 90) C rfl (hM.2 11 rfl).2 (by omega) (by decide) dX7_laneOf_90 ?_
  exact g_iret (pc := 91) C B rfl dX7_laneOf_91 (⟨rfl, rfl⟩)

set_option maxHeartbeats 4000000 in
set_option maxRecDepth 100000 in
theorem c_X7_laneOf2 (l : Launch) (E : En) (base aw : Nat) (S : Mm) (mc : Nat) (lc : Nat → Nat) (hI : IM S mc lc) (i : Nat) (hi : i < mc) (j : Nat) (hj : j < lc i) : Cn l E base aw yX7_laneOf cX7_laneOf 5 (some Jvm.ClassFile.FieldType.int) 3 0 0 noF S [vr (2, 0, 0), vi (nI i), vi (nI j), vi (nI 2)] (fun r S' => r = some (vi (S.1 (2, 0, 12) (8 * i + j))) ∧ S' = S) := by
  have hM := hI.1
  have hmc := hI.2.2.1
  have hlc := (hI.2.2.2 i (by omega)).2
  refine Cn.of (by decide) (Nat.le_of_ble_eq_true rfl) ?_
  intro X Y hl hE hbase haw hfr C B
  subst hl; subst hE; subst hbase; subst haw
  refine g_aload_n (pc := 0) C dX7_laneOf_0 rfl ?_
  refine g_iload_n (pc := 1) C dX7_laneOf_1 rfl ?_
  refine g_iload_n (pc := 2) C dX7_laneOf_2 rfl ?_
  refine g_callV (pc := 3) C B mX7_123 (c_isL_t _ _ _ _ _ mc lc hI i hi j hj) rfl rfl rfl rfl hM.1 (by decide) ⟨Nat.le_refl _, Nat.le_refl _⟩ (Nat.le_of_ble_eq_true rfl) dX7_laneOf_3 (fun r S' hP => ?_)
  rw [hP.1, hP.2]
  refine g_if_ne (pc := 6) C 15 dX7_laneOf_6 (by decide) (fun _ => ?_) (fun h6 => absurd h6 (by decide))
  refine g_bipush (pc := 15) C 8 dX7_laneOf_15 (by decide) ?_
  refine g_iload_n (pc := 17) C dX7_laneOf_17 rfl ?_
  refine g_imul (pc := 18) C dX7_laneOf_18 ?_
  refine g_eqi (nI (8 * i)) (pk_mul 8 i) ?_
  refine g_iload_n (pc := 19) C dX7_laneOf_19 rfl ?_
  refine g_iadd (pc := 20) C dX7_laneOf_20 ?_
  refine g_eqi (nI ((8 * i) + j)) (nI_add (8 * i) j) ?_
  refine g_istore (pc := 21) C dX7_laneOf_21 (by decide) ?_
  refine g_iload_n (pc := 23) C dX7_laneOf_23 rfl ?_
  refine g_tabIn (pc := 24) (off := 68) C 92 dX7_laneOf_24 (by decide) (by decide) (by decide) (by decide) ?_
  refine g_aload_n (pc := 92) C dX7_laneOf_92 rfl ?_
  refine g_getr (pc := 93) C fX7_41 rfl hM.1 dX7_laneOf_93 rfl (hM.2 12 rfl).1 ?_
  refine g_iload (pc := 96) C dX7_laneOf_96 rfl ?_
  refine g_ialdN (pc := 98) C rfl (hM.2 12 rfl).2 (by omega) (by decide) dX7_laneOf_98 ?_
  exact g_iret (pc := 99) C B rfl dX7_laneOf_99 (⟨rfl, rfl⟩)

set_option maxHeartbeats 4000000 in
set_option maxRecDepth 100000 in
theorem c_X7_laneOf3 (l : Launch) (E : En) (base aw : Nat) (S : Mm) (mc : Nat) (lc : Nat → Nat) (hI : IM S mc lc) (i : Nat) (hi : i < mc) (j : Nat) (hj : j < lc i) : Cn l E base aw yX7_laneOf cX7_laneOf 5 (some Jvm.ClassFile.FieldType.int) 3 0 0 noF S [vr (2, 0, 0), vi (nI i), vi (nI j), vi (nI 3)] (fun r S' => r = some (vi (S.1 (2, 0, 13) (8 * i + j))) ∧ S' = S) := by
  have hM := hI.1
  have hmc := hI.2.2.1
  have hlc := (hI.2.2.2 i (by omega)).2
  refine Cn.of (by decide) (Nat.le_of_ble_eq_true rfl) ?_
  intro X Y hl hE hbase haw hfr C B
  subst hl; subst hE; subst hbase; subst haw
  refine g_aload_n (pc := 0) C dX7_laneOf_0 rfl ?_
  refine g_iload_n (pc := 1) C dX7_laneOf_1 rfl ?_
  refine g_iload_n (pc := 2) C dX7_laneOf_2 rfl ?_
  refine g_callV (pc := 3) C B mX7_123 (c_isL_t _ _ _ _ _ mc lc hI i hi j hj) rfl rfl rfl rfl hM.1 (by decide) ⟨Nat.le_refl _, Nat.le_refl _⟩ (Nat.le_of_ble_eq_true rfl) dX7_laneOf_3 (fun r S' hP => ?_)
  rw [hP.1, hP.2]
  refine g_if_ne (pc := 6) C 15 dX7_laneOf_6 (by decide) (fun _ => ?_) (fun h6 => absurd h6 (by decide))
  refine g_bipush (pc := 15) C 8 dX7_laneOf_15 (by decide) ?_
  refine g_iload_n (pc := 17) C dX7_laneOf_17 rfl ?_
  refine g_imul (pc := 18) C dX7_laneOf_18 ?_
  refine g_eqi (nI (8 * i)) (pk_mul 8 i) ?_
  refine g_iload_n (pc := 19) C dX7_laneOf_19 rfl ?_
  refine g_iadd (pc := 20) C dX7_laneOf_20 ?_
  refine g_eqi (nI ((8 * i) + j)) (nI_add (8 * i) j) ?_
  refine g_istore (pc := 21) C dX7_laneOf_21 (by decide) ?_
  refine g_iload_n (pc := 23) C dX7_laneOf_23 rfl ?_
  refine g_tabIn (pc := 24) (off := 76) C 100 dX7_laneOf_24 (by decide) (by decide) (by decide) (by decide) ?_
  refine g_aload_n (pc := 100) C dX7_laneOf_100 rfl ?_
  refine g_getr (pc := 101) C fX7_44 rfl hM.1 dX7_laneOf_101 rfl (hM.2 13 rfl).1 ?_
  refine g_iload (pc := 104) C dX7_laneOf_104 rfl ?_
  refine g_ialdN (pc := 106) C rfl (hM.2 13 rfl).2 (by omega) (by decide) dX7_laneOf_106 ?_
  exact g_iret (pc := 107) C B rfl dX7_laneOf_107 (⟨rfl, rfl⟩)

set_option maxHeartbeats 4000000 in
set_option maxRecDepth 100000 in
theorem c_X7_laneOf4 (l : Launch) (E : En) (base aw : Nat) (S : Mm) (mc : Nat) (lc : Nat → Nat) (hI : IM S mc lc) (i : Nat) (hi : i < mc) (j : Nat) (hj : j < lc i) : Cn l E base aw yX7_laneOf cX7_laneOf 5 (some Jvm.ClassFile.FieldType.int) 3 0 0 noF S [vr (2, 0, 0), vi (nI i), vi (nI j), vi (nI 4)] (fun r S' => r = some (vi (S.1 (2, 0, 14) (8 * i + j))) ∧ S' = S) := by
  have hM := hI.1
  have hmc := hI.2.2.1
  have hlc := (hI.2.2.2 i (by omega)).2
  refine Cn.of (by decide) (Nat.le_of_ble_eq_true rfl) ?_
  intro X Y hl hE hbase haw hfr C B
  subst hl; subst hE; subst hbase; subst haw
  refine g_aload_n (pc := 0) C dX7_laneOf_0 rfl ?_
  refine g_iload_n (pc := 1) C dX7_laneOf_1 rfl ?_
  refine g_iload_n (pc := 2) C dX7_laneOf_2 rfl ?_
  refine g_callV (pc := 3) C B mX7_123 (c_isL_t _ _ _ _ _ mc lc hI i hi j hj) rfl rfl rfl rfl hM.1 (by decide) ⟨Nat.le_refl _, Nat.le_refl _⟩ (Nat.le_of_ble_eq_true rfl) dX7_laneOf_3 (fun r S' hP => ?_)
  rw [hP.1, hP.2]
  refine g_if_ne (pc := 6) C 15 dX7_laneOf_6 (by decide) (fun _ => ?_) (fun h6 => absurd h6 (by decide))
  refine g_bipush (pc := 15) C 8 dX7_laneOf_15 (by decide) ?_
  refine g_iload_n (pc := 17) C dX7_laneOf_17 rfl ?_
  refine g_imul (pc := 18) C dX7_laneOf_18 ?_
  refine g_eqi (nI (8 * i)) (pk_mul 8 i) ?_
  refine g_iload_n (pc := 19) C dX7_laneOf_19 rfl ?_
  refine g_iadd (pc := 20) C dX7_laneOf_20 ?_
  refine g_eqi (nI ((8 * i) + j)) (nI_add (8 * i) j) ?_
  refine g_istore (pc := 21) C dX7_laneOf_21 (by decide) ?_
  refine g_iload_n (pc := 23) C dX7_laneOf_23 rfl ?_
  refine g_tabIn (pc := 24) (off := 84) C 108 dX7_laneOf_24 (by decide) (by decide) (by decide) (by decide) ?_
  refine g_aload_n (pc := 108) C dX7_laneOf_108 rfl ?_
  refine g_getr (pc := 109) C fX7_47 rfl hM.1 dX7_laneOf_109 rfl (hM.2 14 rfl).1 ?_
  refine g_iload (pc := 112) C dX7_laneOf_112 rfl ?_
  refine g_ialdN (pc := 114) C rfl (hM.2 14 rfl).2 (by omega) (by decide) dX7_laneOf_114 ?_
  exact g_iret (pc := 115) C B rfl dX7_laneOf_115 (⟨rfl, rfl⟩)

def v_X7_laneOf5 (S : Mm) (i : Nat) (j : Nat) : Int32 := if (S.1 (2, 0, 18) ((8 * i) + j)) = 0 then 0 else 1
set_option maxHeartbeats 4000000 in
set_option maxRecDepth 100000 in
theorem c_X7_laneOf5 (l : Launch) (E : En) (base aw : Nat) (S : Mm) (mc : Nat) (lc : Nat → Nat) (hI : IM S mc lc) (i : Nat) (hi : i < mc) (j : Nat) (hj : j < lc i) : Cn l E base aw yX7_laneOf cX7_laneOf 5 (some Jvm.ClassFile.FieldType.int) 3 0 0 noF S [vr (2, 0, 0), vi (nI i), vi (nI j), vi (nI 5)] (fun r S' => r = some (vi (v_X7_laneOf5 S i j)) ∧ S' = S) := by
  have hM := hI.1
  have hmc := hI.2.2.1
  have hlc := (hI.2.2.2 i (by omega)).2
  refine Cn.of (by decide) (Nat.le_of_ble_eq_true rfl) ?_
  intro X Y hl hE hbase haw hfr C B
  subst hl; subst hE; subst hbase; subst haw
  refine g_aload_n (pc := 0) C dX7_laneOf_0 rfl ?_
  refine g_iload_n (pc := 1) C dX7_laneOf_1 rfl ?_
  refine g_iload_n (pc := 2) C dX7_laneOf_2 rfl ?_
  refine g_callV (pc := 3) C B mX7_123 (c_isL_t _ _ _ _ _ mc lc hI i hi j hj) rfl rfl rfl rfl hM.1 (by decide) ⟨Nat.le_refl _, Nat.le_refl _⟩ (Nat.le_of_ble_eq_true rfl) dX7_laneOf_3 (fun r S' hP => ?_)
  rw [hP.1, hP.2]
  refine g_if_ne (pc := 6) C 15 dX7_laneOf_6 (by decide) (fun _ => ?_) (fun h6 => absurd h6 (by decide))
  refine g_bipush (pc := 15) C 8 dX7_laneOf_15 (by decide) ?_
  refine g_iload_n (pc := 17) C dX7_laneOf_17 rfl ?_
  refine g_imul (pc := 18) C dX7_laneOf_18 ?_
  refine g_eqi (nI (8 * i)) (pk_mul 8 i) ?_
  refine g_iload_n (pc := 19) C dX7_laneOf_19 rfl ?_
  refine g_iadd (pc := 20) C dX7_laneOf_20 ?_
  refine g_eqi (nI ((8 * i) + j)) (nI_add (8 * i) j) ?_
  refine g_istore (pc := 21) C dX7_laneOf_21 (by decide) ?_
  refine g_iload_n (pc := 23) C dX7_laneOf_23 rfl ?_
  refine g_tabIn (pc := 24) (off := 92) C 116 dX7_laneOf_24 (by decide) (by decide) (by decide) (by decide) ?_
  refine g_aload_n (pc := 116) C dX7_laneOf_116 rfl ?_
  refine g_getr (pc := 117) C fX7_59 rfl hM.1 dX7_laneOf_117 rfl (hM.2 18 rfl).1 ?_
  refine g_iload (pc := 120) C dX7_laneOf_120 rfl ?_
  refine g_baldN (pc := 122) C rfl (hM.2 18 rfl).2 (by omega) (by decide) dX7_laneOf_122 ?_
  refine g_if_eq (pc := 123) C 130 dX7_laneOf_123 (by decide) (fun h123 => ?_) (fun h123 => ?_)
  ·
    refine g_iconst (pc := 130) C 0 dX7_laneOf_130 (by decide) ?_
    exact g_iret (pc := 131) C B rfl dX7_laneOf_131 (⟨by show some (vi _) = some (vi (v_X7_laneOf5 S i j)); unfold v_X7_laneOf5; rw [if_pos h123], rfl⟩)
  ·
    refine g_iconst (pc := 126) C 1 dX7_laneOf_126 (by decide) ?_
    refine g_goto (pc := 127) C 131 dX7_laneOf_127 (by decide) ?_
    exact g_iret (pc := 131) C B rfl dX7_laneOf_131 (⟨by show some (vi _) = some (vi (v_X7_laneOf5 S i j)); unfold v_X7_laneOf5; rw [if_neg h123], rfl⟩)

set_option maxHeartbeats 4000000 in
set_option maxRecDepth 100000 in
theorem c_X7_laneOf6 (l : Launch) (E : En) (base aw : Nat) (S : Mm) (mc : Nat) (lc : Nat → Nat) (hI : IM S mc lc) (i : Nat) (hi : i < mc) (j : Nat) (hj : j < lc i) : Cn l E base aw yX7_laneOf cX7_laneOf 5 (some Jvm.ClassFile.FieldType.int) 3 0 0 noF S [vr (2, 0, 0), vi (nI i), vi (nI j), vi (nI 6)] (fun r S' => r = some (vi (S.1 (2, 0, 17) (8 * i + j))) ∧ S' = S) := by
  have hM := hI.1
  have hmc := hI.2.2.1
  have hlc := (hI.2.2.2 i (by omega)).2
  refine Cn.of (by decide) (Nat.le_of_ble_eq_true rfl) ?_
  intro X Y hl hE hbase haw hfr C B
  subst hl; subst hE; subst hbase; subst haw
  refine g_aload_n (pc := 0) C dX7_laneOf_0 rfl ?_
  refine g_iload_n (pc := 1) C dX7_laneOf_1 rfl ?_
  refine g_iload_n (pc := 2) C dX7_laneOf_2 rfl ?_
  refine g_callV (pc := 3) C B mX7_123 (c_isL_t _ _ _ _ _ mc lc hI i hi j hj) rfl rfl rfl rfl hM.1 (by decide) ⟨Nat.le_refl _, Nat.le_refl _⟩ (Nat.le_of_ble_eq_true rfl) dX7_laneOf_3 (fun r S' hP => ?_)
  rw [hP.1, hP.2]
  refine g_if_ne (pc := 6) C 15 dX7_laneOf_6 (by decide) (fun _ => ?_) (fun h6 => absurd h6 (by decide))
  refine g_bipush (pc := 15) C 8 dX7_laneOf_15 (by decide) ?_
  refine g_iload_n (pc := 17) C dX7_laneOf_17 rfl ?_
  refine g_imul (pc := 18) C dX7_laneOf_18 ?_
  refine g_eqi (nI (8 * i)) (pk_mul 8 i) ?_
  refine g_iload_n (pc := 19) C dX7_laneOf_19 rfl ?_
  refine g_iadd (pc := 20) C dX7_laneOf_20 ?_
  refine g_eqi (nI ((8 * i) + j)) (nI_add (8 * i) j) ?_
  refine g_istore (pc := 21) C dX7_laneOf_21 (by decide) ?_
  refine g_iload_n (pc := 23) C dX7_laneOf_23 rfl ?_
  refine g_tabIn (pc := 24) (off := 108) C 132 dX7_laneOf_24 (by decide) (by decide) (by decide) (by decide) ?_
  refine g_aload_n (pc := 132) C dX7_laneOf_132 rfl ?_
  refine g_getr (pc := 133) C fX7_56 rfl hM.1 dX7_laneOf_133 rfl (hM.2 17 rfl).1 ?_
  refine g_iload (pc := 136) C dX7_laneOf_136 rfl ?_
  refine g_ialdN (pc := 138) C rfl (hM.2 17 rfl).2 (by omega) (by decide) dX7_laneOf_138 ?_
  exact g_iret (pc := 139) C B rfl dX7_laneOf_139 (⟨rfl, rfl⟩)

def v_X7_laneOf7 (S : Mm) (i : Nat) (j : Nat) : Int32 := if (S.1 (2, 0, 19) ((8 * i) + j)) = 0 then 0 else 1
set_option maxHeartbeats 4000000 in
set_option maxRecDepth 100000 in
theorem c_X7_laneOf7 (l : Launch) (E : En) (base aw : Nat) (S : Mm) (mc : Nat) (lc : Nat → Nat) (hI : IM S mc lc) (i : Nat) (hi : i < mc) (j : Nat) (hj : j < lc i) : Cn l E base aw yX7_laneOf cX7_laneOf 5 (some Jvm.ClassFile.FieldType.int) 3 0 0 noF S [vr (2, 0, 0), vi (nI i), vi (nI j), vi (nI 7)] (fun r S' => r = some (vi (v_X7_laneOf7 S i j)) ∧ S' = S) := by
  have hM := hI.1
  have hmc := hI.2.2.1
  have hlc := (hI.2.2.2 i (by omega)).2
  refine Cn.of (by decide) (Nat.le_of_ble_eq_true rfl) ?_
  intro X Y hl hE hbase haw hfr C B
  subst hl; subst hE; subst hbase; subst haw
  refine g_aload_n (pc := 0) C dX7_laneOf_0 rfl ?_
  refine g_iload_n (pc := 1) C dX7_laneOf_1 rfl ?_
  refine g_iload_n (pc := 2) C dX7_laneOf_2 rfl ?_
  refine g_callV (pc := 3) C B mX7_123 (c_isL_t _ _ _ _ _ mc lc hI i hi j hj) rfl rfl rfl rfl hM.1 (by decide) ⟨Nat.le_refl _, Nat.le_refl _⟩ (Nat.le_of_ble_eq_true rfl) dX7_laneOf_3 (fun r S' hP => ?_)
  rw [hP.1, hP.2]
  refine g_if_ne (pc := 6) C 15 dX7_laneOf_6 (by decide) (fun _ => ?_) (fun h6 => absurd h6 (by decide))
  refine g_bipush (pc := 15) C 8 dX7_laneOf_15 (by decide) ?_
  refine g_iload_n (pc := 17) C dX7_laneOf_17 rfl ?_
  refine g_imul (pc := 18) C dX7_laneOf_18 ?_
  refine g_eqi (nI (8 * i)) (pk_mul 8 i) ?_
  refine g_iload_n (pc := 19) C dX7_laneOf_19 rfl ?_
  refine g_iadd (pc := 20) C dX7_laneOf_20 ?_
  refine g_eqi (nI ((8 * i) + j)) (nI_add (8 * i) j) ?_
  refine g_istore (pc := 21) C dX7_laneOf_21 (by decide) ?_
  refine g_iload_n (pc := 23) C dX7_laneOf_23 rfl ?_
  refine g_tabIn (pc := 24) (off := 116) C 140 dX7_laneOf_24 (by decide) (by decide) (by decide) (by decide) ?_
  refine g_aload_n (pc := 140) C dX7_laneOf_140 rfl ?_
  refine g_getr (pc := 141) C fX7_62 rfl hM.1 dX7_laneOf_141 rfl (hM.2 19 rfl).1 ?_
  refine g_iload (pc := 144) C dX7_laneOf_144 rfl ?_
  refine g_baldN (pc := 146) C rfl (hM.2 19 rfl).2 (by omega) (by decide) dX7_laneOf_146 ?_
  refine g_if_eq (pc := 147) C 154 dX7_laneOf_147 (by decide) (fun h147 => ?_) (fun h147 => ?_)
  ·
    refine g_iconst (pc := 154) C 0 dX7_laneOf_154 (by decide) ?_
    exact g_iret (pc := 155) C B rfl dX7_laneOf_155 (⟨by show some (vi _) = some (vi (v_X7_laneOf7 S i j)); unfold v_X7_laneOf7; rw [if_pos h147], rfl⟩)
  ·
    refine g_iconst (pc := 150) C 1 dX7_laneOf_150 (by decide) ?_
    refine g_goto (pc := 151) C 155 dX7_laneOf_151 (by decide) ?_
    exact g_iret (pc := 155) C B rfl dX7_laneOf_155 (⟨by show some (vi _) = some (vi (v_X7_laneOf7 S i j)); unfold v_X7_laneOf7; rw [if_neg h147], rfl⟩)

def v_X7_laneOf8 (S : Mm) (i : Nat) (j : Nat) : Int32 := if (v_X7_sells S i j) = 0 then 0 else 1
set_option maxHeartbeats 4000000 in
set_option maxRecDepth 100000 in
theorem c_X7_laneOf8 (l : Launch) (E : En) (base aw : Nat) (S : Mm) (mc : Nat) (lc : Nat → Nat) (hI : IM S mc lc) (i : Nat) (hi : i < mc) (j : Nat) (hj : j < lc i) : Cn l E base aw yX7_laneOf cX7_laneOf 5 (some Jvm.ClassFile.FieldType.int) 3 0 0 noF S [vr (2, 0, 0), vi (nI i), vi (nI j), vi (nI 8)] (fun r S' => r = some (vi (v_X7_laneOf8 S i j)) ∧ S' = S) := by
  have hM := hI.1
  have hmc := hI.2.2.1
  have hlc := (hI.2.2.2 i (by omega)).2
  refine Cn.of (by decide) (Nat.le_of_ble_eq_true rfl) ?_
  intro X Y hl hE hbase haw hfr C B
  subst hl; subst hE; subst hbase; subst haw
  refine g_aload_n (pc := 0) C dX7_laneOf_0 rfl ?_
  refine g_iload_n (pc := 1) C dX7_laneOf_1 rfl ?_
  refine g_iload_n (pc := 2) C dX7_laneOf_2 rfl ?_
  refine g_callV (pc := 3) C B mX7_123 (c_isL_t _ _ _ _ _ mc lc hI i hi j hj) rfl rfl rfl rfl hM.1 (by decide) ⟨Nat.le_refl _, Nat.le_refl _⟩ (Nat.le_of_ble_eq_true rfl) dX7_laneOf_3 (fun r S' hP => ?_)
  rw [hP.1, hP.2]
  refine g_if_ne (pc := 6) C 15 dX7_laneOf_6 (by decide) (fun _ => ?_) (fun h6 => absurd h6 (by decide))
  refine g_bipush (pc := 15) C 8 dX7_laneOf_15 (by decide) ?_
  refine g_iload_n (pc := 17) C dX7_laneOf_17 rfl ?_
  refine g_imul (pc := 18) C dX7_laneOf_18 ?_
  refine g_eqi (nI (8 * i)) (pk_mul 8 i) ?_
  refine g_iload_n (pc := 19) C dX7_laneOf_19 rfl ?_
  refine g_iadd (pc := 20) C dX7_laneOf_20 ?_
  refine g_eqi (nI ((8 * i) + j)) (nI_add (8 * i) j) ?_
  refine g_istore (pc := 21) C dX7_laneOf_21 (by decide) ?_
  refine g_iload_n (pc := 23) C dX7_laneOf_23 rfl ?_
  refine g_tabIn (pc := 24) (off := 132) C 156 dX7_laneOf_24 (by decide) (by decide) (by decide) (by decide) ?_
  refine g_aload_n (pc := 156) C dX7_laneOf_156 rfl ?_
  refine g_iload_n (pc := 157) C dX7_laneOf_157 rfl ?_
  refine g_iload_n (pc := 158) C dX7_laneOf_158 rfl ?_
  refine g_callV (pc := 159) C B mX7_147 (c_X7_sells _ _ _ _ _ mc lc hI i hi j hj) rfl rfl rfl rfl hM.1 (by decide) ⟨Nat.le_refl _, Nat.le_refl _⟩ (Nat.le_of_ble_eq_true rfl) dX7_laneOf_159 (fun r S' hP => ?_)
  rw [hP.1, hP.2]
  refine g_if_eq (pc := 162) C 169 dX7_laneOf_162 (by decide) (fun h162 => ?_) (fun h162 => ?_)
  ·
    refine g_iconst (pc := 169) C 0 dX7_laneOf_169 (by decide) ?_
    exact g_iret (pc := 170) C B rfl dX7_laneOf_170 (⟨by show some (vi _) = some (vi (v_X7_laneOf8 S i j)); unfold v_X7_laneOf8; rw [if_pos h162], rfl⟩)
  ·
    refine g_iconst (pc := 165) C 1 dX7_laneOf_165 (by decide) ?_
    refine g_goto (pc := 166) C 170 dX7_laneOf_166 (by decide) ?_
    exact g_iret (pc := 170) C B rfl dX7_laneOf_170 (⟨by show some (vi _) = some (vi (v_X7_laneOf8 S i j)); unfold v_X7_laneOf8; rw [if_neg h162], rfl⟩)

set_option maxHeartbeats 4000000 in
set_option maxRecDepth 100000 in
theorem c_X7_laneOf_w (l : Launch) (E : En) (base aw : Nat) (S : Mm) (mc : Nat) (lc : Nat → Nat) (hI : IM S mc lc) (i : Nat) (hi : i < mc) (j : Nat) (hj : j < lc i) (p2 : Int32) (hx : ¬ okN 9 p2) : Cn l E base aw yX7_laneOf cX7_laneOf 5 (some Jvm.ClassFile.FieldType.int) 3 0 0 noF S [vr (2, 0, 0), vi (nI i), vi (nI j), vi p2] (fun r S' => r = some (vi (-2)) ∧ S' = rfM S 2) := by
  have hM := hI.1
  have hmc := hI.2.2.1
  have hlc := (hI.2.2.2 i (by omega)).2
  refine Cn.of (by decide) (Nat.le_of_ble_eq_true rfl) ?_
  intro X Y hl hE hbase haw hfr C B
  subst hl; subst hE; subst hbase; subst haw
  refine g_aload_n (pc := 0) C dX7_laneOf_0 rfl ?_
  refine g_iload_n (pc := 1) C dX7_laneOf_1 rfl ?_
  refine g_iload_n (pc := 2) C dX7_laneOf_2 rfl ?_
  refine g_callV (pc := 3) C B mX7_123 (c_isL_t _ _ _ _ _ mc lc hI i hi j hj) rfl rfl rfl rfl hM.1 (by decide) ⟨Nat.le_refl _, Nat.le_refl _⟩ (Nat.le_of_ble_eq_true rfl) dX7_laneOf_3 (fun r S' hP => ?_)
  rw [hP.1, hP.2]
  refine g_if_ne (pc := 6) C 15 dX7_laneOf_6 (by decide) (fun _ => ?_) (fun h6 => absurd h6 (by decide))
  refine g_bipush (pc := 15) C 8 dX7_laneOf_15 (by decide) ?_
  refine g_iload_n (pc := 17) C dX7_laneOf_17 rfl ?_
  refine g_imul (pc := 18) C dX7_laneOf_18 ?_
  refine g_eqi (nI (8 * i)) (pk_mul 8 i) ?_
  refine g_iload_n (pc := 19) C dX7_laneOf_19 rfl ?_
  refine g_iadd (pc := 20) C dX7_laneOf_20 ?_
  refine g_eqi (nI ((8 * i) + j)) (nI_add (8 * i) j) ?_
  refine g_istore (pc := 21) C dX7_laneOf_21 (by decide) ?_
  refine g_iload_n (pc := 23) C dX7_laneOf_23 rfl ?_
  refine g_tabOut (pc := 24) C 171 dX7_laneOf_24 (tab_out (n := 8) (by decide) hx) (by decide) ?_
  refine g_aload_n (pc := 171) C dX7_laneOf_171 rfl ?_
  refine g_bipush (pc := 172) C (-2) dX7_laneOf_172 (by decide) ?_
  refine g_callV (pc := 174) C B mX7_116 (c_mrefuse _ _ _ _ _ hM (-2) 2 (by decide) (by decide)) rfl rfl rfl rfl hM.1 (by decide) ⟨Nat.le_refl _, Nat.le_refl _⟩ (Nat.le_of_ble_eq_true rfl) dX7_laneOf_174 (fun r S' hP => ?_)
  rw [hP.1, hP.2]
  exact g_iret (pc := 177) C B rfl dX7_laneOf_177 (⟨rfl, rfl⟩)

set_option maxHeartbeats 4000000 in
set_option maxRecDepth 100000 in
/-- lane of no machine or good -/
theorem c_X7_lane_b (l : Launch) (E : En) (base aw : Nat) (S : Mm) (mc : Nat) (lc : Nat → Nat) (hI : IM S mc lc) (p0 p1 p2 p3 p4 p5 : Int32) (h : ¬ (okN mc p0 ∧ okN 16 p1)) : Cn l E base aw yX7_lane cX7_lane 8 (some Jvm.ClassFile.FieldType.int) 2 0 0 noF S [vr (2, 0, 0), vi p0, vi p1, vi p2, vi p3, vi p4, vi p5] (fun r S' => r = some (vi (-1)) ∧ S' = rfM S 1) := by
  have hM := hI.1
  have hmc := hI.2.2.1
  by_cases hm0 : okN mc p0
  ·
    obtain ⟨i, hi, rfl⟩ := hm0
    have hx : ¬ okN 16 p1 := fun q => h ⟨⟨i, hi, rfl⟩, q⟩
    refine Cn.of (by decide) (Nat.le_of_ble_eq_true rfl) ?_
    intro X Y hl hE hbase haw hfr C B
    subst hl; subst hE; subst hbase; subst haw
    refine g_aload_n (pc := 0) C dX7_lane_0 rfl ?_
    refine g_iload_n (pc := 1) C dX7_lane_1 rfl ?_
    refine g_callV (pc := 2) C B mX7_112 (c_isM_t _ _ _ _ _ mc lc hI i hi) rfl rfl rfl rfl hM.1 (by decide) ⟨Nat.le_refl _, Nat.le_refl _⟩ (Nat.le_of_ble_eq_true rfl) dX7_lane_2 (fun r S' hP => ?_)
    rw [hP.1, hP.2]
    refine g_if_eq (pc := 5) C 18 dX7_lane_5 (by decide) (fun h5 => absurd h5 (by decide)) (fun _ => ?_)
    refine g_iload_n (pc := 8) C dX7_lane_8 rfl ?_
    refine g_iconst (pc := 9) C 0 dX7_lane_9 (by decide) ?_
    refine g_bipush (pc := 10) C 15 dX7_lane_10 (by decide) ?_
    refine g_callS (pc := 12) C B mX7_108 (c_in_f _ _ _ _ _ _ _ _ (okW_f (n := 15) (by decide) hx)) rfl rfl (by decide) ⟨Nat.le_refl _, Nat.le_refl _⟩ (Nat.le_of_ble_eq_true rfl) dX7_lane_12 (fun r S' hP => ?_)
    rw [hP.1, hP.2]
    refine g_if_ne (pc := 15) C 24 dX7_lane_15 (by decide) (fun h15 => absurd (by decide) h15) (fun _ => ?_)
    refine g_aload_n (pc := 18) C dX7_lane_18 rfl ?_
    refine g_iconst (pc := 19) C (-1) dX7_lane_19 (by decide) ?_
    refine g_callV (pc := 20) C B mX7_116 (c_mrefuse _ _ _ _ _ hM (-1) 1 (by decide) (by decide)) rfl rfl rfl rfl hM.1 (by decide) ⟨Nat.le_refl _, Nat.le_refl _⟩ (Nat.le_of_ble_eq_true rfl) dX7_lane_20 (fun r S' hP => ?_)
    rw [hP.1, hP.2]
    exact g_iret (pc := 23) C B rfl dX7_lane_23 (⟨rfl, rfl⟩)
  ·
    have hx := hm0
    refine Cn.of (by decide) (Nat.le_of_ble_eq_true rfl) ?_
    intro X Y hl hE hbase haw hfr C B
    subst hl; subst hE; subst hbase; subst haw
    refine g_aload_n (pc := 0) C dX7_lane_0 rfl ?_
    refine g_iload_n (pc := 1) C dX7_lane_1 rfl ?_
    refine g_callV (pc := 2) C B mX7_112 (c_isM_f _ _ _ _ _ mc lc hI p0 hx) rfl rfl rfl rfl hM.1 (by decide) ⟨Nat.le_refl _, Nat.le_refl _⟩ (Nat.le_of_ble_eq_true rfl) dX7_lane_2 (fun r S' hP => ?_)
    rw [hP.1, hP.2]
    refine g_if_eq (pc := 5) C 18 dX7_lane_5 (by decide) (fun _ => ?_) (fun h5 => absurd (by decide) h5)
    refine g_aload_n (pc := 18) C dX7_lane_18 rfl ?_
    refine g_iconst (pc := 19) C (-1) dX7_lane_19 (by decide) ?_
    refine g_callV (pc := 20) C B mX7_116 (c_mrefuse _ _ _ _ _ hM (-1) 1 (by decide) (by decide)) rfl rfl rfl rfl hM.1 (by decide) ⟨Nat.le_refl _, Nat.le_refl _⟩ (Nat.le_of_ble_eq_true rfl) dX7_lane_20 (fun r S' hP => ?_)
    rw [hP.1, hP.2]
    exact g_iret (pc := 23) C B rfl dX7_lane_23 (⟨rfl, rfl⟩)

set_option maxHeartbeats 4000000 in
set_option maxRecDepth 100000 in
theorem c_X7_lane_k (l : Launch) (E : En) (base aw : Nat) (S : Mm) (mc : Nat) (lc : Nat → Nat) (hI : IM S mc lc) (i : Nat) (hi : i < mc) (g : Nat) (hg : g < 16) (p2 p3 p4 p5 : Int32) (hx : ¬ okN 4 p4) : Cn l E base aw yX7_lane cX7_lane 8 (some Jvm.ClassFile.FieldType.int) 2 0 0 noF S [vr (2, 0, 0), vi (nI i), vi (nI g), vi p2, vi p3, vi p4, vi p5] (fun r S' => r = some (vi (-2)) ∧ S' = rfM S 2) := by
  have hM := hI.1
  have hmc := hI.2.2.1
  refine Cn.of (by decide) (Nat.le_of_ble_eq_true rfl) ?_
  intro X Y hl hE hbase haw hfr C B
  subst hl; subst hE; subst hbase; subst haw
  refine g_aload_n (pc := 0) C dX7_lane_0 rfl ?_
  refine g_iload_n (pc := 1) C dX7_lane_1 rfl ?_
  refine g_callV (pc := 2) C B mX7_112 (c_isM_t _ _ _ _ _ mc lc hI i hi) rfl rfl rfl rfl hM.1 (by decide) ⟨Nat.le_refl _, Nat.le_refl _⟩ (Nat.le_of_ble_eq_true rfl) dX7_lane_2 (fun r S' hP => ?_)
  rw [hP.1, hP.2]
  refine g_if_eq (pc := 5) C 18 dX7_lane_5 (by decide) (fun h5 => absurd h5 (by decide)) (fun _ => ?_)
  refine g_iload_n (pc := 8) C dX7_lane_8 rfl ?_
  refine g_iconst (pc := 9) C 0 dX7_lane_9 (by decide) ?_
  refine g_bipush (pc := 10) C 15 dX7_lane_10 (by decide) ?_
  refine g_callS (pc := 12) C B mX7_108 (c_in_t _ _ _ _ _ _ _ _ (okW_t (n := 15) (by omega) (by decide))) rfl rfl (by decide) ⟨Nat.le_refl _, Nat.le_refl _⟩ (Nat.le_of_ble_eq_true rfl) dX7_lane_12 (fun r S' hP => ?_)
  rw [hP.1, hP.2]
  refine g_if_ne (pc := 15) C 24 dX7_lane_15 (by decide) (fun _ => ?_) (fun h15 => absurd h15 (by decide))
  refine g_iload (pc := 24) C dX7_lane_24 rfl ?_
  refine g_iconst (pc := 26) C 0 dX7_lane_26 (by decide) ?_
  refine g_iconst (pc := 27) C 3 dX7_lane_27 (by decide) ?_
  refine g_callS (pc := 28) C B mX7_108 (c_in_f _ _ _ _ _ _ _ _ (okW_f (n := 3) (by decide) hx)) rfl rfl (by decide) ⟨Nat.le_refl _, Nat.le_refl _⟩ (Nat.le_of_ble_eq_true rfl) dX7_lane_28 (fun r S' hP => ?_)
  rw [hP.1, hP.2]
  refine g_if_ne (pc := 31) C 41 dX7_lane_31 (by decide) (fun h31 => absurd (by decide) h31) (fun _ => ?_)
  refine g_aload_n (pc := 34) C dX7_lane_34 rfl ?_
  refine g_bipush (pc := 35) C (-2) dX7_lane_35 (by decide) ?_
  refine g_callV (pc := 37) C B mX7_116 (c_mrefuse _ _ _ _ _ hM (-2) 2 (by decide) (by decide)) rfl rfl rfl rfl hM.1 (by decide) ⟨Nat.le_refl _, Nat.le_refl _⟩ (Nat.le_of_ble_eq_true rfl) dX7_lane_37 (fun r S' hP => ?_)
  rw [hP.1, hP.2]
  exact g_iret (pc := 40) C B rfl dX7_lane_40 (⟨rfl, rfl⟩)

def t_X7_lane (S : Mm) (lc : Nat → Nat) (i : Nat) (g : Nat) (p2 : Int32) (p3 : Int32) (p5 : Int32) (k : Nat) : Option AV × Mm := if (blw p2) = 0 then (if p3 < 1 then (some (vi ((-4))), rfM S 4) else (if (nI k) = 2 then (if 0 ≤ p5 then (if 5000 < p2 then (some (vi ((-6))), rfM S 6) else (if 20 < p3 then (some (vi ((-6))), rfM S 6) else (if (nI k) = 2 then (if 48 < p5 then (some (vi ((-6))), rfM S 6) else (if (nI (lc i)) = 8 then (some (vi ((-6))), rfM S 6) else (some (vi (((wI (wI (wI (wI (wI (wI S (2, 0, 2) i (nI ((lc i) + 1))) (2, 0, 10) ((8 * i) + (lc i)) (nI g)) (2, 0, 11) ((8 * i) + (lc i)) p2) (2, 0, 12) ((8 * i) + (lc i)) p3) (2, 0, 14) ((8 * i) + (lc i)) (nI k)) (2, 0, 15) ((8 * i) + (lc i)) p5).1 (2, 0, 2) i) - 1)), wI (wI (wI (wI (wI (wI S (2, 0, 2) i (nI ((lc i) + 1))) (2, 0, 10) ((8 * i) + (lc i)) (nI g)) (2, 0, 11) ((8 * i) + (lc i)) p2) (2, 0, 12) ((8 * i) + (lc i)) p3) (2, 0, 14) ((8 * i) + (lc i)) (nI k)) (2, 0, 15) ((8 * i) + (lc i)) p5))) else (if (nI (lc i)) = 8 then (some (vi ((-6))), rfM S 6) else (some (vi (((wI (wI (wI (wI (wI (wI S (2, 0, 2) i (nI ((lc i) + 1))) (2, 0, 10) ((8 * i) + (lc i)) (nI g)) (2, 0, 11) ((8 * i) + (lc i)) p2) (2, 0, 12) ((8 * i) + (lc i)) p3) (2, 0, 14) ((8 * i) + (lc i)) (nI k)) (2, 0, 15) ((8 * i) + (lc i)) p5).1 (2, 0, 2) i) - 1)), wI (wI (wI (wI (wI (wI S (2, 0, 2) i (nI ((lc i) + 1))) (2, 0, 10) ((8 * i) + (lc i)) (nI g)) (2, 0, 11) ((8 * i) + (lc i)) p2) (2, 0, 12) ((8 * i) + (lc i)) p3) (2, 0, 14) ((8 * i) + (lc i)) (nI k)) (2, 0, 15) ((8 * i) + (lc i)) p5))))) else (some (vi ((-4))), rfM S 4)) else (if 5000 < p2 then (some (vi ((-6))), rfM S 6) else (if 20 < p3 then (some (vi ((-6))), rfM S 6) else (if (nI k) = 2 then (if 48 < p5 then (some (vi ((-6))), rfM S 6) else (if (nI (lc i)) = 8 then (some (vi ((-6))), rfM S 6) else (some (vi (((wI (wI (wI (wI (wI (wI S (2, 0, 2) i (nI ((lc i) + 1))) (2, 0, 10) ((8 * i) + (lc i)) (nI g)) (2, 0, 11) ((8 * i) + (lc i)) p2) (2, 0, 12) ((8 * i) + (lc i)) p3) (2, 0, 14) ((8 * i) + (lc i)) (nI k)) (2, 0, 15) ((8 * i) + (lc i)) p5).1 (2, 0, 2) i) - 1)), wI (wI (wI (wI (wI (wI S (2, 0, 2) i (nI ((lc i) + 1))) (2, 0, 10) ((8 * i) + (lc i)) (nI g)) (2, 0, 11) ((8 * i) + (lc i)) p2) (2, 0, 12) ((8 * i) + (lc i)) p3) (2, 0, 14) ((8 * i) + (lc i)) (nI k)) (2, 0, 15) ((8 * i) + (lc i)) p5))) else (if (nI (lc i)) = 8 then (some (vi ((-6))), rfM S 6) else (some (vi (((wI (wI (wI (wI (wI (wI S (2, 0, 2) i (nI ((lc i) + 1))) (2, 0, 10) ((8 * i) + (lc i)) (nI g)) (2, 0, 11) ((8 * i) + (lc i)) p2) (2, 0, 12) ((8 * i) + (lc i)) p3) (2, 0, 14) ((8 * i) + (lc i)) (nI k)) (2, 0, 15) ((8 * i) + (lc i)) p5).1 (2, 0, 2) i) - 1)), wI (wI (wI (wI (wI (wI S (2, 0, 2) i (nI ((lc i) + 1))) (2, 0, 10) ((8 * i) + (lc i)) (nI g)) (2, 0, 11) ((8 * i) + (lc i)) p2) (2, 0, 12) ((8 * i) + (lc i)) p3) (2, 0, 14) ((8 * i) + (lc i)) (nI k)) (2, 0, 15) ((8 * i) + (lc i)) p5))))))) else (some (vi ((-4))), rfM S 4)
set_option maxHeartbeats 4000000 in
set_option maxRecDepth 100000 in
/-- lane(i, g, ..) -/
theorem c_X7_lane (l : Launch) (E : En) (base aw : Nat) (S : Mm) (mc : Nat) (lc : Nat → Nat) (hI : IM S mc lc) (i : Nat) (hi : i < mc) (g : Nat) (hg : g < 16) (p2 p3 p5 : Int32) (k : Nat) (hk : k < 4) : Cn l E base aw yX7_lane cX7_lane 8 (some Jvm.ClassFile.FieldType.int) 2 0 0 noF S [vr (2, 0, 0), vi (nI i), vi (nI g), vi p2, vi p3, vi (nI k), vi p5] (fun r S' => (r, S') = t_X7_lane S lc i g p2 p3 p5 k) := by
  have hM := hI.1
  have hmc := hI.2.2.1
  have hlc := (hI.2.2.2 i (by omega)).2
  refine Cn.of (by decide) (Nat.le_of_ble_eq_true rfl) ?_
  intro X Y hl hE hbase haw hfr C B
  subst hl; subst hE; subst hbase; subst haw
  refine g_aload_n (pc := 0) C dX7_lane_0 rfl ?_
  refine g_iload_n (pc := 1) C dX7_lane_1 rfl ?_
  refine g_callV (pc := 2) C B mX7_112 (c_isM_t _ _ _ _ _ mc lc hI i hi) rfl rfl rfl rfl hM.1 (by decide) ⟨Nat.le_refl _, Nat.le_refl _⟩ (Nat.le_of_ble_eq_true rfl) dX7_lane_2 (fun r S' hP => ?_)
  rw [hP.1, hP.2]
  refine g_if_eq (pc := 5) C 18 dX7_lane_5 (by decide) (fun h5 => absurd h5 (by decide)) (fun _ => ?_)
  refine g_iload_n (pc := 8) C dX7_lane_8 rfl ?_
  refine g_iconst (pc := 9) C 0 dX7_lane_9 (by decide) ?_
  refine g_bipush (pc := 10) C 15 dX7_lane_10 (by decide) ?_
  refine g_callS (pc := 12) C B mX7_108 (c_in_t _ _ _ _ _ _ _ _ (okW_t (n := 15) (by omega) (by decide))) rfl rfl (by decide) ⟨Nat.le_refl _, Nat.le_refl _⟩ (Nat.le_of_ble_eq_true rfl) dX7_lane_12 (fun r S' hP => ?_)
  rw [hP.1, hP.2]
  refine g_if_ne (pc := 15) C 24 dX7_lane_15 (by decide) (fun _ => ?_) (fun h15 => absurd h15 (by decide))
  refine g_iload (pc := 24) C dX7_lane_24 rfl ?_
  refine g_iconst (pc := 26) C 0 dX7_lane_26 (by decide) ?_
  refine g_iconst (pc := 27) C 3 dX7_lane_27 (by decide) ?_
  refine g_callS (pc := 28) C B mX7_108 (c_in_t _ _ _ _ _ _ _ _ (okW_t (n := 3) (by omega) (by decide))) rfl rfl (by decide) ⟨Nat.le_refl _, Nat.le_refl _⟩ (Nat.le_of_ble_eq_true rfl) dX7_lane_28 (fun r S' hP => ?_)
  rw [hP.1, hP.2]
  refine g_if_ne (pc := 31) C 41 dX7_lane_31 (by decide) (fun _ => ?_) (fun h31 => absurd h31 (by decide))
  refine g_iload_n (pc := 41) C dX7_lane_41 rfl ?_
  refine g_callS (pc := 42) C B mX7_120 (c_mblw _ _ _ _ _ _) rfl rfl (by decide) ⟨Nat.le_refl _, Nat.le_refl _⟩ (Nat.le_of_ble_eq_true rfl) dX7_lane_42 (fun r S' hP => ?_)
  rw [hP.1, hP.2]
  refine g_if_ne (pc := 45) C 65 dX7_lane_45 (by decide) (fun h45 => ?_) (fun h45 => ?_)
  ·
    refine g_aload_n (pc := 65) C dX7_lane_65 rfl ?_
    refine g_bipush (pc := 66) C (-4) dX7_lane_66 (by decide) ?_
    refine g_callV (pc := 68) C B mX7_116 (c_mrefuse _ _ _ _ _ hM (-4) 4 (by decide) (by decide)) rfl rfl rfl rfl hM.1 (by decide) ⟨Nat.le_refl _, Nat.le_refl _⟩ (Nat.le_of_ble_eq_true rfl) dX7_lane_68 (fun r S' hP => ?_)
    rw [hP.1, hP.2]
    exact g_iret (pc := 71) C B rfl dX7_lane_71 (by show (_, _) = t_X7_lane S lc i g p2 p3 p5 k; unfold t_X7_lane; rw [if_neg h45])
  ·
    refine g_iload (pc := 48) C dX7_lane_48 rfl ?_
    refine g_iconst (pc := 50) C 1 dX7_lane_50 (by decide) ?_
    refine g_icmp_lt (pc := 51) C 65 dX7_lane_51 (by decide) (fun h51 => ?_) (fun h51 => ?_)
    ·
      refine g_aload_n (pc := 65) C dX7_lane_65 rfl ?_
      refine g_bipush (pc := 66) C (-4) dX7_lane_66 (by decide) ?_
      refine g_callV (pc := 68) C B mX7_116 (c_mrefuse _ _ _ _ _ hM (-4) 4 (by decide) (by decide)) rfl rfl rfl rfl hM.1 (by decide) ⟨Nat.le_refl _, Nat.le_refl _⟩ (Nat.le_of_ble_eq_true rfl) dX7_lane_68 (fun r S' hP => ?_)
      rw [hP.1, hP.2]
      exact g_iret (pc := 71) C B rfl dX7_lane_71 (by show (_, _) = t_X7_lane S lc i g p2 p3 p5 k; unfold t_X7_lane; rw [if_pos h45, if_pos h51])
    ·
      refine g_iload (pc := 54) C dX7_lane_54 rfl ?_
      refine g_iconst (pc := 56) C 2 dX7_lane_56 (by decide) ?_
      refine g_icmp_ne (pc := 57) C 72 dX7_lane_57 (by decide) (fun h57 => ?_) (fun h57 => ?_)
      ·
        refine g_iload_n (pc := 72) C dX7_lane_72 rfl ?_
        refine g_sipush (pc := 73) C 5000 dX7_lane_73 (by decide) ?_
        refine g_icmp_gt (pc := 76) C 110 dX7_lane_76 (by decide) (fun h76 => ?_) (fun h76 => ?_)
        ·
          refine g_aload_n (pc := 110) C dX7_lane_110 rfl ?_
          refine g_bipush (pc := 111) C (-6) dX7_lane_111 (by decide) ?_
          refine g_callV (pc := 113) C B mX7_116 (c_mrefuse _ _ _ _ _ hM (-6) 6 (by decide) (by decide)) rfl rfl rfl rfl hM.1 (by decide) ⟨Nat.le_refl _, Nat.le_refl _⟩ (Nat.le_of_ble_eq_true rfl) dX7_lane_113 (fun r S' hP => ?_)
          rw [hP.1, hP.2]
          exact g_iret (pc := 116) C B rfl dX7_lane_116 (by show (_, _) = t_X7_lane S lc i g p2 p3 p5 k; unfold t_X7_lane; rw [if_pos h45, if_neg h51, if_neg h57, if_pos h76])
        ·
          refine g_iload (pc := 79) C dX7_lane_79 rfl ?_
          refine g_bipush (pc := 81) C 20 dX7_lane_81 (by decide) ?_
          refine g_icmp_gt (pc := 83) C 110 dX7_lane_83 (by decide) (fun h83 => ?_) (fun h83 => ?_)
          ·
            refine g_aload_n (pc := 110) C dX7_lane_110 rfl ?_
            refine g_bipush (pc := 111) C (-6) dX7_lane_111 (by decide) ?_
            refine g_callV (pc := 113) C B mX7_116 (c_mrefuse _ _ _ _ _ hM (-6) 6 (by decide) (by decide)) rfl rfl rfl rfl hM.1 (by decide) ⟨Nat.le_refl _, Nat.le_refl _⟩ (Nat.le_of_ble_eq_true rfl) dX7_lane_113 (fun r S' hP => ?_)
            rw [hP.1, hP.2]
            exact g_iret (pc := 116) C B rfl dX7_lane_116 (by show (_, _) = t_X7_lane S lc i g p2 p3 p5 k; unfold t_X7_lane; rw [if_pos h45, if_neg h51, if_neg h57, if_neg h76, if_pos h83])
          ·
            refine g_iload (pc := 86) C dX7_lane_86 rfl ?_
            refine g_iconst (pc := 88) C 2 dX7_lane_88 (by decide) ?_
            refine g_icmp_ne (pc := 89) C 99 dX7_lane_89 (by decide) (fun h89 => ?_) (fun h89 => ?_)
            ·
              refine g_aload_n (pc := 99) C dX7_lane_99 rfl ?_
              refine g_getr (pc := 100) C fX7_7 rfl hM.1 dX7_lane_100 rfl (hM.2 2 rfl).1 ?_
              refine g_iload_n (pc := 103) C dX7_lane_103 rfl ?_
              refine g_ialdN (pc := 104) C rfl (hM.2 2 rfl).2 (by omega) (by decide) dX7_lane_104 ?_
              refine g_eqi (nI (lc i)) (hI.2.2.2 i (by omega)).1 ?_
              refine g_bipush (pc := 105) C 8 dX7_lane_105 (by decide) ?_
              refine g_icmp_ne (pc := 107) C 117 dX7_lane_107 (by decide) (fun h107 => ?_) (fun h107 => ?_)
              ·
                have h8 : lc i < 8 := by have q : ¬ lc i = 8 := fun z => h107 (by rw [z]; rfl); omega
                refine g_bipush (pc := 117) C 8 dX7_lane_117 (by decide) ?_
                refine g_iload_n (pc := 119) C dX7_lane_119 rfl ?_
                refine g_imul (pc := 120) C dX7_lane_120 ?_
                refine g_eqi (nI (8 * i)) (pk_mul 8 i) ?_
                refine g_aload_n (pc := 121) C dX7_lane_121 rfl ?_
                refine g_getr (pc := 122) C fX7_7 rfl hM.1 dX7_lane_122 rfl (hM.2 2 rfl).1 ?_
                refine g_iload_n (pc := 125) C dX7_lane_125 rfl ?_
                refine g_ialdN (pc := 126) C rfl (hM.2 2 rfl).2 (by omega) (by decide) dX7_lane_126 ?_
                refine g_eqi (nI (lc i)) (hI.2.2.2 i (by omega)).1 ?_
                refine g_iadd (pc := 127) C dX7_lane_127 ?_
                refine g_eqi (nI ((8 * i) + (lc i))) (nI_add (8 * i) (lc i)) ?_
                refine g_istore (pc := 128) C dX7_lane_128 (by decide) ?_
                refine g_aload_n (pc := 130) C dX7_lane_130 rfl ?_
                refine g_getr (pc := 131) C fX7_7 rfl hM.1 dX7_lane_131 rfl (hM.2 2 rfl).1 ?_
                refine g_iload_n (pc := 134) C dX7_lane_134 rfl ?_
                refine g_dup2 (pc := 135) C dX7_lane_135 ?_
                refine g_ialdN (pc := 136) C rfl (hM.2 2 rfl).2 (by omega) (by decide) dX7_lane_136 ?_
                refine g_eqi (nI (lc i)) (hI.2.2.2 i (by omega)).1 ?_
                refine g_iconst (pc := 137) C 1 dX7_lane_137 (by decide) ?_
                refine g_iadd (pc := 138) C dX7_lane_138 ?_
                refine g_eqi (nI ((lc i) + 1)) (nI_add (lc i) 1) ?_
                refine g_iastN (pc := 139) C rfl (hM.2 2 rfl).2 (by omega) (by decide) dX7_lane_139 ?_
                refine g_aload_n (pc := 140) C dX7_lane_140 rfl ?_
                refine g_getr (pc := 141) C fX7_35 rfl hM.1 dX7_lane_141 rfl (hM.2 10 rfl).1 ?_
                refine g_iload (pc := 144) C dX7_lane_144 rfl ?_
                refine g_iload_n (pc := 146) C dX7_lane_146 rfl ?_
                refine g_iastN (pc := 147) C rfl (hM.2 10 rfl).2 (by omega) (by decide) dX7_lane_147 ?_
                refine g_aload_n (pc := 148) C dX7_lane_148 rfl ?_
                refine g_getr (pc := 149) C fX7_38 rfl hM.1 dX7_lane_149 rfl (hM.2 11 rfl).1 ?_
                refine g_iload (pc := 152) C dX7_lane_152 rfl ?_
                refine g_iload_n (pc := 154) C dX7_lane_154 rfl ?_
                refine g_iastN (pc := 155) C rfl (hM.2 11 rfl).2 (by omega) (by decide) dX7_lane_155 ?_
                refine g_aload_n (pc := 156) C dX7_lane_156 rfl ?_
                refine g_getr (pc := 157) C fX7_41 rfl hM.1 dX7_lane_157 rfl (hM.2 12 rfl).1 ?_
                refine g_iload (pc := 160) C dX7_lane_160 rfl ?_
                refine g_iload (pc := 162) C dX7_lane_162 rfl ?_
                refine g_iastN (pc := 164) C rfl (hM.2 12 rfl).2 (by omega) (by decide) dX7_lane_164 ?_
                refine g_aload_n (pc := 165) C dX7_lane_165 rfl ?_
                refine g_getr (pc := 166) C fX7_47 rfl hM.1 dX7_lane_166 rfl (hM.2 14 rfl).1 ?_
                refine g_iload (pc := 169) C dX7_lane_169 rfl ?_
                refine g_iload (pc := 171) C dX7_lane_171 rfl ?_
                refine g_iastN (pc := 173) C rfl (hM.2 14 rfl).2 (by omega) (by decide) dX7_lane_173 ?_
                refine g_aload_n (pc := 174) C dX7_lane_174 rfl ?_
                refine g_getr (pc := 175) C fX7_50 rfl hM.1 dX7_lane_175 rfl (hM.2 15 rfl).1 ?_
                refine g_iload (pc := 178) C dX7_lane_178 rfl ?_
                refine g_iload (pc := 180) C dX7_lane_180 rfl ?_
                refine g_iastN (pc := 182) C rfl (hM.2 15 rfl).2 (by omega) (by decide) dX7_lane_182 ?_
                refine g_aload_n (pc := 183) C dX7_lane_183 rfl ?_
                refine g_getr (pc := 184) C fX7_7 rfl hM.1 dX7_lane_184 rfl (hM.2 2 rfl).1 ?_
                refine g_iload_n (pc := 187) C dX7_lane_187 rfl ?_
                refine g_ialdN (pc := 188) C rfl (hM.2 2 rfl).2 (by omega) (by decide) dX7_lane_188 ?_
                refine g_iconst (pc := 189) C 1 dX7_lane_189 (by decide) ?_
                refine g_isub (pc := 190) C dX7_lane_190 ?_
                exact g_iret (pc := 191) C B rfl dX7_lane_191 (by show (_, _) = t_X7_lane S lc i g p2 p3 p5 k; unfold t_X7_lane; rw [if_pos h45, if_neg h51, if_neg h57, if_neg h76, if_neg h83, if_neg h89, if_neg h107])
              ·
                refine g_aload_n (pc := 110) C dX7_lane_110 rfl ?_
                refine g_bipush (pc := 111) C (-6) dX7_lane_111 (by decide) ?_
                refine g_callV (pc := 113) C B mX7_116 (c_mrefuse _ _ _ _ _ hM (-6) 6 (by decide) (by decide)) rfl rfl rfl rfl hM.1 (by decide) ⟨Nat.le_refl _, Nat.le_refl _⟩ (Nat.le_of_ble_eq_true rfl) dX7_lane_113 (fun r S' hP => ?_)
                rw [hP.1, hP.2]
                exact g_iret (pc := 116) C B rfl dX7_lane_116 (by show (_, _) = t_X7_lane S lc i g p2 p3 p5 k; unfold t_X7_lane; rw [if_pos h45, if_neg h51, if_neg h57, if_neg h76, if_neg h83, if_neg h89, if_pos h107])
            ·
              refine g_iload (pc := 92) C dX7_lane_92 rfl ?_
              refine g_bipush (pc := 94) C 48 dX7_lane_94 (by decide) ?_
              refine g_icmp_gt (pc := 96) C 110 dX7_lane_96 (by decide) (fun h96 => ?_) (fun h96 => ?_)
              ·
                refine g_aload_n (pc := 110) C dX7_lane_110 rfl ?_
                refine g_bipush (pc := 111) C (-6) dX7_lane_111 (by decide) ?_
                refine g_callV (pc := 113) C B mX7_116 (c_mrefuse _ _ _ _ _ hM (-6) 6 (by decide) (by decide)) rfl rfl rfl rfl hM.1 (by decide) ⟨Nat.le_refl _, Nat.le_refl _⟩ (Nat.le_of_ble_eq_true rfl) dX7_lane_113 (fun r S' hP => ?_)
                rw [hP.1, hP.2]
                exact g_iret (pc := 116) C B rfl dX7_lane_116 (by show (_, _) = t_X7_lane S lc i g p2 p3 p5 k; unfold t_X7_lane; rw [if_pos h45, if_neg h51, if_neg h57, if_neg h76, if_neg h83, if_pos h89, if_pos h96])
              ·
                refine g_aload_n (pc := 99) C dX7_lane_99 rfl ?_
                refine g_getr (pc := 100) C fX7_7 rfl hM.1 dX7_lane_100 rfl (hM.2 2 rfl).1 ?_
                refine g_iload_n (pc := 103) C dX7_lane_103 rfl ?_
                refine g_ialdN (pc := 104) C rfl (hM.2 2 rfl).2 (by omega) (by decide) dX7_lane_104 ?_
                refine g_eqi (nI (lc i)) (hI.2.2.2 i (by omega)).1 ?_
                refine g_bipush (pc := 105) C 8 dX7_lane_105 (by decide) ?_
                refine g_icmp_ne (pc := 107) C 117 dX7_lane_107 (by decide) (fun h107 => ?_) (fun h107 => ?_)
                ·
                  have h8 : lc i < 8 := by have q : ¬ lc i = 8 := fun z => h107 (by rw [z]; rfl); omega
                  refine g_bipush (pc := 117) C 8 dX7_lane_117 (by decide) ?_
                  refine g_iload_n (pc := 119) C dX7_lane_119 rfl ?_
                  refine g_imul (pc := 120) C dX7_lane_120 ?_
                  refine g_eqi (nI (8 * i)) (pk_mul 8 i) ?_
                  refine g_aload_n (pc := 121) C dX7_lane_121 rfl ?_
                  refine g_getr (pc := 122) C fX7_7 rfl hM.1 dX7_lane_122 rfl (hM.2 2 rfl).1 ?_
                  refine g_iload_n (pc := 125) C dX7_lane_125 rfl ?_
                  refine g_ialdN (pc := 126) C rfl (hM.2 2 rfl).2 (by omega) (by decide) dX7_lane_126 ?_
                  refine g_eqi (nI (lc i)) (hI.2.2.2 i (by omega)).1 ?_
                  refine g_iadd (pc := 127) C dX7_lane_127 ?_
                  refine g_eqi (nI ((8 * i) + (lc i))) (nI_add (8 * i) (lc i)) ?_
                  refine g_istore (pc := 128) C dX7_lane_128 (by decide) ?_
                  refine g_aload_n (pc := 130) C dX7_lane_130 rfl ?_
                  refine g_getr (pc := 131) C fX7_7 rfl hM.1 dX7_lane_131 rfl (hM.2 2 rfl).1 ?_
                  refine g_iload_n (pc := 134) C dX7_lane_134 rfl ?_
                  refine g_dup2 (pc := 135) C dX7_lane_135 ?_
                  refine g_ialdN (pc := 136) C rfl (hM.2 2 rfl).2 (by omega) (by decide) dX7_lane_136 ?_
                  refine g_eqi (nI (lc i)) (hI.2.2.2 i (by omega)).1 ?_
                  refine g_iconst (pc := 137) C 1 dX7_lane_137 (by decide) ?_
                  refine g_iadd (pc := 138) C dX7_lane_138 ?_
                  refine g_eqi (nI ((lc i) + 1)) (nI_add (lc i) 1) ?_
                  refine g_iastN (pc := 139) C rfl (hM.2 2 rfl).2 (by omega) (by decide) dX7_lane_139 ?_
                  refine g_aload_n (pc := 140) C dX7_lane_140 rfl ?_
                  refine g_getr (pc := 141) C fX7_35 rfl hM.1 dX7_lane_141 rfl (hM.2 10 rfl).1 ?_
                  refine g_iload (pc := 144) C dX7_lane_144 rfl ?_
                  refine g_iload_n (pc := 146) C dX7_lane_146 rfl ?_
                  refine g_iastN (pc := 147) C rfl (hM.2 10 rfl).2 (by omega) (by decide) dX7_lane_147 ?_
                  refine g_aload_n (pc := 148) C dX7_lane_148 rfl ?_
                  refine g_getr (pc := 149) C fX7_38 rfl hM.1 dX7_lane_149 rfl (hM.2 11 rfl).1 ?_
                  refine g_iload (pc := 152) C dX7_lane_152 rfl ?_
                  refine g_iload_n (pc := 154) C dX7_lane_154 rfl ?_
                  refine g_iastN (pc := 155) C rfl (hM.2 11 rfl).2 (by omega) (by decide) dX7_lane_155 ?_
                  refine g_aload_n (pc := 156) C dX7_lane_156 rfl ?_
                  refine g_getr (pc := 157) C fX7_41 rfl hM.1 dX7_lane_157 rfl (hM.2 12 rfl).1 ?_
                  refine g_iload (pc := 160) C dX7_lane_160 rfl ?_
                  refine g_iload (pc := 162) C dX7_lane_162 rfl ?_
                  refine g_iastN (pc := 164) C rfl (hM.2 12 rfl).2 (by omega) (by decide) dX7_lane_164 ?_
                  refine g_aload_n (pc := 165) C dX7_lane_165 rfl ?_
                  refine g_getr (pc := 166) C fX7_47 rfl hM.1 dX7_lane_166 rfl (hM.2 14 rfl).1 ?_
                  refine g_iload (pc := 169) C dX7_lane_169 rfl ?_
                  refine g_iload (pc := 171) C dX7_lane_171 rfl ?_
                  refine g_iastN (pc := 173) C rfl (hM.2 14 rfl).2 (by omega) (by decide) dX7_lane_173 ?_
                  refine g_aload_n (pc := 174) C dX7_lane_174 rfl ?_
                  refine g_getr (pc := 175) C fX7_50 rfl hM.1 dX7_lane_175 rfl (hM.2 15 rfl).1 ?_
                  refine g_iload (pc := 178) C dX7_lane_178 rfl ?_
                  refine g_iload (pc := 180) C dX7_lane_180 rfl ?_
                  refine g_iastN (pc := 182) C rfl (hM.2 15 rfl).2 (by omega) (by decide) dX7_lane_182 ?_
                  refine g_aload_n (pc := 183) C dX7_lane_183 rfl ?_
                  refine g_getr (pc := 184) C fX7_7 rfl hM.1 dX7_lane_184 rfl (hM.2 2 rfl).1 ?_
                  refine g_iload_n (pc := 187) C dX7_lane_187 rfl ?_
                  refine g_ialdN (pc := 188) C rfl (hM.2 2 rfl).2 (by omega) (by decide) dX7_lane_188 ?_
                  refine g_iconst (pc := 189) C 1 dX7_lane_189 (by decide) ?_
                  refine g_isub (pc := 190) C dX7_lane_190 ?_
                  exact g_iret (pc := 191) C B rfl dX7_lane_191 (by show (_, _) = t_X7_lane S lc i g p2 p3 p5 k; unfold t_X7_lane; rw [if_pos h45, if_neg h51, if_neg h57, if_neg h76, if_neg h83, if_pos h89, if_neg h96, if_neg h107])
                ·
                  refine g_aload_n (pc := 110) C dX7_lane_110 rfl ?_
                  refine g_bipush (pc := 111) C (-6) dX7_lane_111 (by decide) ?_
                  refine g_callV (pc := 113) C B mX7_116 (c_mrefuse _ _ _ _ _ hM (-6) 6 (by decide) (by decide)) rfl rfl rfl rfl hM.1 (by decide) ⟨Nat.le_refl _, Nat.le_refl _⟩ (Nat.le_of_ble_eq_true rfl) dX7_lane_113 (fun r S' hP => ?_)
                  rw [hP.1, hP.2]
                  exact g_iret (pc := 116) C B rfl dX7_lane_116 (by show (_, _) = t_X7_lane S lc i g p2 p3 p5 k; unfold t_X7_lane; rw [if_pos h45, if_neg h51, if_neg h57, if_neg h76, if_neg h83, if_pos h89, if_neg h96, if_pos h107])
      ·
        refine g_iload (pc := 60) C dX7_lane_60 rfl ?_
        refine g_if_ge (pc := 62) C 72 dX7_lane_62 (by decide) (fun h62 => ?_) (fun h62 => ?_)
        ·
          refine g_iload_n (pc := 72) C dX7_lane_72 rfl ?_
          refine g_sipush (pc := 73) C 5000 dX7_lane_73 (by decide) ?_
          refine g_icmp_gt (pc := 76) C 110 dX7_lane_76 (by decide) (fun h76 => ?_) (fun h76 => ?_)
          ·
            refine g_aload_n (pc := 110) C dX7_lane_110 rfl ?_
            refine g_bipush (pc := 111) C (-6) dX7_lane_111 (by decide) ?_
            refine g_callV (pc := 113) C B mX7_116 (c_mrefuse _ _ _ _ _ hM (-6) 6 (by decide) (by decide)) rfl rfl rfl rfl hM.1 (by decide) ⟨Nat.le_refl _, Nat.le_refl _⟩ (Nat.le_of_ble_eq_true rfl) dX7_lane_113 (fun r S' hP => ?_)
            rw [hP.1, hP.2]
            exact g_iret (pc := 116) C B rfl dX7_lane_116 (by show (_, _) = t_X7_lane S lc i g p2 p3 p5 k; unfold t_X7_lane; rw [if_pos h45, if_neg h51, if_pos h57, if_pos h62, if_pos h76])
          ·
            refine g_iload (pc := 79) C dX7_lane_79 rfl ?_
            refine g_bipush (pc := 81) C 20 dX7_lane_81 (by decide) ?_
            refine g_icmp_gt (pc := 83) C 110 dX7_lane_83 (by decide) (fun h83 => ?_) (fun h83 => ?_)
            ·
              refine g_aload_n (pc := 110) C dX7_lane_110 rfl ?_
              refine g_bipush (pc := 111) C (-6) dX7_lane_111 (by decide) ?_
              refine g_callV (pc := 113) C B mX7_116 (c_mrefuse _ _ _ _ _ hM (-6) 6 (by decide) (by decide)) rfl rfl rfl rfl hM.1 (by decide) ⟨Nat.le_refl _, Nat.le_refl _⟩ (Nat.le_of_ble_eq_true rfl) dX7_lane_113 (fun r S' hP => ?_)
              rw [hP.1, hP.2]
              exact g_iret (pc := 116) C B rfl dX7_lane_116 (by show (_, _) = t_X7_lane S lc i g p2 p3 p5 k; unfold t_X7_lane; rw [if_pos h45, if_neg h51, if_pos h57, if_pos h62, if_neg h76, if_pos h83])
            ·
              refine g_iload (pc := 86) C dX7_lane_86 rfl ?_
              refine g_iconst (pc := 88) C 2 dX7_lane_88 (by decide) ?_
              refine g_icmp_ne (pc := 89) C 99 dX7_lane_89 (by decide) (fun h89 => ?_) (fun h89 => ?_)
              ·
                refine g_aload_n (pc := 99) C dX7_lane_99 rfl ?_
                refine g_getr (pc := 100) C fX7_7 rfl hM.1 dX7_lane_100 rfl (hM.2 2 rfl).1 ?_
                refine g_iload_n (pc := 103) C dX7_lane_103 rfl ?_
                refine g_ialdN (pc := 104) C rfl (hM.2 2 rfl).2 (by omega) (by decide) dX7_lane_104 ?_
                refine g_eqi (nI (lc i)) (hI.2.2.2 i (by omega)).1 ?_
                refine g_bipush (pc := 105) C 8 dX7_lane_105 (by decide) ?_
                refine g_icmp_ne (pc := 107) C 117 dX7_lane_107 (by decide) (fun h107 => ?_) (fun h107 => ?_)
                ·
                  have h8 : lc i < 8 := by have q : ¬ lc i = 8 := fun z => h107 (by rw [z]; rfl); omega
                  refine g_bipush (pc := 117) C 8 dX7_lane_117 (by decide) ?_
                  refine g_iload_n (pc := 119) C dX7_lane_119 rfl ?_
                  refine g_imul (pc := 120) C dX7_lane_120 ?_
                  refine g_eqi (nI (8 * i)) (pk_mul 8 i) ?_
                  refine g_aload_n (pc := 121) C dX7_lane_121 rfl ?_
                  refine g_getr (pc := 122) C fX7_7 rfl hM.1 dX7_lane_122 rfl (hM.2 2 rfl).1 ?_
                  refine g_iload_n (pc := 125) C dX7_lane_125 rfl ?_
                  refine g_ialdN (pc := 126) C rfl (hM.2 2 rfl).2 (by omega) (by decide) dX7_lane_126 ?_
                  refine g_eqi (nI (lc i)) (hI.2.2.2 i (by omega)).1 ?_
                  refine g_iadd (pc := 127) C dX7_lane_127 ?_
                  refine g_eqi (nI ((8 * i) + (lc i))) (nI_add (8 * i) (lc i)) ?_
                  refine g_istore (pc := 128) C dX7_lane_128 (by decide) ?_
                  refine g_aload_n (pc := 130) C dX7_lane_130 rfl ?_
                  refine g_getr (pc := 131) C fX7_7 rfl hM.1 dX7_lane_131 rfl (hM.2 2 rfl).1 ?_
                  refine g_iload_n (pc := 134) C dX7_lane_134 rfl ?_
                  refine g_dup2 (pc := 135) C dX7_lane_135 ?_
                  refine g_ialdN (pc := 136) C rfl (hM.2 2 rfl).2 (by omega) (by decide) dX7_lane_136 ?_
                  refine g_eqi (nI (lc i)) (hI.2.2.2 i (by omega)).1 ?_
                  refine g_iconst (pc := 137) C 1 dX7_lane_137 (by decide) ?_
                  refine g_iadd (pc := 138) C dX7_lane_138 ?_
                  refine g_eqi (nI ((lc i) + 1)) (nI_add (lc i) 1) ?_
                  refine g_iastN (pc := 139) C rfl (hM.2 2 rfl).2 (by omega) (by decide) dX7_lane_139 ?_
                  refine g_aload_n (pc := 140) C dX7_lane_140 rfl ?_
                  refine g_getr (pc := 141) C fX7_35 rfl hM.1 dX7_lane_141 rfl (hM.2 10 rfl).1 ?_
                  refine g_iload (pc := 144) C dX7_lane_144 rfl ?_
                  refine g_iload_n (pc := 146) C dX7_lane_146 rfl ?_
                  refine g_iastN (pc := 147) C rfl (hM.2 10 rfl).2 (by omega) (by decide) dX7_lane_147 ?_
                  refine g_aload_n (pc := 148) C dX7_lane_148 rfl ?_
                  refine g_getr (pc := 149) C fX7_38 rfl hM.1 dX7_lane_149 rfl (hM.2 11 rfl).1 ?_
                  refine g_iload (pc := 152) C dX7_lane_152 rfl ?_
                  refine g_iload_n (pc := 154) C dX7_lane_154 rfl ?_
                  refine g_iastN (pc := 155) C rfl (hM.2 11 rfl).2 (by omega) (by decide) dX7_lane_155 ?_
                  refine g_aload_n (pc := 156) C dX7_lane_156 rfl ?_
                  refine g_getr (pc := 157) C fX7_41 rfl hM.1 dX7_lane_157 rfl (hM.2 12 rfl).1 ?_
                  refine g_iload (pc := 160) C dX7_lane_160 rfl ?_
                  refine g_iload (pc := 162) C dX7_lane_162 rfl ?_
                  refine g_iastN (pc := 164) C rfl (hM.2 12 rfl).2 (by omega) (by decide) dX7_lane_164 ?_
                  refine g_aload_n (pc := 165) C dX7_lane_165 rfl ?_
                  refine g_getr (pc := 166) C fX7_47 rfl hM.1 dX7_lane_166 rfl (hM.2 14 rfl).1 ?_
                  refine g_iload (pc := 169) C dX7_lane_169 rfl ?_
                  refine g_iload (pc := 171) C dX7_lane_171 rfl ?_
                  refine g_iastN (pc := 173) C rfl (hM.2 14 rfl).2 (by omega) (by decide) dX7_lane_173 ?_
                  refine g_aload_n (pc := 174) C dX7_lane_174 rfl ?_
                  refine g_getr (pc := 175) C fX7_50 rfl hM.1 dX7_lane_175 rfl (hM.2 15 rfl).1 ?_
                  refine g_iload (pc := 178) C dX7_lane_178 rfl ?_
                  refine g_iload (pc := 180) C dX7_lane_180 rfl ?_
                  refine g_iastN (pc := 182) C rfl (hM.2 15 rfl).2 (by omega) (by decide) dX7_lane_182 ?_
                  refine g_aload_n (pc := 183) C dX7_lane_183 rfl ?_
                  refine g_getr (pc := 184) C fX7_7 rfl hM.1 dX7_lane_184 rfl (hM.2 2 rfl).1 ?_
                  refine g_iload_n (pc := 187) C dX7_lane_187 rfl ?_
                  refine g_ialdN (pc := 188) C rfl (hM.2 2 rfl).2 (by omega) (by decide) dX7_lane_188 ?_
                  refine g_iconst (pc := 189) C 1 dX7_lane_189 (by decide) ?_
                  refine g_isub (pc := 190) C dX7_lane_190 ?_
                  exact g_iret (pc := 191) C B rfl dX7_lane_191 (by show (_, _) = t_X7_lane S lc i g p2 p3 p5 k; unfold t_X7_lane; rw [if_pos h45, if_neg h51, if_pos h57, if_pos h62, if_neg h76, if_neg h83, if_neg h89, if_neg h107])
                ·
                  refine g_aload_n (pc := 110) C dX7_lane_110 rfl ?_
                  refine g_bipush (pc := 111) C (-6) dX7_lane_111 (by decide) ?_
                  refine g_callV (pc := 113) C B mX7_116 (c_mrefuse _ _ _ _ _ hM (-6) 6 (by decide) (by decide)) rfl rfl rfl rfl hM.1 (by decide) ⟨Nat.le_refl _, Nat.le_refl _⟩ (Nat.le_of_ble_eq_true rfl) dX7_lane_113 (fun r S' hP => ?_)
                  rw [hP.1, hP.2]
                  exact g_iret (pc := 116) C B rfl dX7_lane_116 (by show (_, _) = t_X7_lane S lc i g p2 p3 p5 k; unfold t_X7_lane; rw [if_pos h45, if_neg h51, if_pos h57, if_pos h62, if_neg h76, if_neg h83, if_neg h89, if_pos h107])
              ·
                refine g_iload (pc := 92) C dX7_lane_92 rfl ?_
                refine g_bipush (pc := 94) C 48 dX7_lane_94 (by decide) ?_
                refine g_icmp_gt (pc := 96) C 110 dX7_lane_96 (by decide) (fun h96 => ?_) (fun h96 => ?_)
                ·
                  refine g_aload_n (pc := 110) C dX7_lane_110 rfl ?_
                  refine g_bipush (pc := 111) C (-6) dX7_lane_111 (by decide) ?_
                  refine g_callV (pc := 113) C B mX7_116 (c_mrefuse _ _ _ _ _ hM (-6) 6 (by decide) (by decide)) rfl rfl rfl rfl hM.1 (by decide) ⟨Nat.le_refl _, Nat.le_refl _⟩ (Nat.le_of_ble_eq_true rfl) dX7_lane_113 (fun r S' hP => ?_)
                  rw [hP.1, hP.2]
                  exact g_iret (pc := 116) C B rfl dX7_lane_116 (by show (_, _) = t_X7_lane S lc i g p2 p3 p5 k; unfold t_X7_lane; rw [if_pos h45, if_neg h51, if_pos h57, if_pos h62, if_neg h76, if_neg h83, if_pos h89, if_pos h96])
                ·
                  refine g_aload_n (pc := 99) C dX7_lane_99 rfl ?_
                  refine g_getr (pc := 100) C fX7_7 rfl hM.1 dX7_lane_100 rfl (hM.2 2 rfl).1 ?_
                  refine g_iload_n (pc := 103) C dX7_lane_103 rfl ?_
                  refine g_ialdN (pc := 104) C rfl (hM.2 2 rfl).2 (by omega) (by decide) dX7_lane_104 ?_
                  refine g_eqi (nI (lc i)) (hI.2.2.2 i (by omega)).1 ?_
                  refine g_bipush (pc := 105) C 8 dX7_lane_105 (by decide) ?_
                  refine g_icmp_ne (pc := 107) C 117 dX7_lane_107 (by decide) (fun h107 => ?_) (fun h107 => ?_)
                  ·
                    have h8 : lc i < 8 := by have q : ¬ lc i = 8 := fun z => h107 (by rw [z]; rfl); omega
                    refine g_bipush (pc := 117) C 8 dX7_lane_117 (by decide) ?_
                    refine g_iload_n (pc := 119) C dX7_lane_119 rfl ?_
                    refine g_imul (pc := 120) C dX7_lane_120 ?_
                    refine g_eqi (nI (8 * i)) (pk_mul 8 i) ?_
                    refine g_aload_n (pc := 121) C dX7_lane_121 rfl ?_
                    refine g_getr (pc := 122) C fX7_7 rfl hM.1 dX7_lane_122 rfl (hM.2 2 rfl).1 ?_
                    refine g_iload_n (pc := 125) C dX7_lane_125 rfl ?_
                    refine g_ialdN (pc := 126) C rfl (hM.2 2 rfl).2 (by omega) (by decide) dX7_lane_126 ?_
                    refine g_eqi (nI (lc i)) (hI.2.2.2 i (by omega)).1 ?_
                    refine g_iadd (pc := 127) C dX7_lane_127 ?_
                    refine g_eqi (nI ((8 * i) + (lc i))) (nI_add (8 * i) (lc i)) ?_
                    refine g_istore (pc := 128) C dX7_lane_128 (by decide) ?_
                    refine g_aload_n (pc := 130) C dX7_lane_130 rfl ?_
                    refine g_getr (pc := 131) C fX7_7 rfl hM.1 dX7_lane_131 rfl (hM.2 2 rfl).1 ?_
                    refine g_iload_n (pc := 134) C dX7_lane_134 rfl ?_
                    refine g_dup2 (pc := 135) C dX7_lane_135 ?_
                    refine g_ialdN (pc := 136) C rfl (hM.2 2 rfl).2 (by omega) (by decide) dX7_lane_136 ?_
                    refine g_eqi (nI (lc i)) (hI.2.2.2 i (by omega)).1 ?_
                    refine g_iconst (pc := 137) C 1 dX7_lane_137 (by decide) ?_
                    refine g_iadd (pc := 138) C dX7_lane_138 ?_
                    refine g_eqi (nI ((lc i) + 1)) (nI_add (lc i) 1) ?_
                    refine g_iastN (pc := 139) C rfl (hM.2 2 rfl).2 (by omega) (by decide) dX7_lane_139 ?_
                    refine g_aload_n (pc := 140) C dX7_lane_140 rfl ?_
                    refine g_getr (pc := 141) C fX7_35 rfl hM.1 dX7_lane_141 rfl (hM.2 10 rfl).1 ?_
                    refine g_iload (pc := 144) C dX7_lane_144 rfl ?_
                    refine g_iload_n (pc := 146) C dX7_lane_146 rfl ?_
                    refine g_iastN (pc := 147) C rfl (hM.2 10 rfl).2 (by omega) (by decide) dX7_lane_147 ?_
                    refine g_aload_n (pc := 148) C dX7_lane_148 rfl ?_
                    refine g_getr (pc := 149) C fX7_38 rfl hM.1 dX7_lane_149 rfl (hM.2 11 rfl).1 ?_
                    refine g_iload (pc := 152) C dX7_lane_152 rfl ?_
                    refine g_iload_n (pc := 154) C dX7_lane_154 rfl ?_
                    refine g_iastN (pc := 155) C rfl (hM.2 11 rfl).2 (by omega) (by decide) dX7_lane_155 ?_
                    refine g_aload_n (pc := 156) C dX7_lane_156 rfl ?_
                    refine g_getr (pc := 157) C fX7_41 rfl hM.1 dX7_lane_157 rfl (hM.2 12 rfl).1 ?_
                    refine g_iload (pc := 160) C dX7_lane_160 rfl ?_
                    refine g_iload (pc := 162) C dX7_lane_162 rfl ?_
                    refine g_iastN (pc := 164) C rfl (hM.2 12 rfl).2 (by omega) (by decide) dX7_lane_164 ?_
                    refine g_aload_n (pc := 165) C dX7_lane_165 rfl ?_
                    refine g_getr (pc := 166) C fX7_47 rfl hM.1 dX7_lane_166 rfl (hM.2 14 rfl).1 ?_
                    refine g_iload (pc := 169) C dX7_lane_169 rfl ?_
                    refine g_iload (pc := 171) C dX7_lane_171 rfl ?_
                    refine g_iastN (pc := 173) C rfl (hM.2 14 rfl).2 (by omega) (by decide) dX7_lane_173 ?_
                    refine g_aload_n (pc := 174) C dX7_lane_174 rfl ?_
                    refine g_getr (pc := 175) C fX7_50 rfl hM.1 dX7_lane_175 rfl (hM.2 15 rfl).1 ?_
                    refine g_iload (pc := 178) C dX7_lane_178 rfl ?_
                    refine g_iload (pc := 180) C dX7_lane_180 rfl ?_
                    refine g_iastN (pc := 182) C rfl (hM.2 15 rfl).2 (by omega) (by decide) dX7_lane_182 ?_
                    refine g_aload_n (pc := 183) C dX7_lane_183 rfl ?_
                    refine g_getr (pc := 184) C fX7_7 rfl hM.1 dX7_lane_184 rfl (hM.2 2 rfl).1 ?_
                    refine g_iload_n (pc := 187) C dX7_lane_187 rfl ?_
                    refine g_ialdN (pc := 188) C rfl (hM.2 2 rfl).2 (by omega) (by decide) dX7_lane_188 ?_
                    refine g_iconst (pc := 189) C 1 dX7_lane_189 (by decide) ?_
                    refine g_isub (pc := 190) C dX7_lane_190 ?_
                    exact g_iret (pc := 191) C B rfl dX7_lane_191 (by show (_, _) = t_X7_lane S lc i g p2 p3 p5 k; unfold t_X7_lane; rw [if_pos h45, if_neg h51, if_pos h57, if_pos h62, if_neg h76, if_neg h83, if_pos h89, if_neg h96, if_neg h107])
                  ·
                    refine g_aload_n (pc := 110) C dX7_lane_110 rfl ?_
                    refine g_bipush (pc := 111) C (-6) dX7_lane_111 (by decide) ?_
                    refine g_callV (pc := 113) C B mX7_116 (c_mrefuse _ _ _ _ _ hM (-6) 6 (by decide) (by decide)) rfl rfl rfl rfl hM.1 (by decide) ⟨Nat.le_refl _, Nat.le_refl _⟩ (Nat.le_of_ble_eq_true rfl) dX7_lane_113 (fun r S' hP => ?_)
                    rw [hP.1, hP.2]
                    exact g_iret (pc := 116) C B rfl dX7_lane_116 (by show (_, _) = t_X7_lane S lc i g p2 p3 p5 k; unfold t_X7_lane; rw [if_pos h45, if_neg h51, if_pos h57, if_pos h62, if_neg h76, if_neg h83, if_pos h89, if_neg h96, if_pos h107])
        ·
          refine g_aload_n (pc := 65) C dX7_lane_65 rfl ?_
          refine g_bipush (pc := 66) C (-4) dX7_lane_66 (by decide) ?_
          refine g_callV (pc := 68) C B mX7_116 (c_mrefuse _ _ _ _ _ hM (-4) 4 (by decide) (by decide)) rfl rfl rfl rfl hM.1 (by decide) ⟨Nat.le_refl _, Nat.le_refl _⟩ (Nat.le_of_ble_eq_true rfl) dX7_lane_68 (fun r S' hP => ?_)
          rw [hP.1, hP.2]
          exact g_iret (pc := 71) C B rfl dX7_lane_71 (by show (_, _) = t_X7_lane S lc i g p2 p3 p5 k; unfold t_X7_lane; rw [if_pos h45, if_neg h51, if_pos h57, if_neg h62])

