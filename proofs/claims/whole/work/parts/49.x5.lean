set_option maxHeartbeats 400000 in
set_option maxRecDepth 100000 in
theorem c_X6_size_b (l : Launch) (E : En) (base aw : Nat) (S : Mm) (mc : Nat) (lc : Nat → Nat) (hI : IX S mc lc) (p0 p1 : Int32) (hx : ¬ okN 16 p0) : Cn l E base aw yX6_size cX6_size 4 (some Jvm.ClassFile.FieldType.int) 1 0 0 noF S [vr (0, 0, 0), vi p0, vi p1] (fun r S' => r = some (vi (-1)) ∧ S' = rfX S 1) := by
  have hX := hI.1
  have hmc := hX.m6
  refine Cn.of (by decide) (Nat.le_of_ble_eq_true rfl) ?_
  intro X Y hl hE hbase haw hfr C B
  subst hl; subst hE; subst hbase; subst haw
  refine g_iload_n (pc := 0) C dX6_size_0 rfl ?_
  refine g_callS (pc := 1) C B mX6_61 (c_isG_f _ _ _ _ _ p0 hx) rfl rfl (by decide) ⟨Nat.le_refl _, Nat.le_refl _⟩ (Nat.le_of_ble_eq_true rfl) dX6_size_1 (fun rr SS hP => ?_)
  rw [hP.1, hP.2]
  refine g_if_ne (pc := 4) C 13 dX6_size_4 (by decide) (fun h4 => absurd (by decide) h4) (fun _ => ?_)
  refine g_aload_n (pc := 7) C dX6_size_7 rfl ?_
  refine g_iconst (pc := 8) C (-1) dX6_size_8 (by decide) ?_
  refine g_callV (pc := 9) C B mX6_52 (c_xrefuse _ _ _ _ _ mc lc hX (-1) 1 (by decide) (by decide) (by decide)) rfl rfl rfl rfl (hX.1 0 (by decide)) (by decide) ⟨Nat.le_refl _, Nat.le_refl _⟩ (Nat.le_of_ble_eq_true rfl) dX6_size_9 (fun rr SS hP => ?_)
  rw [hP.1, hP.2]
  exact g_iret (pc := 12) C B rfl dX6_size_12 (⟨rfl, rfl⟩)

def t_X6_size (S : Mm) (g : Nat) (v : Int32) : Option AV × Mm := if 1 ≤ v then (if v ≤ 9 then (some (vi (S.1 (0, 0, 2) g)), wI S (0, 0, 2) g v) else (some (vi ((-6))), rfX S 6)) else (some (vi ((-4))), rfX S 4)
set_option maxHeartbeats 400000 in
set_option maxRecDepth 100000 in
theorem c_X6_size (l : Launch) (E : En) (base aw : Nat) (S : Mm) (mc : Nat) (lc : Nat → Nat) (hI : IX S mc lc) (g : Nat) (hg : g < 16) (v : Int32) : Cn l E base aw yX6_size cX6_size 4 (some Jvm.ClassFile.FieldType.int) 1 0 0 noF S [vr (0, 0, 0), vi (nI g), vi v] (fun r S' => (r, S') = t_X6_size S g v) := by
  have hX := hI.1
  have hmc := hX.m6
  refine Cn.of (by decide) (Nat.le_of_ble_eq_true rfl) ?_
  intro X Y hl hE hbase haw hfr C B
  subst hl; subst hE; subst hbase; subst haw
  refine g_iload_n (pc := 0) C dX6_size_0 rfl ?_
  refine g_callS (pc := 1) C B mX6_61 (c_isG_t _ _ _ _ _ g hg) rfl rfl (by decide) ⟨Nat.le_refl _, Nat.le_refl _⟩ (Nat.le_of_ble_eq_true rfl) dX6_size_1 (fun rr SS hP => ?_)
  rw [hP.1, hP.2]
  refine g_if_ne (pc := 4) C 13 dX6_size_4 (by decide) (fun _ => ?_) (fun h4 => absurd h4 (by decide))
  refine g_iload_n (pc := 13) C dX6_size_13 rfl ?_
  refine g_iconst (pc := 14) C 1 dX6_size_14 (by decide) ?_
  refine g_icmp_ge (pc := 15) C 25 dX6_size_15 (by decide) (fun h15 => ?_) (fun h15 => ?_)
  ·
    refine g_iload_n (pc := 25) C dX6_size_25 rfl ?_
    refine g_bipush (pc := 26) C 9 dX6_size_26 (by decide) ?_
    refine g_icmp_le (pc := 28) C 38 dX6_size_28 (by decide) (fun h28 => ?_) (fun h28 => ?_)
    ·
      refine g_aload_n (pc := 38) C dX6_size_38 rfl ?_
      refine g_getr (pc := 39) C fX6_15 rfl (hX.1 0 (by decide)) dX6_size_39 rfl hX.r1 ?_
      refine g_iload_n (pc := 42) C dX6_size_42 rfl ?_
      refine g_ialdN (pc := 43) C rfl (hX.1 2 (by decide)) (by omega) (by decide) dX6_size_43 ?_
      refine g_istore_n (pc := 44) C dX6_size_44 (by decide) ?_
      refine g_aload_n (pc := 45) C dX6_size_45 rfl ?_
      refine g_getr (pc := 46) C fX6_15 rfl (hX.1 0 (by decide)) dX6_size_46 rfl hX.r1 ?_
      refine g_iload_n (pc := 49) C dX6_size_49 rfl ?_
      refine g_iload_n (pc := 50) C dX6_size_50 rfl ?_
      refine g_iastN (pc := 51) C rfl (hX.1 2 (by decide)) (by omega) (by decide) dX6_size_51 ?_
      refine g_iload_n (pc := 52) C dX6_size_52 rfl ?_
      exact g_iret (pc := 53) C B rfl dX6_size_53 (by show (_, _) = t_X6_size S g v; unfold t_X6_size; rw [if_pos h15, if_pos h28])
    ·
      refine g_aload_n (pc := 31) C dX6_size_31 rfl ?_
      refine g_bipush (pc := 32) C (-6) dX6_size_32 (by decide) ?_
      refine g_callV (pc := 34) C B mX6_52 (c_xrefuse _ _ _ _ _ mc lc hX (-6) 6 (by decide) (by decide) (by decide)) rfl rfl rfl rfl (hX.1 0 (by decide)) (by decide) ⟨Nat.le_refl _, Nat.le_refl _⟩ (Nat.le_of_ble_eq_true rfl) dX6_size_34 (fun rr SS hP => ?_)
      rw [hP.1, hP.2]
      exact g_iret (pc := 37) C B rfl dX6_size_37 (by show (_, _) = t_X6_size S g v; unfold t_X6_size; rw [if_pos h15, if_neg h28])
  ·
    refine g_aload_n (pc := 18) C dX6_size_18 rfl ?_
    refine g_bipush (pc := 19) C (-4) dX6_size_19 (by decide) ?_
    refine g_callV (pc := 21) C B mX6_52 (c_xrefuse _ _ _ _ _ mc lc hX (-4) 4 (by decide) (by decide) (by decide)) rfl rfl rfl rfl (hX.1 0 (by decide)) (by decide) ⟨Nat.le_refl _, Nat.le_refl _⟩ (Nat.le_of_ble_eq_true rfl) dX6_size_21 (fun rr SS hP => ?_)
    rw [hP.1, hP.2]
    exact g_iret (pc := 24) C B rfl dX6_size_24 (by show (_, _) = t_X6_size S g v; unfold t_X6_size; rw [if_neg h15])

set_option maxHeartbeats 400000 in
set_option maxRecDepth 100000 in
theorem c_X6_given_b (l : Launch) (E : En) (base aw : Nat) (S : Mm) (mc : Nat) (lc : Nat → Nat) (hI : IX S mc lc) (p0 : Int32) (hx : ¬ okN 6 p0) : Cn l E base aw yX6_given cX6_given 2 (some Jvm.ClassFile.FieldType.int) 1 0 0 noF S [vr (0, 0, 0), vi p0] (fun r S' => r = some (vi (-1)) ∧ S' = rfX S 1) := by
  have hX := hI.1
  have hmc := hX.m6
  refine Cn.of (by decide) (Nat.le_of_ble_eq_true rfl) ?_
  intro X Y hl hE hbase haw hfr C B
  subst hl; subst hE; subst hbase; subst haw
  refine g_iload_n (pc := 0) C dX6_given_0 rfl ?_
  refine g_callS (pc := 1) C B mX6_88 (c_isW_f _ _ _ _ _ p0 hx) rfl rfl (by decide) ⟨Nat.le_refl _, Nat.le_refl _⟩ (Nat.le_of_ble_eq_true rfl) dX6_given_1 (fun rr SS hP => ?_)
  rw [hP.1, hP.2]
  refine g_if_eq (pc := 4) C 16 dX6_given_4 (by decide) (fun _ => ?_) (fun h4 => absurd (by decide) h4)
  refine g_aload_n (pc := 16) C dX6_given_16 rfl ?_
  refine g_iconst (pc := 17) C (-1) dX6_given_17 (by decide) ?_
  refine g_callV (pc := 18) C B mX6_52 (c_xrefuse _ _ _ _ _ mc lc hX (-1) 1 (by decide) (by decide) (by decide)) rfl rfl rfl rfl (hX.1 0 (by decide)) (by decide) ⟨Nat.le_refl _, Nat.le_refl _⟩ (Nat.le_of_ble_eq_true rfl) dX6_given_18 (fun rr SS hP => ?_)
  rw [hP.1, hP.2]
  exact g_iret (pc := 21) C B rfl dX6_given_21 (⟨rfl, rfl⟩)

set_option maxHeartbeats 400000 in
set_option maxRecDepth 100000 in
theorem c_X6_given (l : Launch) (E : En) (base aw : Nat) (S : Mm) (mc : Nat) (lc : Nat → Nat) (hI : IX S mc lc) (g : Nat) (hw : g < 6) : Cn l E base aw yX6_given cX6_given 2 (some Jvm.ClassFile.FieldType.int) 1 0 0 noF S [vr (0, 0, 0), vi (nI g)] (fun r S' => r = some (vi (S.1 (0, 0, 4) g)) ∧ S' = S) := by
  have hX := hI.1
  have hmc := hX.m6
  refine Cn.of (by decide) (Nat.le_of_ble_eq_true rfl) ?_
  intro X Y hl hE hbase haw hfr C B
  subst hl; subst hE; subst hbase; subst haw
  refine g_iload_n (pc := 0) C dX6_given_0 rfl ?_
  refine g_callS (pc := 1) C B mX6_88 (c_isW_t _ _ _ _ _ g hw) rfl rfl (by decide) ⟨Nat.le_refl _, Nat.le_refl _⟩ (Nat.le_of_ble_eq_true rfl) dX6_given_1 (fun rr SS hP => ?_)
  rw [hP.1, hP.2]
  refine g_if_eq (pc := 4) C 16 dX6_given_4 (by decide) (fun h4 => absurd h4 (by decide)) (fun _ => ?_)
  refine g_aload_n (pc := 7) C dX6_given_7 rfl ?_
  refine g_getr (pc := 8) C fX6_31 rfl (hX.1 0 (by decide)) dX6_given_8 rfl hX.r3 ?_
  refine g_iload_n (pc := 11) C dX6_given_11 rfl ?_
  refine g_ialdN (pc := 12) C rfl (hX.1 4 (by decide)) (by omega) (by decide) dX6_given_12 ?_
  refine g_goto (pc := 13) C 21 dX6_given_13 (by decide) ?_
  exact g_iret (pc := 21) C B rfl dX6_given_21 (⟨rfl, rfl⟩)

set_option maxHeartbeats 400000 in
set_option maxRecDepth 100000 in
theorem c_X6_price_b (l : Launch) (E : En) (base aw : Nat) (S : Mm) (mc : Nat) (lc : Nat → Nat) (hI : IX S mc lc) (p0 p1 p2 : Int32) (h : ¬ okL mc lc p0 p1) : Cn l E base aw yX6_price cX6_price 6 (some Jvm.ClassFile.FieldType.int) 2 0 0 noF S [vr (0, 0, 0), vi p0, vi p1, vi p2] (fun r S' => r = some (vi (-1)) ∧ S' = rfX S 1) := by
  have hX := hI.1
  have hmc := hX.m6
  by_cases hmm : okN mc p0
  ·
    obtain ⟨i, hi, rfl⟩ := hmm
    have hm := hX.ms hi
    have hn := hI.2.2 i hi
    refine Cn.of (by decide) (Nat.le_of_ble_eq_true rfl) ?_
    intro X Y hl hE hbase haw hfr C B
    subst hl; subst hE; subst hbase; subst haw
    refine g_aload_n (pc := 0) C dX6_price_0 rfl ?_
    refine g_iload_n (pc := 1) C dX6_price_1 rfl ?_
    refine g_iload_n (pc := 2) C dX6_price_2 rfl ?_
    refine g_callV (pc := 3) C B mX6_81 (c_lAt_f _ _ _ _ _ mc lc hI (nI i) p1 h) rfl rfl rfl rfl (hX.1 0 (by decide)) (by decide) ⟨Nat.le_refl _, Nat.le_refl _⟩ (Nat.le_of_ble_eq_true rfl) dX6_price_3 (fun rr SS hP => ?_)
    rw [hP.1, hP.2]
    refine g_astore (pc := 6) C dX6_price_6 (by decide) ?_
    refine g_aload (pc := 8) C dX6_price_8 rfl ?_
    refine g_ifnonnull (pc := 10) C 19 dX6_price_10 (by decide) (fun _ h => by cases h) (fun _ => ?_)
    refine g_aload_n (pc := 13) C dX6_price_13 rfl ?_
    refine g_iconst (pc := 14) C (-1) dX6_price_14 (by decide) ?_
    refine g_callV (pc := 15) C B mX6_52 (c_xrefuse _ _ _ _ _ mc lc hX (-1) 1 (by decide) (by decide) (by decide)) rfl rfl rfl rfl (hX.1 0 (by decide)) (by decide) ⟨Nat.le_refl _, Nat.le_refl _⟩ (Nat.le_of_ble_eq_true rfl) dX6_price_15 (fun rr SS hP => ?_)
    rw [hP.1, hP.2]
    exact g_iret (pc := 18) C B rfl dX6_price_18 (⟨rfl, rfl⟩)
  ·
    have hx := hmm
    refine Cn.of (by decide) (Nat.le_of_ble_eq_true rfl) ?_
    intro X Y hl hE hbase haw hfr C B
    subst hl; subst hE; subst hbase; subst haw
    refine g_aload_n (pc := 0) C dX6_price_0 rfl ?_
    refine g_iload_n (pc := 1) C dX6_price_1 rfl ?_
    refine g_iload_n (pc := 2) C dX6_price_2 rfl ?_
    refine g_callV (pc := 3) C B mX6_81 (c_lAt_f _ _ _ _ _ mc lc hI p0 p1 h) rfl rfl rfl rfl (hX.1 0 (by decide)) (by decide) ⟨Nat.le_refl _, Nat.le_refl _⟩ (Nat.le_of_ble_eq_true rfl) dX6_price_3 (fun rr SS hP => ?_)
    rw [hP.1, hP.2]
    refine g_astore (pc := 6) C dX6_price_6 (by decide) ?_
    refine g_aload (pc := 8) C dX6_price_8 rfl ?_
    refine g_ifnonnull (pc := 10) C 19 dX6_price_10 (by decide) (fun _ h => by cases h) (fun _ => ?_)
    refine g_aload_n (pc := 13) C dX6_price_13 rfl ?_
    refine g_iconst (pc := 14) C (-1) dX6_price_14 (by decide) ?_
    refine g_callV (pc := 15) C B mX6_52 (c_xrefuse _ _ _ _ _ mc lc hX (-1) 1 (by decide) (by decide) (by decide)) rfl rfl rfl rfl (hX.1 0 (by decide)) (by decide) ⟨Nat.le_refl _, Nat.le_refl _⟩ (Nat.le_of_ble_eq_true rfl) dX6_price_15 (fun rr SS hP => ?_)
    rw [hP.1, hP.2]
    exact g_iret (pc := 18) C B rfl dX6_price_18 (⟨rfl, rfl⟩)

def t_X6_price (S : Mm) (i : Nat) (j : Nat) (p0 : Int32) : Option AV × Mm := if (blw p0) = 0 then (if p0 ≤ 5000 then (some (vi (S.1 (3, i, j) 4)), wI S (3, i, j) 4 p0) else (some (vi ((-6))), rfX S 6)) else (some (vi ((-4))), rfX S 4)
set_option maxHeartbeats 400000 in
set_option maxRecDepth 100000 in
theorem c_X6_price (l : Launch) (E : En) (base aw : Nat) (S : Mm) (mc : Nat) (lc : Nat → Nat) (hI : IX S mc lc) (i : Nat) (hi : i < mc) (j : Nat) (hj : j < lc i) (p0 : Int32) : Cn l E base aw yX6_price cX6_price 6 (some Jvm.ClassFile.FieldType.int) 2 0 0 noF S [vr (0, 0, 0), vi (nI i), vi (nI j), vi p0] (fun r S' => (r, S') = t_X6_price S i j p0) := by
  have hX := hI.1
  have hmc := hX.m6
  have hm := hX.ms hi
  have hn := hI.2.2 i hi
  have hn8 := hm.n8
  refine Cn.of (by decide) (Nat.le_of_ble_eq_true rfl) ?_
  intro X Y hl hE hbase haw hfr C B
  subst hl; subst hE; subst hbase; subst haw
  refine g_aload_n (pc := 0) C dX6_price_0 rfl ?_
  refine g_iload_n (pc := 1) C dX6_price_1 rfl ?_
  refine g_iload_n (pc := 2) C dX6_price_2 rfl ?_
  refine g_callV (pc := 3) C B mX6_81 (c_lAt_t _ _ _ _ _ mc lc hI i hi j hj) rfl rfl rfl rfl (hX.1 0 (by decide)) (by decide) ⟨Nat.le_refl _, Nat.le_refl _⟩ (Nat.le_of_ble_eq_true rfl) dX6_price_3 (fun rr SS hP => ?_)
  rw [hP.1, hP.2]
  refine g_astore (pc := 6) C dX6_price_6 (by decide) ?_
  refine g_aload (pc := 8) C dX6_price_8 rfl ?_
  refine g_ifnonnull (pc := 10) C 19 dX6_price_10 (by decide) (fun _ _ => ?_) (fun h => by cases h)
  refine g_iload_n (pc := 19) C dX6_price_19 rfl ?_
  refine g_callS (pc := 20) C B mX6_65 (c_xblw _ _ _ _ _ _) rfl rfl (by decide) ⟨Nat.le_refl _, Nat.le_refl _⟩ (Nat.le_of_ble_eq_true rfl) dX6_price_20 (fun rr SS hP => ?_)
  rw [hP.1, hP.2]
  refine g_if_eq (pc := 23) C 33 dX6_price_23 (by decide) (fun h23 => ?_) (fun h23 => ?_)
  ·
    refine g_iload_n (pc := 33) C dX6_price_33 rfl ?_
    refine g_sipush (pc := 34) C 5000 dX6_price_34 (by decide) ?_
    refine g_icmp_le (pc := 37) C 47 dX6_price_37 (by decide) (fun h37 => ?_) (fun h37 => ?_)
    ·
      refine g_aload (pc := 47) C dX6_price_47 rfl ?_
      refine g_geti (pc := 49) C fX6_85 rfl (hm.ln (by omega)) dX6_price_49 rfl ?_
      refine g_istore (pc := 52) C dX6_price_52 (by decide) ?_
      refine g_aload (pc := 54) C dX6_price_54 rfl ?_
      refine g_iload_n (pc := 56) C dX6_price_56 rfl ?_
      refine g_puti (pc := 57) C fX6_85 (Or.inl fm2_4) rfl (hm.ln (by omega)) dX6_price_57 (Or.inl rfl) ?_
      refine g_iload (pc := 60) C dX6_price_60 rfl ?_
      exact g_iret (pc := 62) C B rfl dX6_price_62 (by show (_, _) = t_X6_price S i j p0; unfold t_X6_price; rw [if_pos h23, if_pos h37])
    ·
      refine g_aload_n (pc := 40) C dX6_price_40 rfl ?_
      refine g_bipush (pc := 41) C (-6) dX6_price_41 (by decide) ?_
      refine g_callV (pc := 43) C B mX6_52 (c_xrefuse _ _ _ _ _ mc lc hX (-6) 6 (by decide) (by decide) (by decide)) rfl rfl rfl rfl (hX.1 0 (by decide)) (by decide) ⟨Nat.le_refl _, Nat.le_refl _⟩ (Nat.le_of_ble_eq_true rfl) dX6_price_43 (fun rr SS hP => ?_)
      rw [hP.1, hP.2]
      exact g_iret (pc := 46) C B rfl dX6_price_46 (by show (_, _) = t_X6_price S i j p0; unfold t_X6_price; rw [if_pos h23, if_neg h37])
  ·
    refine g_aload_n (pc := 26) C dX6_price_26 rfl ?_
    refine g_bipush (pc := 27) C (-4) dX6_price_27 (by decide) ?_
    refine g_callV (pc := 29) C B mX6_52 (c_xrefuse _ _ _ _ _ mc lc hX (-4) 4 (by decide) (by decide) (by decide)) rfl rfl rfl rfl (hX.1 0 (by decide)) (by decide) ⟨Nat.le_refl _, Nat.le_refl _⟩ (Nat.le_of_ble_eq_true rfl) dX6_price_29 (fun rr SS hP => ?_)
    rw [hP.1, hP.2]
    exact g_iret (pc := 32) C B rfl dX6_price_32 (by show (_, _) = t_X6_price S i j p0; unfold t_X6_price; rw [if_neg h23])

set_option maxHeartbeats 400000 in
set_option maxRecDepth 100000 in
theorem c_X6_stick_b (l : Launch) (E : En) (base aw : Nat) (S : Mm) (mc : Nat) (lc : Nat → Nat) (hI : IX S mc lc) (p0 p1 p2 : Int32) (h : ¬ okL mc lc p0 p1) : Cn l E base aw yX6_stick cX6_stick 5 (some Jvm.ClassFile.FieldType.int) 2 0 0 noF S [vr (0, 0, 0), vi p0, vi p1, vi p2] (fun r S' => r = some (vi (-1)) ∧ S' = rfX S 1) := by
  have hX := hI.1
  have hmc := hX.m6
  by_cases hmm : okN mc p0
  ·
    obtain ⟨i, hi, rfl⟩ := hmm
    have hm := hX.ms hi
    have hn := hI.2.2 i hi
    refine Cn.of (by decide) (Nat.le_of_ble_eq_true rfl) ?_
    intro X Y hl hE hbase haw hfr C B
    subst hl; subst hE; subst hbase; subst haw
    refine g_aload_n (pc := 0) C dX6_stick_0 rfl ?_
    refine g_iload_n (pc := 1) C dX6_stick_1 rfl ?_
    refine g_iload_n (pc := 2) C dX6_stick_2 rfl ?_
    refine g_callV (pc := 3) C B mX6_81 (c_lAt_f _ _ _ _ _ mc lc hI (nI i) p1 h) rfl rfl rfl rfl (hX.1 0 (by decide)) (by decide) ⟨Nat.le_refl _, Nat.le_refl _⟩ (Nat.le_of_ble_eq_true rfl) dX6_stick_3 (fun rr SS hP => ?_)
    rw [hP.1, hP.2]
    refine g_astore (pc := 6) C dX6_stick_6 (by decide) ?_
    refine g_aload (pc := 8) C dX6_stick_8 rfl ?_
    refine g_ifnonnull (pc := 10) C 19 dX6_stick_10 (by decide) (fun _ h => by cases h) (fun _ => ?_)
    refine g_aload_n (pc := 13) C dX6_stick_13 rfl ?_
    refine g_iconst (pc := 14) C (-1) dX6_stick_14 (by decide) ?_
    refine g_callV (pc := 15) C B mX6_52 (c_xrefuse _ _ _ _ _ mc lc hX (-1) 1 (by decide) (by decide) (by decide)) rfl rfl rfl rfl (hX.1 0 (by decide)) (by decide) ⟨Nat.le_refl _, Nat.le_refl _⟩ (Nat.le_of_ble_eq_true rfl) dX6_stick_15 (fun rr SS hP => ?_)
    rw [hP.1, hP.2]
    exact g_iret (pc := 18) C B rfl dX6_stick_18 (⟨rfl, rfl⟩)
  ·
    have hx := hmm
    refine Cn.of (by decide) (Nat.le_of_ble_eq_true rfl) ?_
    intro X Y hl hE hbase haw hfr C B
    subst hl; subst hE; subst hbase; subst haw
    refine g_aload_n (pc := 0) C dX6_stick_0 rfl ?_
    refine g_iload_n (pc := 1) C dX6_stick_1 rfl ?_
    refine g_iload_n (pc := 2) C dX6_stick_2 rfl ?_
    refine g_callV (pc := 3) C B mX6_81 (c_lAt_f _ _ _ _ _ mc lc hI p0 p1 h) rfl rfl rfl rfl (hX.1 0 (by decide)) (by decide) ⟨Nat.le_refl _, Nat.le_refl _⟩ (Nat.le_of_ble_eq_true rfl) dX6_stick_3 (fun rr SS hP => ?_)
    rw [hP.1, hP.2]
    refine g_astore (pc := 6) C dX6_stick_6 (by decide) ?_
    refine g_aload (pc := 8) C dX6_stick_8 rfl ?_
    refine g_ifnonnull (pc := 10) C 19 dX6_stick_10 (by decide) (fun _ h => by cases h) (fun _ => ?_)
    refine g_aload_n (pc := 13) C dX6_stick_13 rfl ?_
    refine g_iconst (pc := 14) C (-1) dX6_stick_14 (by decide) ?_
    refine g_callV (pc := 15) C B mX6_52 (c_xrefuse _ _ _ _ _ mc lc hX (-1) 1 (by decide) (by decide) (by decide)) rfl rfl rfl rfl (hX.1 0 (by decide)) (by decide) ⟨Nat.le_refl _, Nat.le_refl _⟩ (Nat.le_of_ble_eq_true rfl) dX6_stick_15 (fun rr SS hP => ?_)
    rw [hP.1, hP.2]
    exact g_iret (pc := 18) C B rfl dX6_stick_18 (⟨rfl, rfl⟩)

def t_X6_stick (S : Mm) (i : Nat) (j : Nat) (p0 : Int32) : Option AV × Mm := if (S.1 (3, i, j) 2) = 1 then (if 0 ≤ p0 then (if p0 ≤ (9 - (S.1 (3, i, j) 6)) then (some (vi ((wI S (3, i, j) 6 ((S.1 (3, i, j) 6) + p0)).1 (3, i, j) 6)), wI S (3, i, j) 6 ((S.1 (3, i, j) 6) + p0)) else (some (vi ((-6))), rfX S 6)) else (some (vi ((-4))), rfX S 4)) else (some (vi ((-2))), rfX S 2)
set_option maxHeartbeats 400000 in
set_option maxRecDepth 100000 in
theorem c_X6_stick (l : Launch) (E : En) (base aw : Nat) (S : Mm) (mc : Nat) (lc : Nat → Nat) (hI : IX S mc lc) (i : Nat) (hi : i < mc) (j : Nat) (hj : j < lc i) (p0 : Int32) : Cn l E base aw yX6_stick cX6_stick 5 (some Jvm.ClassFile.FieldType.int) 2 0 0 noF S [vr (0, 0, 0), vi (nI i), vi (nI j), vi p0] (fun r S' => (r, S') = t_X6_stick S i j p0) := by
  have hX := hI.1
  have hmc := hX.m6
  have hm := hX.ms hi
  have hn := hI.2.2 i hi
  have hn8 := hm.n8
  refine Cn.of (by decide) (Nat.le_of_ble_eq_true rfl) ?_
  intro X Y hl hE hbase haw hfr C B
  subst hl; subst hE; subst hbase; subst haw
  refine g_aload_n (pc := 0) C dX6_stick_0 rfl ?_
  refine g_iload_n (pc := 1) C dX6_stick_1 rfl ?_
  refine g_iload_n (pc := 2) C dX6_stick_2 rfl ?_
  refine g_callV (pc := 3) C B mX6_81 (c_lAt_t _ _ _ _ _ mc lc hI i hi j hj) rfl rfl rfl rfl (hX.1 0 (by decide)) (by decide) ⟨Nat.le_refl _, Nat.le_refl _⟩ (Nat.le_of_ble_eq_true rfl) dX6_stick_3 (fun rr SS hP => ?_)
  rw [hP.1, hP.2]
  refine g_astore (pc := 6) C dX6_stick_6 (by decide) ?_
  refine g_aload (pc := 8) C dX6_stick_8 rfl ?_
  refine g_ifnonnull (pc := 10) C 19 dX6_stick_10 (by decide) (fun _ _ => ?_) (fun h => by cases h)
  refine g_aload (pc := 19) C dX6_stick_19 rfl ?_
  refine g_geti (pc := 21) C fX6_104 rfl (hm.ln (by omega)) dX6_stick_21 rfl ?_
  refine g_iconst (pc := 24) C 1 dX6_stick_24 (by decide) ?_
  refine g_icmp_eq (pc := 25) C 35 dX6_stick_25 (by decide) (fun h25 => ?_) (fun h25 => ?_)
  ·
    refine g_iload_n (pc := 35) C dX6_stick_35 rfl ?_
    refine g_if_ge (pc := 36) C 46 dX6_stick_36 (by decide) (fun h36 => ?_) (fun h36 => ?_)
    ·
      refine g_iload_n (pc := 46) C dX6_stick_46 rfl ?_
      refine g_bipush (pc := 47) C 9 dX6_stick_47 (by decide) ?_
      refine g_aload (pc := 49) C dX6_stick_49 rfl ?_
      refine g_geti (pc := 51) C fX6_107 rfl (hm.ln (by omega)) dX6_stick_51 rfl ?_
      refine g_isub (pc := 54) C dX6_stick_54 ?_
      refine g_icmp_le (pc := 55) C 65 dX6_stick_55 (by decide) (fun h55 => ?_) (fun h55 => ?_)
      ·
        refine g_aload (pc := 65) C dX6_stick_65 rfl ?_
        refine g_dup (pc := 67) C dX6_stick_67 ?_
        refine g_geti (pc := 68) C fX6_107 rfl (hm.ln (by omega)) dX6_stick_68 rfl ?_
        refine g_iload_n (pc := 71) C dX6_stick_71 rfl ?_
        refine g_iadd (pc := 72) C dX6_stick_72 ?_
        refine g_puti (pc := 73) C fX6_107 (Or.inl fm2_6) rfl (hm.ln (by omega)) dX6_stick_73 (Or.inl rfl) ?_
        refine g_aload (pc := 76) C dX6_stick_76 rfl ?_
        refine g_geti (pc := 78) C fX6_107 rfl (hm.ln (by omega)) dX6_stick_78 rfl ?_
        exact g_iret (pc := 81) C B rfl dX6_stick_81 (by show (_, _) = t_X6_stick S i j p0; unfold t_X6_stick; rw [if_pos h25, if_pos h36, if_pos h55])
      ·
        refine g_aload_n (pc := 58) C dX6_stick_58 rfl ?_
        refine g_bipush (pc := 59) C (-6) dX6_stick_59 (by decide) ?_
        refine g_callV (pc := 61) C B mX6_52 (c_xrefuse _ _ _ _ _ mc lc hX (-6) 6 (by decide) (by decide) (by decide)) rfl rfl rfl rfl (hX.1 0 (by decide)) (by decide) ⟨Nat.le_refl _, Nat.le_refl _⟩ (Nat.le_of_ble_eq_true rfl) dX6_stick_61 (fun rr SS hP => ?_)
        rw [hP.1, hP.2]
        exact g_iret (pc := 64) C B rfl dX6_stick_64 (by show (_, _) = t_X6_stick S i j p0; unfold t_X6_stick; rw [if_pos h25, if_pos h36, if_neg h55])
    ·
      refine g_aload_n (pc := 39) C dX6_stick_39 rfl ?_
      refine g_bipush (pc := 40) C (-4) dX6_stick_40 (by decide) ?_
      refine g_callV (pc := 42) C B mX6_52 (c_xrefuse _ _ _ _ _ mc lc hX (-4) 4 (by decide) (by decide) (by decide)) rfl rfl rfl rfl (hX.1 0 (by decide)) (by decide) ⟨Nat.le_refl _, Nat.le_refl _⟩ (Nat.le_of_ble_eq_true rfl) dX6_stick_42 (fun rr SS hP => ?_)
      rw [hP.1, hP.2]
      exact g_iret (pc := 45) C B rfl dX6_stick_45 (by show (_, _) = t_X6_stick S i j p0; unfold t_X6_stick; rw [if_pos h25, if_neg h36])
  ·
    refine g_aload_n (pc := 28) C dX6_stick_28 rfl ?_
    refine g_bipush (pc := 29) C (-2) dX6_stick_29 (by decide) ?_
    refine g_callV (pc := 31) C B mX6_52 (c_xrefuse _ _ _ _ _ mc lc hX (-2) 2 (by decide) (by decide) (by decide)) rfl rfl rfl rfl (hX.1 0 (by decide)) (by decide) ⟨Nat.le_refl _, Nat.le_refl _⟩ (Nat.le_of_ble_eq_true rfl) dX6_stick_31 (fun rr SS hP => ?_)
    rw [hP.1, hP.2]
    exact g_iret (pc := 34) C B rfl dX6_stick_34 (by show (_, _) = t_X6_stick S i j p0; unfold t_X6_stick; rw [if_neg h25])

set_option maxHeartbeats 400000 in
set_option maxRecDepth 100000 in
theorem c_X6_fill_b (l : Launch) (E : En) (base aw : Nat) (S : Mm) (mc : Nat) (lc : Nat → Nat) (hI : IX S mc lc) (p0 p1 p2 : Int32) (h : ¬ okL mc lc p0 p1) : Cn l E base aw yX6_fill cX6_fill 6 (some Jvm.ClassFile.FieldType.int) 2 0 0 noF S [vr (0, 0, 0), vi p0, vi p1, vi p2] (fun r S' => r = some (vi (-1)) ∧ S' = rfX S 1) := by
  have hX := hI.1
  have hmc := hX.m6
  by_cases hmm : okN mc p0
  ·
    obtain ⟨i, hi, rfl⟩ := hmm
    have hm := hX.ms hi
    have hn := hI.2.2 i hi
    refine Cn.of (by decide) (Nat.le_of_ble_eq_true rfl) ?_
    intro X Y hl hE hbase haw hfr C B
    subst hl; subst hE; subst hbase; subst haw
    refine g_aload_n (pc := 0) C dX6_fill_0 rfl ?_
    refine g_iload_n (pc := 1) C dX6_fill_1 rfl ?_
    refine g_callV (pc := 2) C B mX6_57 (c_mAt_t _ _ _ _ _ mc lc hI i hi) rfl rfl rfl rfl (hX.1 0 (by decide)) (by decide) ⟨Nat.le_refl _, Nat.le_refl _⟩ (Nat.le_of_ble_eq_true rfl) dX6_fill_2 (fun rr SS hP => ?_)
    rw [hP.1, hP.2]
    refine g_astore (pc := 5) C dX6_fill_5 (by decide) ?_
    refine g_aload_n (pc := 7) C dX6_fill_7 rfl ?_
    refine g_iload_n (pc := 8) C dX6_fill_8 rfl ?_
    refine g_iload_n (pc := 9) C dX6_fill_9 rfl ?_
    refine g_callV (pc := 10) C B mX6_81 (c_lAt_f _ _ _ _ _ mc lc hI (nI i) p1 h) rfl rfl rfl rfl (hX.1 0 (by decide)) (by decide) ⟨Nat.le_refl _, Nat.le_refl _⟩ (Nat.le_of_ble_eq_true rfl) dX6_fill_10 (fun rr SS hP => ?_)
    rw [hP.1, hP.2]
    refine g_astore (pc := 13) C dX6_fill_13 (by decide) ?_
    refine g_aload (pc := 15) C dX6_fill_15 rfl ?_
    refine g_ifnull (pc := 17) C 25 dX6_fill_17 (by decide) (fun h => by cases h) (fun _ _ => ?_)
    refine g_aload (pc := 20) C dX6_fill_20 rfl ?_
    refine g_ifnonnull (pc := 22) C 31 dX6_fill_22 (by decide) (fun _ h => by cases h) (fun _ => ?_)
    refine g_aload_n (pc := 25) C dX6_fill_25 rfl ?_
    refine g_iconst (pc := 26) C (-1) dX6_fill_26 (by decide) ?_
    refine g_callV (pc := 27) C B mX6_52 (c_xrefuse _ _ _ _ _ mc lc hX (-1) 1 (by decide) (by decide) (by decide)) rfl rfl rfl rfl (hX.1 0 (by decide)) (by decide) ⟨Nat.le_refl _, Nat.le_refl _⟩ (Nat.le_of_ble_eq_true rfl) dX6_fill_27 (fun rr SS hP => ?_)
    rw [hP.1, hP.2]
    exact g_iret (pc := 30) C B rfl dX6_fill_30 (⟨rfl, rfl⟩)
  ·
    have hx := hmm
    refine Cn.of (by decide) (Nat.le_of_ble_eq_true rfl) ?_
    intro X Y hl hE hbase haw hfr C B
    subst hl; subst hE; subst hbase; subst haw
    refine g_aload_n (pc := 0) C dX6_fill_0 rfl ?_
    refine g_iload_n (pc := 1) C dX6_fill_1 rfl ?_
    refine g_callV (pc := 2) C B mX6_57 (c_mAt_f _ _ _ _ _ mc lc hI p0 hx) rfl rfl rfl rfl (hX.1 0 (by decide)) (by decide) ⟨Nat.le_refl _, Nat.le_refl _⟩ (Nat.le_of_ble_eq_true rfl) dX6_fill_2 (fun rr SS hP => ?_)
    rw [hP.1, hP.2]
    refine g_astore (pc := 5) C dX6_fill_5 (by decide) ?_
    refine g_aload_n (pc := 7) C dX6_fill_7 rfl ?_
    refine g_iload_n (pc := 8) C dX6_fill_8 rfl ?_
    refine g_iload_n (pc := 9) C dX6_fill_9 rfl ?_
    refine g_callV (pc := 10) C B mX6_81 (c_lAt_f _ _ _ _ _ mc lc hI p0 p1 h) rfl rfl rfl rfl (hX.1 0 (by decide)) (by decide) ⟨Nat.le_refl _, Nat.le_refl _⟩ (Nat.le_of_ble_eq_true rfl) dX6_fill_10 (fun rr SS hP => ?_)
    rw [hP.1, hP.2]
    refine g_astore (pc := 13) C dX6_fill_13 (by decide) ?_
    refine g_aload (pc := 15) C dX6_fill_15 rfl ?_
    refine g_ifnull (pc := 17) C 25 dX6_fill_17 (by decide) (fun _ => ?_) (fun _ h => by cases h)
    refine g_aload_n (pc := 25) C dX6_fill_25 rfl ?_
    refine g_iconst (pc := 26) C (-1) dX6_fill_26 (by decide) ?_
    refine g_callV (pc := 27) C B mX6_52 (c_xrefuse _ _ _ _ _ mc lc hX (-1) 1 (by decide) (by decide) (by decide)) rfl rfl rfl rfl (hX.1 0 (by decide)) (by decide) ⟨Nat.le_refl _, Nat.le_refl _⟩ (Nat.le_of_ble_eq_true rfl) dX6_fill_27 (fun rr SS hP => ?_)
    rw [hP.1, hP.2]
    exact g_iret (pc := 30) C B rfl dX6_fill_30 (⟨rfl, rfl⟩)

def t_X6_fill (S : Mm) (i : Nat) (j : Nat) (p0 : Int32) : Option AV × Mm := if (S.1 (3, i, j) 9) = 0 then (if 0 ≤ p0 then (if p0 ≤ ((S.1 (3, i, j) 1) - (S.1 (3, i, j) 5)) then (some (vi ((wI (wI S (3, i, j) 5 ((S.1 (3, i, j) 5) + p0)) (1, i, 0) 9 (((wI S (3, i, j) 5 ((S.1 (3, i, j) 5) + p0)).1 (1, i, 0) 9) + p0)).1 (3, i, j) 5)), wI (wI S (3, i, j) 5 ((S.1 (3, i, j) 5) + p0)) (1, i, 0) 9 (((wI S (3, i, j) 5 ((S.1 (3, i, j) 5) + p0)).1 (1, i, 0) 9) + p0)) else (some (vi ((-6))), rfX S 6)) else (some (vi ((-4))), rfX S 4)) else (some (vi ((-3))), rfX S 3)
set_option maxHeartbeats 400000 in
set_option maxRecDepth 100000 in
theorem c_X6_fill (l : Launch) (E : En) (base aw : Nat) (S : Mm) (mc : Nat) (lc : Nat → Nat) (hI : IX S mc lc) (i : Nat) (hi : i < mc) (j : Nat) (hj : j < lc i) (p0 : Int32) : Cn l E base aw yX6_fill cX6_fill 6 (some Jvm.ClassFile.FieldType.int) 2 0 0 noF S [vr (0, 0, 0), vi (nI i), vi (nI j), vi p0] (fun r S' => (r, S') = t_X6_fill S i j p0) := by
  have hX := hI.1
  have hmc := hX.m6
  have hm := hX.ms hi
  have hn := hI.2.2 i hi
  have hn8 := hm.n8
  refine Cn.of (by decide) (Nat.le_of_ble_eq_true rfl) ?_
  intro X Y hl hE hbase haw hfr C B
  subst hl; subst hE; subst hbase; subst haw
  refine g_aload_n (pc := 0) C dX6_fill_0 rfl ?_
  refine g_iload_n (pc := 1) C dX6_fill_1 rfl ?_
  refine g_callV (pc := 2) C B mX6_57 (c_mAt_t _ _ _ _ _ mc lc hI i hi) rfl rfl rfl rfl (hX.1 0 (by decide)) (by decide) ⟨Nat.le_refl _, Nat.le_refl _⟩ (Nat.le_of_ble_eq_true rfl) dX6_fill_2 (fun rr SS hP => ?_)
  rw [hP.1, hP.2]
  refine g_astore (pc := 5) C dX6_fill_5 (by decide) ?_
  refine g_aload_n (pc := 7) C dX6_fill_7 rfl ?_
  refine g_iload_n (pc := 8) C dX6_fill_8 rfl ?_
  refine g_iload_n (pc := 9) C dX6_fill_9 rfl ?_
  refine g_callV (pc := 10) C B mX6_81 (c_lAt_t _ _ _ _ _ mc lc hI i hi j hj) rfl rfl rfl rfl (hX.1 0 (by decide)) (by decide) ⟨Nat.le_refl _, Nat.le_refl _⟩ (Nat.le_of_ble_eq_true rfl) dX6_fill_10 (fun rr SS hP => ?_)
  rw [hP.1, hP.2]
  refine g_astore (pc := 13) C dX6_fill_13 (by decide) ?_
  refine g_aload (pc := 15) C dX6_fill_15 rfl ?_
  refine g_ifnull (pc := 17) C 25 dX6_fill_17 (by decide) (fun h => by cases h) (fun _ _ => ?_)
  refine g_aload (pc := 20) C dX6_fill_20 rfl ?_
  refine g_ifnonnull (pc := 22) C 31 dX6_fill_22 (by decide) (fun _ _ => ?_) (fun h => by cases h)
  refine g_aload (pc := 31) C dX6_fill_31 rfl ?_
  refine g_geti (pc := 33) C fX6_123 rfl (hm.ln (by omega)) dX6_fill_33 rfl ?_
  refine g_if_eq (pc := 36) C 46 dX6_fill_36 (by decide) (fun h36 => ?_) (fun h36 => ?_)
  ·
    refine g_iload_n (pc := 46) C dX6_fill_46 rfl ?_
    refine g_if_ge (pc := 47) C 57 dX6_fill_47 (by decide) (fun h47 => ?_) (fun h47 => ?_)
    ·
      refine g_iload_n (pc := 57) C dX6_fill_57 rfl ?_
      refine g_aload (pc := 58) C dX6_fill_58 rfl ?_
      refine g_geti (pc := 60) C fX6_126 rfl (hm.ln (by omega)) dX6_fill_60 rfl ?_
      refine g_aload (pc := 63) C dX6_fill_63 rfl ?_
      refine g_geti (pc := 65) C fX6_129 rfl (hm.ln (by omega)) dX6_fill_65 rfl ?_
      refine g_isub (pc := 68) C dX6_fill_68 ?_
      refine g_icmp_le (pc := 69) C 79 dX6_fill_69 (by decide) (fun h69 => ?_) (fun h69 => ?_)
      ·
        refine g_aload (pc := 79) C dX6_fill_79 rfl ?_
        refine g_dup (pc := 81) C dX6_fill_81 ?_
        refine g_geti (pc := 82) C fX6_129 rfl (hm.ln (by omega)) dX6_fill_82 rfl ?_
        refine g_iload_n (pc := 85) C dX6_fill_85 rfl ?_
        refine g_iadd (pc := 86) C dX6_fill_86 ?_
        refine g_puti (pc := 87) C fX6_129 (Or.inl fm2_5) rfl (hm.ln (by omega)) dX6_fill_87 (Or.inl rfl) ?_
        refine g_aload (pc := 90) C dX6_fill_90 rfl ?_
        refine g_dup (pc := 92) C dX6_fill_92 ?_
        refine g_geti (pc := 93) C fX6_132 rfl (hm.1 0 (by decide)) dX6_fill_93 rfl ?_
        refine g_iload_n (pc := 96) C dX6_fill_96 rfl ?_
        refine g_iadd (pc := 97) C dX6_fill_97 ?_
        refine g_puti (pc := 98) C fX6_132 (Or.inl fm3_9) rfl (hm.1 0 (by decide)) dX6_fill_98 (Or.inl rfl) ?_
        refine g_aload (pc := 101) C dX6_fill_101 rfl ?_
        refine g_geti (pc := 103) C fX6_129 rfl (hm.ln (by omega)) dX6_fill_103 rfl ?_
        exact g_iret (pc := 106) C B rfl dX6_fill_106 (by show (_, _) = t_X6_fill S i j p0; unfold t_X6_fill; rw [if_pos h36, if_pos h47, if_pos h69])
      ·
        refine g_aload_n (pc := 72) C dX6_fill_72 rfl ?_
        refine g_bipush (pc := 73) C (-6) dX6_fill_73 (by decide) ?_
        refine g_callV (pc := 75) C B mX6_52 (c_xrefuse _ _ _ _ _ mc lc hX (-6) 6 (by decide) (by decide) (by decide)) rfl rfl rfl rfl (hX.1 0 (by decide)) (by decide) ⟨Nat.le_refl _, Nat.le_refl _⟩ (Nat.le_of_ble_eq_true rfl) dX6_fill_75 (fun rr SS hP => ?_)
        rw [hP.1, hP.2]
        exact g_iret (pc := 78) C B rfl dX6_fill_78 (by show (_, _) = t_X6_fill S i j p0; unfold t_X6_fill; rw [if_pos h36, if_pos h47, if_neg h69])
    ·
      refine g_aload_n (pc := 50) C dX6_fill_50 rfl ?_
      refine g_bipush (pc := 51) C (-4) dX6_fill_51 (by decide) ?_
      refine g_callV (pc := 53) C B mX6_52 (c_xrefuse _ _ _ _ _ mc lc hX (-4) 4 (by decide) (by decide) (by decide)) rfl rfl rfl rfl (hX.1 0 (by decide)) (by decide) ⟨Nat.le_refl _, Nat.le_refl _⟩ (Nat.le_of_ble_eq_true rfl) dX6_fill_53 (fun rr SS hP => ?_)
      rw [hP.1, hP.2]
      exact g_iret (pc := 56) C B rfl dX6_fill_56 (by show (_, _) = t_X6_fill S i j p0; unfold t_X6_fill; rw [if_pos h36, if_neg h47])
  ·
    refine g_aload_n (pc := 39) C dX6_fill_39 rfl ?_
    refine g_bipush (pc := 40) C (-3) dX6_fill_40 (by decide) ?_
    refine g_callV (pc := 42) C B mX6_52 (c_xrefuse _ _ _ _ _ mc lc hX (-3) 3 (by decide) (by decide) (by decide)) rfl rfl rfl rfl (hX.1 0 (by decide)) (by decide) ⟨Nat.le_refl _, Nat.le_refl _⟩ (Nat.le_of_ble_eq_true rfl) dX6_fill_42 (fun rr SS hP => ?_)
    rw [hP.1, hP.2]
    exact g_iret (pc := 45) C B rfl dX6_fill_45 (by show (_, _) = t_X6_fill S i j p0; unfold t_X6_fill; rw [if_neg h36])

set_option maxHeartbeats 400000 in
set_option maxRecDepth 100000 in
theorem c_X6_found_b (l : Launch) (E : En) (base aw : Nat) (S : Mm) (mc : Nat) (lc : Nat → Nat) (hI : IX S mc lc) (p0 p1 p2 : Int32) (h : ¬ okL mc lc p0 p1) : Cn l E base aw yX6_found cX6_found 7 (some Jvm.ClassFile.FieldType.int) 2 0 0 noF S [vr (0, 0, 0), vi p0, vi p1, vi p2] (fun r S' => r = some (vi (-1)) ∧ S' = rfX S 1) := by
  have hX := hI.1
  have hmc := hX.m6
  by_cases hmm : okN mc p0
  ·
    obtain ⟨i, hi, rfl⟩ := hmm
    have hm := hX.ms hi
    have hn := hI.2.2 i hi
    refine Cn.of (by decide) (Nat.le_of_ble_eq_true rfl) ?_
    intro X Y hl hE hbase haw hfr C B
    subst hl; subst hE; subst hbase; subst haw
    refine g_aload_n (pc := 0) C dX6_found_0 rfl ?_
    refine g_iload_n (pc := 1) C dX6_found_1 rfl ?_
    refine g_callV (pc := 2) C B mX6_57 (c_mAt_t _ _ _ _ _ mc lc hI i hi) rfl rfl rfl rfl (hX.1 0 (by decide)) (by decide) ⟨Nat.le_refl _, Nat.le_refl _⟩ (Nat.le_of_ble_eq_true rfl) dX6_found_2 (fun rr SS hP => ?_)
    rw [hP.1, hP.2]
    refine g_astore (pc := 5) C dX6_found_5 (by decide) ?_
    refine g_aload_n (pc := 7) C dX6_found_7 rfl ?_
    refine g_iload_n (pc := 8) C dX6_found_8 rfl ?_
    refine g_iload_n (pc := 9) C dX6_found_9 rfl ?_
    refine g_callV (pc := 10) C B mX6_81 (c_lAt_f _ _ _ _ _ mc lc hI (nI i) p1 h) rfl rfl rfl rfl (hX.1 0 (by decide)) (by decide) ⟨Nat.le_refl _, Nat.le_refl _⟩ (Nat.le_of_ble_eq_true rfl) dX6_found_10 (fun rr SS hP => ?_)
    rw [hP.1, hP.2]
    refine g_astore (pc := 13) C dX6_found_13 (by decide) ?_
    refine g_aload (pc := 15) C dX6_found_15 rfl ?_
    refine g_ifnull (pc := 17) C 25 dX6_found_17 (by decide) (fun h => by cases h) (fun _ _ => ?_)
    refine g_aload (pc := 20) C dX6_found_20 rfl ?_
    refine g_ifnonnull (pc := 22) C 31 dX6_found_22 (by decide) (fun _ h => by cases h) (fun _ => ?_)
    refine g_aload_n (pc := 25) C dX6_found_25 rfl ?_
    refine g_iconst (pc := 26) C (-1) dX6_found_26 (by decide) ?_
    refine g_callV (pc := 27) C B mX6_52 (c_xrefuse _ _ _ _ _ mc lc hX (-1) 1 (by decide) (by decide) (by decide)) rfl rfl rfl rfl (hX.1 0 (by decide)) (by decide) ⟨Nat.le_refl _, Nat.le_refl _⟩ (Nat.le_of_ble_eq_true rfl) dX6_found_27 (fun rr SS hP => ?_)
    rw [hP.1, hP.2]
    exact g_iret (pc := 30) C B rfl dX6_found_30 (⟨rfl, rfl⟩)
  ·
    have hx := hmm
    refine Cn.of (by decide) (Nat.le_of_ble_eq_true rfl) ?_
    intro X Y hl hE hbase haw hfr C B
    subst hl; subst hE; subst hbase; subst haw
    refine g_aload_n (pc := 0) C dX6_found_0 rfl ?_
    refine g_iload_n (pc := 1) C dX6_found_1 rfl ?_
    refine g_callV (pc := 2) C B mX6_57 (c_mAt_f _ _ _ _ _ mc lc hI p0 hx) rfl rfl rfl rfl (hX.1 0 (by decide)) (by decide) ⟨Nat.le_refl _, Nat.le_refl _⟩ (Nat.le_of_ble_eq_true rfl) dX6_found_2 (fun rr SS hP => ?_)
    rw [hP.1, hP.2]
    refine g_astore (pc := 5) C dX6_found_5 (by decide) ?_
    refine g_aload_n (pc := 7) C dX6_found_7 rfl ?_
    refine g_iload_n (pc := 8) C dX6_found_8 rfl ?_
    refine g_iload_n (pc := 9) C dX6_found_9 rfl ?_
    refine g_callV (pc := 10) C B mX6_81 (c_lAt_f _ _ _ _ _ mc lc hI p0 p1 h) rfl rfl rfl rfl (hX.1 0 (by decide)) (by decide) ⟨Nat.le_refl _, Nat.le_refl _⟩ (Nat.le_of_ble_eq_true rfl) dX6_found_10 (fun rr SS hP => ?_)
    rw [hP.1, hP.2]
    refine g_astore (pc := 13) C dX6_found_13 (by decide) ?_
    refine g_aload (pc := 15) C dX6_found_15 rfl ?_
    refine g_ifnull (pc := 17) C 25 dX6_found_17 (by decide) (fun _ => ?_) (fun _ h => by cases h)
    refine g_aload_n (pc := 25) C dX6_found_25 rfl ?_
    refine g_iconst (pc := 26) C (-1) dX6_found_26 (by decide) ?_
    refine g_callV (pc := 27) C B mX6_52 (c_xrefuse _ _ _ _ _ mc lc hX (-1) 1 (by decide) (by decide) (by decide)) rfl rfl rfl rfl (hX.1 0 (by decide)) (by decide) ⟨Nat.le_refl _, Nat.le_refl _⟩ (Nat.le_of_ble_eq_true rfl) dX6_found_27 (fun rr SS hP => ?_)
    rw [hP.1, hP.2]
    exact g_iret (pc := 30) C B rfl dX6_found_30 (⟨rfl, rfl⟩)

def t_X6_found (S : Mm) (i : Nat) (j : Nat) (p0 : Int32) : Option AV × Mm := if 0 ≤ p0 then (if p0 ≤ (S.1 (3, i, j) 1) then (some (vi (S.1 (3, i, j) 5)), wI (wI S (1, i, 0) 6 ((S.1 (1, i, 0) 6) + ((S.1 (3, i, j) 5) - p0))) (3, i, j) 5 p0) else (some (vi ((-6))), rfX S 6)) else (some (vi ((-4))), rfX S 4)
set_option maxHeartbeats 400000 in
set_option maxRecDepth 100000 in
theorem c_X6_found (l : Launch) (E : En) (base aw : Nat) (S : Mm) (mc : Nat) (lc : Nat → Nat) (hI : IX S mc lc) (i : Nat) (hi : i < mc) (j : Nat) (hj : j < lc i) (p0 : Int32) : Cn l E base aw yX6_found cX6_found 7 (some Jvm.ClassFile.FieldType.int) 2 0 0 noF S [vr (0, 0, 0), vi (nI i), vi (nI j), vi p0] (fun r S' => (r, S') = t_X6_found S i j p0) := by
  have hX := hI.1
  have hmc := hX.m6
  have hm := hX.ms hi
  have hn := hI.2.2 i hi
  have hn8 := hm.n8
  refine Cn.of (by decide) (Nat.le_of_ble_eq_true rfl) ?_
  intro X Y hl hE hbase haw hfr C B
  subst hl; subst hE; subst hbase; subst haw
  refine g_aload_n (pc := 0) C dX6_found_0 rfl ?_
  refine g_iload_n (pc := 1) C dX6_found_1 rfl ?_
  refine g_callV (pc := 2) C B mX6_57 (c_mAt_t _ _ _ _ _ mc lc hI i hi) rfl rfl rfl rfl (hX.1 0 (by decide)) (by decide) ⟨Nat.le_refl _, Nat.le_refl _⟩ (Nat.le_of_ble_eq_true rfl) dX6_found_2 (fun rr SS hP => ?_)
  rw [hP.1, hP.2]
  refine g_astore (pc := 5) C dX6_found_5 (by decide) ?_
  refine g_aload_n (pc := 7) C dX6_found_7 rfl ?_
  refine g_iload_n (pc := 8) C dX6_found_8 rfl ?_
  refine g_iload_n (pc := 9) C dX6_found_9 rfl ?_
  refine g_callV (pc := 10) C B mX6_81 (c_lAt_t _ _ _ _ _ mc lc hI i hi j hj) rfl rfl rfl rfl (hX.1 0 (by decide)) (by decide) ⟨Nat.le_refl _, Nat.le_refl _⟩ (Nat.le_of_ble_eq_true rfl) dX6_found_10 (fun rr SS hP => ?_)
  rw [hP.1, hP.2]
  refine g_astore (pc := 13) C dX6_found_13 (by decide) ?_
  refine g_aload (pc := 15) C dX6_found_15 rfl ?_
  refine g_ifnull (pc := 17) C 25 dX6_found_17 (by decide) (fun h => by cases h) (fun _ _ => ?_)
  refine g_aload (pc := 20) C dX6_found_20 rfl ?_
  refine g_ifnonnull (pc := 22) C 31 dX6_found_22 (by decide) (fun _ _ => ?_) (fun h => by cases h)
  refine g_iload_n (pc := 31) C dX6_found_31 rfl ?_
  refine g_if_ge (pc := 32) C 42 dX6_found_32 (by decide) (fun h32 => ?_) (fun h32 => ?_)
  ·
    refine g_iload_n (pc := 42) C dX6_found_42 rfl ?_
    refine g_aload (pc := 43) C dX6_found_43 rfl ?_
    refine g_geti (pc := 45) C fX6_126 rfl (hm.ln (by omega)) dX6_found_45 rfl ?_
    refine g_icmp_le (pc := 48) C 58 dX6_found_48 (by decide) (fun h48 => ?_) (fun h48 => ?_)
    ·
      refine g_aload (pc := 58) C dX6_found_58 rfl ?_
      refine g_geti (pc := 60) C fX6_129 rfl (hm.ln (by omega)) dX6_found_60 rfl ?_
      refine g_istore (pc := 63) C dX6_found_63 (by decide) ?_
      refine g_aload (pc := 65) C dX6_found_65 rfl ?_
      refine g_dup (pc := 67) C dX6_found_67 ?_
      refine g_geti (pc := 68) C fX6_135 rfl (hm.1 0 (by decide)) dX6_found_68 rfl ?_
      refine g_iload (pc := 71) C dX6_found_71 rfl ?_
      refine g_iload_n (pc := 73) C dX6_found_73 rfl ?_
      refine g_isub (pc := 74) C dX6_found_74 ?_
      refine g_iadd (pc := 75) C dX6_found_75 ?_
      refine g_puti (pc := 76) C fX6_135 (Or.inl fm3_6) rfl (hm.1 0 (by decide)) dX6_found_76 (Or.inl rfl) ?_
      refine g_aload (pc := 79) C dX6_found_79 rfl ?_
      refine g_iload_n (pc := 81) C dX6_found_81 rfl ?_
      refine g_puti (pc := 82) C fX6_129 (Or.inl fm2_5) rfl (hm.ln (by omega)) dX6_found_82 (Or.inl rfl) ?_
      refine g_iload (pc := 85) C dX6_found_85 rfl ?_
      exact g_iret (pc := 87) C B rfl dX6_found_87 (by show (_, _) = t_X6_found S i j p0; unfold t_X6_found; rw [if_pos h32, if_pos h48])
    ·
      refine g_aload_n (pc := 51) C dX6_found_51 rfl ?_
      refine g_bipush (pc := 52) C (-6) dX6_found_52 (by decide) ?_
      refine g_callV (pc := 54) C B mX6_52 (c_xrefuse _ _ _ _ _ mc lc hX (-6) 6 (by decide) (by decide) (by decide)) rfl rfl rfl rfl (hX.1 0 (by decide)) (by decide) ⟨Nat.le_refl _, Nat.le_refl _⟩ (Nat.le_of_ble_eq_true rfl) dX6_found_54 (fun rr SS hP => ?_)
      rw [hP.1, hP.2]
      exact g_iret (pc := 57) C B rfl dX6_found_57 (by show (_, _) = t_X6_found S i j p0; unfold t_X6_found; rw [if_pos h32, if_neg h48])
  ·
    refine g_aload_n (pc := 35) C dX6_found_35 rfl ?_
    refine g_bipush (pc := 36) C (-4) dX6_found_36 (by decide) ?_
    refine g_callV (pc := 38) C B mX6_52 (c_xrefuse _ _ _ _ _ mc lc hX (-4) 4 (by decide) (by decide) (by decide)) rfl rfl rfl rfl (hX.1 0 (by decide)) (by decide) ⟨Nat.le_refl _, Nat.le_refl _⟩ (Nat.le_of_ble_eq_true rfl) dX6_found_38 (fun rr SS hP => ?_)
    rw [hP.1, hP.2]
    exact g_iret (pc := 41) C B rfl dX6_found_41 (by show (_, _) = t_X6_found S i j p0; unfold t_X6_found; rw [if_neg h32])

set_option maxHeartbeats 400000 in
set_option maxRecDepth 100000 in
theorem c_X6_empty_b (l : Launch) (E : En) (base aw : Nat) (S : Mm) (mc : Nat) (lc : Nat → Nat) (hI : IX S mc lc) (p0 p1 : Int32) (h : ¬ okL mc lc p0 p1) : Cn l E base aw yX6_empty cX6_empty 6 (some Jvm.ClassFile.FieldType.int) 2 0 0 noF S [vr (0, 0, 0), vi p0, vi p1] (fun r S' => r = some (vi (-1)) ∧ S' = rfX S 1) := by
  have hX := hI.1
  have hmc := hX.m6
  by_cases hmm : okN mc p0
  ·
    obtain ⟨i, hi, rfl⟩ := hmm
    have hm := hX.ms hi
    have hn := hI.2.2 i hi
    refine Cn.of (by decide) (Nat.le_of_ble_eq_true rfl) ?_
    intro X Y hl hE hbase haw hfr C B
    subst hl; subst hE; subst hbase; subst haw
    refine g_aload_n (pc := 0) C dX6_empty_0 rfl ?_
    refine g_iload_n (pc := 1) C dX6_empty_1 rfl ?_
    refine g_callV (pc := 2) C B mX6_57 (c_mAt_t _ _ _ _ _ mc lc hI i hi) rfl rfl rfl rfl (hX.1 0 (by decide)) (by decide) ⟨Nat.le_refl _, Nat.le_refl _⟩ (Nat.le_of_ble_eq_true rfl) dX6_empty_2 (fun rr SS hP => ?_)
    rw [hP.1, hP.2]
    refine g_astore_n (pc := 5) C dX6_empty_5 (by decide) ?_
    refine g_aload_n (pc := 6) C dX6_empty_6 rfl ?_
    refine g_iload_n (pc := 7) C dX6_empty_7 rfl ?_
    refine g_iload_n (pc := 8) C dX6_empty_8 rfl ?_
    refine g_callV (pc := 9) C B mX6_81 (c_lAt_f _ _ _ _ _ mc lc hI (nI i) p1 h) rfl rfl rfl rfl (hX.1 0 (by decide)) (by decide) ⟨Nat.le_refl _, Nat.le_refl _⟩ (Nat.le_of_ble_eq_true rfl) dX6_empty_9 (fun rr SS hP => ?_)
    rw [hP.1, hP.2]
    refine g_astore (pc := 12) C dX6_empty_12 (by decide) ?_
    refine g_aload_n (pc := 14) C dX6_empty_14 rfl ?_
    refine g_ifnull (pc := 15) C 23 dX6_empty_15 (by decide) (fun h => by cases h) (fun _ _ => ?_)
    refine g_aload (pc := 18) C dX6_empty_18 rfl ?_
    refine g_ifnonnull (pc := 20) C 29 dX6_empty_20 (by decide) (fun _ h => by cases h) (fun _ => ?_)
    refine g_aload_n (pc := 23) C dX6_empty_23 rfl ?_
    refine g_iconst (pc := 24) C (-1) dX6_empty_24 (by decide) ?_
    refine g_callV (pc := 25) C B mX6_52 (c_xrefuse _ _ _ _ _ mc lc hX (-1) 1 (by decide) (by decide) (by decide)) rfl rfl rfl rfl (hX.1 0 (by decide)) (by decide) ⟨Nat.le_refl _, Nat.le_refl _⟩ (Nat.le_of_ble_eq_true rfl) dX6_empty_25 (fun rr SS hP => ?_)
    rw [hP.1, hP.2]
    exact g_iret (pc := 28) C B rfl dX6_empty_28 (⟨rfl, rfl⟩)
  ·
    have hx := hmm
    refine Cn.of (by decide) (Nat.le_of_ble_eq_true rfl) ?_
    intro X Y hl hE hbase haw hfr C B
    subst hl; subst hE; subst hbase; subst haw
    refine g_aload_n (pc := 0) C dX6_empty_0 rfl ?_
    refine g_iload_n (pc := 1) C dX6_empty_1 rfl ?_
    refine g_callV (pc := 2) C B mX6_57 (c_mAt_f _ _ _ _ _ mc lc hI p0 hx) rfl rfl rfl rfl (hX.1 0 (by decide)) (by decide) ⟨Nat.le_refl _, Nat.le_refl _⟩ (Nat.le_of_ble_eq_true rfl) dX6_empty_2 (fun rr SS hP => ?_)
    rw [hP.1, hP.2]
    refine g_astore_n (pc := 5) C dX6_empty_5 (by decide) ?_
    refine g_aload_n (pc := 6) C dX6_empty_6 rfl ?_
    refine g_iload_n (pc := 7) C dX6_empty_7 rfl ?_
    refine g_iload_n (pc := 8) C dX6_empty_8 rfl ?_
    refine g_callV (pc := 9) C B mX6_81 (c_lAt_f _ _ _ _ _ mc lc hI p0 p1 h) rfl rfl rfl rfl (hX.1 0 (by decide)) (by decide) ⟨Nat.le_refl _, Nat.le_refl _⟩ (Nat.le_of_ble_eq_true rfl) dX6_empty_9 (fun rr SS hP => ?_)
    rw [hP.1, hP.2]
    refine g_astore (pc := 12) C dX6_empty_12 (by decide) ?_
    refine g_aload_n (pc := 14) C dX6_empty_14 rfl ?_
    refine g_ifnull (pc := 15) C 23 dX6_empty_15 (by decide) (fun _ => ?_) (fun _ h => by cases h)
    refine g_aload_n (pc := 23) C dX6_empty_23 rfl ?_
    refine g_iconst (pc := 24) C (-1) dX6_empty_24 (by decide) ?_
    refine g_callV (pc := 25) C B mX6_52 (c_xrefuse _ _ _ _ _ mc lc hX (-1) 1 (by decide) (by decide) (by decide)) rfl rfl rfl rfl (hX.1 0 (by decide)) (by decide) ⟨Nat.le_refl _, Nat.le_refl _⟩ (Nat.le_of_ble_eq_true rfl) dX6_empty_25 (fun rr SS hP => ?_)
    rw [hP.1, hP.2]
    exact g_iret (pc := 28) C B rfl dX6_empty_28 (⟨rfl, rfl⟩)

def t_X6_empty (S : Mm) (i : Nat) (j : Nat) : Option AV × Mm := (some (vi (S.1 (3, i, j) 5)), wI (wI (wI S (1, i, 0) 7 ((S.1 (1, i, 0) 7) + (S.1 (3, i, j) 5))) (3, i, j) 5 0) (3, i, j) 9 0)
set_option maxHeartbeats 400000 in
set_option maxRecDepth 100000 in
theorem c_X6_empty (l : Launch) (E : En) (base aw : Nat) (S : Mm) (mc : Nat) (lc : Nat → Nat) (hI : IX S mc lc) (i : Nat) (hi : i < mc) (j : Nat) (hj : j < lc i) : Cn l E base aw yX6_empty cX6_empty 6 (some Jvm.ClassFile.FieldType.int) 2 0 0 noF S [vr (0, 0, 0), vi (nI i), vi (nI j)] (fun r S' => (r, S') = t_X6_empty S i j) := by
  have hX := hI.1
  have hmc := hX.m6
  have hm := hX.ms hi
  have hn := hI.2.2 i hi
  have hn8 := hm.n8
  refine Cn.of (by decide) (Nat.le_of_ble_eq_true rfl) ?_
  intro X Y hl hE hbase haw hfr C B
  subst hl; subst hE; subst hbase; subst haw
  refine g_aload_n (pc := 0) C dX6_empty_0 rfl ?_
  refine g_iload_n (pc := 1) C dX6_empty_1 rfl ?_
  refine g_callV (pc := 2) C B mX6_57 (c_mAt_t _ _ _ _ _ mc lc hI i hi) rfl rfl rfl rfl (hX.1 0 (by decide)) (by decide) ⟨Nat.le_refl _, Nat.le_refl _⟩ (Nat.le_of_ble_eq_true rfl) dX6_empty_2 (fun rr SS hP => ?_)
  rw [hP.1, hP.2]
  refine g_astore_n (pc := 5) C dX6_empty_5 (by decide) ?_
  refine g_aload_n (pc := 6) C dX6_empty_6 rfl ?_
  refine g_iload_n (pc := 7) C dX6_empty_7 rfl ?_
  refine g_iload_n (pc := 8) C dX6_empty_8 rfl ?_
  refine g_callV (pc := 9) C B mX6_81 (c_lAt_t _ _ _ _ _ mc lc hI i hi j hj) rfl rfl rfl rfl (hX.1 0 (by decide)) (by decide) ⟨Nat.le_refl _, Nat.le_refl _⟩ (Nat.le_of_ble_eq_true rfl) dX6_empty_9 (fun rr SS hP => ?_)
  rw [hP.1, hP.2]
  refine g_astore (pc := 12) C dX6_empty_12 (by decide) ?_
  refine g_aload_n (pc := 14) C dX6_empty_14 rfl ?_
  refine g_ifnull (pc := 15) C 23 dX6_empty_15 (by decide) (fun h => by cases h) (fun _ _ => ?_)
  refine g_aload (pc := 18) C dX6_empty_18 rfl ?_
  refine g_ifnonnull (pc := 20) C 29 dX6_empty_20 (by decide) (fun _ _ => ?_) (fun h => by cases h)
  refine g_aload (pc := 29) C dX6_empty_29 rfl ?_
  refine g_geti (pc := 31) C fX6_129 rfl (hm.ln (by omega)) dX6_empty_31 rfl ?_
  refine g_istore (pc := 34) C dX6_empty_34 (by decide) ?_
  refine g_aload_n (pc := 36) C dX6_empty_36 rfl ?_
  refine g_dup (pc := 37) C dX6_empty_37 ?_
  refine g_geti (pc := 38) C fX6_138 rfl (hm.1 0 (by decide)) dX6_empty_38 rfl ?_
  refine g_iload (pc := 41) C dX6_empty_41 rfl ?_
  refine g_iadd (pc := 43) C dX6_empty_43 ?_
  refine g_puti (pc := 44) C fX6_138 (Or.inl fm3_7) rfl (hm.1 0 (by decide)) dX6_empty_44 (Or.inl rfl) ?_
  refine g_aload (pc := 47) C dX6_empty_47 rfl ?_
  refine g_iconst (pc := 49) C 0 dX6_empty_49 (by decide) ?_
  refine g_puti (pc := 50) C fX6_129 (Or.inl fm2_5) rfl (hm.ln (by omega)) dX6_empty_50 (Or.inl rfl) ?_
  refine g_aload (pc := 53) C dX6_empty_53 rfl ?_
  refine g_iconst (pc := 55) C 0 dX6_empty_55 (by decide) ?_
  refine g_puti (pc := 56) C fX6_123 (Or.inl fm2_9) rfl (hm.ln (by omega)) dX6_empty_56 (Or.inr ⟨rfl, Or.inl rfl⟩) ?_
  refine g_iload (pc := 59) C dX6_empty_59 rfl ?_
  exact g_iret (pc := 61) C B rfl dX6_empty_61 (by show (_, _) = t_X6_empty S i j; unfold t_X6_empty; rfl)

set_option maxHeartbeats 400000 in
set_option maxRecDepth 100000 in
theorem c_X6_shut_b (l : Launch) (E : En) (base aw : Nat) (S : Mm) (mc : Nat) (lc : Nat → Nat) (hI : IX S mc lc) (p0 p1 p2 : Int32) (h : ¬ okL mc lc p0 p1) : Cn l E base aw yX6_shut cX6_shut 5 (some Jvm.ClassFile.FieldType.boolean) 2 0 0 noF S [vr (0, 0, 0), vi p0, vi p1, vi p2] (fun r S' => r = some (vi 0) ∧ S' = S) := by
  have hX := hI.1
  have hmc := hX.m6
  by_cases hmm : okN mc p0
  ·
    obtain ⟨i, hi, rfl⟩ := hmm
    have hm := hX.ms hi
    have hn := hI.2.2 i hi
    refine Cn.of (by decide) (Nat.le_of_ble_eq_true rfl) ?_
    intro X Y hl hE hbase haw hfr C B
    subst hl; subst hE; subst hbase; subst haw
    refine g_aload_n (pc := 0) C dX6_shut_0 rfl ?_
    refine g_iload_n (pc := 1) C dX6_shut_1 rfl ?_
    refine g_iload_n (pc := 2) C dX6_shut_2 rfl ?_
    refine g_callV (pc := 3) C B mX6_81 (c_lAt_f _ _ _ _ _ mc lc hI (nI i) p1 h) rfl rfl rfl rfl (hX.1 0 (by decide)) (by decide) ⟨Nat.le_refl _, Nat.le_refl _⟩ (Nat.le_of_ble_eq_true rfl) dX6_shut_3 (fun rr SS hP => ?_)
    rw [hP.1, hP.2]
    refine g_astore (pc := 6) C dX6_shut_6 (by decide) ?_
    refine g_aload (pc := 8) C dX6_shut_8 rfl ?_
    refine g_ifnull (pc := 10) C 22 dX6_shut_10 (by decide) (fun _ => ?_) (fun _ h => by cases h)
    refine g_iconst (pc := 22) C 0 dX6_shut_22 (by decide) ?_
    exact g_iret (pc := 23) C B rfl dX6_shut_23 (⟨rfl, rfl⟩)
  ·
    have hx := hmm
    refine Cn.of (by decide) (Nat.le_of_ble_eq_true rfl) ?_
    intro X Y hl hE hbase haw hfr C B
    subst hl; subst hE; subst hbase; subst haw
    refine g_aload_n (pc := 0) C dX6_shut_0 rfl ?_
    refine g_iload_n (pc := 1) C dX6_shut_1 rfl ?_
    refine g_iload_n (pc := 2) C dX6_shut_2 rfl ?_
    refine g_callV (pc := 3) C B mX6_81 (c_lAt_f _ _ _ _ _ mc lc hI p0 p1 h) rfl rfl rfl rfl (hX.1 0 (by decide)) (by decide) ⟨Nat.le_refl _, Nat.le_refl _⟩ (Nat.le_of_ble_eq_true rfl) dX6_shut_3 (fun rr SS hP => ?_)
    rw [hP.1, hP.2]
    refine g_astore (pc := 6) C dX6_shut_6 (by decide) ?_
    refine g_aload (pc := 8) C dX6_shut_8 rfl ?_
    refine g_ifnull (pc := 10) C 22 dX6_shut_10 (by decide) (fun _ => ?_) (fun _ h => by cases h)
    refine g_iconst (pc := 22) C 0 dX6_shut_22 (by decide) ?_
    exact g_iret (pc := 23) C B rfl dX6_shut_23 (⟨rfl, rfl⟩)

def t_X6_shut (S : Mm) (i : Nat) (j : Nat) (p0 : Int32) : Option AV × Mm := if (S.1 (3, i, j) 8) = p0 then (some (vi (0)), S) else (if p0 = 0 then (some (vi (1)), wI (wI S (3, i, j) 8 p0) (3, i, j) 7 0) else (some (vi (1)), wI S (3, i, j) 8 p0))
set_option maxHeartbeats 400000 in
set_option maxRecDepth 100000 in
theorem c_X6_shut (l : Launch) (E : En) (base aw : Nat) (S : Mm) (mc : Nat) (lc : Nat → Nat) (hI : IX S mc lc) (i : Nat) (hi : i < mc) (j : Nat) (hj : j < lc i) (p0 : Int32) (hon : p0 = 0 ∨ p0 = 1) : Cn l E base aw yX6_shut cX6_shut 5 (some Jvm.ClassFile.FieldType.boolean) 2 0 0 noF S [vr (0, 0, 0), vi (nI i), vi (nI j), vi p0] (fun r S' => (r, S') = t_X6_shut S i j p0) := by
  have hX := hI.1
  have hmc := hX.m6
  have hm := hX.ms hi
  have hn := hI.2.2 i hi
  have hn8 := hm.n8
  refine Cn.of (by decide) (Nat.le_of_ble_eq_true rfl) ?_
  intro X Y hl hE hbase haw hfr C B
  subst hl; subst hE; subst hbase; subst haw
  refine g_aload_n (pc := 0) C dX6_shut_0 rfl ?_
  refine g_iload_n (pc := 1) C dX6_shut_1 rfl ?_
  refine g_iload_n (pc := 2) C dX6_shut_2 rfl ?_
  refine g_callV (pc := 3) C B mX6_81 (c_lAt_t _ _ _ _ _ mc lc hI i hi j hj) rfl rfl rfl rfl (hX.1 0 (by decide)) (by decide) ⟨Nat.le_refl _, Nat.le_refl _⟩ (Nat.le_of_ble_eq_true rfl) dX6_shut_3 (fun rr SS hP => ?_)
  rw [hP.1, hP.2]
  refine g_astore (pc := 6) C dX6_shut_6 (by decide) ?_
  refine g_aload (pc := 8) C dX6_shut_8 rfl ?_
  refine g_ifnull (pc := 10) C 22 dX6_shut_10 (by decide) (fun h => by cases h) (fun _ _ => ?_)
  refine g_aload (pc := 13) C dX6_shut_13 rfl ?_
  refine g_geti (pc := 15) C fX6_110 rfl (hm.ln (by omega)) dX6_shut_15 rfl ?_
  refine g_iload_n (pc := 18) C dX6_shut_18 rfl ?_
  refine g_icmp_ne (pc := 19) C 24 dX6_shut_19 (by decide) (fun h19 => ?_) (fun h19 => ?_)
  ·
    refine g_aload (pc := 24) C dX6_shut_24 rfl ?_
    refine g_iload_n (pc := 26) C dX6_shut_26 rfl ?_
    refine g_puti (pc := 27) C fX6_110 (Or.inl fm2_8) rfl (hm.ln (by omega)) dX6_shut_27 (Or.inr ⟨rfl, (by assumption)⟩) ?_
    refine g_iload_n (pc := 30) C dX6_shut_30 rfl ?_
    refine g_if_ne (pc := 31) C 40 dX6_shut_31 (by decide) (fun h31 => ?_) (fun h31 => ?_)
    ·
      refine g_iconst (pc := 40) C 1 dX6_shut_40 (by decide) ?_
      exact g_iret (pc := 41) C B rfl dX6_shut_41 (by show (_, _) = t_X6_shut S i j p0; unfold t_X6_shut; rw [if_neg h19, if_neg h31])
    ·
      refine g_aload (pc := 34) C dX6_shut_34 rfl ?_
      refine g_iconst (pc := 36) C 0 dX6_shut_36 (by decide) ?_
      refine g_puti (pc := 37) C fX6_114 (Or.inl fm2_7) rfl (hm.ln (by omega)) dX6_shut_37 (Or.inl rfl) ?_
      refine g_iconst (pc := 40) C 1 dX6_shut_40 (by decide) ?_
      exact g_iret (pc := 41) C B rfl dX6_shut_41 (by show (_, _) = t_X6_shut S i j p0; unfold t_X6_shut; rw [if_neg h19, if_pos h31])
  ·
    refine g_iconst (pc := 22) C 0 dX6_shut_22 (by decide) ?_
    exact g_iret (pc := 23) C B rfl dX6_shut_23 (by show (_, _) = t_X6_shut S i j p0; unfold t_X6_shut; rw [if_pos h19])

set_option maxHeartbeats 400000 in
set_option maxRecDepth 100000 in
theorem c_X6_power_b (l : Launch) (E : En) (base aw : Nat) (S : Mm) (mc : Nat) (lc : Nat → Nat) (hI : IX S mc lc) (p0 p1 : Int32) (hx : ¬ okN mc p0) : Cn l E base aw yX6_power cX6_power 4 (some Jvm.ClassFile.FieldType.boolean) 1 0 0 noF S [vr (0, 0, 0), vi p0, vi p1] (fun r S' => r = some (vi 0) ∧ S' = S) := by
  have hX := hI.1
  have hmc := hX.m6
  refine Cn.of (by decide) (Nat.le_of_ble_eq_true rfl) ?_
  intro X Y hl hE hbase haw hfr C B
  subst hl; subst hE; subst hbase; subst haw
  refine g_aload_n (pc := 0) C dX6_power_0 rfl ?_
  refine g_iload_n (pc := 1) C dX6_power_1 rfl ?_
  refine g_callV (pc := 2) C B mX6_57 (c_mAt_f _ _ _ _ _ mc lc hI p0 hx) rfl rfl rfl rfl (hX.1 0 (by decide)) (by decide) ⟨Nat.le_refl _, Nat.le_refl _⟩ (Nat.le_of_ble_eq_true rfl) dX6_power_2 (fun rr SS hP => ?_)
  rw [hP.1, hP.2]
  refine g_astore_n (pc := 5) C dX6_power_5 (by decide) ?_
  refine g_aload_n (pc := 6) C dX6_power_6 rfl ?_
  refine g_ifnull (pc := 7) C 18 dX6_power_7 (by decide) (fun _ => ?_) (fun _ h => by cases h)
  refine g_iconst (pc := 18) C 0 dX6_power_18 (by decide) ?_
  exact g_iret (pc := 19) C B rfl dX6_power_19 (⟨rfl, rfl⟩)

def t_X6_power (S : Mm) (i : Nat) (p0 : Int32) : Option AV × Mm := if (S.1 (1, i, 0) 4) = p0 then (some (vi (0)), S) else (some (vi (1)), wI (wI S (1, i, 0) 4 p0) (1, i, 0) 5 0)
set_option maxHeartbeats 400000 in
set_option maxRecDepth 100000 in
theorem c_X6_power (l : Launch) (E : En) (base aw : Nat) (S : Mm) (mc : Nat) (lc : Nat → Nat) (hI : IX S mc lc) (i : Nat) (hi : i < mc) (p0 : Int32) (hon : p0 = 0 ∨ p0 = 1) : Cn l E base aw yX6_power cX6_power 4 (some Jvm.ClassFile.FieldType.boolean) 1 0 0 noF S [vr (0, 0, 0), vi (nI i), vi p0] (fun r S' => (r, S') = t_X6_power S i p0) := by
  have hX := hI.1
  have hmc := hX.m6
  have hm := hX.ms hi
  have hn := hI.2.2 i hi
  have hn8 := hm.n8
  refine Cn.of (by decide) (Nat.le_of_ble_eq_true rfl) ?_
  intro X Y hl hE hbase haw hfr C B
  subst hl; subst hE; subst hbase; subst haw
  refine g_aload_n (pc := 0) C dX6_power_0 rfl ?_
  refine g_iload_n (pc := 1) C dX6_power_1 rfl ?_
  refine g_callV (pc := 2) C B mX6_57 (c_mAt_t _ _ _ _ _ mc lc hI i hi) rfl rfl rfl rfl (hX.1 0 (by decide)) (by decide) ⟨Nat.le_refl _, Nat.le_refl _⟩ (Nat.le_of_ble_eq_true rfl) dX6_power_2 (fun rr SS hP => ?_)
  rw [hP.1, hP.2]
  refine g_astore_n (pc := 5) C dX6_power_5 (by decide) ?_
  refine g_aload_n (pc := 6) C dX6_power_6 rfl ?_
  refine g_ifnull (pc := 7) C 18 dX6_power_7 (by decide) (fun h => by cases h) (fun _ _ => ?_)
  refine g_aload_n (pc := 10) C dX6_power_10 rfl ?_
  refine g_geti (pc := 11) C fX6_117 rfl (hm.1 0 (by decide)) dX6_power_11 rfl ?_
  refine g_iload_n (pc := 14) C dX6_power_14 rfl ?_
  refine g_icmp_ne (pc := 15) C 20 dX6_power_15 (by decide) (fun h15 => ?_) (fun h15 => ?_)
  ·
    refine g_aload_n (pc := 20) C dX6_power_20 rfl ?_
    refine g_iload_n (pc := 21) C dX6_power_21 rfl ?_
    refine g_puti (pc := 22) C fX6_117 (Or.inl fm3_4) rfl (hm.1 0 (by decide)) dX6_power_22 (Or.inr ⟨rfl, (by assumption)⟩) ?_
    refine g_aload_n (pc := 25) C dX6_power_25 rfl ?_
    refine g_iconst (pc := 26) C 0 dX6_power_26 (by decide) ?_
    refine g_puti (pc := 27) C fX6_120 (Or.inl fm3_5) rfl (hm.1 0 (by decide)) dX6_power_27 (Or.inl rfl) ?_
    refine g_iconst (pc := 30) C 1 dX6_power_30 (by decide) ?_
    exact g_iret (pc := 31) C B rfl dX6_power_31 (by show (_, _) = t_X6_power S i p0; unfold t_X6_power; rw [if_neg h15])
  ·
    refine g_iconst (pc := 18) C 0 dX6_power_18 (by decide) ?_
    exact g_iret (pc := 19) C B rfl dX6_power_19 (by show (_, _) = t_X6_power S i p0; unfold t_X6_power; rw [if_pos h15])

set_option maxHeartbeats 400000 in
set_option maxRecDepth 100000 in
theorem c_X6_tube_b (l : Launch) (E : En) (base aw : Nat) (S : Mm) (mc : Nat) (lc : Nat → Nat) (hI : IX S mc lc) (p0 p1 p2 : Int32) (h : ¬ (okN mc p0 ∧ okN 6 p1)) : Cn l E base aw yX6_tube cX6_tube 5 (some Jvm.ClassFile.FieldType.int) 1 0 0 noF S [vr (0, 0, 0), vi p0, vi p1, vi p2] (fun r S' => r = some (vi (-1)) ∧ S' = rfX S 1) := by
  have hX := hI.1
  have hmc := hX.m6
  by_cases hmm : okN mc p0
  ·
    obtain ⟨i, hi, rfl⟩ := hmm
    have hm := hX.ms hi
    have hn := hI.2.2 i hi
    have hx : ¬ okN 6 p1 := fun q => h ⟨⟨i, hi, rfl⟩, q⟩
    refine Cn.of (by decide) (Nat.le_of_ble_eq_true rfl) ?_
    intro X Y hl hE hbase haw hfr C B
    subst hl; subst hE; subst hbase; subst haw
    refine g_aload_n (pc := 0) C dX6_tube_0 rfl ?_
    refine g_iload_n (pc := 1) C dX6_tube_1 rfl ?_
    refine g_callV (pc := 2) C B mX6_57 (c_mAt_t _ _ _ _ _ mc lc hI i hi) rfl rfl rfl rfl (hX.1 0 (by decide)) (by decide) ⟨Nat.le_refl _, Nat.le_refl _⟩ (Nat.le_of_ble_eq_true rfl) dX6_tube_2 (fun rr SS hP => ?_)
    rw [hP.1, hP.2]
    refine g_astore (pc := 5) C dX6_tube_5 (by decide) ?_
    refine g_aload (pc := 7) C dX6_tube_7 rfl ?_
    refine g_ifnull (pc := 9) C 19 dX6_tube_9 (by decide) (fun h => by cases h) (fun _ _ => ?_)
    refine g_iload_n (pc := 12) C dX6_tube_12 rfl ?_
    refine g_callS (pc := 13) C B mX6_88 (c_isW_f _ _ _ _ _ p1 hx) rfl rfl (by decide) ⟨Nat.le_refl _, Nat.le_refl _⟩ (Nat.le_of_ble_eq_true rfl) dX6_tube_13 (fun rr SS hP => ?_)
    rw [hP.1, hP.2]
    refine g_if_ne (pc := 16) C 25 dX6_tube_16 (by decide) (fun h16 => absurd (by decide) h16) (fun _ => ?_)
    refine g_aload_n (pc := 19) C dX6_tube_19 rfl ?_
    refine g_iconst (pc := 20) C (-1) dX6_tube_20 (by decide) ?_
    refine g_callV (pc := 21) C B mX6_52 (c_xrefuse _ _ _ _ _ mc lc hX (-1) 1 (by decide) (by decide) (by decide)) rfl rfl rfl rfl (hX.1 0 (by decide)) (by decide) ⟨Nat.le_refl _, Nat.le_refl _⟩ (Nat.le_of_ble_eq_true rfl) dX6_tube_21 (fun rr SS hP => ?_)
    rw [hP.1, hP.2]
    exact g_iret (pc := 24) C B rfl dX6_tube_24 (⟨rfl, rfl⟩)
  ·
    have hx := hmm
    refine Cn.of (by decide) (Nat.le_of_ble_eq_true rfl) ?_
    intro X Y hl hE hbase haw hfr C B
    subst hl; subst hE; subst hbase; subst haw
    refine g_aload_n (pc := 0) C dX6_tube_0 rfl ?_
    refine g_iload_n (pc := 1) C dX6_tube_1 rfl ?_
    refine g_callV (pc := 2) C B mX6_57 (c_mAt_f _ _ _ _ _ mc lc hI p0 hx) rfl rfl rfl rfl (hX.1 0 (by decide)) (by decide) ⟨Nat.le_refl _, Nat.le_refl _⟩ (Nat.le_of_ble_eq_true rfl) dX6_tube_2 (fun rr SS hP => ?_)
    rw [hP.1, hP.2]
    refine g_astore (pc := 5) C dX6_tube_5 (by decide) ?_
    refine g_aload (pc := 7) C dX6_tube_7 rfl ?_
    refine g_ifnull (pc := 9) C 19 dX6_tube_9 (by decide) (fun _ => ?_) (fun _ h => by cases h)
    refine g_aload_n (pc := 19) C dX6_tube_19 rfl ?_
    refine g_iconst (pc := 20) C (-1) dX6_tube_20 (by decide) ?_
    refine g_callV (pc := 21) C B mX6_52 (c_xrefuse _ _ _ _ _ mc lc hX (-1) 1 (by decide) (by decide) (by decide)) rfl rfl rfl rfl (hX.1 0 (by decide)) (by decide) ⟨Nat.le_refl _, Nat.le_refl _⟩ (Nat.le_of_ble_eq_true rfl) dX6_tube_21 (fun rr SS hP => ?_)
    rw [hP.1, hP.2]
    exact g_iret (pc := 24) C B rfl dX6_tube_24 (⟨rfl, rfl⟩)

def t_X6_tube (S : Mm) (i : Nat) (w : Nat) (p0 : Int32) : Option AV × Mm := if 0 ≤ p0 then (if p0 ≤ (50 - (S.1 (1, i, 3) w)) then (some (vi ((wI (wI S (1, i, 3) w (S.1 (1, i, 3) w + p0)) (1, i, 6) w (S.1 (1, i, 6) w + p0)).1 (1, i, 3) w)), wI (wI S (1, i, 3) w (S.1 (1, i, 3) w + p0)) (1, i, 6) w (S.1 (1, i, 6) w + p0)) else (some (vi ((-6))), rfX S 6)) else (some (vi ((-4))), rfX S 4)
set_option maxHeartbeats 400000 in
set_option maxRecDepth 100000 in
theorem c_X6_tube (l : Launch) (E : En) (base aw : Nat) (S : Mm) (mc : Nat) (lc : Nat → Nat) (hI : IX S mc lc) (i : Nat) (hi : i < mc) (w : Nat) (hw : w < 6) (p0 : Int32) : Cn l E base aw yX6_tube cX6_tube 5 (some Jvm.ClassFile.FieldType.int) 1 0 0 noF S [vr (0, 0, 0), vi (nI i), vi (nI w), vi p0] (fun r S' => (r, S') = t_X6_tube S i w p0) := by
  have hX := hI.1
  have hmc := hX.m6
  have hm := hX.ms hi
  have hn := hI.2.2 i hi
  have hn8 := hm.n8
  refine Cn.of (by decide) (Nat.le_of_ble_eq_true rfl) ?_
  intro X Y hl hE hbase haw hfr C B
  subst hl; subst hE; subst hbase; subst haw
  refine g_aload_n (pc := 0) C dX6_tube_0 rfl ?_
  refine g_iload_n (pc := 1) C dX6_tube_1 rfl ?_
  refine g_callV (pc := 2) C B mX6_57 (c_mAt_t _ _ _ _ _ mc lc hI i hi) rfl rfl rfl rfl (hX.1 0 (by decide)) (by decide) ⟨Nat.le_refl _, Nat.le_refl _⟩ (Nat.le_of_ble_eq_true rfl) dX6_tube_2 (fun rr SS hP => ?_)
  rw [hP.1, hP.2]
  refine g_astore (pc := 5) C dX6_tube_5 (by decide) ?_
  refine g_aload (pc := 7) C dX6_tube_7 rfl ?_
  refine g_ifnull (pc := 9) C 19 dX6_tube_9 (by decide) (fun h => by cases h) (fun _ _ => ?_)
  refine g_iload_n (pc := 12) C dX6_tube_12 rfl ?_
  refine g_callS (pc := 13) C B mX6_88 (c_isW_t _ _ _ _ _ w hw) rfl rfl (by decide) ⟨Nat.le_refl _, Nat.le_refl _⟩ (Nat.le_of_ble_eq_true rfl) dX6_tube_13 (fun rr SS hP => ?_)
  rw [hP.1, hP.2]
  refine g_if_ne (pc := 16) C 25 dX6_tube_16 (by decide) (fun _ => ?_) (fun h16 => absurd h16 (by decide))
  refine g_iload_n (pc := 25) C dX6_tube_25 rfl ?_
  refine g_if_ge (pc := 26) C 36 dX6_tube_26 (by decide) (fun h26 => ?_) (fun h26 => ?_)
  ·
    refine g_iload_n (pc := 36) C dX6_tube_36 rfl ?_
    refine g_bipush (pc := 37) C 50 dX6_tube_37 (by decide) ?_
    refine g_aload (pc := 39) C dX6_tube_39 rfl ?_
    refine g_getr (pc := 41) C fX6_91 rfl (hm.1 0 (by decide)) dX6_tube_41 rfl hm.r1 ?_
    refine g_getr (pc := 44) C fX6_95 rfl (hm.1 2 (by decide)) dX6_tube_44 rfl hm.t0 ?_
    refine g_iload_n (pc := 47) C dX6_tube_47 rfl ?_
    refine g_ialdN (pc := 48) C rfl (hm.1 3 (by decide)) (by omega) (by decide) dX6_tube_48 ?_
    refine g_isub (pc := 49) C dX6_tube_49 ?_
    refine g_icmp_le (pc := 50) C 60 dX6_tube_50 (by decide) (fun h50 => ?_) (fun h50 => ?_)
    ·
      refine g_aload (pc := 60) C dX6_tube_60 rfl ?_
      refine g_getr (pc := 62) C fX6_91 rfl (hm.1 0 (by decide)) dX6_tube_62 rfl hm.r1 ?_
      refine g_iload_n (pc := 65) C dX6_tube_65 rfl ?_
      refine g_iload_n (pc := 66) C dX6_tube_66 rfl ?_
      refine g_callV (pc := 67) C B mX6_100 (c_addTube _ _ _ _ _ i (lc i) hm w hw p0) rfl rfl rfl rfl (hm.1 2 (by decide)) (by decide) ⟨Nat.le_refl _, Nat.le_refl _⟩ (Nat.le_of_ble_eq_true rfl) dX6_tube_67 (fun rr SS hP => ?_)
      rw [hP.1, hP.2]
      refine g_aload (pc := 70) C dX6_tube_70 rfl ?_
      refine g_getr (pc := 72) C fX6_91 rfl (hm.1 0 (by decide)) dX6_tube_72 rfl hm.r1 ?_
      refine g_getr (pc := 75) C fX6_95 rfl (hm.1 2 (by decide)) dX6_tube_75 rfl hm.t0 ?_
      refine g_iload_n (pc := 78) C dX6_tube_78 rfl ?_
      refine g_ialdN (pc := 79) C rfl (hm.1 3 (by decide)) (by omega) (by decide) dX6_tube_79 ?_
      exact g_iret (pc := 80) C B rfl dX6_tube_80 (by show (_, _) = t_X6_tube S i w p0; unfold t_X6_tube; rw [if_pos h26, if_pos h50])
    ·
      refine g_aload_n (pc := 53) C dX6_tube_53 rfl ?_
      refine g_bipush (pc := 54) C (-6) dX6_tube_54 (by decide) ?_
      refine g_callV (pc := 56) C B mX6_52 (c_xrefuse _ _ _ _ _ mc lc hX (-6) 6 (by decide) (by decide) (by decide)) rfl rfl rfl rfl (hX.1 0 (by decide)) (by decide) ⟨Nat.le_refl _, Nat.le_refl _⟩ (Nat.le_of_ble_eq_true rfl) dX6_tube_56 (fun rr SS hP => ?_)
      rw [hP.1, hP.2]
      exact g_iret (pc := 59) C B rfl dX6_tube_59 (by show (_, _) = t_X6_tube S i w p0; unfold t_X6_tube; rw [if_pos h26, if_neg h50])
  ·
    refine g_aload_n (pc := 29) C dX6_tube_29 rfl ?_
    refine g_bipush (pc := 30) C (-4) dX6_tube_30 (by decide) ?_
    refine g_callV (pc := 32) C B mX6_52 (c_xrefuse _ _ _ _ _ mc lc hX (-4) 4 (by decide) (by decide) (by decide)) rfl rfl rfl rfl (hX.1 0 (by decide)) (by decide) ⟨Nat.le_refl _, Nat.le_refl _⟩ (Nat.le_of_ble_eq_true rfl) dX6_tube_32 (fun rr SS hP => ?_)
    rw [hP.1, hP.2]
    exact g_iret (pc := 35) C B rfl dX6_tube_35 (by show (_, _) = t_X6_tube S i w p0; unfold t_X6_tube; rw [if_neg h26])

set_option maxHeartbeats 400000 in
set_option maxRecDepth 100000 in
theorem c_X6_tubeOf_b (l : Launch) (E : En) (base aw : Nat) (S : Mm) (mc : Nat) (lc : Nat → Nat) (hI : IX S mc lc) (p0 p1 : Int32) (h : ¬ (okN mc p0 ∧ okN 6 p1)) : Cn l E base aw yX6_tubeOf cX6_tubeOf 4 (some Jvm.ClassFile.FieldType.int) 1 0 0 noF S [vr (0, 0, 0), vi p0, vi p1] (fun r S' => r = some (vi (-1)) ∧ S' = rfX S 1) := by
  have hX := hI.1
  have hmc := hX.m6
  by_cases hmm : okN mc p0
  ·
    obtain ⟨i, hi, rfl⟩ := hmm
    have hm := hX.ms hi
    have hn := hI.2.2 i hi
    have hx : ¬ okN 6 p1 := fun q => h ⟨⟨i, hi, rfl⟩, q⟩
    refine Cn.of (by decide) (Nat.le_of_ble_eq_true rfl) ?_
    intro X Y hl hE hbase haw hfr C B
    subst hl; subst hE; subst hbase; subst haw
    refine g_aload_n (pc := 0) C dX6_tubeOf_0 rfl ?_
    refine g_iload_n (pc := 1) C dX6_tubeOf_1 rfl ?_
    refine g_callV (pc := 2) C B mX6_57 (c_mAt_t _ _ _ _ _ mc lc hI i hi) rfl rfl rfl rfl (hX.1 0 (by decide)) (by decide) ⟨Nat.le_refl _, Nat.le_refl _⟩ (Nat.le_of_ble_eq_true rfl) dX6_tubeOf_2 (fun rr SS hP => ?_)
    rw [hP.1, hP.2]
    refine g_astore_n (pc := 5) C dX6_tubeOf_5 (by decide) ?_
    refine g_aload_n (pc := 6) C dX6_tubeOf_6 rfl ?_
    refine g_ifnull (pc := 7) C 17 dX6_tubeOf_7 (by decide) (fun h => by cases h) (fun _ _ => ?_)
    refine g_iload_n (pc := 10) C dX6_tubeOf_10 rfl ?_
    refine g_callS (pc := 11) C B mX6_88 (c_isW_f _ _ _ _ _ p1 hx) rfl rfl (by decide) ⟨Nat.le_refl _, Nat.le_refl _⟩ (Nat.le_of_ble_eq_true rfl) dX6_tubeOf_11 (fun rr SS hP => ?_)
    rw [hP.1, hP.2]
    refine g_if_ne (pc := 14) C 23 dX6_tubeOf_14 (by decide) (fun h14 => absurd (by decide) h14) (fun _ => ?_)
    refine g_aload_n (pc := 17) C dX6_tubeOf_17 rfl ?_
    refine g_iconst (pc := 18) C (-1) dX6_tubeOf_18 (by decide) ?_
    refine g_callV (pc := 19) C B mX6_52 (c_xrefuse _ _ _ _ _ mc lc hX (-1) 1 (by decide) (by decide) (by decide)) rfl rfl rfl rfl (hX.1 0 (by decide)) (by decide) ⟨Nat.le_refl _, Nat.le_refl _⟩ (Nat.le_of_ble_eq_true rfl) dX6_tubeOf_19 (fun rr SS hP => ?_)
    rw [hP.1, hP.2]
    exact g_iret (pc := 22) C B rfl dX6_tubeOf_22 (⟨rfl, rfl⟩)
  ·
    have hx := hmm
    refine Cn.of (by decide) (Nat.le_of_ble_eq_true rfl) ?_
    intro X Y hl hE hbase haw hfr C B
    subst hl; subst hE; subst hbase; subst haw
    refine g_aload_n (pc := 0) C dX6_tubeOf_0 rfl ?_
    refine g_iload_n (pc := 1) C dX6_tubeOf_1 rfl ?_
    refine g_callV (pc := 2) C B mX6_57 (c_mAt_f _ _ _ _ _ mc lc hI p0 hx) rfl rfl rfl rfl (hX.1 0 (by decide)) (by decide) ⟨Nat.le_refl _, Nat.le_refl _⟩ (Nat.le_of_ble_eq_true rfl) dX6_tubeOf_2 (fun rr SS hP => ?_)
    rw [hP.1, hP.2]
    refine g_astore_n (pc := 5) C dX6_tubeOf_5 (by decide) ?_
    refine g_aload_n (pc := 6) C dX6_tubeOf_6 rfl ?_
    refine g_ifnull (pc := 7) C 17 dX6_tubeOf_7 (by decide) (fun _ => ?_) (fun _ h => by cases h)
    refine g_aload_n (pc := 17) C dX6_tubeOf_17 rfl ?_
    refine g_iconst (pc := 18) C (-1) dX6_tubeOf_18 (by decide) ?_
    refine g_callV (pc := 19) C B mX6_52 (c_xrefuse _ _ _ _ _ mc lc hX (-1) 1 (by decide) (by decide) (by decide)) rfl rfl rfl rfl (hX.1 0 (by decide)) (by decide) ⟨Nat.le_refl _, Nat.le_refl _⟩ (Nat.le_of_ble_eq_true rfl) dX6_tubeOf_19 (fun rr SS hP => ?_)
    rw [hP.1, hP.2]
    exact g_iret (pc := 22) C B rfl dX6_tubeOf_22 (⟨rfl, rfl⟩)

set_option maxHeartbeats 400000 in
set_option maxRecDepth 100000 in
theorem c_X6_tubeOf (l : Launch) (E : En) (base aw : Nat) (S : Mm) (mc : Nat) (lc : Nat → Nat) (hI : IX S mc lc) (i : Nat) (hi : i < mc) (w : Nat) (hw : w < 6) : Cn l E base aw yX6_tubeOf cX6_tubeOf 4 (some Jvm.ClassFile.FieldType.int) 1 0 0 noF S [vr (0, 0, 0), vi (nI i), vi (nI w)] (fun r S' => r = some (vi (S.1 (1, i, 3) w)) ∧ S' = S) := by
  have hX := hI.1
  have hmc := hX.m6
  have hm := hX.ms hi
  have hn := hI.2.2 i hi
  have hn8 := hm.n8
  refine Cn.of (by decide) (Nat.le_of_ble_eq_true rfl) ?_
  intro X Y hl hE hbase haw hfr C B
  subst hl; subst hE; subst hbase; subst haw
  refine g_aload_n (pc := 0) C dX6_tubeOf_0 rfl ?_
  refine g_iload_n (pc := 1) C dX6_tubeOf_1 rfl ?_
  refine g_callV (pc := 2) C B mX6_57 (c_mAt_t _ _ _ _ _ mc lc hI i hi) rfl rfl rfl rfl (hX.1 0 (by decide)) (by decide) ⟨Nat.le_refl _, Nat.le_refl _⟩ (Nat.le_of_ble_eq_true rfl) dX6_tubeOf_2 (fun rr SS hP => ?_)
  rw [hP.1, hP.2]
  refine g_astore_n (pc := 5) C dX6_tubeOf_5 (by decide) ?_
  refine g_aload_n (pc := 6) C dX6_tubeOf_6 rfl ?_
  refine g_ifnull (pc := 7) C 17 dX6_tubeOf_7 (by decide) (fun h => by cases h) (fun _ _ => ?_)
  refine g_iload_n (pc := 10) C dX6_tubeOf_10 rfl ?_
  refine g_callS (pc := 11) C B mX6_88 (c_isW_t _ _ _ _ _ w hw) rfl rfl (by decide) ⟨Nat.le_refl _, Nat.le_refl _⟩ (Nat.le_of_ble_eq_true rfl) dX6_tubeOf_11 (fun rr SS hP => ?_)
  rw [hP.1, hP.2]
  refine g_if_ne (pc := 14) C 23 dX6_tubeOf_14 (by decide) (fun _ => ?_) (fun h14 => absurd h14 (by decide))
  refine g_aload_n (pc := 23) C dX6_tubeOf_23 rfl ?_
  refine g_getr (pc := 24) C fX6_91 rfl (hm.1 0 (by decide)) dX6_tubeOf_24 rfl hm.r1 ?_
  refine g_getr (pc := 27) C fX6_95 rfl (hm.1 2 (by decide)) dX6_tubeOf_27 rfl hm.t0 ?_
  refine g_iload_n (pc := 30) C dX6_tubeOf_30 rfl ?_
  refine g_ialdN (pc := 31) C rfl (hm.1 3 (by decide)) (by omega) (by decide) dX6_tubeOf_31 ?_
  exact g_iret (pc := 32) C B rfl dX6_tubeOf_32 (⟨rfl, rfl⟩)

set_option maxHeartbeats 400000 in
set_option maxRecDepth 100000 in
theorem c_X6_insert_b (l : Launch) (E : En) (base aw : Nat) (S : Mm) (mc : Nat) (lc : Nat → Nat) (hI : IX S mc lc) (p0 p1 : Int32) (h : ¬ (okN mc p0 ∧ okN 6 p1)) : Cn l E base aw yX6_insert cX6_insert 4 (some Jvm.ClassFile.FieldType.int) 1 0 0 noF S [vr (0, 0, 0), vi p0, vi p1] (fun r S' => r = some (vi (-1)) ∧ S' = rfX S 1) := by
  have hX := hI.1
  have hmc := hX.m6
  by_cases hmm : okN mc p0
  ·
    obtain ⟨i, hi, rfl⟩ := hmm
    have hm := hX.ms hi
    have hn := hI.2.2 i hi
    have hx : ¬ okN 6 p1 := fun q => h ⟨⟨i, hi, rfl⟩, q⟩
    refine Cn.of (by decide) (Nat.le_of_ble_eq_true rfl) ?_
    intro X Y hl hE hbase haw hfr C B
    subst hl; subst hE; subst hbase; subst haw
    refine g_aload_n (pc := 0) C dX6_insert_0 rfl ?_
    refine g_iload_n (pc := 1) C dX6_insert_1 rfl ?_
    refine g_callV (pc := 2) C B mX6_57 (c_mAt_t _ _ _ _ _ mc lc hI i hi) rfl rfl rfl rfl (hX.1 0 (by decide)) (by decide) ⟨Nat.le_refl _, Nat.le_refl _⟩ (Nat.le_of_ble_eq_true rfl) dX6_insert_2 (fun rr SS hP => ?_)
    rw [hP.1, hP.2]
    refine g_astore_n (pc := 5) C dX6_insert_5 (by decide) ?_
    refine g_aload_n (pc := 6) C dX6_insert_6 rfl ?_
    refine g_ifnull (pc := 7) C 17 dX6_insert_7 (by decide) (fun h => by cases h) (fun _ _ => ?_)
    refine g_iload_n (pc := 10) C dX6_insert_10 rfl ?_
    refine g_callS (pc := 11) C B mX6_88 (c_isW_f _ _ _ _ _ p1 hx) rfl rfl (by decide) ⟨Nat.le_refl _, Nat.le_refl _⟩ (Nat.le_of_ble_eq_true rfl) dX6_insert_11 (fun rr SS hP => ?_)
    rw [hP.1, hP.2]
    refine g_if_ne (pc := 14) C 23 dX6_insert_14 (by decide) (fun h14 => absurd (by decide) h14) (fun _ => ?_)
    refine g_aload_n (pc := 17) C dX6_insert_17 rfl ?_
    refine g_iconst (pc := 18) C (-1) dX6_insert_18 (by decide) ?_
    refine g_callV (pc := 19) C B mX6_52 (c_xrefuse _ _ _ _ _ mc lc hX (-1) 1 (by decide) (by decide) (by decide)) rfl rfl rfl rfl (hX.1 0 (by decide)) (by decide) ⟨Nat.le_refl _, Nat.le_refl _⟩ (Nat.le_of_ble_eq_true rfl) dX6_insert_19 (fun rr SS hP => ?_)
    rw [hP.1, hP.2]
    exact g_iret (pc := 22) C B rfl dX6_insert_22 (⟨rfl, rfl⟩)
  ·
    have hx := hmm
    refine Cn.of (by decide) (Nat.le_of_ble_eq_true rfl) ?_
    intro X Y hl hE hbase haw hfr C B
    subst hl; subst hE; subst hbase; subst haw
    refine g_aload_n (pc := 0) C dX6_insert_0 rfl ?_
    refine g_iload_n (pc := 1) C dX6_insert_1 rfl ?_
    refine g_callV (pc := 2) C B mX6_57 (c_mAt_f _ _ _ _ _ mc lc hI p0 hx) rfl rfl rfl rfl (hX.1 0 (by decide)) (by decide) ⟨Nat.le_refl _, Nat.le_refl _⟩ (Nat.le_of_ble_eq_true rfl) dX6_insert_2 (fun rr SS hP => ?_)
    rw [hP.1, hP.2]
    refine g_astore_n (pc := 5) C dX6_insert_5 (by decide) ?_
    refine g_aload_n (pc := 6) C dX6_insert_6 rfl ?_
    refine g_ifnull (pc := 7) C 17 dX6_insert_7 (by decide) (fun _ => ?_) (fun _ h => by cases h)
    refine g_aload_n (pc := 17) C dX6_insert_17 rfl ?_
    refine g_iconst (pc := 18) C (-1) dX6_insert_18 (by decide) ?_
    refine g_callV (pc := 19) C B mX6_52 (c_xrefuse _ _ _ _ _ mc lc hX (-1) 1 (by decide) (by decide) (by decide)) rfl rfl rfl rfl (hX.1 0 (by decide)) (by decide) ⟨Nat.le_refl _, Nat.le_refl _⟩ (Nat.le_of_ble_eq_true rfl) dX6_insert_19 (fun rr SS hP => ?_)
    rw [hP.1, hP.2]
    exact g_iret (pc := 22) C B rfl dX6_insert_22 (⟨rfl, rfl⟩)

def t_X6_insert (S : Mm) (i : Nat) (w : Nat) : Option AV × Mm := if (S.1 (1, i, 2) 7) < 20 then (some (vi (wsum ((wI (wI (wI S (1, i, 5) w (S.1 (1, i, 5) w + 1)) (1, i, 6) w (S.1 (1, i, 6) w + 1)) (1, i, 2) 7 (S.1 (1, i, 2) 7 + 1)).1 (1, i, 5)) 6)), wI (wI (wI S (1, i, 5) w (S.1 (1, i, 5) w + 1)) (1, i, 6) w (S.1 (1, i, 6) w + 1)) (1, i, 2) 7 (S.1 (1, i, 2) 7 + 1)) else (some (vi ((-6))), rfX S 6)
set_option maxHeartbeats 400000 in
set_option maxRecDepth 100000 in
theorem c_X6_insert (l : Launch) (E : En) (base aw : Nat) (S : Mm) (mc : Nat) (lc : Nat → Nat) (hI : IX S mc lc) (i : Nat) (hi : i < mc) (w : Nat) (hw : w < 6) : Cn l E base aw yX6_insert cX6_insert 4 (some Jvm.ClassFile.FieldType.int) 1 0 0 noF S [vr (0, 0, 0), vi (nI i), vi (nI w)] (fun r S' => (r, S') = t_X6_insert S i w) := by
  have hX := hI.1
  have hmc := hX.m6
  have hm := hX.ms hi
  have hn := hI.2.2 i hi
  have hn8 := hm.n8
  refine Cn.of (by decide) (Nat.le_of_ble_eq_true rfl) ?_
  intro X Y hl hE hbase haw hfr C B
  subst hl; subst hE; subst hbase; subst haw
  refine g_aload_n (pc := 0) C dX6_insert_0 rfl ?_
  refine g_iload_n (pc := 1) C dX6_insert_1 rfl ?_
  refine g_callV (pc := 2) C B mX6_57 (c_mAt_t _ _ _ _ _ mc lc hI i hi) rfl rfl rfl rfl (hX.1 0 (by decide)) (by decide) ⟨Nat.le_refl _, Nat.le_refl _⟩ (Nat.le_of_ble_eq_true rfl) dX6_insert_2 (fun rr SS hP => ?_)
  rw [hP.1, hP.2]
  refine g_astore_n (pc := 5) C dX6_insert_5 (by decide) ?_
  refine g_aload_n (pc := 6) C dX6_insert_6 rfl ?_
  refine g_ifnull (pc := 7) C 17 dX6_insert_7 (by decide) (fun h => by cases h) (fun _ _ => ?_)
  refine g_iload_n (pc := 10) C dX6_insert_10 rfl ?_
  refine g_callS (pc := 11) C B mX6_88 (c_isW_t _ _ _ _ _ w hw) rfl rfl (by decide) ⟨Nat.le_refl _, Nat.le_refl _⟩ (Nat.le_of_ble_eq_true rfl) dX6_insert_11 (fun rr SS hP => ?_)
  rw [hP.1, hP.2]
  refine g_if_ne (pc := 14) C 23 dX6_insert_14 (by decide) (fun _ => ?_) (fun h14 => absurd h14 (by decide))
  refine g_aload_n (pc := 23) C dX6_insert_23 rfl ?_
  refine g_getr (pc := 24) C fX6_91 rfl (hm.1 0 (by decide)) dX6_insert_24 rfl hm.r1 ?_
  refine g_geti (pc := 27) C fX6_141 rfl (hm.1 2 (by decide)) dX6_insert_27 rfl ?_
  refine g_bipush (pc := 30) C 20 dX6_insert_30 (by decide) ?_
  refine g_icmp_lt (pc := 32) C 42 dX6_insert_32 (by decide) (fun h32 => ?_) (fun h32 => ?_)
  ·
    refine g_aload_n (pc := 42) C dX6_insert_42 rfl ?_
    refine g_getr (pc := 43) C fX6_91 rfl (hm.1 0 (by decide)) dX6_insert_43 rfl hm.r1 ?_
    refine g_iload_n (pc := 46) C dX6_insert_46 rfl ?_
    refine g_callV (pc := 47) C B mX6_144 (c_takeIn _ _ _ _ _ i (lc i) hm w hw) rfl rfl rfl rfl (hm.1 2 (by decide)) (by decide) ⟨Nat.le_refl _, Nat.le_refl _⟩ (Nat.le_of_ble_eq_true rfl) dX6_insert_47 (fun rr SS hP => ?_)
    rw [hP.1, hP.2]
    refine g_aload_n (pc := 50) C dX6_insert_50 rfl ?_
    refine g_getr (pc := 51) C fX6_91 rfl (hm.1 0 (by decide)) dX6_insert_51 rfl hm.r1 ?_
    refine g_getr (pc := 54) C fX6_148 rfl (hm.1 2 (by decide)) dX6_insert_54 rfl hm.t2 ?_
    refine g_callS (pc := 57) C B mX6_151 (c_xworth _ _ _ _ _ (1, i, 5) rfl (hm.1 5 (by decide))) rfl rfl (by decide) ⟨Nat.le_refl _, Nat.le_refl _⟩ (Nat.le_of_ble_eq_true rfl) dX6_insert_57 (fun rr SS hP => ?_)
    rw [hP.1, hP.2]
    exact g_iret (pc := 60) C B rfl dX6_insert_60 (by show (_, _) = t_X6_insert S i w; unfold t_X6_insert; rw [if_pos h32])
  ·
    refine g_aload_n (pc := 35) C dX6_insert_35 rfl ?_
    refine g_bipush (pc := 36) C (-6) dX6_insert_36 (by decide) ?_
    refine g_callV (pc := 38) C B mX6_52 (c_xrefuse _ _ _ _ _ mc lc hX (-6) 6 (by decide) (by decide) (by decide)) rfl rfl rfl rfl (hX.1 0 (by decide)) (by decide) ⟨Nat.le_refl _, Nat.le_refl _⟩ (Nat.le_of_ble_eq_true rfl) dX6_insert_38 (fun rr SS hP => ?_)
    rw [hP.1, hP.2]
    exact g_iret (pc := 41) C B rfl dX6_insert_41 (by show (_, _) = t_X6_insert S i w; unfold t_X6_insert; rw [if_neg h32])

set_option maxHeartbeats 400000 in
set_option maxRecDepth 100000 in
theorem c_X6_back_b (l : Launch) (E : En) (base aw : Nat) (S : Mm) (mc : Nat) (lc : Nat → Nat) (hI : IX S mc lc) (p0 : Int32) (hx : ¬ okN mc p0) : Cn l E base aw yX6_back cX6_back 3 (some Jvm.ClassFile.FieldType.int) 2 0 0 noF S [vr (0, 0, 0), vi p0] (fun r S' => r = some (vi (-1)) ∧ S' = rfX S 1) := by
  have hX := hI.1
  have hmc := hX.m6
  refine Cn.of (by decide) (Nat.le_of_ble_eq_true rfl) ?_
  intro X Y hl hE hbase haw hfr C B
  subst hl; subst hE; subst hbase; subst haw
  refine g_aload_n (pc := 0) C dX6_back_0 rfl ?_
  refine g_iload_n (pc := 1) C dX6_back_1 rfl ?_
  refine g_callV (pc := 2) C B mX6_57 (c_mAt_f _ _ _ _ _ mc lc hI p0 hx) rfl rfl rfl rfl (hX.1 0 (by decide)) (by decide) ⟨Nat.le_refl _, Nat.le_refl _⟩ (Nat.le_of_ble_eq_true rfl) dX6_back_2 (fun rr SS hP => ?_)
  rw [hP.1, hP.2]
  refine g_astore_n (pc := 5) C dX6_back_5 (by decide) ?_
  refine g_aload_n (pc := 6) C dX6_back_6 rfl ?_
  refine g_ifnonnull (pc := 7) C 16 dX6_back_7 (by decide) (fun _ h => by cases h) (fun _ => ?_)
  refine g_aload_n (pc := 10) C dX6_back_10 rfl ?_
  refine g_iconst (pc := 11) C (-1) dX6_back_11 (by decide) ?_
  refine g_callV (pc := 12) C B mX6_52 (c_xrefuse _ _ _ _ _ mc lc hX (-1) 1 (by decide) (by decide) (by decide)) rfl rfl rfl rfl (hX.1 0 (by decide)) (by decide) ⟨Nat.le_refl _, Nat.le_refl _⟩ (Nat.le_of_ble_eq_true rfl) dX6_back_12 (fun rr SS hP => ?_)
  rw [hP.1, hP.2]
  exact g_iret (pc := 15) C B rfl dX6_back_15 (⟨rfl, rfl⟩)

set_option maxHeartbeats 400000 in
set_option maxRecDepth 100000 in
theorem c_X6_back (l : Launch) (E : En) (base aw : Nat) (S : Mm) (mc : Nat) (lc : Nat → Nat) (hI : IX S mc lc) (i : Nat) (hi : i < mc) : Cn l E base aw yX6_back cX6_back 3 (some Jvm.ClassFile.FieldType.int) 2 0 0 noF S [vr (0, 0, 0), vi (nI i)] (fun r S' => r = some (vi (wsum (S.1 (1, i, 5)) 6)) ∧ S' = wI (gbX S i 6) (1, i, 2) 7 0) := by
  have hX := hI.1
  have hmc := hX.m6
  have hm := hX.ms hi
  have hn := hI.2.2 i hi
  have hn8 := hm.n8
  refine Cn.of (by decide) (Nat.le_of_ble_eq_true rfl) ?_
  intro X Y hl hE hbase haw hfr C B
  subst hl; subst hE; subst hbase; subst haw
  refine g_aload_n (pc := 0) C dX6_back_0 rfl ?_
  refine g_iload_n (pc := 1) C dX6_back_1 rfl ?_
  refine g_callV (pc := 2) C B mX6_57 (c_mAt_t _ _ _ _ _ mc lc hI i hi) rfl rfl rfl rfl (hX.1 0 (by decide)) (by decide) ⟨Nat.le_refl _, Nat.le_refl _⟩ (Nat.le_of_ble_eq_true rfl) dX6_back_2 (fun rr SS hP => ?_)
  rw [hP.1, hP.2]
  refine g_astore_n (pc := 5) C dX6_back_5 (by decide) ?_
  refine g_aload_n (pc := 6) C dX6_back_6 rfl ?_
  refine g_ifnonnull (pc := 7) C 16 dX6_back_7 (by decide) (fun _ _ => ?_) (fun h => by cases h)
  refine g_aload_n (pc := 16) C dX6_back_16 rfl ?_
  refine g_getr (pc := 17) C fX6_91 rfl (hm.1 0 (by decide)) dX6_back_17 rfl hm.r1 ?_
  refine g_callV (pc := 20) C B mX6_155 (c_giveBack _ _ _ _ _ i (lc i) hm) rfl rfl rfl rfl (hm.1 2 (by decide)) (by decide) ⟨Nat.le_refl _, Nat.le_refl _⟩ (Nat.le_of_ble_eq_true rfl) dX6_back_20 (fun rr SS hP => ?_)
  rw [hP.1, hP.2]
  exact g_iret (pc := 23) C B rfl dX6_back_23 (⟨rfl, rfl⟩)

set_option maxHeartbeats 400000 in
set_option maxRecDepth 100000 in
theorem c_X6_collect_b (l : Launch) (E : En) (base aw : Nat) (S : Mm) (mc : Nat) (lc : Nat → Nat) (hI : IX S mc lc) (p0 : Int32) (hx : ¬ okN mc p0) : Cn l E base aw yX6_collect cX6_collect 3 (some Jvm.ClassFile.FieldType.int) 2 0 0 noF S [vr (0, 0, 0), vi p0] (fun r S' => r = some (vi (-1)) ∧ S' = rfX S 1) := by
  have hX := hI.1
  have hmc := hX.m6
  refine Cn.of (by decide) (Nat.le_of_ble_eq_true rfl) ?_
  intro X Y hl hE hbase haw hfr C B
  subst hl; subst hE; subst hbase; subst haw
  refine g_aload_n (pc := 0) C dX6_collect_0 rfl ?_
  refine g_iload_n (pc := 1) C dX6_collect_1 rfl ?_
  refine g_callV (pc := 2) C B mX6_57 (c_mAt_f _ _ _ _ _ mc lc hI p0 hx) rfl rfl rfl rfl (hX.1 0 (by decide)) (by decide) ⟨Nat.le_refl _, Nat.le_refl _⟩ (Nat.le_of_ble_eq_true rfl) dX6_collect_2 (fun rr SS hP => ?_)
  rw [hP.1, hP.2]
  refine g_astore_n (pc := 5) C dX6_collect_5 (by decide) ?_
  refine g_aload_n (pc := 6) C dX6_collect_6 rfl ?_
  refine g_ifnonnull (pc := 7) C 16 dX6_collect_7 (by decide) (fun _ h => by cases h) (fun _ => ?_)
  refine g_aload_n (pc := 10) C dX6_collect_10 rfl ?_
  refine g_iconst (pc := 11) C (-1) dX6_collect_11 (by decide) ?_
  refine g_callV (pc := 12) C B mX6_52 (c_xrefuse _ _ _ _ _ mc lc hX (-1) 1 (by decide) (by decide) (by decide)) rfl rfl rfl rfl (hX.1 0 (by decide)) (by decide) ⟨Nat.le_refl _, Nat.le_refl _⟩ (Nat.le_of_ble_eq_true rfl) dX6_collect_12 (fun rr SS hP => ?_)
  rw [hP.1, hP.2]
  exact g_iret (pc := 15) C B rfl dX6_collect_15 (⟨rfl, rfl⟩)

set_option maxHeartbeats 400000 in
set_option maxRecDepth 100000 in
theorem c_X6_collect (l : Launch) (E : En) (base aw : Nat) (S : Mm) (mc : Nat) (lc : Nat → Nat) (hI : IX S mc lc) (i : Nat) (hi : i < mc) : Cn l E base aw yX6_collect cX6_collect 3 (some Jvm.ClassFile.FieldType.int) 2 0 0 noF S [vr (0, 0, 0), vi (nI i)] (fun r S' => r = some (vi (wsum (S.1 (1, i, 4)) 6)) ∧ S' = ebX S i 6) := by
  have hX := hI.1
  have hmc := hX.m6
  have hm := hX.ms hi
  have hn := hI.2.2 i hi
  have hn8 := hm.n8
  refine Cn.of (by decide) (Nat.le_of_ble_eq_true rfl) ?_
  intro X Y hl hE hbase haw hfr C B
  subst hl; subst hE; subst hbase; subst haw
  refine g_aload_n (pc := 0) C dX6_collect_0 rfl ?_
  refine g_iload_n (pc := 1) C dX6_collect_1 rfl ?_
  refine g_callV (pc := 2) C B mX6_57 (c_mAt_t _ _ _ _ _ mc lc hI i hi) rfl rfl rfl rfl (hX.1 0 (by decide)) (by decide) ⟨Nat.le_refl _, Nat.le_refl _⟩ (Nat.le_of_ble_eq_true rfl) dX6_collect_2 (fun rr SS hP => ?_)
  rw [hP.1, hP.2]
  refine g_astore_n (pc := 5) C dX6_collect_5 (by decide) ?_
  refine g_aload_n (pc := 6) C dX6_collect_6 rfl ?_
  refine g_ifnonnull (pc := 7) C 16 dX6_collect_7 (by decide) (fun _ _ => ?_) (fun h => by cases h)
  refine g_aload_n (pc := 16) C dX6_collect_16 rfl ?_
  refine g_getr (pc := 17) C fX6_91 rfl (hm.1 0 (by decide)) dX6_collect_17 rfl hm.r1 ?_
  refine g_callV (pc := 20) C B mX6_238 (c_emptyBox _ _ _ _ _ i (lc i) hm) rfl rfl rfl rfl (hm.1 2 (by decide)) (by decide) ⟨Nat.le_refl _, Nat.le_refl _⟩ (Nat.le_of_ble_eq_true rfl) dX6_collect_20 (fun rr SS hP => ?_)
  rw [hP.1, hP.2]
  exact g_iret (pc := 23) C B rfl dX6_collect_23 (⟨rfl, rfl⟩)

set_option maxHeartbeats 400000 in
set_option maxRecDepth 100000 in
theorem c_X6_check_b (l : Launch) (E : En) (base aw : Nat) (S : Mm) (mc : Nat) (lc : Nat → Nat) (hI : IX S mc lc) (p0 : Int32) (hx : ¬ okN mc p0) : Cn l E base aw yX6_check cX6_check 3 (some Jvm.ClassFile.FieldType.boolean) 2 0 0 noF S [vr (0, 0, 0), vi p0] (fun r S' => r = some (vi 0) ∧ S' = S) := by
  have hX := hI.1
  have hmc := hX.m6
  refine Cn.of (by decide) (Nat.le_of_ble_eq_true rfl) ?_
  intro X Y hl hE hbase haw hfr C B
  subst hl; subst hE; subst hbase; subst haw
  refine g_aload_n (pc := 0) C dX6_check_0 rfl ?_
  refine g_iload_n (pc := 1) C dX6_check_1 rfl ?_
  refine g_callV (pc := 2) C B mX6_57 (c_mAt_f _ _ _ _ _ mc lc hI p0 hx) rfl rfl rfl rfl (hX.1 0 (by decide)) (by decide) ⟨Nat.le_refl _, Nat.le_refl _⟩ (Nat.le_of_ble_eq_true rfl) dX6_check_2 (fun rr SS hP => ?_)
  rw [hP.1, hP.2]
  refine g_astore_n (pc := 5) C dX6_check_5 (by decide) ?_
  refine g_aload_n (pc := 6) C dX6_check_6 rfl ?_
  refine g_ifnull (pc := 7) C 31 dX6_check_7 (by decide) (fun _ => ?_) (fun _ h => by cases h)
  refine g_iconst (pc := 31) C 0 dX6_check_31 (by decide) ?_
  exact g_iret (pc := 32) C B rfl dX6_check_32 (⟨rfl, rfl⟩)

def v_X6_check (S : Mm) (lc : Nat → Nat) (i : Nat) : Int32 := if (v_goods S i (lc i)) = 0 then 0 else (if (ckX S i 6 0) = 0 then 0 else 1)
set_option maxHeartbeats 400000 in
set_option maxRecDepth 100000 in
theorem c_X6_check (l : Launch) (E : En) (base aw : Nat) (S : Mm) (mc : Nat) (lc : Nat → Nat) (hI : IX S mc lc) (i : Nat) (hi : i < mc) : Cn l E base aw yX6_check cX6_check 3 (some Jvm.ClassFile.FieldType.boolean) 2 0 0 noF S [vr (0, 0, 0), vi (nI i)] (fun r S' => r = some (vi (v_X6_check S lc i)) ∧ S' = S) := by
  have hX := hI.1
  have hmc := hX.m6
  have hm := hX.ms hi
  have hn := hI.2.2 i hi
  have hn8 := hm.n8
  refine Cn.of (by decide) (Nat.le_of_ble_eq_true rfl) ?_
  intro X Y hl hE hbase haw hfr C B
  subst hl; subst hE; subst hbase; subst haw
  refine g_aload_n (pc := 0) C dX6_check_0 rfl ?_
  refine g_iload_n (pc := 1) C dX6_check_1 rfl ?_
  refine g_callV (pc := 2) C B mX6_57 (c_mAt_t _ _ _ _ _ mc lc hI i hi) rfl rfl rfl rfl (hX.1 0 (by decide)) (by decide) ⟨Nat.le_refl _, Nat.le_refl _⟩ (Nat.le_of_ble_eq_true rfl) dX6_check_2 (fun rr SS hP => ?_)
  rw [hP.1, hP.2]
  refine g_astore_n (pc := 5) C dX6_check_5 (by decide) ?_
  refine g_aload_n (pc := 6) C dX6_check_6 rfl ?_
  refine g_ifnull (pc := 7) C 31 dX6_check_7 (by decide) (fun h => by cases h) (fun _ _ => ?_)
  refine g_aload_n (pc := 10) C dX6_check_10 rfl ?_
  refine g_callV (pc := 11) C B mX6_241 (c_goods _ _ _ _ _ i (lc i) hm hn) rfl rfl rfl rfl (hm.1 0 (by decide)) (by decide) ⟨Nat.le_refl _, Nat.le_refl _⟩ (Nat.le_of_ble_eq_true rfl) dX6_check_11 (fun rr SS hP => ?_)
  rw [hP.1, hP.2]
  refine g_if_eq (pc := 14) C 31 dX6_check_14 (by decide) (fun h14 => ?_) (fun h14 => ?_)
  ·
    refine g_iconst (pc := 31) C 0 dX6_check_31 (by decide) ?_
    exact g_iret (pc := 32) C B rfl dX6_check_32 (⟨by show some (vi _) = some (vi (v_X6_check S lc i)); unfold v_X6_check; rw [if_pos h14], rfl⟩)
  ·
    refine g_aload_n (pc := 17) C dX6_check_17 rfl ?_
    refine g_getr (pc := 18) C fX6_91 rfl (hm.1 0 (by decide)) dX6_check_18 rfl hm.r1 ?_
    refine g_callV (pc := 21) C B mX6_244 (c_coins _ _ _ _ _ i (lc i) hm) rfl rfl rfl rfl (hm.1 2 (by decide)) (by decide) ⟨Nat.le_refl _, Nat.le_refl _⟩ (Nat.le_of_ble_eq_true rfl) dX6_check_21 (fun rr SS hP => ?_)
    rw [hP.1, hP.2]
    refine g_if_eq (pc := 24) C 31 dX6_check_24 (by decide) (fun h24 => ?_) (fun h24 => ?_)
    ·
      refine g_iconst (pc := 31) C 0 dX6_check_31 (by decide) ?_
      exact g_iret (pc := 32) C B rfl dX6_check_32 (⟨by show some (vi _) = some (vi (v_X6_check S lc i)); unfold v_X6_check; rw [if_neg h14, if_pos h24], rfl⟩)
    ·
      refine g_iconst (pc := 27) C 1 dX6_check_27 (by decide) ?_
      refine g_goto (pc := 28) C 32 dX6_check_28 (by decide) ?_
      exact g_iret (pc := 32) C B rfl dX6_check_32 (⟨by show some (vi _) = some (vi (v_X6_check S lc i)); unfold v_X6_check; rw [if_neg h14, if_neg h24], rfl⟩)

set_option maxHeartbeats 400000 in
set_option maxRecDepth 100000 in
theorem c_X6_counted_b (l : Launch) (E : En) (base aw : Nat) (S : Mm) (mc : Nat) (lc : Nat → Nat) (hI : IX S mc lc) (p0 p1 p2 p3 : Int32) (h : ¬ (okN mc p0 ∧ okN 16 p1)) : Cn l E base aw yX6_counted cX6_counted 6 (some Jvm.ClassFile.FieldType.int) 1 0 0 noF S [vr (0, 0, 0), vi p0, vi p1, vi p2, vi p3] (fun r S' => r = some (vi (-1)) ∧ S' = rfX S 1) := by
  have hX := hI.1
  have hmc := hX.m6
  by_cases hmm : okN mc p0
  ·
    obtain ⟨i, hi, rfl⟩ := hmm
    have hm := hX.ms hi
    have hn := hI.2.2 i hi
    have hx : ¬ okN 16 p1 := fun q => h ⟨⟨i, hi, rfl⟩, q⟩
    refine Cn.of (by decide) (Nat.le_of_ble_eq_true rfl) ?_
    intro X Y hl hE hbase haw hfr C B
    subst hl; subst hE; subst hbase; subst haw
    refine g_aload_n (pc := 0) C dX6_counted_0 rfl ?_
    refine g_iload_n (pc := 1) C dX6_counted_1 rfl ?_
    refine g_callV (pc := 2) C B mX6_57 (c_mAt_t _ _ _ _ _ mc lc hI i hi) rfl rfl rfl rfl (hX.1 0 (by decide)) (by decide) ⟨Nat.le_refl _, Nat.le_refl _⟩ (Nat.le_of_ble_eq_true rfl) dX6_counted_2 (fun rr SS hP => ?_)
    rw [hP.1, hP.2]
    refine g_astore (pc := 5) C dX6_counted_5 (by decide) ?_
    refine g_aload (pc := 7) C dX6_counted_7 rfl ?_
    refine g_ifnull (pc := 9) C 19 dX6_counted_9 (by decide) (fun h => by cases h) (fun _ _ => ?_)
    refine g_iload_n (pc := 12) C dX6_counted_12 rfl ?_
    refine g_callS (pc := 13) C B mX6_61 (c_isG_f _ _ _ _ _ p1 hx) rfl rfl (by decide) ⟨Nat.le_refl _, Nat.le_refl _⟩ (Nat.le_of_ble_eq_true rfl) dX6_counted_13 (fun rr SS hP => ?_)
    rw [hP.1, hP.2]
    refine g_if_ne (pc := 16) C 25 dX6_counted_16 (by decide) (fun h16 => absurd (by decide) h16) (fun _ => ?_)
    refine g_aload_n (pc := 19) C dX6_counted_19 rfl ?_
    refine g_iconst (pc := 20) C (-1) dX6_counted_20 (by decide) ?_
    refine g_callV (pc := 21) C B mX6_52 (c_xrefuse _ _ _ _ _ mc lc hX (-1) 1 (by decide) (by decide) (by decide)) rfl rfl rfl rfl (hX.1 0 (by decide)) (by decide) ⟨Nat.le_refl _, Nat.le_refl _⟩ (Nat.le_of_ble_eq_true rfl) dX6_counted_21 (fun rr SS hP => ?_)
    rw [hP.1, hP.2]
    exact g_iret (pc := 24) C B rfl dX6_counted_24 (⟨rfl, rfl⟩)
  ·
    have hx := hmm
    refine Cn.of (by decide) (Nat.le_of_ble_eq_true rfl) ?_
    intro X Y hl hE hbase haw hfr C B
    subst hl; subst hE; subst hbase; subst haw
    refine g_aload_n (pc := 0) C dX6_counted_0 rfl ?_
    refine g_iload_n (pc := 1) C dX6_counted_1 rfl ?_
    refine g_callV (pc := 2) C B mX6_57 (c_mAt_f _ _ _ _ _ mc lc hI p0 hx) rfl rfl rfl rfl (hX.1 0 (by decide)) (by decide) ⟨Nat.le_refl _, Nat.le_refl _⟩ (Nat.le_of_ble_eq_true rfl) dX6_counted_2 (fun rr SS hP => ?_)
    rw [hP.1, hP.2]
    refine g_astore (pc := 5) C dX6_counted_5 (by decide) ?_
    refine g_aload (pc := 7) C dX6_counted_7 rfl ?_
    refine g_ifnull (pc := 9) C 19 dX6_counted_9 (by decide) (fun _ => ?_) (fun _ h => by cases h)
    refine g_aload_n (pc := 19) C dX6_counted_19 rfl ?_
    refine g_iconst (pc := 20) C (-1) dX6_counted_20 (by decide) ?_
    refine g_callV (pc := 21) C B mX6_52 (c_xrefuse _ _ _ _ _ mc lc hX (-1) 1 (by decide) (by decide) (by decide)) rfl rfl rfl rfl (hX.1 0 (by decide)) (by decide) ⟨Nat.le_refl _, Nat.le_refl _⟩ (Nat.le_of_ble_eq_true rfl) dX6_counted_21 (fun rr SS hP => ?_)
    rw [hP.1, hP.2]
    exact g_iret (pc := 24) C B rfl dX6_counted_24 (⟨rfl, rfl⟩)

set_option maxHeartbeats 400000 in
set_option maxRecDepth 100000 in
theorem c_X6_counted_w (l : Launch) (E : En) (base aw : Nat) (S : Mm) (mc : Nat) (lc : Nat → Nat) (hI : IX S mc lc) (i : Nat) (hi : i < mc) (g : Nat) (hg : g < 16) (p2 p3 : Int32) (hx : ¬ okN 2 p3) : Cn l E base aw yX6_counted cX6_counted 6 (some Jvm.ClassFile.FieldType.int) 1 0 0 noF S [vr (0, 0, 0), vi (nI i), vi (nI g), vi p2, vi p3] (fun r S' => r = some (vi (-2)) ∧ S' = rfX S 2) := by
  have hX := hI.1
  have hmc := hX.m6
  have hm := hX.ms hi
  have hn := hI.2.2 i hi
  have hn8 := hm.n8
  have hx0 : ¬ p3 = 0 := fun q => hx ⟨0, by decide, q⟩
  have hx1 : ¬ p3 = 1 := fun q => hx ⟨1, by decide, q⟩
  refine Cn.of (by decide) (Nat.le_of_ble_eq_true rfl) ?_
  intro X Y hl hE hbase haw hfr C B
  subst hl; subst hE; subst hbase; subst haw
  refine g_aload_n (pc := 0) C dX6_counted_0 rfl ?_
  refine g_iload_n (pc := 1) C dX6_counted_1 rfl ?_
  refine g_callV (pc := 2) C B mX6_57 (c_mAt_t _ _ _ _ _ mc lc hI i hi) rfl rfl rfl rfl (hX.1 0 (by decide)) (by decide) ⟨Nat.le_refl _, Nat.le_refl _⟩ (Nat.le_of_ble_eq_true rfl) dX6_counted_2 (fun rr SS hP => ?_)
  rw [hP.1, hP.2]
  refine g_astore (pc := 5) C dX6_counted_5 (by decide) ?_
  refine g_aload (pc := 7) C dX6_counted_7 rfl ?_
  refine g_ifnull (pc := 9) C 19 dX6_counted_9 (by decide) (fun h => by cases h) (fun _ _ => ?_)
  refine g_iload_n (pc := 12) C dX6_counted_12 rfl ?_
  refine g_callS (pc := 13) C B mX6_61 (c_isG_t _ _ _ _ _ g hg) rfl rfl (by decide) ⟨Nat.le_refl _, Nat.le_refl _⟩ (Nat.le_of_ble_eq_true rfl) dX6_counted_13 (fun rr SS hP => ?_)
  rw [hP.1, hP.2]
  refine g_if_ne (pc := 16) C 25 dX6_counted_16 (by decide) (fun _ => ?_) (fun h16 => absurd h16 (by decide))
  refine g_iload (pc := 25) C dX6_counted_25 rfl ?_
  refine g_if_eq (pc := 27) C 43 dX6_counted_27 (by decide) (fun h27 => absurd h27 hx0) (fun _ => ?_)
  refine g_iload (pc := 30) C dX6_counted_30 rfl ?_
  refine g_iconst (pc := 32) C 1 dX6_counted_32 (by decide) ?_
  refine g_icmp_eq (pc := 33) C 43 dX6_counted_33 (by decide) (fun h33 => absurd h33 hx1) (fun _ => ?_)
  refine g_aload_n (pc := 36) C dX6_counted_36 rfl ?_
  refine g_bipush (pc := 37) C (-2) dX6_counted_37 (by decide) ?_
  refine g_callV (pc := 39) C B mX6_52 (c_xrefuse _ _ _ _ _ mc lc hX (-2) 2 (by decide) (by decide) (by decide)) rfl rfl rfl rfl (hX.1 0 (by decide)) (by decide) ⟨Nat.le_refl _, Nat.le_refl _⟩ (Nat.le_of_ble_eq_true rfl) dX6_counted_39 (fun rr SS hP => ?_)
  rw [hP.1, hP.2]
  exact g_iret (pc := 42) C B rfl dX6_counted_42 (⟨rfl, rfl⟩)

set_option maxHeartbeats 400000 in
set_option maxRecDepth 100000 in
theorem c_X6_counted_lo0 (l : Launch) (E : En) (base aw : Nat) (S : Mm) (mc : Nat) (lc : Nat → Nat) (hI : IX S mc lc) (i : Nat) (hi : i < mc) (g : Nat) (hg : g < 16) (p2 : Int32) (hlo : ¬ 0 ≤ p2) : Cn l E base aw yX6_counted cX6_counted 6 (some Jvm.ClassFile.FieldType.int) 1 0 0 noF S [vr (0, 0, 0), vi (nI i), vi (nI g), vi p2, vi (nI 0)] (fun r S' => r = some (vi (-4)) ∧ S' = rfX S 4) := by
  have hX := hI.1
  have hmc := hX.m6
  have hm := hX.ms hi
  have hn := hI.2.2 i hi
  have hn8 := hm.n8
  refine Cn.of (by decide) (Nat.le_of_ble_eq_true rfl) ?_
  intro X Y hl hE hbase haw hfr C B
  subst hl; subst hE; subst hbase; subst haw
  refine g_aload_n (pc := 0) C dX6_counted_0 rfl ?_
  refine g_iload_n (pc := 1) C dX6_counted_1 rfl ?_
  refine g_callV (pc := 2) C B mX6_57 (c_mAt_t _ _ _ _ _ mc lc hI i hi) rfl rfl rfl rfl (hX.1 0 (by decide)) (by decide) ⟨Nat.le_refl _, Nat.le_refl _⟩ (Nat.le_of_ble_eq_true rfl) dX6_counted_2 (fun rr SS hP => ?_)
  rw [hP.1, hP.2]
  refine g_astore (pc := 5) C dX6_counted_5 (by decide) ?_
  refine g_aload (pc := 7) C dX6_counted_7 rfl ?_
  refine g_ifnull (pc := 9) C 19 dX6_counted_9 (by decide) (fun h => by cases h) (fun _ _ => ?_)
  refine g_iload_n (pc := 12) C dX6_counted_12 rfl ?_
  refine g_callS (pc := 13) C B mX6_61 (c_isG_t _ _ _ _ _ g hg) rfl rfl (by decide) ⟨Nat.le_refl _, Nat.le_refl _⟩ (Nat.le_of_ble_eq_true rfl) dX6_counted_13 (fun rr SS hP => ?_)
  rw [hP.1, hP.2]
  refine g_if_ne (pc := 16) C 25 dX6_counted_16 (by decide) (fun _ => ?_) (fun h16 => absurd h16 (by decide))
  refine g_iload (pc := 25) C dX6_counted_25 rfl ?_
  refine g_if_eq (pc := 27) C 43 dX6_counted_27 (by decide) (fun _ => ?_) (fun h27 => absurd (by decide) h27)
  refine g_iload_n (pc := 43) C dX6_counted_43 rfl ?_
  refine g_if_ge (pc := 44) C 54 dX6_counted_44 (by decide) (fun h44 => absurd h44 hlo) (fun _ => ?_)
  refine g_aload_n (pc := 47) C dX6_counted_47 rfl ?_
  refine g_bipush (pc := 48) C (-4) dX6_counted_48 (by decide) ?_
  refine g_callV (pc := 50) C B mX6_52 (c_xrefuse _ _ _ _ _ mc lc hX (-4) 4 (by decide) (by decide) (by decide)) rfl rfl rfl rfl (hX.1 0 (by decide)) (by decide) ⟨Nat.le_refl _, Nat.le_refl _⟩ (Nat.le_of_ble_eq_true rfl) dX6_counted_50 (fun rr SS hP => ?_)
  rw [hP.1, hP.2]
  exact g_iret (pc := 53) C B rfl dX6_counted_53 (⟨rfl, rfl⟩)

set_option maxHeartbeats 400000 in
set_option maxRecDepth 100000 in
theorem c_X6_counted_hi0 (l : Launch) (E : En) (base aw : Nat) (S : Mm) (mc : Nat) (lc : Nat → Nat) (hI : IX S mc lc) (i : Nat) (hi : i < mc) (g : Nat) (hg : g < 16) (p2 : Int32) (hlo : 0 ≤ p2) (hhi : ¬ p2 < 24) : Cn l E base aw yX6_counted cX6_counted 6 (some Jvm.ClassFile.FieldType.int) 1 0 0 noF S [vr (0, 0, 0), vi (nI i), vi (nI g), vi p2, vi (nI 0)] (fun r S' => r = some (vi (-6)) ∧ S' = rfX S 6) := by
  have hX := hI.1
  have hmc := hX.m6
  have hm := hX.ms hi
  have hn := hI.2.2 i hi
  have hn8 := hm.n8
  refine Cn.of (by decide) (Nat.le_of_ble_eq_true rfl) ?_
  intro X Y hl hE hbase haw hfr C B
  subst hl; subst hE; subst hbase; subst haw
  refine g_aload_n (pc := 0) C dX6_counted_0 rfl ?_
  refine g_iload_n (pc := 1) C dX6_counted_1 rfl ?_
  refine g_callV (pc := 2) C B mX6_57 (c_mAt_t _ _ _ _ _ mc lc hI i hi) rfl rfl rfl rfl (hX.1 0 (by decide)) (by decide) ⟨Nat.le_refl _, Nat.le_refl _⟩ (Nat.le_of_ble_eq_true rfl) dX6_counted_2 (fun rr SS hP => ?_)
  rw [hP.1, hP.2]
  refine g_astore (pc := 5) C dX6_counted_5 (by decide) ?_
  refine g_aload (pc := 7) C dX6_counted_7 rfl ?_
  refine g_ifnull (pc := 9) C 19 dX6_counted_9 (by decide) (fun h => by cases h) (fun _ _ => ?_)
  refine g_iload_n (pc := 12) C dX6_counted_12 rfl ?_
  refine g_callS (pc := 13) C B mX6_61 (c_isG_t _ _ _ _ _ g hg) rfl rfl (by decide) ⟨Nat.le_refl _, Nat.le_refl _⟩ (Nat.le_of_ble_eq_true rfl) dX6_counted_13 (fun rr SS hP => ?_)
  rw [hP.1, hP.2]
  refine g_if_ne (pc := 16) C 25 dX6_counted_16 (by decide) (fun _ => ?_) (fun h16 => absurd h16 (by decide))
  refine g_iload (pc := 25) C dX6_counted_25 rfl ?_
  refine g_if_eq (pc := 27) C 43 dX6_counted_27 (by decide) (fun _ => ?_) (fun h27 => absurd (by decide) h27)
  refine g_iload_n (pc := 43) C dX6_counted_43 rfl ?_
  refine g_if_ge (pc := 44) C 54 dX6_counted_44 (by decide) (fun _ => ?_) (fun h44 => absurd hlo h44)
  refine g_iload_n (pc := 54) C dX6_counted_54 rfl ?_
  refine g_bipush (pc := 55) C 24 dX6_counted_55 (by decide) ?_
  refine g_icmp_lt (pc := 57) C 67 dX6_counted_57 (by decide) (fun h57 => absurd h57 hhi) (fun _ => ?_)
  refine g_aload_n (pc := 60) C dX6_counted_60 rfl ?_
  refine g_bipush (pc := 61) C (-6) dX6_counted_61 (by decide) ?_
  refine g_callV (pc := 63) C B mX6_52 (c_xrefuse _ _ _ _ _ mc lc hX (-6) 6 (by decide) (by decide) (by decide)) rfl rfl rfl rfl (hX.1 0 (by decide)) (by decide) ⟨Nat.le_refl _, Nat.le_refl _⟩ (Nat.le_of_ble_eq_true rfl) dX6_counted_63 (fun rr SS hP => ?_)
  rw [hP.1, hP.2]
  exact g_iret (pc := 66) C B rfl dX6_counted_66 (⟨rfl, rfl⟩)

set_option maxHeartbeats 400000 in
set_option maxRecDepth 100000 in
theorem c_X6_counted0 (l : Launch) (E : En) (base aw : Nat) (S : Mm) (mc : Nat) (lc : Nat → Nat) (hI : IX S mc lc) (i : Nat) (hi : i < mc) (g : Nat) (hg : g < 16) (t : Nat) (ht : t < 24) : Cn l E base aw yX6_counted cX6_counted 6 (some Jvm.ClassFile.FieldType.int) 1 0 0 noF S [vr (0, 0, 0), vi (nI i), vi (nI g), vi (nI t), vi (nI 0)] (fun r S' => r = some (vi (S.1 (1, i, 11) (g * 24 + t))) ∧ S' = S) := by
  have hX := hI.1
  have hmc := hX.m6
  have hm := hX.ms hi
  have hn := hI.2.2 i hi
  have hn8 := hm.n8
  refine Cn.of (by decide) (Nat.le_of_ble_eq_true rfl) ?_
  intro X Y hl hE hbase haw hfr C B
  subst hl; subst hE; subst hbase; subst haw
  refine g_aload_n (pc := 0) C dX6_counted_0 rfl ?_
  refine g_iload_n (pc := 1) C dX6_counted_1 rfl ?_
  refine g_callV (pc := 2) C B mX6_57 (c_mAt_t _ _ _ _ _ mc lc hI i hi) rfl rfl rfl rfl (hX.1 0 (by decide)) (by decide) ⟨Nat.le_refl _, Nat.le_refl _⟩ (Nat.le_of_ble_eq_true rfl) dX6_counted_2 (fun rr SS hP => ?_)
  rw [hP.1, hP.2]
  refine g_astore (pc := 5) C dX6_counted_5 (by decide) ?_
  refine g_aload (pc := 7) C dX6_counted_7 rfl ?_
  refine g_ifnull (pc := 9) C 19 dX6_counted_9 (by decide) (fun h => by cases h) (fun _ _ => ?_)
  refine g_iload_n (pc := 12) C dX6_counted_12 rfl ?_
  refine g_callS (pc := 13) C B mX6_61 (c_isG_t _ _ _ _ _ g hg) rfl rfl (by decide) ⟨Nat.le_refl _, Nat.le_refl _⟩ (Nat.le_of_ble_eq_true rfl) dX6_counted_13 (fun rr SS hP => ?_)
  rw [hP.1, hP.2]
  refine g_if_ne (pc := 16) C 25 dX6_counted_16 (by decide) (fun _ => ?_) (fun h16 => absurd h16 (by decide))
  refine g_iload (pc := 25) C dX6_counted_25 rfl ?_
  refine g_if_eq (pc := 27) C 43 dX6_counted_27 (by decide) (fun _ => ?_) (fun h27 => absurd (by decide) h27)
  refine g_iload_n (pc := 43) C dX6_counted_43 rfl ?_
  refine g_if_ge (pc := 44) C 54 dX6_counted_44 (by decide) (fun _ => ?_) (fun h44 => absurd (nI_pos' (by omega)) h44)
  refine g_iload_n (pc := 54) C dX6_counted_54 rfl ?_
  refine g_bipush (pc := 55) C 24 dX6_counted_55 (by decide) ?_
  refine g_icmp_lt (pc := 57) C 67 dX6_counted_57 (by decide) (fun _ => ?_) (fun h57 => absurd ((nI_ltI (a := t) (b := 24) (by omega) (by omega)).mpr (by omega)) h57)
  refine g_iload (pc := 67) C dX6_counted_67 rfl ?_
  refine g_if_ne (pc := 69) C 85 dX6_counted_69 (by decide) (fun h69 => absurd (by decide) h69) (fun _ => ?_)
  refine g_aload (pc := 72) C dX6_counted_72 rfl ?_
  refine g_getr (pc := 74) C fX6_176 rfl (hm.1 0 (by decide)) dX6_counted_74 rfl hm.r2 ?_
  refine g_iload_n (pc := 77) C dX6_counted_77 rfl ?_
  refine g_iload_n (pc := 78) C dX6_counted_78 rfl ?_
  refine g_callV (pc := 79) C B mX6_207 (c_salesAt _ _ _ _ _ i (lc i) hm g hg t ht) rfl rfl rfl rfl (hm.1 10 (by decide)) (by decide) ⟨Nat.le_refl _, Nat.le_refl _⟩ (Nat.le_of_ble_eq_true rfl) dX6_counted_79 (fun rr SS hP => ?_)
  rw [hP.1, hP.2]
  refine g_goto (pc := 82) C 95 dX6_counted_82 (by decide) ?_
  exact g_iret (pc := 95) C B rfl dX6_counted_95 (⟨rfl, rfl⟩)

set_option maxHeartbeats 400000 in
set_option maxRecDepth 100000 in
theorem c_X6_counted_lo1 (l : Launch) (E : En) (base aw : Nat) (S : Mm) (mc : Nat) (lc : Nat → Nat) (hI : IX S mc lc) (i : Nat) (hi : i < mc) (g : Nat) (hg : g < 16) (p2 : Int32) (hlo : ¬ 0 ≤ p2) : Cn l E base aw yX6_counted cX6_counted 6 (some Jvm.ClassFile.FieldType.int) 1 0 0 noF S [vr (0, 0, 0), vi (nI i), vi (nI g), vi p2, vi (nI 1)] (fun r S' => r = some (vi (-4)) ∧ S' = rfX S 4) := by
  have hX := hI.1
  have hmc := hX.m6
  have hm := hX.ms hi
  have hn := hI.2.2 i hi
  have hn8 := hm.n8
  refine Cn.of (by decide) (Nat.le_of_ble_eq_true rfl) ?_
  intro X Y hl hE hbase haw hfr C B
  subst hl; subst hE; subst hbase; subst haw
  refine g_aload_n (pc := 0) C dX6_counted_0 rfl ?_
  refine g_iload_n (pc := 1) C dX6_counted_1 rfl ?_
  refine g_callV (pc := 2) C B mX6_57 (c_mAt_t _ _ _ _ _ mc lc hI i hi) rfl rfl rfl rfl (hX.1 0 (by decide)) (by decide) ⟨Nat.le_refl _, Nat.le_refl _⟩ (Nat.le_of_ble_eq_true rfl) dX6_counted_2 (fun rr SS hP => ?_)
  rw [hP.1, hP.2]
  refine g_astore (pc := 5) C dX6_counted_5 (by decide) ?_
  refine g_aload (pc := 7) C dX6_counted_7 rfl ?_
  refine g_ifnull (pc := 9) C 19 dX6_counted_9 (by decide) (fun h => by cases h) (fun _ _ => ?_)
  refine g_iload_n (pc := 12) C dX6_counted_12 rfl ?_
  refine g_callS (pc := 13) C B mX6_61 (c_isG_t _ _ _ _ _ g hg) rfl rfl (by decide) ⟨Nat.le_refl _, Nat.le_refl _⟩ (Nat.le_of_ble_eq_true rfl) dX6_counted_13 (fun rr SS hP => ?_)
  rw [hP.1, hP.2]
  refine g_if_ne (pc := 16) C 25 dX6_counted_16 (by decide) (fun _ => ?_) (fun h16 => absurd h16 (by decide))
  refine g_iload (pc := 25) C dX6_counted_25 rfl ?_
  refine g_if_eq (pc := 27) C 43 dX6_counted_27 (by decide) (fun h27 => absurd h27 (by decide)) (fun _ => ?_)
  refine g_iload (pc := 30) C dX6_counted_30 rfl ?_
  refine g_iconst (pc := 32) C 1 dX6_counted_32 (by decide) ?_
  refine g_icmp_eq (pc := 33) C 43 dX6_counted_33 (by decide) (fun _ => ?_) (fun h33 => absurd (by decide) h33)
  refine g_iload_n (pc := 43) C dX6_counted_43 rfl ?_
  refine g_if_ge (pc := 44) C 54 dX6_counted_44 (by decide) (fun h44 => absurd h44 hlo) (fun _ => ?_)
  refine g_aload_n (pc := 47) C dX6_counted_47 rfl ?_
  refine g_bipush (pc := 48) C (-4) dX6_counted_48 (by decide) ?_
  refine g_callV (pc := 50) C B mX6_52 (c_xrefuse _ _ _ _ _ mc lc hX (-4) 4 (by decide) (by decide) (by decide)) rfl rfl rfl rfl (hX.1 0 (by decide)) (by decide) ⟨Nat.le_refl _, Nat.le_refl _⟩ (Nat.le_of_ble_eq_true rfl) dX6_counted_50 (fun rr SS hP => ?_)
  rw [hP.1, hP.2]
  exact g_iret (pc := 53) C B rfl dX6_counted_53 (⟨rfl, rfl⟩)

set_option maxHeartbeats 400000 in
set_option maxRecDepth 100000 in
theorem c_X6_counted_hi1 (l : Launch) (E : En) (base aw : Nat) (S : Mm) (mc : Nat) (lc : Nat → Nat) (hI : IX S mc lc) (i : Nat) (hi : i < mc) (g : Nat) (hg : g < 16) (p2 : Int32) (hlo : 0 ≤ p2) (hhi : ¬ p2 < 24) : Cn l E base aw yX6_counted cX6_counted 6 (some Jvm.ClassFile.FieldType.int) 1 0 0 noF S [vr (0, 0, 0), vi (nI i), vi (nI g), vi p2, vi (nI 1)] (fun r S' => r = some (vi (-6)) ∧ S' = rfX S 6) := by
  have hX := hI.1
  have hmc := hX.m6
  have hm := hX.ms hi
  have hn := hI.2.2 i hi
  have hn8 := hm.n8
  refine Cn.of (by decide) (Nat.le_of_ble_eq_true rfl) ?_
  intro X Y hl hE hbase haw hfr C B
  subst hl; subst hE; subst hbase; subst haw
  refine g_aload_n (pc := 0) C dX6_counted_0 rfl ?_
  refine g_iload_n (pc := 1) C dX6_counted_1 rfl ?_
  refine g_callV (pc := 2) C B mX6_57 (c_mAt_t _ _ _ _ _ mc lc hI i hi) rfl rfl rfl rfl (hX.1 0 (by decide)) (by decide) ⟨Nat.le_refl _, Nat.le_refl _⟩ (Nat.le_of_ble_eq_true rfl) dX6_counted_2 (fun rr SS hP => ?_)
  rw [hP.1, hP.2]
  refine g_astore (pc := 5) C dX6_counted_5 (by decide) ?_
  refine g_aload (pc := 7) C dX6_counted_7 rfl ?_
  refine g_ifnull (pc := 9) C 19 dX6_counted_9 (by decide) (fun h => by cases h) (fun _ _ => ?_)
  refine g_iload_n (pc := 12) C dX6_counted_12 rfl ?_
  refine g_callS (pc := 13) C B mX6_61 (c_isG_t _ _ _ _ _ g hg) rfl rfl (by decide) ⟨Nat.le_refl _, Nat.le_refl _⟩ (Nat.le_of_ble_eq_true rfl) dX6_counted_13 (fun rr SS hP => ?_)
  rw [hP.1, hP.2]
  refine g_if_ne (pc := 16) C 25 dX6_counted_16 (by decide) (fun _ => ?_) (fun h16 => absurd h16 (by decide))
  refine g_iload (pc := 25) C dX6_counted_25 rfl ?_
  refine g_if_eq (pc := 27) C 43 dX6_counted_27 (by decide) (fun h27 => absurd h27 (by decide)) (fun _ => ?_)
  refine g_iload (pc := 30) C dX6_counted_30 rfl ?_
  refine g_iconst (pc := 32) C 1 dX6_counted_32 (by decide) ?_
  refine g_icmp_eq (pc := 33) C 43 dX6_counted_33 (by decide) (fun _ => ?_) (fun h33 => absurd (by decide) h33)
  refine g_iload_n (pc := 43) C dX6_counted_43 rfl ?_
  refine g_if_ge (pc := 44) C 54 dX6_counted_44 (by decide) (fun _ => ?_) (fun h44 => absurd hlo h44)
  refine g_iload_n (pc := 54) C dX6_counted_54 rfl ?_
  refine g_bipush (pc := 55) C 24 dX6_counted_55 (by decide) ?_
  refine g_icmp_lt (pc := 57) C 67 dX6_counted_57 (by decide) (fun h57 => absurd h57 hhi) (fun _ => ?_)
  refine g_aload_n (pc := 60) C dX6_counted_60 rfl ?_
  refine g_bipush (pc := 61) C (-6) dX6_counted_61 (by decide) ?_
  refine g_callV (pc := 63) C B mX6_52 (c_xrefuse _ _ _ _ _ mc lc hX (-6) 6 (by decide) (by decide) (by decide)) rfl rfl rfl rfl (hX.1 0 (by decide)) (by decide) ⟨Nat.le_refl _, Nat.le_refl _⟩ (Nat.le_of_ble_eq_true rfl) dX6_counted_63 (fun rr SS hP => ?_)
  rw [hP.1, hP.2]
  exact g_iret (pc := 66) C B rfl dX6_counted_66 (⟨rfl, rfl⟩)

set_option maxHeartbeats 400000 in
set_option maxRecDepth 100000 in
theorem c_X6_counted1 (l : Launch) (E : En) (base aw : Nat) (S : Mm) (mc : Nat) (lc : Nat → Nat) (hI : IX S mc lc) (i : Nat) (hi : i < mc) (g : Nat) (hg : g < 16) (t : Nat) (ht : t < 24) : Cn l E base aw yX6_counted cX6_counted 6 (some Jvm.ClassFile.FieldType.int) 1 0 0 noF S [vr (0, 0, 0), vi (nI i), vi (nI g), vi (nI t), vi (nI 1)] (fun r S' => r = some (vi (S.1 (1, i, 12) (g * 24 + t))) ∧ S' = S) := by
  have hX := hI.1
  have hmc := hX.m6
  have hm := hX.ms hi
  have hn := hI.2.2 i hi
  have hn8 := hm.n8
  refine Cn.of (by decide) (Nat.le_of_ble_eq_true rfl) ?_
  intro X Y hl hE hbase haw hfr C B
  subst hl; subst hE; subst hbase; subst haw
  refine g_aload_n (pc := 0) C dX6_counted_0 rfl ?_
  refine g_iload_n (pc := 1) C dX6_counted_1 rfl ?_
  refine g_callV (pc := 2) C B mX6_57 (c_mAt_t _ _ _ _ _ mc lc hI i hi) rfl rfl rfl rfl (hX.1 0 (by decide)) (by decide) ⟨Nat.le_refl _, Nat.le_refl _⟩ (Nat.le_of_ble_eq_true rfl) dX6_counted_2 (fun rr SS hP => ?_)
  rw [hP.1, hP.2]
  refine g_astore (pc := 5) C dX6_counted_5 (by decide) ?_
  refine g_aload (pc := 7) C dX6_counted_7 rfl ?_
  refine g_ifnull (pc := 9) C 19 dX6_counted_9 (by decide) (fun h => by cases h) (fun _ _ => ?_)
  refine g_iload_n (pc := 12) C dX6_counted_12 rfl ?_
  refine g_callS (pc := 13) C B mX6_61 (c_isG_t _ _ _ _ _ g hg) rfl rfl (by decide) ⟨Nat.le_refl _, Nat.le_refl _⟩ (Nat.le_of_ble_eq_true rfl) dX6_counted_13 (fun rr SS hP => ?_)
  rw [hP.1, hP.2]
  refine g_if_ne (pc := 16) C 25 dX6_counted_16 (by decide) (fun _ => ?_) (fun h16 => absurd h16 (by decide))
  refine g_iload (pc := 25) C dX6_counted_25 rfl ?_
  refine g_if_eq (pc := 27) C 43 dX6_counted_27 (by decide) (fun h27 => absurd h27 (by decide)) (fun _ => ?_)
  refine g_iload (pc := 30) C dX6_counted_30 rfl ?_
  refine g_iconst (pc := 32) C 1 dX6_counted_32 (by decide) ?_
  refine g_icmp_eq (pc := 33) C 43 dX6_counted_33 (by decide) (fun _ => ?_) (fun h33 => absurd (by decide) h33)
  refine g_iload_n (pc := 43) C dX6_counted_43 rfl ?_
  refine g_if_ge (pc := 44) C 54 dX6_counted_44 (by decide) (fun _ => ?_) (fun h44 => absurd (nI_pos' (by omega)) h44)
  refine g_iload_n (pc := 54) C dX6_counted_54 rfl ?_
  refine g_bipush (pc := 55) C 24 dX6_counted_55 (by decide) ?_
  refine g_icmp_lt (pc := 57) C 67 dX6_counted_57 (by decide) (fun _ => ?_) (fun h57 => absurd ((nI_ltI (a := t) (b := 24) (by omega) (by omega)).mpr (by omega)) h57)
  refine g_iload (pc := 67) C dX6_counted_67 rfl ?_
  refine g_if_ne (pc := 69) C 85 dX6_counted_69 (by decide) (fun _ => ?_) (fun h69 => absurd h69 (by decide))
  refine g_aload (pc := 85) C dX6_counted_85 rfl ?_
  refine g_getr (pc := 87) C fX6_176 rfl (hm.1 0 (by decide)) dX6_counted_87 rfl hm.r2 ?_
  refine g_iload_n (pc := 90) C dX6_counted_90 rfl ?_
  refine g_iload_n (pc := 91) C dX6_counted_91 rfl ?_
  refine g_callV (pc := 92) C B mX6_211 (c_thereAt _ _ _ _ _ i (lc i) hm g hg t ht) rfl rfl rfl rfl (hm.1 10 (by decide)) (by decide) ⟨Nat.le_refl _, Nat.le_refl _⟩ (Nat.le_of_ble_eq_true rfl) dX6_counted_92 (fun rr SS hP => ?_)
  rw [hP.1, hP.2]
  exact g_iret (pc := 95) C B rfl dX6_counted_95 (⟨rfl, rfl⟩)

set_option maxHeartbeats 400000 in
set_option maxRecDepth 100000 in
theorem c_X6_foretell_b (l : Launch) (E : En) (base aw : Nat) (S : Mm) (mc : Nat) (lc : Nat → Nat) (hI : IX S mc lc) (p0 p1 p2 : Int32) (h : ¬ (okN mc p0 ∧ okN 16 p1)) : Cn l E base aw yX6_foretell cX6_foretell 5 (some Jvm.ClassFile.FieldType.int) 3 0 0 noF S [vr (0, 0, 0), vi p0, vi p1, vi p2] (fun r S' => r = some (vi (-1)) ∧ S' = rfX S 1) := by
  have hX := hI.1
  have hmc := hX.m6
  by_cases hmm : okN mc p0
  ·
    obtain ⟨i, hi, rfl⟩ := hmm
    have hm := hX.ms hi
    have hn := hI.2.2 i hi
    have hx : ¬ okN 16 p1 := fun q => h ⟨⟨i, hi, rfl⟩, q⟩
    refine Cn.of (by decide) (Nat.le_of_ble_eq_true rfl) ?_
    intro X Y hl hE hbase haw hfr C B
    subst hl; subst hE; subst hbase; subst haw
    refine g_aload_n (pc := 0) C dX6_foretell_0 rfl ?_
    refine g_iload_n (pc := 1) C dX6_foretell_1 rfl ?_
    refine g_callV (pc := 2) C B mX6_57 (c_mAt_t _ _ _ _ _ mc lc hI i hi) rfl rfl rfl rfl (hX.1 0 (by decide)) (by decide) ⟨Nat.le_refl _, Nat.le_refl _⟩ (Nat.le_of_ble_eq_true rfl) dX6_foretell_2 (fun rr SS hP => ?_)
    rw [hP.1, hP.2]
    refine g_astore (pc := 5) C dX6_foretell_5 (by decide) ?_
    refine g_aload (pc := 7) C dX6_foretell_7 rfl ?_
    refine g_ifnull (pc := 9) C 19 dX6_foretell_9 (by decide) (fun h => by cases h) (fun _ _ => ?_)
    refine g_iload_n (pc := 12) C dX6_foretell_12 rfl ?_
    refine g_callS (pc := 13) C B mX6_61 (c_isG_f _ _ _ _ _ p1 hx) rfl rfl (by decide) ⟨Nat.le_refl _, Nat.le_refl _⟩ (Nat.le_of_ble_eq_true rfl) dX6_foretell_13 (fun rr SS hP => ?_)
    rw [hP.1, hP.2]
    refine g_if_ne (pc := 16) C 25 dX6_foretell_16 (by decide) (fun h16 => absurd (by decide) h16) (fun _ => ?_)
    refine g_aload_n (pc := 19) C dX6_foretell_19 rfl ?_
    refine g_iconst (pc := 20) C (-1) dX6_foretell_20 (by decide) ?_
    refine g_callV (pc := 21) C B mX6_52 (c_xrefuse _ _ _ _ _ mc lc hX (-1) 1 (by decide) (by decide) (by decide)) rfl rfl rfl rfl (hX.1 0 (by decide)) (by decide) ⟨Nat.le_refl _, Nat.le_refl _⟩ (Nat.le_of_ble_eq_true rfl) dX6_foretell_21 (fun rr SS hP => ?_)
    rw [hP.1, hP.2]
    exact g_iret (pc := 24) C B rfl dX6_foretell_24 (⟨rfl, rfl⟩)
  ·
    have hx := hmm
    refine Cn.of (by decide) (Nat.le_of_ble_eq_true rfl) ?_
    intro X Y hl hE hbase haw hfr C B
    subst hl; subst hE; subst hbase; subst haw
    refine g_aload_n (pc := 0) C dX6_foretell_0 rfl ?_
    refine g_iload_n (pc := 1) C dX6_foretell_1 rfl ?_
    refine g_callV (pc := 2) C B mX6_57 (c_mAt_f _ _ _ _ _ mc lc hI p0 hx) rfl rfl rfl rfl (hX.1 0 (by decide)) (by decide) ⟨Nat.le_refl _, Nat.le_refl _⟩ (Nat.le_of_ble_eq_true rfl) dX6_foretell_2 (fun rr SS hP => ?_)
    rw [hP.1, hP.2]
    refine g_astore (pc := 5) C dX6_foretell_5 (by decide) ?_
    refine g_aload (pc := 7) C dX6_foretell_7 rfl ?_
    refine g_ifnull (pc := 9) C 19 dX6_foretell_9 (by decide) (fun _ => ?_) (fun _ h => by cases h)
    refine g_aload_n (pc := 19) C dX6_foretell_19 rfl ?_
    refine g_iconst (pc := 20) C (-1) dX6_foretell_20 (by decide) ?_
    refine g_callV (pc := 21) C B mX6_52 (c_xrefuse _ _ _ _ _ mc lc hX (-1) 1 (by decide) (by decide) (by decide)) rfl rfl rfl rfl (hX.1 0 (by decide)) (by decide) ⟨Nat.le_refl _, Nat.le_refl _⟩ (Nat.le_of_ble_eq_true rfl) dX6_foretell_21 (fun rr SS hP => ?_)
    rw [hP.1, hP.2]
    exact g_iret (pc := 24) C B rfl dX6_foretell_24 (⟨rfl, rfl⟩)

set_option maxHeartbeats 400000 in
set_option maxRecDepth 100000 in
theorem c_X6_foretell_lo (l : Launch) (E : En) (base aw : Nat) (S : Mm) (mc : Nat) (lc : Nat → Nat) (hI : IX S mc lc) (i : Nat) (hi : i < mc) (g : Nat) (hg : g < 16) (p2 : Int32) (hlo : ¬ 0 ≤ p2) : Cn l E base aw yX6_foretell cX6_foretell 5 (some Jvm.ClassFile.FieldType.int) 3 0 0 noF S [vr (0, 0, 0), vi (nI i), vi (nI g), vi p2] (fun r S' => r = some (vi (-4)) ∧ S' = rfX S 4) := by
  have hX := hI.1
  have hmc := hX.m6
  have hm := hX.ms hi
  have hn := hI.2.2 i hi
  have hn8 := hm.n8
  refine Cn.of (by decide) (Nat.le_of_ble_eq_true rfl) ?_
  intro X Y hl hE hbase haw hfr C B
  subst hl; subst hE; subst hbase; subst haw
  refine g_aload_n (pc := 0) C dX6_foretell_0 rfl ?_
  refine g_iload_n (pc := 1) C dX6_foretell_1 rfl ?_
  refine g_callV (pc := 2) C B mX6_57 (c_mAt_t _ _ _ _ _ mc lc hI i hi) rfl rfl rfl rfl (hX.1 0 (by decide)) (by decide) ⟨Nat.le_refl _, Nat.le_refl _⟩ (Nat.le_of_ble_eq_true rfl) dX6_foretell_2 (fun rr SS hP => ?_)
  rw [hP.1, hP.2]
  refine g_astore (pc := 5) C dX6_foretell_5 (by decide) ?_
  refine g_aload (pc := 7) C dX6_foretell_7 rfl ?_
  refine g_ifnull (pc := 9) C 19 dX6_foretell_9 (by decide) (fun h => by cases h) (fun _ _ => ?_)
  refine g_iload_n (pc := 12) C dX6_foretell_12 rfl ?_
  refine g_callS (pc := 13) C B mX6_61 (c_isG_t _ _ _ _ _ g hg) rfl rfl (by decide) ⟨Nat.le_refl _, Nat.le_refl _⟩ (Nat.le_of_ble_eq_true rfl) dX6_foretell_13 (fun rr SS hP => ?_)
  rw [hP.1, hP.2]
  refine g_if_ne (pc := 16) C 25 dX6_foretell_16 (by decide) (fun _ => ?_) (fun h16 => absurd h16 (by decide))
  refine g_iload_n (pc := 25) C dX6_foretell_25 rfl ?_
  refine g_if_ge (pc := 26) C 36 dX6_foretell_26 (by decide) (fun h26 => absurd h26 hlo) (fun _ => ?_)
  refine g_aload_n (pc := 29) C dX6_foretell_29 rfl ?_
  refine g_bipush (pc := 30) C (-4) dX6_foretell_30 (by decide) ?_
  refine g_callV (pc := 32) C B mX6_52 (c_xrefuse _ _ _ _ _ mc lc hX (-4) 4 (by decide) (by decide) (by decide)) rfl rfl rfl rfl (hX.1 0 (by decide)) (by decide) ⟨Nat.le_refl _, Nat.le_refl _⟩ (Nat.le_of_ble_eq_true rfl) dX6_foretell_32 (fun rr SS hP => ?_)
  rw [hP.1, hP.2]
  exact g_iret (pc := 35) C B rfl dX6_foretell_35 (⟨rfl, rfl⟩)

set_option maxHeartbeats 400000 in
set_option maxRecDepth 100000 in
theorem c_X6_foretell_hi (l : Launch) (E : En) (base aw : Nat) (S : Mm) (mc : Nat) (lc : Nat → Nat) (hI : IX S mc lc) (i : Nat) (hi : i < mc) (g : Nat) (hg : g < 16) (p2 : Int32) (hlo : 0 ≤ p2) (hhi : ¬ p2 ≤ 240) : Cn l E base aw yX6_foretell cX6_foretell 5 (some Jvm.ClassFile.FieldType.int) 3 0 0 noF S [vr (0, 0, 0), vi (nI i), vi (nI g), vi p2] (fun r S' => r = some (vi (-6)) ∧ S' = rfX S 6) := by
  have hX := hI.1
  have hmc := hX.m6
  have hm := hX.ms hi
  have hn := hI.2.2 i hi
  have hn8 := hm.n8
  refine Cn.of (by decide) (Nat.le_of_ble_eq_true rfl) ?_
  intro X Y hl hE hbase haw hfr C B
  subst hl; subst hE; subst hbase; subst haw
  refine g_aload_n (pc := 0) C dX6_foretell_0 rfl ?_
  refine g_iload_n (pc := 1) C dX6_foretell_1 rfl ?_
  refine g_callV (pc := 2) C B mX6_57 (c_mAt_t _ _ _ _ _ mc lc hI i hi) rfl rfl rfl rfl (hX.1 0 (by decide)) (by decide) ⟨Nat.le_refl _, Nat.le_refl _⟩ (Nat.le_of_ble_eq_true rfl) dX6_foretell_2 (fun rr SS hP => ?_)
  rw [hP.1, hP.2]
  refine g_astore (pc := 5) C dX6_foretell_5 (by decide) ?_
  refine g_aload (pc := 7) C dX6_foretell_7 rfl ?_
  refine g_ifnull (pc := 9) C 19 dX6_foretell_9 (by decide) (fun h => by cases h) (fun _ _ => ?_)
  refine g_iload_n (pc := 12) C dX6_foretell_12 rfl ?_
  refine g_callS (pc := 13) C B mX6_61 (c_isG_t _ _ _ _ _ g hg) rfl rfl (by decide) ⟨Nat.le_refl _, Nat.le_refl _⟩ (Nat.le_of_ble_eq_true rfl) dX6_foretell_13 (fun rr SS hP => ?_)
  rw [hP.1, hP.2]
  refine g_if_ne (pc := 16) C 25 dX6_foretell_16 (by decide) (fun _ => ?_) (fun h16 => absurd h16 (by decide))
  refine g_iload_n (pc := 25) C dX6_foretell_25 rfl ?_
  refine g_if_ge (pc := 26) C 36 dX6_foretell_26 (by decide) (fun _ => ?_) (fun h26 => absurd hlo h26)
  refine g_iload_n (pc := 36) C dX6_foretell_36 rfl ?_
  refine g_sipush (pc := 37) C 240 dX6_foretell_37 (by decide) ?_
  refine g_icmp_le (pc := 40) C 50 dX6_foretell_40 (by decide) (fun h40 => absurd h40 hhi) (fun _ => ?_)
  refine g_aload_n (pc := 43) C dX6_foretell_43 rfl ?_
  refine g_bipush (pc := 44) C (-6) dX6_foretell_44 (by decide) ?_
  refine g_callV (pc := 46) C B mX6_52 (c_xrefuse _ _ _ _ _ mc lc hX (-6) 6 (by decide) (by decide) (by decide)) rfl rfl rfl rfl (hX.1 0 (by decide)) (by decide) ⟨Nat.le_refl _, Nat.le_refl _⟩ (Nat.le_of_ble_eq_true rfl) dX6_foretell_46 (fun rr SS hP => ?_)
  rw [hP.1, hP.2]
  exact g_iret (pc := 49) C B rfl dX6_foretell_49 (⟨rfl, rfl⟩)

set_option maxHeartbeats 400000 in
set_option maxRecDepth 100000 in
theorem c_X6_foretell (l : Launch) (E : En) (base aw : Nat) (S : Mm) (mc : Nat) (lc : Nat → Nat) (hI : IX S mc lc) (i : Nat) (hi : i < mc) (g : Nat) (hg : g < 16) (h : Nat) (hh : S.1 (0, 0, 0) 7 = nI h) (hh0 : h ≤ 3000) (t : Nat) (ht : t ≤ 240) : Cn l E base aw yX6_foretell cX6_foretell 5 (some Jvm.ClassFile.FieldType.int) 3 0 0 noF S [vr (0, 0, 0), vi (nI i), vi (nI g), vi (nI t)] (fun r S' => r = some (vi (fsX S i g h t)) ∧ S' = S) := by
  have hX := hI.1
  have hmc := hX.m6
  have hm := hX.ms hi
  have hn := hI.2.2 i hi
  have hn8 := hm.n8
  refine Cn.of (by decide) (Nat.le_of_ble_eq_true rfl) ?_
  intro X Y hl hE hbase haw hfr C B
  subst hl; subst hE; subst hbase; subst haw
  refine g_aload_n (pc := 0) C dX6_foretell_0 rfl ?_
  refine g_iload_n (pc := 1) C dX6_foretell_1 rfl ?_
  refine g_callV (pc := 2) C B mX6_57 (c_mAt_t _ _ _ _ _ mc lc hI i hi) rfl rfl rfl rfl (hX.1 0 (by decide)) (by decide) ⟨Nat.le_refl _, Nat.le_refl _⟩ (Nat.le_of_ble_eq_true rfl) dX6_foretell_2 (fun rr SS hP => ?_)
  rw [hP.1, hP.2]
  refine g_astore (pc := 5) C dX6_foretell_5 (by decide) ?_
  refine g_aload (pc := 7) C dX6_foretell_7 rfl ?_
  refine g_ifnull (pc := 9) C 19 dX6_foretell_9 (by decide) (fun h => by cases h) (fun _ _ => ?_)
  refine g_iload_n (pc := 12) C dX6_foretell_12 rfl ?_
  refine g_callS (pc := 13) C B mX6_61 (c_isG_t _ _ _ _ _ g hg) rfl rfl (by decide) ⟨Nat.le_refl _, Nat.le_refl _⟩ (Nat.le_of_ble_eq_true rfl) dX6_foretell_13 (fun rr SS hP => ?_)
  rw [hP.1, hP.2]
  refine g_if_ne (pc := 16) C 25 dX6_foretell_16 (by decide) (fun _ => ?_) (fun h16 => absurd h16 (by decide))
  refine g_iload_n (pc := 25) C dX6_foretell_25 rfl ?_
  refine g_if_ge (pc := 26) C 36 dX6_foretell_26 (by decide) (fun _ => ?_) (fun h26 => absurd (nI_pos' (by omega)) h26)
  refine g_iload_n (pc := 36) C dX6_foretell_36 rfl ?_
  refine g_sipush (pc := 37) C 240 dX6_foretell_37 (by decide) ?_
  refine g_icmp_le (pc := 40) C 50 dX6_foretell_40 (by decide) (fun _ => ?_) (fun h40 => absurd ((nI_leI (a := t) (b := 240) (by omega) (by omega)).mpr (by omega)) h40)
  refine g_aload (pc := 50) C dX6_foretell_50 rfl ?_
  refine g_getr (pc := 52) C fX6_176 rfl (hm.1 0 (by decide)) dX6_foretell_52 rfl hm.r2 ?_
  refine g_iload_n (pc := 55) C dX6_foretell_55 rfl ?_
  refine g_aload_n (pc := 56) C dX6_foretell_56 rfl ?_
  refine g_geti (pc := 57) C fX6_183 rfl (hX.1 0 (by decide)) dX6_foretell_57 rfl ?_
  refine g_eqi (nI (h)) hh ?_
  refine g_iload_n (pc := 60) C dX6_foretell_60 rfl ?_
  refine g_callV (pc := 61) C B mX6_214 (c_foretold _ _ _ _ _ i (lc i) hm g hg h hh0 t ht) rfl rfl rfl rfl (hm.1 10 (by decide)) (by decide) ⟨Nat.le_refl _, Nat.le_refl _⟩ (Nat.le_of_ble_eq_true rfl) dX6_foretell_61 (fun rr SS hP => ?_)
  rw [hP.1, hP.2]
  exact g_iret (pc := 64) C B rfl dX6_foretell_64 (⟨rfl, rfl⟩)

set_option maxHeartbeats 400000 in
set_option maxRecDepth 100000 in
theorem c_X6_when_b (l : Launch) (E : En) (base aw : Nat) (S : Mm) (mc : Nat) (lc : Nat → Nat) (hI : IX S mc lc) (p0 p1 : Int32) (h : ¬ okL mc lc p0 p1) : Cn l E base aw yX6_when cX6_when 6 (some Jvm.ClassFile.FieldType.int) 3 0 0 noF S [vr (0, 0, 0), vi p0, vi p1] (fun r S' => r = some (vi (-1)) ∧ S' = rfX S 1) := by
  have hX := hI.1
  have hmc := hX.m6
  by_cases hmm : okN mc p0
  ·
    obtain ⟨i, hi, rfl⟩ := hmm
    have hm := hX.ms hi
    have hn := hI.2.2 i hi
    refine Cn.of (by decide) (Nat.le_of_ble_eq_true rfl) ?_
    intro X Y hl hE hbase haw hfr C B
    subst hl; subst hE; subst hbase; subst haw
    refine g_aload_n (pc := 0) C dX6_when_0 rfl ?_
    refine g_iload_n (pc := 1) C dX6_when_1 rfl ?_
    refine g_callV (pc := 2) C B mX6_57 (c_mAt_t _ _ _ _ _ mc lc hI i hi) rfl rfl rfl rfl (hX.1 0 (by decide)) (by decide) ⟨Nat.le_refl _, Nat.le_refl _⟩ (Nat.le_of_ble_eq_true rfl) dX6_when_2 (fun rr SS hP => ?_)
    rw [hP.1, hP.2]
    refine g_astore_n (pc := 5) C dX6_when_5 (by decide) ?_
    refine g_aload_n (pc := 6) C dX6_when_6 rfl ?_
    refine g_iload_n (pc := 7) C dX6_when_7 rfl ?_
    refine g_iload_n (pc := 8) C dX6_when_8 rfl ?_
    refine g_callV (pc := 9) C B mX6_81 (c_lAt_f _ _ _ _ _ mc lc hI (nI i) p1 h) rfl rfl rfl rfl (hX.1 0 (by decide)) (by decide) ⟨Nat.le_refl _, Nat.le_refl _⟩ (Nat.le_of_ble_eq_true rfl) dX6_when_9 (fun rr SS hP => ?_)
    rw [hP.1, hP.2]
    refine g_astore (pc := 12) C dX6_when_12 (by decide) ?_
    refine g_aload_n (pc := 14) C dX6_when_14 rfl ?_
    refine g_ifnull (pc := 15) C 23 dX6_when_15 (by decide) (fun h => by cases h) (fun _ _ => ?_)
    refine g_aload (pc := 18) C dX6_when_18 rfl ?_
    refine g_ifnonnull (pc := 20) C 29 dX6_when_20 (by decide) (fun _ h => by cases h) (fun _ => ?_)
    refine g_aload_n (pc := 23) C dX6_when_23 rfl ?_
    refine g_iconst (pc := 24) C (-1) dX6_when_24 (by decide) ?_
    refine g_callV (pc := 25) C B mX6_52 (c_xrefuse _ _ _ _ _ mc lc hX (-1) 1 (by decide) (by decide) (by decide)) rfl rfl rfl rfl (hX.1 0 (by decide)) (by decide) ⟨Nat.le_refl _, Nat.le_refl _⟩ (Nat.le_of_ble_eq_true rfl) dX6_when_25 (fun rr SS hP => ?_)
    rw [hP.1, hP.2]
    exact g_iret (pc := 28) C B rfl dX6_when_28 (⟨rfl, rfl⟩)
  ·
    have hx := hmm
    refine Cn.of (by decide) (Nat.le_of_ble_eq_true rfl) ?_
    intro X Y hl hE hbase haw hfr C B
    subst hl; subst hE; subst hbase; subst haw
    refine g_aload_n (pc := 0) C dX6_when_0 rfl ?_
    refine g_iload_n (pc := 1) C dX6_when_1 rfl ?_
    refine g_callV (pc := 2) C B mX6_57 (c_mAt_f _ _ _ _ _ mc lc hI p0 hx) rfl rfl rfl rfl (hX.1 0 (by decide)) (by decide) ⟨Nat.le_refl _, Nat.le_refl _⟩ (Nat.le_of_ble_eq_true rfl) dX6_when_2 (fun rr SS hP => ?_)
    rw [hP.1, hP.2]
    refine g_astore_n (pc := 5) C dX6_when_5 (by decide) ?_
    refine g_aload_n (pc := 6) C dX6_when_6 rfl ?_
    refine g_iload_n (pc := 7) C dX6_when_7 rfl ?_
    refine g_iload_n (pc := 8) C dX6_when_8 rfl ?_
    refine g_callV (pc := 9) C B mX6_81 (c_lAt_f _ _ _ _ _ mc lc hI p0 p1 h) rfl rfl rfl rfl (hX.1 0 (by decide)) (by decide) ⟨Nat.le_refl _, Nat.le_refl _⟩ (Nat.le_of_ble_eq_true rfl) dX6_when_9 (fun rr SS hP => ?_)
    rw [hP.1, hP.2]
    refine g_astore (pc := 12) C dX6_when_12 (by decide) ?_
    refine g_aload_n (pc := 14) C dX6_when_14 rfl ?_
    refine g_ifnull (pc := 15) C 23 dX6_when_15 (by decide) (fun _ => ?_) (fun _ h => by cases h)
    refine g_aload_n (pc := 23) C dX6_when_23 rfl ?_
    refine g_iconst (pc := 24) C (-1) dX6_when_24 (by decide) ?_
    refine g_callV (pc := 25) C B mX6_52 (c_xrefuse _ _ _ _ _ mc lc hX (-1) 1 (by decide) (by decide) (by decide)) rfl rfl rfl rfl (hX.1 0 (by decide)) (by decide) ⟨Nat.le_refl _, Nat.le_refl _⟩ (Nat.le_of_ble_eq_true rfl) dX6_when_25 (fun rr SS hP => ?_)
    rw [hP.1, hP.2]
    exact g_iret (pc := 28) C B rfl dX6_when_28 (⟨rfl, rfl⟩)

def v_X6_when (S : Mm) (lc : Nat → Nat) (i : Nat) (g : Nat) (h : Nat) : Int32 := if (stX S i (nI g) (lc i)) = 0 then 0 else whX S i g h (1000 * stX S i (nI g) (lc i)) 240 1 0
set_option maxHeartbeats 400000 in
set_option maxRecDepth 100000 in
theorem c_X6_when (l : Launch) (E : En) (base aw : Nat) (S : Mm) (mc : Nat) (lc : Nat → Nat) (hI : IX S mc lc) (i : Nat) (hi : i < mc) (j : Nat) (hj : j < lc i) (g : Nat) (hgd : S.1 (3, i, j) 0 = nI g) (hg : g < 16) (h : Nat) (hh : S.1 (0, 0, 0) 7 = nI h) (hh0 : h ≤ 3000) : Cn l E base aw yX6_when cX6_when 6 (some Jvm.ClassFile.FieldType.int) 3 0 0 noF S [vr (0, 0, 0), vi (nI i), vi (nI j)] (fun r S' => r = some (vi (v_X6_when S lc i g h)) ∧ S' = S) := by
  have hX := hI.1
  have hmc := hX.m6
  have hm := hX.ms hi
  have hn := hI.2.2 i hi
  have hn8 := hm.n8
  refine Cn.of (by decide) (Nat.le_of_ble_eq_true rfl) ?_
  intro X Y hl hE hbase haw hfr C B
  subst hl; subst hE; subst hbase; subst haw
  refine g_aload_n (pc := 0) C dX6_when_0 rfl ?_
  refine g_iload_n (pc := 1) C dX6_when_1 rfl ?_
  refine g_callV (pc := 2) C B mX6_57 (c_mAt_t _ _ _ _ _ mc lc hI i hi) rfl rfl rfl rfl (hX.1 0 (by decide)) (by decide) ⟨Nat.le_refl _, Nat.le_refl _⟩ (Nat.le_of_ble_eq_true rfl) dX6_when_2 (fun rr SS hP => ?_)
  rw [hP.1, hP.2]
  refine g_astore_n (pc := 5) C dX6_when_5 (by decide) ?_
  refine g_aload_n (pc := 6) C dX6_when_6 rfl ?_
  refine g_iload_n (pc := 7) C dX6_when_7 rfl ?_
  refine g_iload_n (pc := 8) C dX6_when_8 rfl ?_
  refine g_callV (pc := 9) C B mX6_81 (c_lAt_t _ _ _ _ _ mc lc hI i hi j hj) rfl rfl rfl rfl (hX.1 0 (by decide)) (by decide) ⟨Nat.le_refl _, Nat.le_refl _⟩ (Nat.le_of_ble_eq_true rfl) dX6_when_9 (fun rr SS hP => ?_)
  rw [hP.1, hP.2]
  refine g_astore (pc := 12) C dX6_when_12 (by decide) ?_
  refine g_aload_n (pc := 14) C dX6_when_14 rfl ?_
  refine g_ifnull (pc := 15) C 23 dX6_when_15 (by decide) (fun h => by cases h) (fun _ _ => ?_)
  refine g_aload (pc := 18) C dX6_when_18 rfl ?_
  refine g_ifnonnull (pc := 20) C 29 dX6_when_20 (by decide) (fun _ _ => ?_) (fun h => by cases h)
  refine g_aload_n (pc := 29) C dX6_when_29 rfl ?_
  refine g_aload (pc := 30) C dX6_when_30 rfl ?_
  refine g_geti (pc := 32) C fX6_180 rfl (hm.ln (by omega)) dX6_when_32 rfl ?_
  refine g_eqi (nI g) hgd ?_
  refine g_callV (pc := 35) C B mX6_218 (c_stockOf _ _ _ _ _ i (lc i) hm hn (nI g)) rfl rfl rfl rfl (hm.1 0 (by decide)) (by decide) ⟨Nat.le_refl _, Nat.le_refl _⟩ (Nat.le_of_ble_eq_true rfl) dX6_when_35 (fun rr SS hP => ?_)
  rw [hP.1, hP.2]
  refine g_istore (pc := 38) C dX6_when_38 (by decide) ?_
  refine g_iload (pc := 40) C dX6_when_40 rfl ?_
  refine g_if_ne (pc := 42) C 49 dX6_when_42 (by decide) (fun h42 => ?_) (fun h42 => ?_)
  ·
    refine g_aload_n (pc := 49) C dX6_when_49 rfl ?_
    refine g_getr (pc := 50) C fX6_176 rfl (hm.1 0 (by decide)) dX6_when_50 rfl hm.r2 ?_
    refine g_aload (pc := 53) C dX6_when_53 rfl ?_
    refine g_geti (pc := 55) C fX6_180 rfl (hm.ln (by omega)) dX6_when_55 rfl ?_
    refine g_eqi (nI g) hgd ?_
    refine g_aload_n (pc := 58) C dX6_when_58 rfl ?_
    refine g_geti (pc := 59) C fX6_183 rfl (hX.1 0 (by decide)) dX6_when_59 rfl ?_
    refine g_eqi (nI h) hh ?_
    refine g_sipush (pc := 62) C 1000 dX6_when_62 (by decide) ?_
    refine g_iload (pc := 65) C dX6_when_65 rfl ?_
    refine g_imul (pc := 67) C dX6_when_67 ?_
    refine g_callV (pc := 68) C B mX6_221 (c_till _ _ _ _ _ i (lc i) hm g hg h hh0 (1000 * stX S i (nI g) (lc i))) rfl rfl rfl rfl (hm.1 10 (by decide)) (by decide) ⟨Nat.le_refl _, Nat.le_refl _⟩ (Nat.le_of_ble_eq_true rfl) dX6_when_68 (fun rr SS hP => ?_)
    rw [hP.1, hP.2]
    exact g_iret (pc := 71) C B rfl dX6_when_71 (⟨by show some (vi _) = some (vi (v_X6_when S lc i g h)); unfold v_X6_when; rw [if_neg h42], rfl⟩)
  ·
    refine g_iconst (pc := 45) C 0 dX6_when_45 (by decide) ?_
    refine g_goto (pc := 46) C 71 dX6_when_46 (by decide) ?_
    exact g_iret (pc := 71) C B rfl dX6_when_71 (⟨by show some (vi _) = some (vi (v_X6_when S lc i g h)); unfold v_X6_when; rw [if_pos h42], rfl⟩)

set_option maxHeartbeats 400000 in
set_option maxRecDepth 100000 in
theorem c_X6_loaded_lo (l : Launch) (E : En) (base aw : Nat) (S : Mm) (mc : Nat) (lc : Nat → Nat) (hI : IX S mc lc) (p0 : Int32) (hlo : ¬ 0 ≤ p0) : Cn l E base aw yX6_loaded cX6_loaded 2 (some Jvm.ClassFile.FieldType.int) 1 0 0 noF S [vr (0, 0, 0), vi p0] (fun r S' => r = some (vi (-4)) ∧ S' = rfX S 4) := by
  have hX := hI.1
  have hmc := hX.m6
  refine Cn.of (by decide) (Nat.le_of_ble_eq_true rfl) ?_
  intro X Y hl hE hbase haw hfr C B
  subst hl; subst hE; subst hbase; subst haw
  refine g_iload_n (pc := 0) C dX6_loaded_0 rfl ?_
  refine g_if_ge (pc := 1) C 11 dX6_loaded_1 (by decide) (fun h1 => absurd h1 hlo) (fun _ => ?_)
  refine g_aload_n (pc := 4) C dX6_loaded_4 rfl ?_
  refine g_bipush (pc := 5) C (-4) dX6_loaded_5 (by decide) ?_
  refine g_callV (pc := 7) C B mX6_52 (c_xrefuse _ _ _ _ _ mc lc hX (-4) 4 (by decide) (by decide) (by decide)) rfl rfl rfl rfl (hX.1 0 (by decide)) (by decide) ⟨Nat.le_refl _, Nat.le_refl _⟩ (Nat.le_of_ble_eq_true rfl) dX6_loaded_7 (fun rr SS hP => ?_)
  rw [hP.1, hP.2]
  exact g_iret (pc := 10) C B rfl dX6_loaded_10 (⟨rfl, rfl⟩)

set_option maxHeartbeats 400000 in
set_option maxRecDepth 100000 in
theorem c_X6_loaded_hi (l : Launch) (E : En) (base aw : Nat) (S : Mm) (mc : Nat) (lc : Nat → Nat) (hI : IX S mc lc) (p0 : Int32) (hlo : 0 ≤ p0) (hhi : (8 : Int32) ≤ p0) : Cn l E base aw yX6_loaded cX6_loaded 2 (some Jvm.ClassFile.FieldType.int) 1 0 0 noF S [vr (0, 0, 0), vi p0] (fun r S' => r = some (vi 0) ∧ S' = S) := by
  have hX := hI.1
  have hmc := hX.m6
  refine Cn.of (by decide) (Nat.le_of_ble_eq_true rfl) ?_
  intro X Y hl hE hbase haw hfr C B
  subst hl; subst hE; subst hbase; subst haw
  refine g_iload_n (pc := 0) C dX6_loaded_0 rfl ?_
  refine g_if_ge (pc := 1) C 11 dX6_loaded_1 (by decide) (fun _ => ?_) (fun h1 => absurd hlo h1)
  refine g_aload_n (pc := 11) C dX6_loaded_11 rfl ?_
  refine g_getr (pc := 12) C fX6_44 rfl (hX.1 0 (by decide)) dX6_loaded_12 rfl hX.r5 ?_
  refine g_iload_n (pc := 15) C dX6_loaded_15 rfl ?_
  refine g_callV (pc := 16) C B mX6_228 (c_pieces_hi _ _ _ _ _ mc lc hX p0 (Int32.not_lt.mpr hlo) hhi) rfl rfl rfl rfl (hX.1 8 (by decide)) (by decide) ⟨Nat.le_refl _, Nat.le_refl _⟩ (Nat.le_of_ble_eq_true rfl) dX6_loaded_16 (fun rr SS hP => ?_)
  rw [hP.1, hP.2]
  exact g_iret (pc := 19) C B rfl dX6_loaded_19 (⟨rfl, rfl⟩)

set_option maxHeartbeats 400000 in
set_option maxRecDepth 100000 in
theorem c_X6_loaded (l : Launch) (E : En) (base aw : Nat) (S : Mm) (mc : Nat) (lc : Nat → Nat) (hI : IX S mc lc) (t : Nat) (ht : t < 8) : Cn l E base aw yX6_loaded cX6_loaded 2 (some Jvm.ClassFile.FieldType.int) 1 0 0 noF S [vr (0, 0, 0), vi (nI t)] (fun r S' => r = some (vi (S.1 (0, 0, 10) t)) ∧ S' = S) := by
  have hX := hI.1
  have hmc := hX.m6
  refine Cn.of (by decide) (Nat.le_of_ble_eq_true rfl) ?_
  intro X Y hl hE hbase haw hfr C B
  subst hl; subst hE; subst hbase; subst haw
  refine g_iload_n (pc := 0) C dX6_loaded_0 rfl ?_
  refine g_if_ge (pc := 1) C 11 dX6_loaded_1 (by decide) (fun _ => ?_) (fun h1 => absurd (nI_pos' (by omega)) h1)
  refine g_aload_n (pc := 11) C dX6_loaded_11 rfl ?_
  refine g_getr (pc := 12) C fX6_44 rfl (hX.1 0 (by decide)) dX6_loaded_12 rfl hX.r5 ?_
  refine g_iload_n (pc := 15) C dX6_loaded_15 rfl ?_
  refine g_callV (pc := 16) C B mX6_228 (c_pieces _ _ _ _ _ mc lc hX t ht) rfl rfl rfl rfl (hX.1 8 (by decide)) (by decide) ⟨Nat.le_refl _, Nat.le_refl _⟩ (Nat.le_of_ble_eq_true rfl) dX6_loaded_16 (fun rr SS hP => ?_)
  rw [hP.1, hP.2]
  exact g_iret (pc := 19) C B rfl dX6_loaded_19 (⟨rfl, rfl⟩)

set_option maxHeartbeats 400000 in
set_option maxRecDepth 100000 in
theorem c_X6_load_b (l : Launch) (E : En) (base aw : Nat) (S : Mm) (mc : Nat) (lc : Nat → Nat) (hI : IX S mc lc) (p0 p1 : Int32) (hx : ¬ okN mc p0) : Cn l E base aw yX6_load cX6_load 4 (some Jvm.ClassFile.FieldType.int) 5 0 0 noF S [vr (0, 0, 0), vi p0, vi p1] (fun r S' => r = some (vi (-1)) ∧ S' = rfX S 1) := by
  have hX := hI.1
  have hmc := hX.m6
  refine Cn.of (by decide) (Nat.le_of_ble_eq_true rfl) ?_
  intro X Y hl hE hbase haw hfr C B
  subst hl; subst hE; subst hbase; subst haw
  refine g_aload_n (pc := 0) C dX6_load_0 rfl ?_
  refine g_iload_n (pc := 1) C dX6_load_1 rfl ?_
  refine g_callV (pc := 2) C B mX6_57 (c_mAt_f _ _ _ _ _ mc lc hI p0 hx) rfl rfl rfl rfl (hX.1 0 (by decide)) (by decide) ⟨Nat.le_refl _, Nat.le_refl _⟩ (Nat.le_of_ble_eq_true rfl) dX6_load_2 (fun rr SS hP => ?_)
  rw [hP.1, hP.2]
  refine g_astore_n (pc := 5) C dX6_load_5 (by decide) ?_
  refine g_aload_n (pc := 6) C dX6_load_6 rfl ?_
  refine g_ifnonnull (pc := 7) C 16 dX6_load_7 (by decide) (fun _ h => by cases h) (fun _ => ?_)
  refine g_aload_n (pc := 10) C dX6_load_10 rfl ?_
  refine g_iconst (pc := 11) C (-1) dX6_load_11 (by decide) ?_
  refine g_callV (pc := 12) C B mX6_52 (c_xrefuse _ _ _ _ _ mc lc hX (-1) 1 (by decide) (by decide) (by decide)) rfl rfl rfl rfl (hX.1 0 (by decide)) (by decide) ⟨Nat.le_refl _, Nat.le_refl _⟩ (Nat.le_of_ble_eq_true rfl) dX6_load_12 (fun rr SS hP => ?_)
  rw [hP.1, hP.2]
  exact g_iret (pc := 15) C B rfl dX6_load_15 (⟨rfl, rfl⟩)

set_option maxHeartbeats 400000 in
set_option maxRecDepth 100000 in
theorem c_X6_load_lo (l : Launch) (E : En) (base aw : Nat) (S : Mm) (mc : Nat) (lc : Nat → Nat) (hI : IX S mc lc) (i : Nat) (hi : i < mc) (p1 : Int32) (hlo : ¬ 0 ≤ p1) : Cn l E base aw yX6_load cX6_load 4 (some Jvm.ClassFile.FieldType.int) 5 0 0 noF S [vr (0, 0, 0), vi (nI i), vi p1] (fun r S' => r = some (vi (-4)) ∧ S' = rfX S 4) := by
  have hX := hI.1
  have hmc := hX.m6
  have hm := hX.ms hi
  have hn := hI.2.2 i hi
  have hn8 := hm.n8
  refine Cn.of (by decide) (Nat.le_of_ble_eq_true rfl) ?_
  intro X Y hl hE hbase haw hfr C B
  subst hl; subst hE; subst hbase; subst haw
  refine g_aload_n (pc := 0) C dX6_load_0 rfl ?_
  refine g_iload_n (pc := 1) C dX6_load_1 rfl ?_
  refine g_callV (pc := 2) C B mX6_57 (c_mAt_t _ _ _ _ _ mc lc hI i hi) rfl rfl rfl rfl (hX.1 0 (by decide)) (by decide) ⟨Nat.le_refl _, Nat.le_refl _⟩ (Nat.le_of_ble_eq_true rfl) dX6_load_2 (fun rr SS hP => ?_)
  rw [hP.1, hP.2]
  refine g_astore_n (pc := 5) C dX6_load_5 (by decide) ?_
  refine g_aload_n (pc := 6) C dX6_load_6 rfl ?_
  refine g_ifnonnull (pc := 7) C 16 dX6_load_7 (by decide) (fun _ _ => ?_) (fun h => by cases h)
  refine g_iload_n (pc := 16) C dX6_load_16 rfl ?_
  refine g_if_ge (pc := 17) C 27 dX6_load_17 (by decide) (fun h17 => absurd h17 hlo) (fun _ => ?_)
  refine g_aload_n (pc := 20) C dX6_load_20 rfl ?_
  refine g_bipush (pc := 21) C (-4) dX6_load_21 (by decide) ?_
  refine g_callV (pc := 23) C B mX6_52 (c_xrefuse _ _ _ _ _ mc lc hX (-4) 4 (by decide) (by decide) (by decide)) rfl rfl rfl rfl (hX.1 0 (by decide)) (by decide) ⟨Nat.le_refl _, Nat.le_refl _⟩ (Nat.le_of_ble_eq_true rfl) dX6_load_23 (fun rr SS hP => ?_)
  rw [hP.1, hP.2]
  exact g_iret (pc := 26) C B rfl dX6_load_26 (⟨rfl, rfl⟩)

set_option maxHeartbeats 400000 in
set_option maxRecDepth 100000 in
theorem c_X6_load_hi (l : Launch) (E : En) (base aw : Nat) (S : Mm) (mc : Nat) (lc : Nat → Nat) (hI : IX S mc lc) (i : Nat) (hi : i < mc) (p1 : Int32) (hlo : 0 ≤ p1) (hhi : ¬ p1 ≤ 200) : Cn l E base aw yX6_load cX6_load 4 (some Jvm.ClassFile.FieldType.int) 5 0 0 noF S [vr (0, 0, 0), vi (nI i), vi p1] (fun r S' => r = some (vi (-6)) ∧ S' = rfX S 6) := by
  have hX := hI.1
  have hmc := hX.m6
  have hm := hX.ms hi
  have hn := hI.2.2 i hi
  have hn8 := hm.n8
  refine Cn.of (by decide) (Nat.le_of_ble_eq_true rfl) ?_
  intro X Y hl hE hbase haw hfr C B
  subst hl; subst hE; subst hbase; subst haw
  refine g_aload_n (pc := 0) C dX6_load_0 rfl ?_
  refine g_iload_n (pc := 1) C dX6_load_1 rfl ?_
  refine g_callV (pc := 2) C B mX6_57 (c_mAt_t _ _ _ _ _ mc lc hI i hi) rfl rfl rfl rfl (hX.1 0 (by decide)) (by decide) ⟨Nat.le_refl _, Nat.le_refl _⟩ (Nat.le_of_ble_eq_true rfl) dX6_load_2 (fun rr SS hP => ?_)
  rw [hP.1, hP.2]
  refine g_astore_n (pc := 5) C dX6_load_5 (by decide) ?_
  refine g_aload_n (pc := 6) C dX6_load_6 rfl ?_
  refine g_ifnonnull (pc := 7) C 16 dX6_load_7 (by decide) (fun _ _ => ?_) (fun h => by cases h)
  refine g_iload_n (pc := 16) C dX6_load_16 rfl ?_
  refine g_if_ge (pc := 17) C 27 dX6_load_17 (by decide) (fun _ => ?_) (fun h17 => absurd hlo h17)
  refine g_iload_n (pc := 27) C dX6_load_27 rfl ?_
  refine g_sipush (pc := 28) C 200 dX6_load_28 (by decide) ?_
  refine g_icmp_le (pc := 31) C 41 dX6_load_31 (by decide) (fun h31 => absurd h31 hhi) (fun _ => ?_)
  refine g_aload_n (pc := 34) C dX6_load_34 rfl ?_
  refine g_bipush (pc := 35) C (-6) dX6_load_35 (by decide) ?_
  refine g_callV (pc := 37) C B mX6_52 (c_xrefuse _ _ _ _ _ mc lc hX (-6) 6 (by decide) (by decide) (by decide)) rfl rfl rfl rfl (hX.1 0 (by decide)) (by decide) ⟨Nat.le_refl _, Nat.le_refl _⟩ (Nat.le_of_ble_eq_true rfl) dX6_load_37 (fun rr SS hP => ?_)
  rw [hP.1, hP.2]
  exact g_iret (pc := 40) C B rfl dX6_load_40 (⟨rfl, rfl⟩)

set_option maxHeartbeats 400000 in
set_option maxRecDepth 100000 in
theorem c_X6_load (l : Launch) (E : En) (base aw : Nat) (S : Mm) (mc : Nat) (lc : Nat → Nat) (hI : IX S mc lc) (i : Nat) (hi : i < mc) (room : Nat) (hro : room ≤ 200) (gd mt sz gx : Nat → Nat) (hV : VaH S gd mt sz gx i (lc i)) : Cn l E base aw yX6_load cX6_load 4 (some Jvm.ClassFile.FieldType.int) 5 0 0 noF S [vr (0, 0, 0), vi (nI i), vi (nI room)] (fun r S' => r = some (vi (xvI (flM (xtM S mt sz gx (lc i) room) (0, 0, 10) 0 8) i mt sz gx (lc i) room (lc i))) ∧ S' = xpM (flM (xtM S mt sz gx (lc i) room) (0, 0, 10) 0 8) mt sz gx (lc i) room (lc i)) := by
  have hX := hI.1
  have hmc := hX.m6
  have hm := hX.ms hi
  have hn := hI.2.2 i hi
  have hn8 := hm.n8
  refine Cn.of (by decide) (Nat.le_of_ble_eq_true rfl) ?_
  intro X Y hl hE hbase haw hfr C B
  subst hl; subst hE; subst hbase; subst haw
  refine g_aload_n (pc := 0) C dX6_load_0 rfl ?_
  refine g_iload_n (pc := 1) C dX6_load_1 rfl ?_
  refine g_callV (pc := 2) C B mX6_57 (c_mAt_t _ _ _ _ _ mc lc hI i hi) rfl rfl rfl rfl (hX.1 0 (by decide)) (by decide) ⟨Nat.le_refl _, Nat.le_refl _⟩ (Nat.le_of_ble_eq_true rfl) dX6_load_2 (fun rr SS hP => ?_)
  rw [hP.1, hP.2]
  refine g_astore_n (pc := 5) C dX6_load_5 (by decide) ?_
  refine g_aload_n (pc := 6) C dX6_load_6 rfl ?_
  refine g_ifnonnull (pc := 7) C 16 dX6_load_7 (by decide) (fun _ _ => ?_) (fun h => by cases h)
  refine g_iload_n (pc := 16) C dX6_load_16 rfl ?_
  refine g_if_ge (pc := 17) C 27 dX6_load_17 (by decide) (fun _ => ?_) (fun h17 => absurd (nI_pos' (by omega)) h17)
  refine g_iload_n (pc := 27) C dX6_load_27 rfl ?_
  refine g_sipush (pc := 28) C 200 dX6_load_28 (by decide) ?_
  refine g_icmp_le (pc := 31) C 41 dX6_load_31 (by decide) (fun _ => ?_) (fun h31 => absurd ((nI_leI (a := room) (b := 200) (by omega) (by omega)).mpr (by omega)) h31)
  refine g_aload_n (pc := 41) C dX6_load_41 rfl ?_
  refine g_getr (pc := 42) C fX6_44 rfl (hX.1 0 (by decide)) dX6_load_42 rfl hX.r5 ?_
  refine g_aload_n (pc := 45) C dX6_load_45 rfl ?_
  refine g_aload_n (pc := 46) C dX6_load_46 rfl ?_
  refine g_getr (pc := 47) C fX6_15 rfl (hX.1 0 (by decide)) dX6_load_47 rfl hX.r1 ?_
  refine g_iload_n (pc := 50) C dX6_load_50 rfl ?_
  refine g_callV (pc := 51) C B mX6_224 (c_plan _ _ _ _ _ i (lc i) mc lc gd mt sz gx hX hm hn hV room hro) rfl rfl rfl rfl (hX.1 8 (by decide)) (by decide) ⟨Nat.le_refl _, Nat.le_refl _⟩ (Nat.le_of_ble_eq_true rfl) dX6_load_51 (fun rr SS hP => ?_)
  rw [hP.1, hP.2]
  exact g_iret (pc := 54) C B rfl dX6_load_54 (⟨rfl, rfl⟩)

set_option maxHeartbeats 400000 in
set_option maxRecDepth 100000 in
theorem c_X6_laneOf_b (l : Launch) (E : En) (base aw : Nat) (S : Mm) (mc : Nat) (lc : Nat → Nat) (hI : IX S mc lc) (p0 p1 p2 : Int32) (h : ¬ okL mc lc p0 p1) : Cn l E base aw yX6_laneOf cX6_laneOf 6 (some Jvm.ClassFile.FieldType.int) 2 0 0 noF S [vr (0, 0, 0), vi p0, vi p1, vi p2] (fun r S' => r = some (vi (-1)) ∧ S' = rfX S 1) := by
  have hX := hI.1
  have hmc := hX.m6
  by_cases hmm : okN mc p0
  ·
    obtain ⟨i, hi, rfl⟩ := hmm
    have hm := hX.ms hi
    have hn := hI.2.2 i hi
    refine Cn.of (by decide) (Nat.le_of_ble_eq_true rfl) ?_
    intro X Y hl hE hbase haw hfr C B
    subst hl; subst hE; subst hbase; subst haw
    refine g_aload_n (pc := 0) C dX6_laneOf_0 rfl ?_
    refine g_iload_n (pc := 1) C dX6_laneOf_1 rfl ?_
    refine g_callV (pc := 2) C B mX6_57 (c_mAt_t _ _ _ _ _ mc lc hI i hi) rfl rfl rfl rfl (hX.1 0 (by decide)) (by decide) ⟨Nat.le_refl _, Nat.le_refl _⟩ (Nat.le_of_ble_eq_true rfl) dX6_laneOf_2 (fun rr SS hP => ?_)
    rw [hP.1, hP.2]
    refine g_astore (pc := 5) C dX6_laneOf_5 (by decide) ?_
    refine g_aload_n (pc := 7) C dX6_laneOf_7 rfl ?_
    refine g_iload_n (pc := 8) C dX6_laneOf_8 rfl ?_
    refine g_iload_n (pc := 9) C dX6_laneOf_9 rfl ?_
    refine g_callV (pc := 10) C B mX6_81 (c_lAt_f _ _ _ _ _ mc lc hI (nI i) p1 h) rfl rfl rfl rfl (hX.1 0 (by decide)) (by decide) ⟨Nat.le_refl _, Nat.le_refl _⟩ (Nat.le_of_ble_eq_true rfl) dX6_laneOf_10 (fun rr SS hP => ?_)
    rw [hP.1, hP.2]
    refine g_astore (pc := 13) C dX6_laneOf_13 (by decide) ?_
    refine g_aload (pc := 15) C dX6_laneOf_15 rfl ?_
    refine g_ifnull (pc := 17) C 25 dX6_laneOf_17 (by decide) (fun h => by cases h) (fun _ _ => ?_)
    refine g_aload (pc := 20) C dX6_laneOf_20 rfl ?_
    refine g_ifnonnull (pc := 22) C 31 dX6_laneOf_22 (by decide) (fun _ h => by cases h) (fun _ => ?_)
    refine g_aload_n (pc := 25) C dX6_laneOf_25 rfl ?_
    refine g_iconst (pc := 26) C (-1) dX6_laneOf_26 (by decide) ?_
    refine g_callV (pc := 27) C B mX6_52 (c_xrefuse _ _ _ _ _ mc lc hX (-1) 1 (by decide) (by decide) (by decide)) rfl rfl rfl rfl (hX.1 0 (by decide)) (by decide) ⟨Nat.le_refl _, Nat.le_refl _⟩ (Nat.le_of_ble_eq_true rfl) dX6_laneOf_27 (fun rr SS hP => ?_)
    rw [hP.1, hP.2]
    exact g_iret (pc := 30) C B rfl dX6_laneOf_30 (⟨rfl, rfl⟩)
  ·
    have hx := hmm
    refine Cn.of (by decide) (Nat.le_of_ble_eq_true rfl) ?_
    intro X Y hl hE hbase haw hfr C B
    subst hl; subst hE; subst hbase; subst haw
    refine g_aload_n (pc := 0) C dX6_laneOf_0 rfl ?_
    refine g_iload_n (pc := 1) C dX6_laneOf_1 rfl ?_
    refine g_callV (pc := 2) C B mX6_57 (c_mAt_f _ _ _ _ _ mc lc hI p0 hx) rfl rfl rfl rfl (hX.1 0 (by decide)) (by decide) ⟨Nat.le_refl _, Nat.le_refl _⟩ (Nat.le_of_ble_eq_true rfl) dX6_laneOf_2 (fun rr SS hP => ?_)
    rw [hP.1, hP.2]
    refine g_astore (pc := 5) C dX6_laneOf_5 (by decide) ?_
    refine g_aload_n (pc := 7) C dX6_laneOf_7 rfl ?_
    refine g_iload_n (pc := 8) C dX6_laneOf_8 rfl ?_
    refine g_iload_n (pc := 9) C dX6_laneOf_9 rfl ?_
    refine g_callV (pc := 10) C B mX6_81 (c_lAt_f _ _ _ _ _ mc lc hI p0 p1 h) rfl rfl rfl rfl (hX.1 0 (by decide)) (by decide) ⟨Nat.le_refl _, Nat.le_refl _⟩ (Nat.le_of_ble_eq_true rfl) dX6_laneOf_10 (fun rr SS hP => ?_)
    rw [hP.1, hP.2]
    refine g_astore (pc := 13) C dX6_laneOf_13 (by decide) ?_
    refine g_aload (pc := 15) C dX6_laneOf_15 rfl ?_
    refine g_ifnull (pc := 17) C 25 dX6_laneOf_17 (by decide) (fun _ => ?_) (fun _ h => by cases h)
    refine g_aload_n (pc := 25) C dX6_laneOf_25 rfl ?_
    refine g_iconst (pc := 26) C (-1) dX6_laneOf_26 (by decide) ?_
    refine g_callV (pc := 27) C B mX6_52 (c_xrefuse _ _ _ _ _ mc lc hX (-1) 1 (by decide) (by decide) (by decide)) rfl rfl rfl rfl (hX.1 0 (by decide)) (by decide) ⟨Nat.le_refl _, Nat.le_refl _⟩ (Nat.le_of_ble_eq_true rfl) dX6_laneOf_27 (fun rr SS hP => ?_)
    rw [hP.1, hP.2]
    exact g_iret (pc := 30) C B rfl dX6_laneOf_30 (⟨rfl, rfl⟩)

set_option maxHeartbeats 400000 in
set_option maxRecDepth 100000 in
theorem c_X6_laneOf0 (l : Launch) (E : En) (base aw : Nat) (S : Mm) (mc : Nat) (lc : Nat → Nat) (hI : IX S mc lc) (i : Nat) (hi : i < mc) (j : Nat) (hj : j < lc i) : Cn l E base aw yX6_laneOf cX6_laneOf 6 (some Jvm.ClassFile.FieldType.int) 2 0 0 noF S [vr (0, 0, 0), vi (nI i), vi (nI j), vi (nI 0)] (fun r S' => r = some (vi (S.1 (3, i, j) 0)) ∧ S' = S) := by
  have hX := hI.1
  have hmc := hX.m6
  have hm := hX.ms hi
  have hn := hI.2.2 i hi
  have hn8 := hm.n8
  refine Cn.of (by decide) (Nat.le_of_ble_eq_true rfl) ?_
  intro X Y hl hE hbase haw hfr C B
  subst hl; subst hE; subst hbase; subst haw
  refine g_aload_n (pc := 0) C dX6_laneOf_0 rfl ?_
  refine g_iload_n (pc := 1) C dX6_laneOf_1 rfl ?_
  refine g_callV (pc := 2) C B mX6_57 (c_mAt_t _ _ _ _ _ mc lc hI i hi) rfl rfl rfl rfl (hX.1 0 (by decide)) (by decide) ⟨Nat.le_refl _, Nat.le_refl _⟩ (Nat.le_of_ble_eq_true rfl) dX6_laneOf_2 (fun rr SS hP => ?_)
  rw [hP.1, hP.2]
  refine g_astore (pc := 5) C dX6_laneOf_5 (by decide) ?_
  refine g_aload_n (pc := 7) C dX6_laneOf_7 rfl ?_
  refine g_iload_n (pc := 8) C dX6_laneOf_8 rfl ?_
  refine g_iload_n (pc := 9) C dX6_laneOf_9 rfl ?_
  refine g_callV (pc := 10) C B mX6_81 (c_lAt_t _ _ _ _ _ mc lc hI i hi j hj) rfl rfl rfl rfl (hX.1 0 (by decide)) (by decide) ⟨Nat.le_refl _, Nat.le_refl _⟩ (Nat.le_of_ble_eq_true rfl) dX6_laneOf_10 (fun rr SS hP => ?_)
  rw [hP.1, hP.2]
  refine g_astore (pc := 13) C dX6_laneOf_13 (by decide) ?_
  refine g_aload (pc := 15) C dX6_laneOf_15 rfl ?_
  refine g_ifnull (pc := 17) C 25 dX6_laneOf_17 (by decide) (fun h => by cases h) (fun _ _ => ?_)
  refine g_aload (pc := 20) C dX6_laneOf_20 rfl ?_
  refine g_ifnonnull (pc := 22) C 31 dX6_laneOf_22 (by decide) (fun _ _ => ?_) (fun h => by cases h)
  refine g_iload_n (pc := 31) C dX6_laneOf_31 rfl ?_
  refine g_tabIn (pc := 32) (off := 52) C 84 dX6_laneOf_32 (by decide) (by decide) (by decide) (by decide) ?_
  refine g_aload (pc := 84) C dX6_laneOf_84 rfl ?_
  refine g_geti (pc := 86) C fX6_180 rfl (hm.ln (by omega)) dX6_laneOf_86 rfl ?_
  exact g_iret (pc := 89) C B rfl dX6_laneOf_89 (⟨rfl, rfl⟩)

set_option maxHeartbeats 400000 in
set_option maxRecDepth 100000 in
theorem c_X6_laneOf1 (l : Launch) (E : En) (base aw : Nat) (S : Mm) (mc : Nat) (lc : Nat → Nat) (hI : IX S mc lc) (i : Nat) (hi : i < mc) (j : Nat) (hj : j < lc i) : Cn l E base aw yX6_laneOf cX6_laneOf 6 (some Jvm.ClassFile.FieldType.int) 2 0 0 noF S [vr (0, 0, 0), vi (nI i), vi (nI j), vi (nI 1)] (fun r S' => r = some (vi (S.1 (3, i, j) 4)) ∧ S' = S) := by
  have hX := hI.1
  have hmc := hX.m6
  have hm := hX.ms hi
  have hn := hI.2.2 i hi
  have hn8 := hm.n8
  refine Cn.of (by decide) (Nat.le_of_ble_eq_true rfl) ?_
  intro X Y hl hE hbase haw hfr C B
  subst hl; subst hE; subst hbase; subst haw
  refine g_aload_n (pc := 0) C dX6_laneOf_0 rfl ?_
  refine g_iload_n (pc := 1) C dX6_laneOf_1 rfl ?_
  refine g_callV (pc := 2) C B mX6_57 (c_mAt_t _ _ _ _ _ mc lc hI i hi) rfl rfl rfl rfl (hX.1 0 (by decide)) (by decide) ⟨Nat.le_refl _, Nat.le_refl _⟩ (Nat.le_of_ble_eq_true rfl) dX6_laneOf_2 (fun rr SS hP => ?_)
  rw [hP.1, hP.2]
  refine g_astore (pc := 5) C dX6_laneOf_5 (by decide) ?_
  refine g_aload_n (pc := 7) C dX6_laneOf_7 rfl ?_
  refine g_iload_n (pc := 8) C dX6_laneOf_8 rfl ?_
  refine g_iload_n (pc := 9) C dX6_laneOf_9 rfl ?_
  refine g_callV (pc := 10) C B mX6_81 (c_lAt_t _ _ _ _ _ mc lc hI i hi j hj) rfl rfl rfl rfl (hX.1 0 (by decide)) (by decide) ⟨Nat.le_refl _, Nat.le_refl _⟩ (Nat.le_of_ble_eq_true rfl) dX6_laneOf_10 (fun rr SS hP => ?_)
  rw [hP.1, hP.2]
  refine g_astore (pc := 13) C dX6_laneOf_13 (by decide) ?_
  refine g_aload (pc := 15) C dX6_laneOf_15 rfl ?_
  refine g_ifnull (pc := 17) C 25 dX6_laneOf_17 (by decide) (fun h => by cases h) (fun _ _ => ?_)
  refine g_aload (pc := 20) C dX6_laneOf_20 rfl ?_
  refine g_ifnonnull (pc := 22) C 31 dX6_laneOf_22 (by decide) (fun _ _ => ?_) (fun h => by cases h)
  refine g_iload_n (pc := 31) C dX6_laneOf_31 rfl ?_
  refine g_tabIn (pc := 32) (off := 58) C 90 dX6_laneOf_32 (by decide) (by decide) (by decide) (by decide) ?_
  refine g_aload (pc := 90) C dX6_laneOf_90 rfl ?_
  refine g_geti (pc := 92) C fX6_85 rfl (hm.ln (by omega)) dX6_laneOf_92 rfl ?_
  exact g_iret (pc := 95) C B rfl dX6_laneOf_95 (⟨rfl, rfl⟩)

set_option maxHeartbeats 400000 in
set_option maxRecDepth 100000 in
theorem c_X6_laneOf2 (l : Launch) (E : En) (base aw : Nat) (S : Mm) (mc : Nat) (lc : Nat → Nat) (hI : IX S mc lc) (i : Nat) (hi : i < mc) (j : Nat) (hj : j < lc i) : Cn l E base aw yX6_laneOf cX6_laneOf 6 (some Jvm.ClassFile.FieldType.int) 2 0 0 noF S [vr (0, 0, 0), vi (nI i), vi (nI j), vi (nI 2)] (fun r S' => r = some (vi (S.1 (3, i, j) 1)) ∧ S' = S) := by
  have hX := hI.1
  have hmc := hX.m6
  have hm := hX.ms hi
  have hn := hI.2.2 i hi
  have hn8 := hm.n8
  refine Cn.of (by decide) (Nat.le_of_ble_eq_true rfl) ?_
  intro X Y hl hE hbase haw hfr C B
  subst hl; subst hE; subst hbase; subst haw
  refine g_aload_n (pc := 0) C dX6_laneOf_0 rfl ?_
  refine g_iload_n (pc := 1) C dX6_laneOf_1 rfl ?_
  refine g_callV (pc := 2) C B mX6_57 (c_mAt_t _ _ _ _ _ mc lc hI i hi) rfl rfl rfl rfl (hX.1 0 (by decide)) (by decide) ⟨Nat.le_refl _, Nat.le_refl _⟩ (Nat.le_of_ble_eq_true rfl) dX6_laneOf_2 (fun rr SS hP => ?_)
  rw [hP.1, hP.2]
  refine g_astore (pc := 5) C dX6_laneOf_5 (by decide) ?_
  refine g_aload_n (pc := 7) C dX6_laneOf_7 rfl ?_
  refine g_iload_n (pc := 8) C dX6_laneOf_8 rfl ?_
  refine g_iload_n (pc := 9) C dX6_laneOf_9 rfl ?_
  refine g_callV (pc := 10) C B mX6_81 (c_lAt_t _ _ _ _ _ mc lc hI i hi j hj) rfl rfl rfl rfl (hX.1 0 (by decide)) (by decide) ⟨Nat.le_refl _, Nat.le_refl _⟩ (Nat.le_of_ble_eq_true rfl) dX6_laneOf_10 (fun rr SS hP => ?_)
  rw [hP.1, hP.2]
  refine g_astore (pc := 13) C dX6_laneOf_13 (by decide) ?_
  refine g_aload (pc := 15) C dX6_laneOf_15 rfl ?_
  refine g_ifnull (pc := 17) C 25 dX6_laneOf_17 (by decide) (fun h => by cases h) (fun _ _ => ?_)
  refine g_aload (pc := 20) C dX6_laneOf_20 rfl ?_
  refine g_ifnonnull (pc := 22) C 31 dX6_laneOf_22 (by decide) (fun _ _ => ?_) (fun h => by cases h)
  refine g_iload_n (pc := 31) C dX6_laneOf_31 rfl ?_
  refine g_tabIn (pc := 32) (off := 64) C 96 dX6_laneOf_32 (by decide) (by decide) (by decide) (by decide) ?_
  refine g_aload (pc := 96) C dX6_laneOf_96 rfl ?_
  refine g_geti (pc := 98) C fX6_126 rfl (hm.ln (by omega)) dX6_laneOf_98 rfl ?_
  exact g_iret (pc := 101) C B rfl dX6_laneOf_101 (⟨rfl, rfl⟩)

set_option maxHeartbeats 400000 in
set_option maxRecDepth 100000 in
theorem c_X6_laneOf3 (l : Launch) (E : En) (base aw : Nat) (S : Mm) (mc : Nat) (lc : Nat → Nat) (hI : IX S mc lc) (i : Nat) (hi : i < mc) (j : Nat) (hj : j < lc i) : Cn l E base aw yX6_laneOf cX6_laneOf 6 (some Jvm.ClassFile.FieldType.int) 2 0 0 noF S [vr (0, 0, 0), vi (nI i), vi (nI j), vi (nI 3)] (fun r S' => r = some (vi (S.1 (3, i, j) 5)) ∧ S' = S) := by
  have hX := hI.1
  have hmc := hX.m6
  have hm := hX.ms hi
  have hn := hI.2.2 i hi
  have hn8 := hm.n8
  refine Cn.of (by decide) (Nat.le_of_ble_eq_true rfl) ?_
  intro X Y hl hE hbase haw hfr C B
  subst hl; subst hE; subst hbase; subst haw
  refine g_aload_n (pc := 0) C dX6_laneOf_0 rfl ?_
  refine g_iload_n (pc := 1) C dX6_laneOf_1 rfl ?_
  refine g_callV (pc := 2) C B mX6_57 (c_mAt_t _ _ _ _ _ mc lc hI i hi) rfl rfl rfl rfl (hX.1 0 (by decide)) (by decide) ⟨Nat.le_refl _, Nat.le_refl _⟩ (Nat.le_of_ble_eq_true rfl) dX6_laneOf_2 (fun rr SS hP => ?_)
  rw [hP.1, hP.2]
  refine g_astore (pc := 5) C dX6_laneOf_5 (by decide) ?_
  refine g_aload_n (pc := 7) C dX6_laneOf_7 rfl ?_
  refine g_iload_n (pc := 8) C dX6_laneOf_8 rfl ?_
  refine g_iload_n (pc := 9) C dX6_laneOf_9 rfl ?_
  refine g_callV (pc := 10) C B mX6_81 (c_lAt_t _ _ _ _ _ mc lc hI i hi j hj) rfl rfl rfl rfl (hX.1 0 (by decide)) (by decide) ⟨Nat.le_refl _, Nat.le_refl _⟩ (Nat.le_of_ble_eq_true rfl) dX6_laneOf_10 (fun rr SS hP => ?_)
  rw [hP.1, hP.2]
  refine g_astore (pc := 13) C dX6_laneOf_13 (by decide) ?_
  refine g_aload (pc := 15) C dX6_laneOf_15 rfl ?_
  refine g_ifnull (pc := 17) C 25 dX6_laneOf_17 (by decide) (fun h => by cases h) (fun _ _ => ?_)
  refine g_aload (pc := 20) C dX6_laneOf_20 rfl ?_
  refine g_ifnonnull (pc := 22) C 31 dX6_laneOf_22 (by decide) (fun _ _ => ?_) (fun h => by cases h)
  refine g_iload_n (pc := 31) C dX6_laneOf_31 rfl ?_
  refine g_tabIn (pc := 32) (off := 70) C 102 dX6_laneOf_32 (by decide) (by decide) (by decide) (by decide) ?_
  refine g_aload (pc := 102) C dX6_laneOf_102 rfl ?_
  refine g_geti (pc := 104) C fX6_129 rfl (hm.ln (by omega)) dX6_laneOf_104 rfl ?_
  exact g_iret (pc := 107) C B rfl dX6_laneOf_107 (⟨rfl, rfl⟩)

set_option maxHeartbeats 400000 in
set_option maxRecDepth 100000 in
theorem c_X6_laneOf4 (l : Launch) (E : En) (base aw : Nat) (S : Mm) (mc : Nat) (lc : Nat → Nat) (hI : IX S mc lc) (i : Nat) (hi : i < mc) (j : Nat) (hj : j < lc i) : Cn l E base aw yX6_laneOf cX6_laneOf 6 (some Jvm.ClassFile.FieldType.int) 2 0 0 noF S [vr (0, 0, 0), vi (nI i), vi (nI j), vi (nI 4)] (fun r S' => r = some (vi (S.1 (3, i, j) 2)) ∧ S' = S) := by
  have hX := hI.1
  have hmc := hX.m6
  have hm := hX.ms hi
  have hn := hI.2.2 i hi
  have hn8 := hm.n8
  refine Cn.of (by decide) (Nat.le_of_ble_eq_true rfl) ?_
  intro X Y hl hE hbase haw hfr C B
  subst hl; subst hE; subst hbase; subst haw
  refine g_aload_n (pc := 0) C dX6_laneOf_0 rfl ?_
  refine g_iload_n (pc := 1) C dX6_laneOf_1 rfl ?_
  refine g_callV (pc := 2) C B mX6_57 (c_mAt_t _ _ _ _ _ mc lc hI i hi) rfl rfl rfl rfl (hX.1 0 (by decide)) (by decide) ⟨Nat.le_refl _, Nat.le_refl _⟩ (Nat.le_of_ble_eq_true rfl) dX6_laneOf_2 (fun rr SS hP => ?_)
  rw [hP.1, hP.2]
  refine g_astore (pc := 5) C dX6_laneOf_5 (by decide) ?_
  refine g_aload_n (pc := 7) C dX6_laneOf_7 rfl ?_
  refine g_iload_n (pc := 8) C dX6_laneOf_8 rfl ?_
  refine g_iload_n (pc := 9) C dX6_laneOf_9 rfl ?_
  refine g_callV (pc := 10) C B mX6_81 (c_lAt_t _ _ _ _ _ mc lc hI i hi j hj) rfl rfl rfl rfl (hX.1 0 (by decide)) (by decide) ⟨Nat.le_refl _, Nat.le_refl _⟩ (Nat.le_of_ble_eq_true rfl) dX6_laneOf_10 (fun rr SS hP => ?_)
  rw [hP.1, hP.2]
  refine g_astore (pc := 13) C dX6_laneOf_13 (by decide) ?_
  refine g_aload (pc := 15) C dX6_laneOf_15 rfl ?_
  refine g_ifnull (pc := 17) C 25 dX6_laneOf_17 (by decide) (fun h => by cases h) (fun _ _ => ?_)
  refine g_aload (pc := 20) C dX6_laneOf_20 rfl ?_
  refine g_ifnonnull (pc := 22) C 31 dX6_laneOf_22 (by decide) (fun _ _ => ?_) (fun h => by cases h)
  refine g_iload_n (pc := 31) C dX6_laneOf_31 rfl ?_
  refine g_tabIn (pc := 32) (off := 76) C 108 dX6_laneOf_32 (by decide) (by decide) (by decide) (by decide) ?_
  refine g_aload (pc := 108) C dX6_laneOf_108 rfl ?_
  refine g_geti (pc := 110) C fX6_104 rfl (hm.ln (by omega)) dX6_laneOf_110 rfl ?_
  exact g_iret (pc := 113) C B rfl dX6_laneOf_113 (⟨rfl, rfl⟩)

def v_X6_laneOf5 (S : Mm) (i : Nat) (j : Nat) : Int32 := if (S.1 (3, i, j) 8) = 0 then 0 else 1
set_option maxHeartbeats 400000 in
set_option maxRecDepth 100000 in
theorem c_X6_laneOf5 (l : Launch) (E : En) (base aw : Nat) (S : Mm) (mc : Nat) (lc : Nat → Nat) (hI : IX S mc lc) (i : Nat) (hi : i < mc) (j : Nat) (hj : j < lc i) : Cn l E base aw yX6_laneOf cX6_laneOf 6 (some Jvm.ClassFile.FieldType.int) 2 0 0 noF S [vr (0, 0, 0), vi (nI i), vi (nI j), vi (nI 5)] (fun r S' => r = some (vi (v_X6_laneOf5 S i j)) ∧ S' = S) := by
  have hX := hI.1
  have hmc := hX.m6
  have hm := hX.ms hi
  have hn := hI.2.2 i hi
  have hn8 := hm.n8
  refine Cn.of (by decide) (Nat.le_of_ble_eq_true rfl) ?_
  intro X Y hl hE hbase haw hfr C B
  subst hl; subst hE; subst hbase; subst haw
  refine g_aload_n (pc := 0) C dX6_laneOf_0 rfl ?_
  refine g_iload_n (pc := 1) C dX6_laneOf_1 rfl ?_
  refine g_callV (pc := 2) C B mX6_57 (c_mAt_t _ _ _ _ _ mc lc hI i hi) rfl rfl rfl rfl (hX.1 0 (by decide)) (by decide) ⟨Nat.le_refl _, Nat.le_refl _⟩ (Nat.le_of_ble_eq_true rfl) dX6_laneOf_2 (fun rr SS hP => ?_)
  rw [hP.1, hP.2]
  refine g_astore (pc := 5) C dX6_laneOf_5 (by decide) ?_
  refine g_aload_n (pc := 7) C dX6_laneOf_7 rfl ?_
  refine g_iload_n (pc := 8) C dX6_laneOf_8 rfl ?_
  refine g_iload_n (pc := 9) C dX6_laneOf_9 rfl ?_
  refine g_callV (pc := 10) C B mX6_81 (c_lAt_t _ _ _ _ _ mc lc hI i hi j hj) rfl rfl rfl rfl (hX.1 0 (by decide)) (by decide) ⟨Nat.le_refl _, Nat.le_refl _⟩ (Nat.le_of_ble_eq_true rfl) dX6_laneOf_10 (fun rr SS hP => ?_)
  rw [hP.1, hP.2]
  refine g_astore (pc := 13) C dX6_laneOf_13 (by decide) ?_
  refine g_aload (pc := 15) C dX6_laneOf_15 rfl ?_
  refine g_ifnull (pc := 17) C 25 dX6_laneOf_17 (by decide) (fun h => by cases h) (fun _ _ => ?_)
  refine g_aload (pc := 20) C dX6_laneOf_20 rfl ?_
  refine g_ifnonnull (pc := 22) C 31 dX6_laneOf_22 (by decide) (fun _ _ => ?_) (fun h => by cases h)
  refine g_iload_n (pc := 31) C dX6_laneOf_31 rfl ?_
  refine g_tabIn (pc := 32) (off := 82) C 114 dX6_laneOf_32 (by decide) (by decide) (by decide) (by decide) ?_
  refine g_aload (pc := 114) C dX6_laneOf_114 rfl ?_
  refine g_geti (pc := 116) C fX6_110 rfl (hm.ln (by omega)) dX6_laneOf_116 rfl ?_
  refine g_if_eq (pc := 119) C 126 dX6_laneOf_119 (by decide) (fun h119 => ?_) (fun h119 => ?_)
  ·
    refine g_iconst (pc := 126) C 0 dX6_laneOf_126 (by decide) ?_
    exact g_iret (pc := 127) C B rfl dX6_laneOf_127 (⟨by show some (vi _) = some (vi (v_X6_laneOf5 S i j)); unfold v_X6_laneOf5; rw [if_pos h119], rfl⟩)
  ·
    refine g_iconst (pc := 122) C 1 dX6_laneOf_122 (by decide) ?_
    refine g_goto (pc := 123) C 127 dX6_laneOf_123 (by decide) ?_
    exact g_iret (pc := 127) C B rfl dX6_laneOf_127 (⟨by show some (vi _) = some (vi (v_X6_laneOf5 S i j)); unfold v_X6_laneOf5; rw [if_neg h119], rfl⟩)

set_option maxHeartbeats 400000 in
set_option maxRecDepth 100000 in
theorem c_X6_laneOf6 (l : Launch) (E : En) (base aw : Nat) (S : Mm) (mc : Nat) (lc : Nat → Nat) (hI : IX S mc lc) (i : Nat) (hi : i < mc) (j : Nat) (hj : j < lc i) : Cn l E base aw yX6_laneOf cX6_laneOf 6 (some Jvm.ClassFile.FieldType.int) 2 0 0 noF S [vr (0, 0, 0), vi (nI i), vi (nI j), vi (nI 6)] (fun r S' => r = some (vi (S.1 (3, i, j) 7)) ∧ S' = S) := by
  have hX := hI.1
  have hmc := hX.m6
  have hm := hX.ms hi
  have hn := hI.2.2 i hi
  have hn8 := hm.n8
  refine Cn.of (by decide) (Nat.le_of_ble_eq_true rfl) ?_
  intro X Y hl hE hbase haw hfr C B
  subst hl; subst hE; subst hbase; subst haw
  refine g_aload_n (pc := 0) C dX6_laneOf_0 rfl ?_
  refine g_iload_n (pc := 1) C dX6_laneOf_1 rfl ?_
  refine g_callV (pc := 2) C B mX6_57 (c_mAt_t _ _ _ _ _ mc lc hI i hi) rfl rfl rfl rfl (hX.1 0 (by decide)) (by decide) ⟨Nat.le_refl _, Nat.le_refl _⟩ (Nat.le_of_ble_eq_true rfl) dX6_laneOf_2 (fun rr SS hP => ?_)
  rw [hP.1, hP.2]
  refine g_astore (pc := 5) C dX6_laneOf_5 (by decide) ?_
  refine g_aload_n (pc := 7) C dX6_laneOf_7 rfl ?_
  refine g_iload_n (pc := 8) C dX6_laneOf_8 rfl ?_
  refine g_iload_n (pc := 9) C dX6_laneOf_9 rfl ?_
  refine g_callV (pc := 10) C B mX6_81 (c_lAt_t _ _ _ _ _ mc lc hI i hi j hj) rfl rfl rfl rfl (hX.1 0 (by decide)) (by decide) ⟨Nat.le_refl _, Nat.le_refl _⟩ (Nat.le_of_ble_eq_true rfl) dX6_laneOf_10 (fun rr SS hP => ?_)
  rw [hP.1, hP.2]
  refine g_astore (pc := 13) C dX6_laneOf_13 (by decide) ?_
  refine g_aload (pc := 15) C dX6_laneOf_15 rfl ?_
  refine g_ifnull (pc := 17) C 25 dX6_laneOf_17 (by decide) (fun h => by cases h) (fun _ _ => ?_)
  refine g_aload (pc := 20) C dX6_laneOf_20 rfl ?_
  refine g_ifnonnull (pc := 22) C 31 dX6_laneOf_22 (by decide) (fun _ _ => ?_) (fun h => by cases h)
  refine g_iload_n (pc := 31) C dX6_laneOf_31 rfl ?_
  refine g_tabIn (pc := 32) (off := 96) C 128 dX6_laneOf_32 (by decide) (by decide) (by decide) (by decide) ?_
  refine g_aload (pc := 128) C dX6_laneOf_128 rfl ?_
  refine g_geti (pc := 130) C fX6_114 rfl (hm.ln (by omega)) dX6_laneOf_130 rfl ?_
  exact g_iret (pc := 133) C B rfl dX6_laneOf_133 (⟨rfl, rfl⟩)

def v_X6_laneOf7 (S : Mm) (i : Nat) (j : Nat) : Int32 := if (S.1 (3, i, j) 9) = 0 then 0 else 1
set_option maxHeartbeats 400000 in
set_option maxRecDepth 100000 in
theorem c_X6_laneOf7 (l : Launch) (E : En) (base aw : Nat) (S : Mm) (mc : Nat) (lc : Nat → Nat) (hI : IX S mc lc) (i : Nat) (hi : i < mc) (j : Nat) (hj : j < lc i) : Cn l E base aw yX6_laneOf cX6_laneOf 6 (some Jvm.ClassFile.FieldType.int) 2 0 0 noF S [vr (0, 0, 0), vi (nI i), vi (nI j), vi (nI 7)] (fun r S' => r = some (vi (v_X6_laneOf7 S i j)) ∧ S' = S) := by
  have hX := hI.1
  have hmc := hX.m6
  have hm := hX.ms hi
  have hn := hI.2.2 i hi
  have hn8 := hm.n8
  refine Cn.of (by decide) (Nat.le_of_ble_eq_true rfl) ?_
  intro X Y hl hE hbase haw hfr C B
  subst hl; subst hE; subst hbase; subst haw
  refine g_aload_n (pc := 0) C dX6_laneOf_0 rfl ?_
  refine g_iload_n (pc := 1) C dX6_laneOf_1 rfl ?_
  refine g_callV (pc := 2) C B mX6_57 (c_mAt_t _ _ _ _ _ mc lc hI i hi) rfl rfl rfl rfl (hX.1 0 (by decide)) (by decide) ⟨Nat.le_refl _, Nat.le_refl _⟩ (Nat.le_of_ble_eq_true rfl) dX6_laneOf_2 (fun rr SS hP => ?_)
  rw [hP.1, hP.2]
  refine g_astore (pc := 5) C dX6_laneOf_5 (by decide) ?_
  refine g_aload_n (pc := 7) C dX6_laneOf_7 rfl ?_
  refine g_iload_n (pc := 8) C dX6_laneOf_8 rfl ?_
  refine g_iload_n (pc := 9) C dX6_laneOf_9 rfl ?_
  refine g_callV (pc := 10) C B mX6_81 (c_lAt_t _ _ _ _ _ mc lc hI i hi j hj) rfl rfl rfl rfl (hX.1 0 (by decide)) (by decide) ⟨Nat.le_refl _, Nat.le_refl _⟩ (Nat.le_of_ble_eq_true rfl) dX6_laneOf_10 (fun rr SS hP => ?_)
  rw [hP.1, hP.2]
  refine g_astore (pc := 13) C dX6_laneOf_13 (by decide) ?_
  refine g_aload (pc := 15) C dX6_laneOf_15 rfl ?_
  refine g_ifnull (pc := 17) C 25 dX6_laneOf_17 (by decide) (fun h => by cases h) (fun _ _ => ?_)
  refine g_aload (pc := 20) C dX6_laneOf_20 rfl ?_
  refine g_ifnonnull (pc := 22) C 31 dX6_laneOf_22 (by decide) (fun _ _ => ?_) (fun h => by cases h)
  refine g_iload_n (pc := 31) C dX6_laneOf_31 rfl ?_
  refine g_tabIn (pc := 32) (off := 102) C 134 dX6_laneOf_32 (by decide) (by decide) (by decide) (by decide) ?_
  refine g_aload (pc := 134) C dX6_laneOf_134 rfl ?_
  refine g_geti (pc := 136) C fX6_123 rfl (hm.ln (by omega)) dX6_laneOf_136 rfl ?_
  refine g_if_eq (pc := 139) C 146 dX6_laneOf_139 (by decide) (fun h139 => ?_) (fun h139 => ?_)
  ·
    refine g_iconst (pc := 146) C 0 dX6_laneOf_146 (by decide) ?_
    exact g_iret (pc := 147) C B rfl dX6_laneOf_147 (⟨by show some (vi _) = some (vi (v_X6_laneOf7 S i j)); unfold v_X6_laneOf7; rw [if_pos h139], rfl⟩)
  ·
    refine g_iconst (pc := 142) C 1 dX6_laneOf_142 (by decide) ?_
    refine g_goto (pc := 143) C 147 dX6_laneOf_143 (by decide) ?_
    exact g_iret (pc := 147) C B rfl dX6_laneOf_147 (⟨by show some (vi _) = some (vi (v_X6_laneOf7 S i j)); unfold v_X6_laneOf7; rw [if_neg h139], rfl⟩)

set_option maxHeartbeats 400000 in
set_option maxRecDepth 100000 in
theorem c_X6_laneOf8_0 (l : Launch) (E : En) (base aw : Nat) (S : Mm) (mc : Nat) (lc : Nat → Nat) (hI : IX S mc lc) (i : Nat) (hi : i < mc) (j : Nat) (hj : j < lc i) (hs : v_src S i j (lc i) = 0) : Cn l E base aw yX6_laneOf cX6_laneOf 6 (some Jvm.ClassFile.FieldType.int) 2 0 0 noF S [vr (0, 0, 0), vi (nI i), vi (nI j), vi (nI 8)] (fun r S' => r = some (vi 0) ∧ S' = S) := by
  have hX := hI.1
  have hmc := hX.m6
  have hm := hX.ms hi
  have hn := hI.2.2 i hi
  have hn8 := hm.n8
  refine Cn.of (by decide) (Nat.le_of_ble_eq_true rfl) ?_
  intro X Y hl hE hbase haw hfr C B
  subst hl; subst hE; subst hbase; subst haw
  refine g_aload_n (pc := 0) C dX6_laneOf_0 rfl ?_
  refine g_iload_n (pc := 1) C dX6_laneOf_1 rfl ?_
  refine g_callV (pc := 2) C B mX6_57 (c_mAt_t _ _ _ _ _ mc lc hI i hi) rfl rfl rfl rfl (hX.1 0 (by decide)) (by decide) ⟨Nat.le_refl _, Nat.le_refl _⟩ (Nat.le_of_ble_eq_true rfl) dX6_laneOf_2 (fun rr SS hP => ?_)
  rw [hP.1, hP.2]
  refine g_astore (pc := 5) C dX6_laneOf_5 (by decide) ?_
  refine g_aload_n (pc := 7) C dX6_laneOf_7 rfl ?_
  refine g_iload_n (pc := 8) C dX6_laneOf_8 rfl ?_
  refine g_iload_n (pc := 9) C dX6_laneOf_9 rfl ?_
  refine g_callV (pc := 10) C B mX6_81 (c_lAt_t _ _ _ _ _ mc lc hI i hi j hj) rfl rfl rfl rfl (hX.1 0 (by decide)) (by decide) ⟨Nat.le_refl _, Nat.le_refl _⟩ (Nat.le_of_ble_eq_true rfl) dX6_laneOf_10 (fun rr SS hP => ?_)
  rw [hP.1, hP.2]
  refine g_astore (pc := 13) C dX6_laneOf_13 (by decide) ?_
  refine g_aload (pc := 15) C dX6_laneOf_15 rfl ?_
  refine g_ifnull (pc := 17) C 25 dX6_laneOf_17 (by decide) (fun h => by cases h) (fun _ _ => ?_)
  refine g_aload (pc := 20) C dX6_laneOf_20 rfl ?_
  refine g_ifnonnull (pc := 22) C 31 dX6_laneOf_22 (by decide) (fun _ _ => ?_) (fun h => by cases h)
  refine g_iload_n (pc := 31) C dX6_laneOf_31 rfl ?_
  refine g_tabIn (pc := 32) (off := 116) C 148 dX6_laneOf_32 (by decide) (by decide) (by decide) (by decide) ?_
  refine g_aload (pc := 148) C dX6_laneOf_148 rfl ?_
  refine g_iload_n (pc := 150) C dX6_laneOf_150 rfl ?_
  refine g_callV (pc := 151) C B mX6_159 (c_src0 _ _ _ _ _ i (lc i) hm hn j hj hs) rfl rfl rfl rfl (hm.1 0 (by decide)) (by decide) ⟨Nat.le_refl _, Nat.le_refl _⟩ (Nat.le_of_ble_eq_true rfl) dX6_laneOf_151 (fun rr SS hP => ?_)
  rw [hP.1, hP.2]
  refine g_ifnull (pc := 154) C 161 dX6_laneOf_154 (by decide) (fun _ => ?_) (fun _ h => by cases h)
  refine g_iconst (pc := 161) C 0 dX6_laneOf_161 (by decide) ?_
  exact g_iret (pc := 162) C B rfl dX6_laneOf_162 (⟨rfl, rfl⟩)

set_option maxHeartbeats 400000 in
set_option maxRecDepth 100000 in
theorem c_X6_laneOf8_1 (l : Launch) (E : En) (base aw : Nat) (S : Mm) (mc : Nat) (lc : Nat → Nat) (hI : IX S mc lc) (i : Nat) (hi : i < mc) (j : Nat) (hj : j < lc i) (hs : v_src S i j (lc i) = 1) : Cn l E base aw yX6_laneOf cX6_laneOf 6 (some Jvm.ClassFile.FieldType.int) 2 0 0 noF S [vr (0, 0, 0), vi (nI i), vi (nI j), vi (nI 8)] (fun r S' => r = some (vi 1) ∧ S' = S) := by
  have hX := hI.1
  have hmc := hX.m6
  have hm := hX.ms hi
  have hn := hI.2.2 i hi
  have hn8 := hm.n8
  refine Cn.of (by decide) (Nat.le_of_ble_eq_true rfl) ?_
  intro X Y hl hE hbase haw hfr C B
  subst hl; subst hE; subst hbase; subst haw
  refine g_aload_n (pc := 0) C dX6_laneOf_0 rfl ?_
  refine g_iload_n (pc := 1) C dX6_laneOf_1 rfl ?_
  refine g_callV (pc := 2) C B mX6_57 (c_mAt_t _ _ _ _ _ mc lc hI i hi) rfl rfl rfl rfl (hX.1 0 (by decide)) (by decide) ⟨Nat.le_refl _, Nat.le_refl _⟩ (Nat.le_of_ble_eq_true rfl) dX6_laneOf_2 (fun rr SS hP => ?_)
  rw [hP.1, hP.2]
  refine g_astore (pc := 5) C dX6_laneOf_5 (by decide) ?_
  refine g_aload_n (pc := 7) C dX6_laneOf_7 rfl ?_
  refine g_iload_n (pc := 8) C dX6_laneOf_8 rfl ?_
  refine g_iload_n (pc := 9) C dX6_laneOf_9 rfl ?_
  refine g_callV (pc := 10) C B mX6_81 (c_lAt_t _ _ _ _ _ mc lc hI i hi j hj) rfl rfl rfl rfl (hX.1 0 (by decide)) (by decide) ⟨Nat.le_refl _, Nat.le_refl _⟩ (Nat.le_of_ble_eq_true rfl) dX6_laneOf_10 (fun rr SS hP => ?_)
  rw [hP.1, hP.2]
  refine g_astore (pc := 13) C dX6_laneOf_13 (by decide) ?_
  refine g_aload (pc := 15) C dX6_laneOf_15 rfl ?_
  refine g_ifnull (pc := 17) C 25 dX6_laneOf_17 (by decide) (fun h => by cases h) (fun _ _ => ?_)
  refine g_aload (pc := 20) C dX6_laneOf_20 rfl ?_
  refine g_ifnonnull (pc := 22) C 31 dX6_laneOf_22 (by decide) (fun _ _ => ?_) (fun h => by cases h)
  refine g_iload_n (pc := 31) C dX6_laneOf_31 rfl ?_
  refine g_tabIn (pc := 32) (off := 116) C 148 dX6_laneOf_32 (by decide) (by decide) (by decide) (by decide) ?_
  refine g_aload (pc := 148) C dX6_laneOf_148 rfl ?_
  refine g_iload_n (pc := 150) C dX6_laneOf_150 rfl ?_
  refine g_callV (pc := 151) C B mX6_159 (c_src1 _ _ _ _ _ i (lc i) hm hn j hj hs) rfl rfl rfl rfl (hm.1 0 (by decide)) (by decide) ⟨Nat.le_refl _, Nat.le_refl _⟩ (Nat.le_of_ble_eq_true rfl) dX6_laneOf_151 (fun rr SS hP => ?_)
  rw [hP.1, hP.2]
  refine g_ifnull (pc := 154) C 161 dX6_laneOf_154 (by decide) (fun h => by cases h) (fun _ _ => ?_)
  refine g_iconst (pc := 157) C 1 dX6_laneOf_157 (by decide) ?_
  refine g_goto (pc := 158) C 162 dX6_laneOf_158 (by decide) ?_
  exact g_iret (pc := 162) C B rfl dX6_laneOf_162 (⟨rfl, rfl⟩)

set_option maxHeartbeats 400000 in
set_option maxRecDepth 100000 in
theorem c_X6_laneOf8_2 (l : Launch) (E : En) (base aw : Nat) (S : Mm) (mc : Nat) (lc : Nat → Nat) (hI : IX S mc lc) (i : Nat) (hi : i < mc) (j : Nat) (hj : j < lc i) (hs : v_src S i j (lc i) = 2) : Cn l E base aw yX6_laneOf cX6_laneOf 6 (some Jvm.ClassFile.FieldType.int) 2 0 0 noF S [vr (0, 0, 0), vi (nI i), vi (nI j), vi (nI 8)] (fun r S' => r = some (vi 1) ∧ S' = S) := by
  have hX := hI.1
  have hmc := hX.m6
  have hm := hX.ms hi
  have hn := hI.2.2 i hi
  have hn8 := hm.n8
  refine Cn.of (by decide) (Nat.le_of_ble_eq_true rfl) ?_
  intro X Y hl hE hbase haw hfr C B
  subst hl; subst hE; subst hbase; subst haw
  refine g_aload_n (pc := 0) C dX6_laneOf_0 rfl ?_
  refine g_iload_n (pc := 1) C dX6_laneOf_1 rfl ?_
  refine g_callV (pc := 2) C B mX6_57 (c_mAt_t _ _ _ _ _ mc lc hI i hi) rfl rfl rfl rfl (hX.1 0 (by decide)) (by decide) ⟨Nat.le_refl _, Nat.le_refl _⟩ (Nat.le_of_ble_eq_true rfl) dX6_laneOf_2 (fun rr SS hP => ?_)
  rw [hP.1, hP.2]
  refine g_astore (pc := 5) C dX6_laneOf_5 (by decide) ?_
  refine g_aload_n (pc := 7) C dX6_laneOf_7 rfl ?_
  refine g_iload_n (pc := 8) C dX6_laneOf_8 rfl ?_
  refine g_iload_n (pc := 9) C dX6_laneOf_9 rfl ?_
  refine g_callV (pc := 10) C B mX6_81 (c_lAt_t _ _ _ _ _ mc lc hI i hi j hj) rfl rfl rfl rfl (hX.1 0 (by decide)) (by decide) ⟨Nat.le_refl _, Nat.le_refl _⟩ (Nat.le_of_ble_eq_true rfl) dX6_laneOf_10 (fun rr SS hP => ?_)
  rw [hP.1, hP.2]
  refine g_astore (pc := 13) C dX6_laneOf_13 (by decide) ?_
  refine g_aload (pc := 15) C dX6_laneOf_15 rfl ?_
  refine g_ifnull (pc := 17) C 25 dX6_laneOf_17 (by decide) (fun h => by cases h) (fun _ _ => ?_)
  refine g_aload (pc := 20) C dX6_laneOf_20 rfl ?_
  refine g_ifnonnull (pc := 22) C 31 dX6_laneOf_22 (by decide) (fun _ _ => ?_) (fun h => by cases h)
  refine g_iload_n (pc := 31) C dX6_laneOf_31 rfl ?_
  refine g_tabIn (pc := 32) (off := 116) C 148 dX6_laneOf_32 (by decide) (by decide) (by decide) (by decide) ?_
  refine g_aload (pc := 148) C dX6_laneOf_148 rfl ?_
  refine g_iload_n (pc := 150) C dX6_laneOf_150 rfl ?_
  refine g_callV (pc := 151) C B mX6_159 (c_src2 _ _ _ _ _ i (lc i) hm hn j hj hs) rfl rfl rfl rfl (hm.1 0 (by decide)) (by decide) ⟨Nat.le_refl _, Nat.le_refl _⟩ (Nat.le_of_ble_eq_true rfl) dX6_laneOf_151 (fun rr SS hP => ?_)
  rw [hP.1, hP.2]
  refine g_ifnull (pc := 154) C 161 dX6_laneOf_154 (by decide) (fun h => by cases h) (fun _ _ => ?_)
  refine g_iconst (pc := 157) C 1 dX6_laneOf_157 (by decide) ?_
  refine g_goto (pc := 158) C 162 dX6_laneOf_158 (by decide) ?_
  exact g_iret (pc := 162) C B rfl dX6_laneOf_162 (⟨rfl, rfl⟩)

set_option maxHeartbeats 400000 in
set_option maxRecDepth 100000 in
theorem c_X6_laneOf_w (l : Launch) (E : En) (base aw : Nat) (S : Mm) (mc : Nat) (lc : Nat → Nat) (hI : IX S mc lc) (i : Nat) (hi : i < mc) (j : Nat) (hj : j < lc i) (p2 : Int32) (hx : ¬ okN 9 p2) : Cn l E base aw yX6_laneOf cX6_laneOf 6 (some Jvm.ClassFile.FieldType.int) 2 0 0 noF S [vr (0, 0, 0), vi (nI i), vi (nI j), vi p2] (fun r S' => r = some (vi (-2)) ∧ S' = rfX S 2) := by
  have hX := hI.1
  have hmc := hX.m6
  have hm := hX.ms hi
  have hn := hI.2.2 i hi
  have hn8 := hm.n8
  refine Cn.of (by decide) (Nat.le_of_ble_eq_true rfl) ?_
  intro X Y hl hE hbase haw hfr C B
  subst hl; subst hE; subst hbase; subst haw
  refine g_aload_n (pc := 0) C dX6_laneOf_0 rfl ?_
  refine g_iload_n (pc := 1) C dX6_laneOf_1 rfl ?_
  refine g_callV (pc := 2) C B mX6_57 (c_mAt_t _ _ _ _ _ mc lc hI i hi) rfl rfl rfl rfl (hX.1 0 (by decide)) (by decide) ⟨Nat.le_refl _, Nat.le_refl _⟩ (Nat.le_of_ble_eq_true rfl) dX6_laneOf_2 (fun rr SS hP => ?_)
  rw [hP.1, hP.2]
  refine g_astore (pc := 5) C dX6_laneOf_5 (by decide) ?_
  refine g_aload_n (pc := 7) C dX6_laneOf_7 rfl ?_
  refine g_iload_n (pc := 8) C dX6_laneOf_8 rfl ?_
  refine g_iload_n (pc := 9) C dX6_laneOf_9 rfl ?_
  refine g_callV (pc := 10) C B mX6_81 (c_lAt_t _ _ _ _ _ mc lc hI i hi j hj) rfl rfl rfl rfl (hX.1 0 (by decide)) (by decide) ⟨Nat.le_refl _, Nat.le_refl _⟩ (Nat.le_of_ble_eq_true rfl) dX6_laneOf_10 (fun rr SS hP => ?_)
  rw [hP.1, hP.2]
  refine g_astore (pc := 13) C dX6_laneOf_13 (by decide) ?_
  refine g_aload (pc := 15) C dX6_laneOf_15 rfl ?_
  refine g_ifnull (pc := 17) C 25 dX6_laneOf_17 (by decide) (fun h => by cases h) (fun _ _ => ?_)
  refine g_aload (pc := 20) C dX6_laneOf_20 rfl ?_
  refine g_ifnonnull (pc := 22) C 31 dX6_laneOf_22 (by decide) (fun _ _ => ?_) (fun h => by cases h)
  refine g_iload_n (pc := 31) C dX6_laneOf_31 rfl ?_
  refine g_tabOut (pc := 32) C 163 dX6_laneOf_32 (tab_out (n := 8) (by decide) hx) (by decide) ?_
  refine g_aload_n (pc := 163) C dX6_laneOf_163 rfl ?_
  refine g_bipush (pc := 164) C (-2) dX6_laneOf_164 (by decide) ?_
  refine g_callV (pc := 166) C B mX6_52 (c_xrefuse _ _ _ _ _ mc lc hX (-2) 2 (by decide) (by decide) (by decide)) rfl rfl rfl rfl (hX.1 0 (by decide)) (by decide) ⟨Nat.le_refl _, Nat.le_refl _⟩ (Nat.le_of_ble_eq_true rfl) dX6_laneOf_166 (fun rr SS hP => ?_)
  rw [hP.1, hP.2]
  exact g_iret (pc := 169) C B rfl dX6_laneOf_169 (⟨rfl, rfl⟩)

set_option maxHeartbeats 400000 in
set_option maxRecDepth 100000 in
theorem c_X6_machineOf_b (l : Launch) (E : En) (base aw : Nat) (S : Mm) (mc : Nat) (lc : Nat → Nat) (hI : IX S mc lc) (p0 p1 : Int32) (hx : ¬ okN mc p0) : Cn l E base aw yX6_machineOf cX6_machineOf 4 (some Jvm.ClassFile.FieldType.int) 1 0 0 noF S [vr (0, 0, 0), vi p0, vi p1] (fun r S' => r = some (vi (1000000000 - (-1))) ∧ S' = rfX S 1) := by
  have hX := hI.1
  have hmc := hX.m6
  refine Cn.of (by decide) (Nat.le_of_ble_eq_true rfl) ?_
  intro X Y hl hE hbase haw hfr C B
  subst hl; subst hE; subst hbase; subst haw
  refine g_aload_n (pc := 0) C dX6_machineOf_0 rfl ?_
  refine g_iload_n (pc := 1) C dX6_machineOf_1 rfl ?_
  refine g_callV (pc := 2) C B mX6_57 (c_mAt_f _ _ _ _ _ mc lc hI p0 hx) rfl rfl rfl rfl (hX.1 0 (by decide)) (by decide) ⟨Nat.le_refl _, Nat.le_refl _⟩ (Nat.le_of_ble_eq_true rfl) dX6_machineOf_2 (fun rr SS hP => ?_)
  rw [hP.1, hP.2]
  refine g_astore_n (pc := 5) C dX6_machineOf_5 (by decide) ?_
  refine g_aload_n (pc := 6) C dX6_machineOf_6 rfl ?_
  refine g_ifnonnull (pc := 7) C 19 dX6_machineOf_7 (by decide) (fun _ h => by cases h) (fun _ => ?_)
  refine g_ldc (pc := 10) C 1000000000 dX6_machineOf_10 ctX6_231 ?_
  refine g_aload_n (pc := 12) C dX6_machineOf_12 rfl ?_
  refine g_iconst (pc := 13) C (-1) dX6_machineOf_13 (by decide) ?_
  refine g_callV (pc := 14) C B mX6_52 (c_xrefuse _ _ _ _ _ mc lc hX (-1) 1 (by decide) (by decide) (by decide)) rfl rfl rfl rfl (hX.1 0 (by decide)) (by decide) ⟨Nat.le_refl _, Nat.le_refl _⟩ (Nat.le_of_ble_eq_true rfl) dX6_machineOf_14 (fun rr SS hP => ?_)
  rw [hP.1, hP.2]
  refine g_isub (pc := 17) C dX6_machineOf_17 ?_
  exact g_iret (pc := 18) C B rfl dX6_machineOf_18 (⟨rfl, rfl⟩)

set_option maxHeartbeats 400000 in
set_option maxRecDepth 100000 in
theorem c_X6_machineOf_w (l : Launch) (E : En) (base aw : Nat) (S : Mm) (mc : Nat) (lc : Nat → Nat) (hI : IX S mc lc) (i : Nat) (hi : i < mc) (p1 : Int32) (hx : ¬ okN 9 p1) : Cn l E base aw yX6_machineOf cX6_machineOf 4 (some Jvm.ClassFile.FieldType.int) 1 0 0 noF S [vr (0, 0, 0), vi (nI i), vi p1] (fun r S' => r = some (vi (1000000000 - (-2))) ∧ S' = rfX S 2) := by
  have hX := hI.1
  have hmc := hX.m6
  have hm := hX.ms hi
  have hn := hI.2.2 i hi
  have hn8 := hm.n8
  refine Cn.of (by decide) (Nat.le_of_ble_eq_true rfl) ?_
  intro X Y hl hE hbase haw hfr C B
  subst hl; subst hE; subst hbase; subst haw
  refine g_aload_n (pc := 0) C dX6_machineOf_0 rfl ?_
  refine g_iload_n (pc := 1) C dX6_machineOf_1 rfl ?_
  refine g_callV (pc := 2) C B mX6_57 (c_mAt_t _ _ _ _ _ mc lc hI i hi) rfl rfl rfl rfl (hX.1 0 (by decide)) (by decide) ⟨Nat.le_refl _, Nat.le_refl _⟩ (Nat.le_of_ble_eq_true rfl) dX6_machineOf_2 (fun rr SS hP => ?_)
  rw [hP.1, hP.2]
  refine g_astore_n (pc := 5) C dX6_machineOf_5 (by decide) ?_
  refine g_aload_n (pc := 6) C dX6_machineOf_6 rfl ?_
  refine g_ifnonnull (pc := 7) C 19 dX6_machineOf_7 (by decide) (fun _ _ => ?_) (fun h => by cases h)
  refine g_iload_n (pc := 19) C dX6_machineOf_19 rfl ?_
  refine g_tabOut (pc := 20) C 135 dX6_machineOf_20 (tab_out (n := 8) (by decide) hx) (by decide) ?_
  refine g_ldc (pc := 135) C 1000000000 dX6_machineOf_135 ctX6_231 ?_
  refine g_aload_n (pc := 137) C dX6_machineOf_137 rfl ?_
  refine g_bipush (pc := 138) C (-2) dX6_machineOf_138 (by decide) ?_
  refine g_callV (pc := 140) C B mX6_52 (c_xrefuse _ _ _ _ _ mc lc hX (-2) 2 (by decide) (by decide) (by decide)) rfl rfl rfl rfl (hX.1 0 (by decide)) (by decide) ⟨Nat.le_refl _, Nat.le_refl _⟩ (Nat.le_of_ble_eq_true rfl) dX6_machineOf_140 (fun rr SS hP => ?_)
  rw [hP.1, hP.2]
  refine g_isub (pc := 143) C dX6_machineOf_143 ?_
  exact g_iret (pc := 144) C B rfl dX6_machineOf_144 (⟨rfl, rfl⟩)

set_option maxHeartbeats 400000 in
set_option maxRecDepth 100000 in
theorem c_X6_machineOf0 (l : Launch) (E : En) (base aw : Nat) (S : Mm) (mc : Nat) (lc : Nat → Nat) (hI : IX S mc lc) (i : Nat) (hi : i < mc) : Cn l E base aw yX6_machineOf cX6_machineOf 4 (some Jvm.ClassFile.FieldType.int) 1 0 0 noF S [vr (0, 0, 0), vi (nI i), vi (nI 0)] (fun r S' => r = some (vi (S.1 (1, i, 0) 3)) ∧ S' = S) := by
  have hX := hI.1
  have hmc := hX.m6
  have hm := hX.ms hi
  have hn := hI.2.2 i hi
  have hn8 := hm.n8
  refine Cn.of (by decide) (Nat.le_of_ble_eq_true rfl) ?_
  intro X Y hl hE hbase haw hfr C B
  subst hl; subst hE; subst hbase; subst haw
  refine g_aload_n (pc := 0) C dX6_machineOf_0 rfl ?_
  refine g_iload_n (pc := 1) C dX6_machineOf_1 rfl ?_
  refine g_callV (pc := 2) C B mX6_57 (c_mAt_t _ _ _ _ _ mc lc hI i hi) rfl rfl rfl rfl (hX.1 0 (by decide)) (by decide) ⟨Nat.le_refl _, Nat.le_refl _⟩ (Nat.le_of_ble_eq_true rfl) dX6_machineOf_2 (fun rr SS hP => ?_)
  rw [hP.1, hP.2]
  refine g_astore_n (pc := 5) C dX6_machineOf_5 (by decide) ?_
  refine g_aload_n (pc := 6) C dX6_machineOf_6 rfl ?_
  refine g_ifnonnull (pc := 7) C 19 dX6_machineOf_7 (by decide) (fun _ _ => ?_) (fun h => by cases h)
  refine g_iload_n (pc := 19) C dX6_machineOf_19 rfl ?_
  refine g_tabIn (pc := 20) (off := 52) C 72 dX6_machineOf_20 (by decide) (by decide) (by decide) (by decide) ?_
  refine g_aload_n (pc := 72) C dX6_machineOf_72 rfl ?_
  refine g_geti (pc := 73) C fX6_232 rfl (hm.1 0 (by decide)) dX6_machineOf_73 rfl ?_
  exact g_iret (pc := 76) C B rfl dX6_machineOf_76 (⟨rfl, rfl⟩)

set_option maxHeartbeats 400000 in
set_option maxRecDepth 100000 in
theorem c_X6_machineOf1 (l : Launch) (E : En) (base aw : Nat) (S : Mm) (mc : Nat) (lc : Nat → Nat) (hI : IX S mc lc) (i : Nat) (hi : i < mc) : Cn l E base aw yX6_machineOf cX6_machineOf 4 (some Jvm.ClassFile.FieldType.int) 1 0 0 noF S [vr (0, 0, 0), vi (nI i), vi (nI 1)] (fun r S' => r = some (vi (wsum (S.1 (1, i, 3)) 6)) ∧ S' = S) := by
  have hX := hI.1
  have hmc := hX.m6
  have hm := hX.ms hi
  have hn := hI.2.2 i hi
  have hn8 := hm.n8
  refine Cn.of (by decide) (Nat.le_of_ble_eq_true rfl) ?_
  intro X Y hl hE hbase haw hfr C B
  subst hl; subst hE; subst hbase; subst haw
  refine g_aload_n (pc := 0) C dX6_machineOf_0 rfl ?_
  refine g_iload_n (pc := 1) C dX6_machineOf_1 rfl ?_
  refine g_callV (pc := 2) C B mX6_57 (c_mAt_t _ _ _ _ _ mc lc hI i hi) rfl rfl rfl rfl (hX.1 0 (by decide)) (by decide) ⟨Nat.le_refl _, Nat.le_refl _⟩ (Nat.le_of_ble_eq_true rfl) dX6_machineOf_2 (fun rr SS hP => ?_)
  rw [hP.1, hP.2]
  refine g_astore_n (pc := 5) C dX6_machineOf_5 (by decide) ?_
  refine g_aload_n (pc := 6) C dX6_machineOf_6 rfl ?_
  refine g_ifnonnull (pc := 7) C 19 dX6_machineOf_7 (by decide) (fun _ _ => ?_) (fun h => by cases h)
  refine g_iload_n (pc := 19) C dX6_machineOf_19 rfl ?_
  refine g_tabIn (pc := 20) (off := 57) C 77 dX6_machineOf_20 (by decide) (by decide) (by decide) (by decide) ?_
  refine g_aload_n (pc := 77) C dX6_machineOf_77 rfl ?_
  refine g_getr (pc := 78) C fX6_91 rfl (hm.1 0 (by decide)) dX6_machineOf_78 rfl hm.r1 ?_
  refine g_getr (pc := 81) C fX6_95 rfl (hm.1 2 (by decide)) dX6_machineOf_81 rfl hm.t0 ?_
  refine g_callS (pc := 84) C B mX6_151 (c_xworth _ _ _ _ _ (1, i, 3) rfl (hm.1 3 (by decide))) rfl rfl (by decide) ⟨Nat.le_refl _, Nat.le_refl _⟩ (Nat.le_of_ble_eq_true rfl) dX6_machineOf_84 (fun rr SS hP => ?_)
  rw [hP.1, hP.2]
  exact g_iret (pc := 87) C B rfl dX6_machineOf_87 (⟨rfl, rfl⟩)

set_option maxHeartbeats 400000 in
set_option maxRecDepth 100000 in
theorem c_X6_machineOf2 (l : Launch) (E : En) (base aw : Nat) (S : Mm) (mc : Nat) (lc : Nat → Nat) (hI : IX S mc lc) (i : Nat) (hi : i < mc) : Cn l E base aw yX6_machineOf cX6_machineOf 4 (some Jvm.ClassFile.FieldType.int) 1 0 0 noF S [vr (0, 0, 0), vi (nI i), vi (nI 2)] (fun r S' => r = some (vi (wsum (S.1 (1, i, 4)) 6)) ∧ S' = S) := by
  have hX := hI.1
  have hmc := hX.m6
  have hm := hX.ms hi
  have hn := hI.2.2 i hi
  have hn8 := hm.n8
  refine Cn.of (by decide) (Nat.le_of_ble_eq_true rfl) ?_
  intro X Y hl hE hbase haw hfr C B
  subst hl; subst hE; subst hbase; subst haw
  refine g_aload_n (pc := 0) C dX6_machineOf_0 rfl ?_
  refine g_iload_n (pc := 1) C dX6_machineOf_1 rfl ?_
  refine g_callV (pc := 2) C B mX6_57 (c_mAt_t _ _ _ _ _ mc lc hI i hi) rfl rfl rfl rfl (hX.1 0 (by decide)) (by decide) ⟨Nat.le_refl _, Nat.le_refl _⟩ (Nat.le_of_ble_eq_true rfl) dX6_machineOf_2 (fun rr SS hP => ?_)
  rw [hP.1, hP.2]
  refine g_astore_n (pc := 5) C dX6_machineOf_5 (by decide) ?_
  refine g_aload_n (pc := 6) C dX6_machineOf_6 rfl ?_
  refine g_ifnonnull (pc := 7) C 19 dX6_machineOf_7 (by decide) (fun _ _ => ?_) (fun h => by cases h)
  refine g_iload_n (pc := 19) C dX6_machineOf_19 rfl ?_
  refine g_tabIn (pc := 20) (off := 68) C 88 dX6_machineOf_20 (by decide) (by decide) (by decide) (by decide) ?_
  refine g_aload_n (pc := 88) C dX6_machineOf_88 rfl ?_
  refine g_getr (pc := 89) C fX6_91 rfl (hm.1 0 (by decide)) dX6_machineOf_89 rfl hm.r1 ?_
  refine g_getr (pc := 92) C fX6_235 rfl (hm.1 2 (by decide)) dX6_machineOf_92 rfl hm.t1 ?_
  refine g_callS (pc := 95) C B mX6_151 (c_xworth _ _ _ _ _ (1, i, 4) rfl (hm.1 4 (by decide))) rfl rfl (by decide) ⟨Nat.le_refl _, Nat.le_refl _⟩ (Nat.le_of_ble_eq_true rfl) dX6_machineOf_95 (fun rr SS hP => ?_)
  rw [hP.1, hP.2]
  exact g_iret (pc := 98) C B rfl dX6_machineOf_98 (⟨rfl, rfl⟩)

set_option maxHeartbeats 400000 in
set_option maxRecDepth 100000 in
theorem c_X6_machineOf3 (l : Launch) (E : En) (base aw : Nat) (S : Mm) (mc : Nat) (lc : Nat → Nat) (hI : IX S mc lc) (i : Nat) (hi : i < mc) : Cn l E base aw yX6_machineOf cX6_machineOf 4 (some Jvm.ClassFile.FieldType.int) 1 0 0 noF S [vr (0, 0, 0), vi (nI i), vi (nI 3)] (fun r S' => r = some (vi (wsum (S.1 (1, i, 5)) 6)) ∧ S' = S) := by
  have hX := hI.1
  have hmc := hX.m6
  have hm := hX.ms hi
  have hn := hI.2.2 i hi
  have hn8 := hm.n8
  refine Cn.of (by decide) (Nat.le_of_ble_eq_true rfl) ?_
  intro X Y hl hE hbase haw hfr C B
  subst hl; subst hE; subst hbase; subst haw
  refine g_aload_n (pc := 0) C dX6_machineOf_0 rfl ?_
  refine g_iload_n (pc := 1) C dX6_machineOf_1 rfl ?_
  refine g_callV (pc := 2) C B mX6_57 (c_mAt_t _ _ _ _ _ mc lc hI i hi) rfl rfl rfl rfl (hX.1 0 (by decide)) (by decide) ⟨Nat.le_refl _, Nat.le_refl _⟩ (Nat.le_of_ble_eq_true rfl) dX6_machineOf_2 (fun rr SS hP => ?_)
  rw [hP.1, hP.2]
  refine g_astore_n (pc := 5) C dX6_machineOf_5 (by decide) ?_
  refine g_aload_n (pc := 6) C dX6_machineOf_6 rfl ?_
  refine g_ifnonnull (pc := 7) C 19 dX6_machineOf_7 (by decide) (fun _ _ => ?_) (fun h => by cases h)
  refine g_iload_n (pc := 19) C dX6_machineOf_19 rfl ?_
  refine g_tabIn (pc := 20) (off := 79) C 99 dX6_machineOf_20 (by decide) (by decide) (by decide) (by decide) ?_
  refine g_aload_n (pc := 99) C dX6_machineOf_99 rfl ?_
  refine g_getr (pc := 100) C fX6_91 rfl (hm.1 0 (by decide)) dX6_machineOf_100 rfl hm.r1 ?_
  refine g_getr (pc := 103) C fX6_148 rfl (hm.1 2 (by decide)) dX6_machineOf_103 rfl hm.t2 ?_
  refine g_callS (pc := 106) C B mX6_151 (c_xworth _ _ _ _ _ (1, i, 5) rfl (hm.1 5 (by decide))) rfl rfl (by decide) ⟨Nat.le_refl _, Nat.le_refl _⟩ (Nat.le_of_ble_eq_true rfl) dX6_machineOf_106 (fun rr SS hP => ?_)
  rw [hP.1, hP.2]
  exact g_iret (pc := 109) C B rfl dX6_machineOf_109 (⟨rfl, rfl⟩)

set_option maxHeartbeats 400000 in
set_option maxRecDepth 100000 in
theorem c_X6_machineOf4 (l : Launch) (E : En) (base aw : Nat) (S : Mm) (mc : Nat) (lc : Nat → Nat) (hI : IX S mc lc) (i : Nat) (hi : i < mc) : Cn l E base aw yX6_machineOf cX6_machineOf 4 (some Jvm.ClassFile.FieldType.int) 1 0 0 noF S [vr (0, 0, 0), vi (nI i), vi (nI 4)] (fun r S' => r = some (vi (S.1 (1, i, 0) 6)) ∧ S' = S) := by
  have hX := hI.1
  have hmc := hX.m6
  have hm := hX.ms hi
  have hn := hI.2.2 i hi
  have hn8 := hm.n8
  refine Cn.of (by decide) (Nat.le_of_ble_eq_true rfl) ?_
  intro X Y hl hE hbase haw hfr C B
  subst hl; subst hE; subst hbase; subst haw
  refine g_aload_n (pc := 0) C dX6_machineOf_0 rfl ?_
  refine g_iload_n (pc := 1) C dX6_machineOf_1 rfl ?_
  refine g_callV (pc := 2) C B mX6_57 (c_mAt_t _ _ _ _ _ mc lc hI i hi) rfl rfl rfl rfl (hX.1 0 (by decide)) (by decide) ⟨Nat.le_refl _, Nat.le_refl _⟩ (Nat.le_of_ble_eq_true rfl) dX6_machineOf_2 (fun rr SS hP => ?_)
  rw [hP.1, hP.2]
  refine g_astore_n (pc := 5) C dX6_machineOf_5 (by decide) ?_
  refine g_aload_n (pc := 6) C dX6_machineOf_6 rfl ?_
  refine g_ifnonnull (pc := 7) C 19 dX6_machineOf_7 (by decide) (fun _ _ => ?_) (fun h => by cases h)
  refine g_iload_n (pc := 19) C dX6_machineOf_19 rfl ?_
  refine g_tabIn (pc := 20) (off := 90) C 110 dX6_machineOf_20 (by decide) (by decide) (by decide) (by decide) ?_
  refine g_aload_n (pc := 110) C dX6_machineOf_110 rfl ?_
  refine g_geti (pc := 111) C fX6_135 rfl (hm.1 0 (by decide)) dX6_machineOf_111 rfl ?_
  exact g_iret (pc := 114) C B rfl dX6_machineOf_114 (⟨rfl, rfl⟩)

set_option maxHeartbeats 400000 in
set_option maxRecDepth 100000 in
theorem c_X6_machineOf5 (l : Launch) (E : En) (base aw : Nat) (S : Mm) (mc : Nat) (lc : Nat → Nat) (hI : IX S mc lc) (i : Nat) (hi : i < mc) : Cn l E base aw yX6_machineOf cX6_machineOf 4 (some Jvm.ClassFile.FieldType.int) 1 0 0 noF S [vr (0, 0, 0), vi (nI i), vi (nI 5)] (fun r S' => r = some (vi (S.1 (1, i, 0) 7)) ∧ S' = S) := by
  have hX := hI.1
  have hmc := hX.m6
  have hm := hX.ms hi
  have hn := hI.2.2 i hi
  have hn8 := hm.n8
  refine Cn.of (by decide) (Nat.le_of_ble_eq_true rfl) ?_
  intro X Y hl hE hbase haw hfr C B
  subst hl; subst hE; subst hbase; subst haw
  refine g_aload_n (pc := 0) C dX6_machineOf_0 rfl ?_
  refine g_iload_n (pc := 1) C dX6_machineOf_1 rfl ?_
  refine g_callV (pc := 2) C B mX6_57 (c_mAt_t _ _ _ _ _ mc lc hI i hi) rfl rfl rfl rfl (hX.1 0 (by decide)) (by decide) ⟨Nat.le_refl _, Nat.le_refl _⟩ (Nat.le_of_ble_eq_true rfl) dX6_machineOf_2 (fun rr SS hP => ?_)
  rw [hP.1, hP.2]
  refine g_astore_n (pc := 5) C dX6_machineOf_5 (by decide) ?_
  refine g_aload_n (pc := 6) C dX6_machineOf_6 rfl ?_
  refine g_ifnonnull (pc := 7) C 19 dX6_machineOf_7 (by decide) (fun _ _ => ?_) (fun h => by cases h)
  refine g_iload_n (pc := 19) C dX6_machineOf_19 rfl ?_
  refine g_tabIn (pc := 20) (off := 95) C 115 dX6_machineOf_20 (by decide) (by decide) (by decide) (by decide) ?_
  refine g_aload_n (pc := 115) C dX6_machineOf_115 rfl ?_
  refine g_geti (pc := 116) C fX6_138 rfl (hm.1 0 (by decide)) dX6_machineOf_116 rfl ?_
  exact g_iret (pc := 119) C B rfl dX6_machineOf_119 (⟨rfl, rfl⟩)

set_option maxHeartbeats 400000 in
set_option maxRecDepth 100000 in
theorem c_X6_machineOf6 (l : Launch) (E : En) (base aw : Nat) (S : Mm) (mc : Nat) (lc : Nat → Nat) (hI : IX S mc lc) (i : Nat) (hi : i < mc) : Cn l E base aw yX6_machineOf cX6_machineOf 4 (some Jvm.ClassFile.FieldType.int) 1 0 0 noF S [vr (0, 0, 0), vi (nI i), vi (nI 6)] (fun r S' => r = some (vi (S.1 (1, i, 0) 8)) ∧ S' = S) := by
  have hX := hI.1
  have hmc := hX.m6
  have hm := hX.ms hi
  have hn := hI.2.2 i hi
  have hn8 := hm.n8
  refine Cn.of (by decide) (Nat.le_of_ble_eq_true rfl) ?_
  intro X Y hl hE hbase haw hfr C B
  subst hl; subst hE; subst hbase; subst haw
  refine g_aload_n (pc := 0) C dX6_machineOf_0 rfl ?_
  refine g_iload_n (pc := 1) C dX6_machineOf_1 rfl ?_
  refine g_callV (pc := 2) C B mX6_57 (c_mAt_t _ _ _ _ _ mc lc hI i hi) rfl rfl rfl rfl (hX.1 0 (by decide)) (by decide) ⟨Nat.le_refl _, Nat.le_refl _⟩ (Nat.le_of_ble_eq_true rfl) dX6_machineOf_2 (fun rr SS hP => ?_)
  rw [hP.1, hP.2]
  refine g_astore_n (pc := 5) C dX6_machineOf_5 (by decide) ?_
  refine g_aload_n (pc := 6) C dX6_machineOf_6 rfl ?_
  refine g_ifnonnull (pc := 7) C 19 dX6_machineOf_7 (by decide) (fun _ _ => ?_) (fun h => by cases h)
  refine g_iload_n (pc := 19) C dX6_machineOf_19 rfl ?_
  refine g_tabIn (pc := 20) (off := 100) C 120 dX6_machineOf_20 (by decide) (by decide) (by decide) (by decide) ?_
  refine g_aload_n (pc := 120) C dX6_machineOf_120 rfl ?_
  refine g_geti (pc := 121) C fX6_173 rfl (hm.1 0 (by decide)) dX6_machineOf_121 rfl ?_
  exact g_iret (pc := 124) C B rfl dX6_machineOf_124 (⟨rfl, rfl⟩)

set_option maxHeartbeats 400000 in
set_option maxRecDepth 100000 in
theorem c_X6_machineOf7 (l : Launch) (E : En) (base aw : Nat) (S : Mm) (mc : Nat) (lc : Nat → Nat) (hI : IX S mc lc) (i : Nat) (hi : i < mc) : Cn l E base aw yX6_machineOf cX6_machineOf 4 (some Jvm.ClassFile.FieldType.int) 1 0 0 noF S [vr (0, 0, 0), vi (nI i), vi (nI 7)] (fun r S' => r = some (vi (S.1 (1, i, 0) 9)) ∧ S' = S) := by
  have hX := hI.1
  have hmc := hX.m6
  have hm := hX.ms hi
  have hn := hI.2.2 i hi
  have hn8 := hm.n8
  refine Cn.of (by decide) (Nat.le_of_ble_eq_true rfl) ?_
  intro X Y hl hE hbase haw hfr C B
  subst hl; subst hE; subst hbase; subst haw
  refine g_aload_n (pc := 0) C dX6_machineOf_0 rfl ?_
  refine g_iload_n (pc := 1) C dX6_machineOf_1 rfl ?_
  refine g_callV (pc := 2) C B mX6_57 (c_mAt_t _ _ _ _ _ mc lc hI i hi) rfl rfl rfl rfl (hX.1 0 (by decide)) (by decide) ⟨Nat.le_refl _, Nat.le_refl _⟩ (Nat.le_of_ble_eq_true rfl) dX6_machineOf_2 (fun rr SS hP => ?_)
  rw [hP.1, hP.2]
  refine g_astore_n (pc := 5) C dX6_machineOf_5 (by decide) ?_
  refine g_aload_n (pc := 6) C dX6_machineOf_6 rfl ?_
  refine g_ifnonnull (pc := 7) C 19 dX6_machineOf_7 (by decide) (fun _ _ => ?_) (fun h => by cases h)
  refine g_iload_n (pc := 19) C dX6_machineOf_19 rfl ?_
  refine g_tabIn (pc := 20) (off := 105) C 125 dX6_machineOf_20 (by decide) (by decide) (by decide) (by decide) ?_
  refine g_aload_n (pc := 125) C dX6_machineOf_125 rfl ?_
  refine g_geti (pc := 126) C fX6_132 rfl (hm.1 0 (by decide)) dX6_machineOf_126 rfl ?_
  exact g_iret (pc := 129) C B rfl dX6_machineOf_129 (⟨rfl, rfl⟩)

set_option maxHeartbeats 400000 in
set_option maxRecDepth 100000 in
theorem c_X6_machineOf8 (l : Launch) (E : En) (base aw : Nat) (S : Mm) (mc : Nat) (lc : Nat → Nat) (hI : IX S mc lc) (i : Nat) (hi : i < mc) : Cn l E base aw yX6_machineOf cX6_machineOf 4 (some Jvm.ClassFile.FieldType.int) 1 0 0 noF S [vr (0, 0, 0), vi (nI i), vi (nI 8)] (fun r S' => r = some (vi (S.1 (1, i, 0) 5)) ∧ S' = S) := by
  have hX := hI.1
  have hmc := hX.m6
  have hm := hX.ms hi
  have hn := hI.2.2 i hi
  have hn8 := hm.n8
  refine Cn.of (by decide) (Nat.le_of_ble_eq_true rfl) ?_
  intro X Y hl hE hbase haw hfr C B
  subst hl; subst hE; subst hbase; subst haw
  refine g_aload_n (pc := 0) C dX6_machineOf_0 rfl ?_
  refine g_iload_n (pc := 1) C dX6_machineOf_1 rfl ?_
  refine g_callV (pc := 2) C B mX6_57 (c_mAt_t _ _ _ _ _ mc lc hI i hi) rfl rfl rfl rfl (hX.1 0 (by decide)) (by decide) ⟨Nat.le_refl _, Nat.le_refl _⟩ (Nat.le_of_ble_eq_true rfl) dX6_machineOf_2 (fun rr SS hP => ?_)
  rw [hP.1, hP.2]
  refine g_astore_n (pc := 5) C dX6_machineOf_5 (by decide) ?_
  refine g_aload_n (pc := 6) C dX6_machineOf_6 rfl ?_
  refine g_ifnonnull (pc := 7) C 19 dX6_machineOf_7 (by decide) (fun _ _ => ?_) (fun h => by cases h)
  refine g_iload_n (pc := 19) C dX6_machineOf_19 rfl ?_
  refine g_tabIn (pc := 20) (off := 110) C 130 dX6_machineOf_20 (by decide) (by decide) (by decide) (by decide) ?_
  refine g_aload_n (pc := 130) C dX6_machineOf_130 rfl ?_
  refine g_geti (pc := 131) C fX6_120 rfl (hm.1 0 (by decide)) dX6_machineOf_131 rfl ?_
  exact g_iret (pc := 134) C B rfl dX6_machineOf_134 (⟨rfl, rfl⟩)

set_option maxHeartbeats 400000 in
set_option maxRecDepth 100000 in
theorem lp_sold {X : Xt} {Y : Yt} {P : Option AV → Mm → Prop} {nm : String}  (C : Cx X Y cX6_soldOfAll 4 RX6) (B : Bx X Y nm (some Jvm.ClassFile.FieldType.int) 1 0 0 P) {S : Mm} {mc : Nat} {lc : Nat → Nat} (hI : IX S mc lc) (K : G X Y 0 0 S 35 [(0, vr (0, 0, 0)), (1, vi (csum (fun z => S.1 (1, z, 0) 8) mc)), (2, vi (nI mc))] []) : ∀ n w, w + n = mc → G X Y 0 0 S 4 [(0, vr (0, 0, 0)), (1, vi (csum (fun z => S.1 (1, z, 0) 8) w)), (2, vi (nI w))] [] := by
  intro n
  induction n with
  | zero =>
    intro w hw
    have e : mc = w := by omega
    subst e
    have hX := hI.1
    have hmc := hX.m6
    have hm0 := fun h : mc < mc => hX.ms h
    refine g_iload_n (pc := 4) C dX6_soldOfAll_4 rfl ?_
    refine g_aload_n (pc := 5) C dX6_soldOfAll_5 rfl ?_
    refine g_geti (pc := 6) C fX6_48 rfl (hX.1 0 (by decide)) dX6_soldOfAll_6 rfl ?_
    refine g_eqi (nI mc) hI.2.1 ?_
    refine g_icmp_ge (pc := 9) C 35 dX6_soldOfAll_9 (by decide) (fun _ => ?_) (fun h9 => absurd ((nI_leI (a := mc) (b := mc) (by omega) (by omega)).mpr (by omega)) h9)
    exact K
  | succ n ih =>
    intro w hw
    have hX := hI.1
    have hmc := hX.m6
    have hm0 := fun h : w < mc => hX.ms h
    refine g_iload_n (pc := 4) C dX6_soldOfAll_4 rfl ?_
    refine g_aload_n (pc := 5) C dX6_soldOfAll_5 rfl ?_
    refine g_geti (pc := 6) C fX6_48 rfl (hX.1 0 (by decide)) dX6_soldOfAll_6 rfl ?_
    refine g_eqi (nI mc) hI.2.1 ?_
    refine g_icmp_ge (pc := 9) C 35 dX6_soldOfAll_9 (by decide) (fun h9 => absurd h9 (fun q => absurd ((nI_leI (a := mc) (b := w) (by omega) (by omega)).mp q) (by omega))) (fun _ => ?_)
    refine g_aload_n (pc := 12) C dX6_soldOfAll_12 rfl ?_
    refine g_iload_n (pc := 13) C dX6_soldOfAll_13 rfl ?_
    refine g_callV (pc := 14) C B mX6_57 (c_mAt_t _ _ _ _ _ mc lc hI w (by omega)) rfl rfl rfl rfl (hX.1 0 (by decide)) (by decide) ⟨Nat.le_refl _, Nat.le_refl _⟩ (Nat.le_of_ble_eq_true rfl) dX6_soldOfAll_14 (fun rr SS hP => ?_)
    rw [hP.1, hP.2]
    refine g_astore_n (pc := 17) C dX6_soldOfAll_17 (by decide) ?_
    refine g_aload_n (pc := 18) C dX6_soldOfAll_18 rfl ?_
    refine g_ifnull (pc := 19) C 29 dX6_soldOfAll_19 (by decide) (fun h => by cases h) (fun _ _ => ?_)
    refine g_iload_n (pc := 22) C dX6_soldOfAll_22 rfl ?_
    refine g_aload_n (pc := 23) C dX6_soldOfAll_23 rfl ?_
    refine g_geti (pc := 24) C fX6_173 rfl ((hm0 (by omega)).1 0 (by decide)) dX6_soldOfAll_24 rfl ?_
    refine g_iadd (pc := 27) C dX6_soldOfAll_27 ?_
    refine g_istore_n (pc := 28) C dX6_soldOfAll_28 (by decide) ?_
    refine g_iincN (pc := 29) C 1 dX6_soldOfAll_29 rfl (by decide) (by decide) ?_
    refine g_goto (pc := 32) C 4 dX6_soldOfAll_32 (by decide) ?_
    exact g_subR (ih (w + 1) (by omega)) ⟨rfl, rfl, rfl, trivial⟩
set_option maxHeartbeats 400000 in
set_option maxRecDepth 100000 in
theorem c_sold (l : Launch) (E : En) (base aw : Nat) (S : Mm) (mc : Nat) (lc : Nat → Nat) (hI : IX S mc lc) : Cn l E base aw yX6_soldOfAll cX6_soldOfAll 4 (some Jvm.ClassFile.FieldType.int) 1 0 0 noF S [vr (0, 0, 0)] (fun r S' => r = some (vi (csum (fun z => S.1 (1, z, 0) 8) mc)) ∧ S' = S) := by
  have hX := hI.1
  have hmc := hX.m6
  refine Cn.of (by decide) (Nat.le_of_ble_eq_true rfl) ?_
  intro X Y hl hE hbase haw hfr C B
  subst hl; subst hE; subst hbase; subst haw
  refine g_iconst (pc := 0) C 0 dX6_soldOfAll_0 (by decide) ?_
  refine g_istore_n (pc := 1) C dX6_soldOfAll_1 (by decide) ?_
  refine g_iconst (pc := 2) C 0 dX6_soldOfAll_2 (by decide) ?_
  refine g_istore_n (pc := 3) C dX6_soldOfAll_3 (by decide) ?_
  refine g_subR (lp_sold C B hI ?_ mc 0 (by omega)) ⟨rfl, rfl, rfl, trivial⟩
  refine g_iload_n (pc := 35) C dX6_soldOfAll_35 rfl ?_
  exact g_iret (pc := 36) C B rfl dX6_soldOfAll_36 (⟨rfl, rfl⟩)

set_option maxHeartbeats 400000 in
set_option maxRecDepth 100000 in
theorem c_X6_count0 (l : Launch) (E : En) (base aw : Nat) (S : Mm) (mc : Nat) (lc : Nat → Nat) (hI : IX S mc lc) : Cn l E base aw yX6_count cX6_count 2 (some Jvm.ClassFile.FieldType.int) 2 0 0 noF S [vr (0, 0, 0), vi (nI 0)] (fun r S' => r = some (vi (S.1 (0, 0, 0) 7)) ∧ S' = S) := by
  have hX := hI.1
  have hmc := hX.m6
  refine Cn.of (by decide) (Nat.le_of_ble_eq_true rfl) ?_
  intro X Y hl hE hbase haw hfr C B
  subst hl; subst hE; subst hbase; subst haw
  refine g_iload_n (pc := 0) C dX6_count_0 rfl ?_
  refine g_bipush (pc := 1) C 10 dX6_count_1 (by decide) ?_
  refine g_icmp_le (pc := 3) C 22 dX6_count_3 (by decide) (fun _ => ?_) (fun h3 => absurd (by decide) h3)
  refine g_iload_n (pc := 22) C dX6_count_22 rfl ?_
  refine g_tabIn (pc := 23) (off := 29) C 52 dX6_count_23 (by decide) (by decide) (by decide) (by decide) ?_
  refine g_aload_n (pc := 52) C dX6_count_52 rfl ?_
  refine g_geti (pc := 53) C fX6_183 rfl (hX.1 0 (by decide)) dX6_count_53 rfl ?_
  exact g_iret (pc := 56) C B rfl dX6_count_56 (⟨rfl, rfl⟩)

set_option maxHeartbeats 400000 in
set_option maxRecDepth 100000 in
theorem c_X6_count1 (l : Launch) (E : En) (base aw : Nat) (S : Mm) (mc : Nat) (lc : Nat → Nat) (hI : IX S mc lc) : Cn l E base aw yX6_count cX6_count 2 (some Jvm.ClassFile.FieldType.int) 2 0 0 noF S [vr (0, 0, 0), vi (nI 1)] (fun r S' => r = some (vi (S.1 (0, 0, 0) 6)) ∧ S' = S) := by
  have hX := hI.1
  have hmc := hX.m6
  refine Cn.of (by decide) (Nat.le_of_ble_eq_true rfl) ?_
  intro X Y hl hE hbase haw hfr C B
  subst hl; subst hE; subst hbase; subst haw
  refine g_iload_n (pc := 0) C dX6_count_0 rfl ?_
  refine g_bipush (pc := 1) C 10 dX6_count_1 (by decide) ?_
  refine g_icmp_le (pc := 3) C 22 dX6_count_3 (by decide) (fun _ => ?_) (fun h3 => absurd (by decide) h3)
  refine g_iload_n (pc := 22) C dX6_count_22 rfl ?_
  refine g_tabIn (pc := 23) (off := 34) C 57 dX6_count_23 (by decide) (by decide) (by decide) (by decide) ?_
  refine g_aload_n (pc := 57) C dX6_count_57 rfl ?_
  refine g_geti (pc := 58) C fX6_48 rfl (hX.1 0 (by decide)) dX6_count_58 rfl ?_
  exact g_iret (pc := 61) C B rfl dX6_count_61 (⟨rfl, rfl⟩)

set_option maxHeartbeats 400000 in
set_option maxRecDepth 100000 in
theorem c_X6_count2 (l : Launch) (E : En) (base aw : Nat) (S : Mm) (mc : Nat) (lc : Nat → Nat) (hI : IX S mc lc) : Cn l E base aw yX6_count cX6_count 2 (some Jvm.ClassFile.FieldType.int) 2 0 0 noF S [vr (0, 0, 0), vi (nI 2)] (fun r S' => r = some (vi (csum (fun z => S.1 (1, z, 0) 8) mc)) ∧ S' = S) := by
  have hX := hI.1
  have hmc := hX.m6
  refine Cn.of (by decide) (Nat.le_of_ble_eq_true rfl) ?_
  intro X Y hl hE hbase haw hfr C B
  subst hl; subst hE; subst hbase; subst haw
  refine g_iload_n (pc := 0) C dX6_count_0 rfl ?_
  refine g_bipush (pc := 1) C 10 dX6_count_1 (by decide) ?_
  refine g_icmp_le (pc := 3) C 22 dX6_count_3 (by decide) (fun _ => ?_) (fun h3 => absurd (by decide) h3)
  refine g_iload_n (pc := 22) C dX6_count_22 rfl ?_
  refine g_tabIn (pc := 23) (off := 39) C 62 dX6_count_23 (by decide) (by decide) (by decide) (by decide) ?_
  refine g_aload_n (pc := 62) C dX6_count_62 rfl ?_
  refine g_callV (pc := 63) C B mX6_247 (c_sold _ _ _ _ _ mc lc hI) rfl rfl rfl rfl (hX.1 0 (by decide)) (by decide) ⟨Nat.le_refl _, Nat.le_refl _⟩ (Nat.le_of_ble_eq_true rfl) dX6_count_63 (fun rr SS hP => ?_)
  rw [hP.1, hP.2]
  exact g_iret (pc := 66) C B rfl dX6_count_66 (⟨rfl, rfl⟩)

set_option maxHeartbeats 400000 in
set_option maxRecDepth 100000 in
theorem c_X6_count3 (l : Launch) (E : En) (base aw : Nat) (S : Mm) (mc : Nat) (lc : Nat → Nat) (hI : IX S mc lc) : Cn l E base aw yX6_count cX6_count 2 (some Jvm.ClassFile.FieldType.int) 2 0 0 noF S [vr (0, 0, 0), vi (nI 3)] (fun r S' => r = some (vi (S.1 (0, 0, 0) 8)) ∧ S' = S) := by
  have hX := hI.1
  have hmc := hX.m6
  refine Cn.of (by decide) (Nat.le_of_ble_eq_true rfl) ?_
  intro X Y hl hE hbase haw hfr C B
  subst hl; subst hE; subst hbase; subst haw
  refine g_iload_n (pc := 0) C dX6_count_0 rfl ?_
  refine g_bipush (pc := 1) C 10 dX6_count_1 (by decide) ?_
  refine g_icmp_le (pc := 3) C 22 dX6_count_3 (by decide) (fun _ => ?_) (fun h3 => absurd (by decide) h3)
  refine g_iload_n (pc := 22) C dX6_count_22 rfl ?_
  refine g_tabIn (pc := 23) (off := 44) C 67 dX6_count_23 (by decide) (by decide) (by decide) (by decide) ?_
  refine g_aload_n (pc := 67) C dX6_count_67 rfl ?_
  refine g_geti (pc := 68) C fX6_170 rfl (hX.1 0 (by decide)) dX6_count_68 rfl ?_
  exact g_iret (pc := 71) C B rfl dX6_count_71 (⟨rfl, rfl⟩)

set_option maxHeartbeats 400000 in
set_option maxRecDepth 100000 in
theorem c_X6_count11 (l : Launch) (E : En) (base aw : Nat) (S : Mm) (mc : Nat) (lc : Nat → Nat) (hI : IX S mc lc) : Cn l E base aw yX6_count cX6_count 2 (some Jvm.ClassFile.FieldType.int) 2 0 0 noF S [vr (0, 0, 0), vi (nI 11)] (fun r S' => r = some (vi (S.1 (0, 0, 3) 1)) ∧ S' = S) := by
  have hX := hI.1
  have hmc := hX.m6
  refine Cn.of (by decide) (Nat.le_of_ble_eq_true rfl) ?_
  intro X Y hl hE hbase haw hfr C B
  subst hl; subst hE; subst hbase; subst haw
  refine g_iload_n (pc := 0) C dX6_count_0 rfl ?_
  refine g_bipush (pc := 1) C 10 dX6_count_1 (by decide) ?_
  refine g_icmp_le (pc := 3) C 22 dX6_count_3 (by decide) (fun h3 => absurd h3 (by decide)) (fun _ => ?_)
  refine g_iload_n (pc := 6) C dX6_count_6 rfl ?_
  refine g_bipush (pc := 7) C 16 dX6_count_7 (by decide) ?_
  refine g_icmp_gt (pc := 9) C 22 dX6_count_9 (by decide) (fun h9 => absurd h9 (by decide)) (fun _ => ?_)
  refine g_aload_n (pc := 12) C dX6_count_12 rfl ?_
  refine g_getr (pc := 13) C fX6_25 rfl (hX.1 0 (by decide)) dX6_count_13 rfl hX.r2 ?_
  refine g_iload_n (pc := 16) C dX6_count_16 rfl ?_
  refine g_bipush (pc := 17) C 10 dX6_count_17 (by decide) ?_
  refine g_isub (pc := 19) C dX6_count_19 ?_
  refine g_eqi (nI 1) (by decide) ?_
  refine g_ialdN (pc := 20) C rfl (hX.1 3 (by decide)) (by decide) (by decide) dX6_count_20 ?_
  exact g_iret (pc := 21) C B rfl dX6_count_21 (⟨rfl, rfl⟩)

set_option maxHeartbeats 400000 in
set_option maxRecDepth 100000 in
theorem c_X6_count12 (l : Launch) (E : En) (base aw : Nat) (S : Mm) (mc : Nat) (lc : Nat → Nat) (hI : IX S mc lc) : Cn l E base aw yX6_count cX6_count 2 (some Jvm.ClassFile.FieldType.int) 2 0 0 noF S [vr (0, 0, 0), vi (nI 12)] (fun r S' => r = some (vi (S.1 (0, 0, 3) 2)) ∧ S' = S) := by
  have hX := hI.1
  have hmc := hX.m6
  refine Cn.of (by decide) (Nat.le_of_ble_eq_true rfl) ?_
  intro X Y hl hE hbase haw hfr C B
  subst hl; subst hE; subst hbase; subst haw
  refine g_iload_n (pc := 0) C dX6_count_0 rfl ?_
  refine g_bipush (pc := 1) C 10 dX6_count_1 (by decide) ?_
  refine g_icmp_le (pc := 3) C 22 dX6_count_3 (by decide) (fun h3 => absurd h3 (by decide)) (fun _ => ?_)
  refine g_iload_n (pc := 6) C dX6_count_6 rfl ?_
  refine g_bipush (pc := 7) C 16 dX6_count_7 (by decide) ?_
  refine g_icmp_gt (pc := 9) C 22 dX6_count_9 (by decide) (fun h9 => absurd h9 (by decide)) (fun _ => ?_)
  refine g_aload_n (pc := 12) C dX6_count_12 rfl ?_
  refine g_getr (pc := 13) C fX6_25 rfl (hX.1 0 (by decide)) dX6_count_13 rfl hX.r2 ?_
  refine g_iload_n (pc := 16) C dX6_count_16 rfl ?_
  refine g_bipush (pc := 17) C 10 dX6_count_17 (by decide) ?_
  refine g_isub (pc := 19) C dX6_count_19 ?_
  refine g_eqi (nI 2) (by decide) ?_
  refine g_ialdN (pc := 20) C rfl (hX.1 3 (by decide)) (by decide) (by decide) dX6_count_20 ?_
  exact g_iret (pc := 21) C B rfl dX6_count_21 (⟨rfl, rfl⟩)

set_option maxHeartbeats 400000 in
set_option maxRecDepth 100000 in
theorem c_X6_count13 (l : Launch) (E : En) (base aw : Nat) (S : Mm) (mc : Nat) (lc : Nat → Nat) (hI : IX S mc lc) : Cn l E base aw yX6_count cX6_count 2 (some Jvm.ClassFile.FieldType.int) 2 0 0 noF S [vr (0, 0, 0), vi (nI 13)] (fun r S' => r = some (vi (S.1 (0, 0, 3) 3)) ∧ S' = S) := by
  have hX := hI.1
  have hmc := hX.m6
  refine Cn.of (by decide) (Nat.le_of_ble_eq_true rfl) ?_
  intro X Y hl hE hbase haw hfr C B
  subst hl; subst hE; subst hbase; subst haw
  refine g_iload_n (pc := 0) C dX6_count_0 rfl ?_
  refine g_bipush (pc := 1) C 10 dX6_count_1 (by decide) ?_
  refine g_icmp_le (pc := 3) C 22 dX6_count_3 (by decide) (fun h3 => absurd h3 (by decide)) (fun _ => ?_)
  refine g_iload_n (pc := 6) C dX6_count_6 rfl ?_
  refine g_bipush (pc := 7) C 16 dX6_count_7 (by decide) ?_
  refine g_icmp_gt (pc := 9) C 22 dX6_count_9 (by decide) (fun h9 => absurd h9 (by decide)) (fun _ => ?_)
  refine g_aload_n (pc := 12) C dX6_count_12 rfl ?_
  refine g_getr (pc := 13) C fX6_25 rfl (hX.1 0 (by decide)) dX6_count_13 rfl hX.r2 ?_
  refine g_iload_n (pc := 16) C dX6_count_16 rfl ?_
  refine g_bipush (pc := 17) C 10 dX6_count_17 (by decide) ?_
  refine g_isub (pc := 19) C dX6_count_19 ?_
  refine g_eqi (nI 3) (by decide) ?_
  refine g_ialdN (pc := 20) C rfl (hX.1 3 (by decide)) (by decide) (by decide) dX6_count_20 ?_
  exact g_iret (pc := 21) C B rfl dX6_count_21 (⟨rfl, rfl⟩)

set_option maxHeartbeats 400000 in
set_option maxRecDepth 100000 in
theorem c_X6_count14 (l : Launch) (E : En) (base aw : Nat) (S : Mm) (mc : Nat) (lc : Nat → Nat) (hI : IX S mc lc) : Cn l E base aw yX6_count cX6_count 2 (some Jvm.ClassFile.FieldType.int) 2 0 0 noF S [vr (0, 0, 0), vi (nI 14)] (fun r S' => r = some (vi (S.1 (0, 0, 3) 4)) ∧ S' = S) := by
  have hX := hI.1
  have hmc := hX.m6
  refine Cn.of (by decide) (Nat.le_of_ble_eq_true rfl) ?_
  intro X Y hl hE hbase haw hfr C B
  subst hl; subst hE; subst hbase; subst haw
  refine g_iload_n (pc := 0) C dX6_count_0 rfl ?_
  refine g_bipush (pc := 1) C 10 dX6_count_1 (by decide) ?_
  refine g_icmp_le (pc := 3) C 22 dX6_count_3 (by decide) (fun h3 => absurd h3 (by decide)) (fun _ => ?_)
  refine g_iload_n (pc := 6) C dX6_count_6 rfl ?_
  refine g_bipush (pc := 7) C 16 dX6_count_7 (by decide) ?_
  refine g_icmp_gt (pc := 9) C 22 dX6_count_9 (by decide) (fun h9 => absurd h9 (by decide)) (fun _ => ?_)
  refine g_aload_n (pc := 12) C dX6_count_12 rfl ?_
  refine g_getr (pc := 13) C fX6_25 rfl (hX.1 0 (by decide)) dX6_count_13 rfl hX.r2 ?_
  refine g_iload_n (pc := 16) C dX6_count_16 rfl ?_
  refine g_bipush (pc := 17) C 10 dX6_count_17 (by decide) ?_
  refine g_isub (pc := 19) C dX6_count_19 ?_
  refine g_eqi (nI 4) (by decide) ?_
  refine g_ialdN (pc := 20) C rfl (hX.1 3 (by decide)) (by decide) (by decide) dX6_count_20 ?_
  exact g_iret (pc := 21) C B rfl dX6_count_21 (⟨rfl, rfl⟩)

set_option maxHeartbeats 400000 in
set_option maxRecDepth 100000 in
theorem c_X6_count15 (l : Launch) (E : En) (base aw : Nat) (S : Mm) (mc : Nat) (lc : Nat → Nat) (hI : IX S mc lc) : Cn l E base aw yX6_count cX6_count 2 (some Jvm.ClassFile.FieldType.int) 2 0 0 noF S [vr (0, 0, 0), vi (nI 15)] (fun r S' => r = some (vi (S.1 (0, 0, 3) 5)) ∧ S' = S) := by
  have hX := hI.1
  have hmc := hX.m6
  refine Cn.of (by decide) (Nat.le_of_ble_eq_true rfl) ?_
  intro X Y hl hE hbase haw hfr C B
  subst hl; subst hE; subst hbase; subst haw
  refine g_iload_n (pc := 0) C dX6_count_0 rfl ?_
  refine g_bipush (pc := 1) C 10 dX6_count_1 (by decide) ?_
  refine g_icmp_le (pc := 3) C 22 dX6_count_3 (by decide) (fun h3 => absurd h3 (by decide)) (fun _ => ?_)
  refine g_iload_n (pc := 6) C dX6_count_6 rfl ?_
  refine g_bipush (pc := 7) C 16 dX6_count_7 (by decide) ?_
  refine g_icmp_gt (pc := 9) C 22 dX6_count_9 (by decide) (fun h9 => absurd h9 (by decide)) (fun _ => ?_)
  refine g_aload_n (pc := 12) C dX6_count_12 rfl ?_
  refine g_getr (pc := 13) C fX6_25 rfl (hX.1 0 (by decide)) dX6_count_13 rfl hX.r2 ?_
  refine g_iload_n (pc := 16) C dX6_count_16 rfl ?_
  refine g_bipush (pc := 17) C 10 dX6_count_17 (by decide) ?_
  refine g_isub (pc := 19) C dX6_count_19 ?_
  refine g_eqi (nI 5) (by decide) ?_
  refine g_ialdN (pc := 20) C rfl (hX.1 3 (by decide)) (by decide) (by decide) dX6_count_20 ?_
  exact g_iret (pc := 21) C B rfl dX6_count_21 (⟨rfl, rfl⟩)

set_option maxHeartbeats 400000 in
set_option maxRecDepth 100000 in
theorem c_X6_count16 (l : Launch) (E : En) (base aw : Nat) (S : Mm) (mc : Nat) (lc : Nat → Nat) (hI : IX S mc lc) : Cn l E base aw yX6_count cX6_count 2 (some Jvm.ClassFile.FieldType.int) 2 0 0 noF S [vr (0, 0, 0), vi (nI 16)] (fun r S' => r = some (vi (S.1 (0, 0, 3) 6)) ∧ S' = S) := by
  have hX := hI.1
  have hmc := hX.m6
  refine Cn.of (by decide) (Nat.le_of_ble_eq_true rfl) ?_
  intro X Y hl hE hbase haw hfr C B
  subst hl; subst hE; subst hbase; subst haw
  refine g_iload_n (pc := 0) C dX6_count_0 rfl ?_
  refine g_bipush (pc := 1) C 10 dX6_count_1 (by decide) ?_
  refine g_icmp_le (pc := 3) C 22 dX6_count_3 (by decide) (fun h3 => absurd h3 (by decide)) (fun _ => ?_)
  refine g_iload_n (pc := 6) C dX6_count_6 rfl ?_
  refine g_bipush (pc := 7) C 16 dX6_count_7 (by decide) ?_
  refine g_icmp_gt (pc := 9) C 22 dX6_count_9 (by decide) (fun h9 => absurd h9 (by decide)) (fun _ => ?_)
  refine g_aload_n (pc := 12) C dX6_count_12 rfl ?_
  refine g_getr (pc := 13) C fX6_25 rfl (hX.1 0 (by decide)) dX6_count_13 rfl hX.r2 ?_
  refine g_iload_n (pc := 16) C dX6_count_16 rfl ?_
  refine g_bipush (pc := 17) C 10 dX6_count_17 (by decide) ?_
  refine g_isub (pc := 19) C dX6_count_19 ?_
  refine g_eqi (nI 6) (by decide) ?_
  refine g_ialdN (pc := 20) C rfl (hX.1 3 (by decide)) (by decide) (by decide) dX6_count_20 ?_
  exact g_iret (pc := 21) C B rfl dX6_count_21 (⟨rfl, rfl⟩)

theorem le_11 {x : Int32} (h : ¬ x ≤ 10) : (11 : Int32) ≤ x := by
  rw [Int32.le_iff_toInt_le] at *
  have e1 : (10 : Int32).toInt = 10 := by decide
  have e2 : (11 : Int32).toInt = 11 := by decide
  omega
set_option maxHeartbeats 400000 in
set_option maxRecDepth 100000 in
theorem c_X6_count_w (l : Launch) (E : En) (base aw : Nat) (S : Mm) (mc : Nat) (lc : Nat → Nat) (hI : IX S mc lc) (p0 : Int32) (hx : ¬ okN 4 p0) (hy : ¬ (11 ≤ p0 ∧ p0 ≤ 16)) : Cn l E base aw yX6_count cX6_count 2 (some Jvm.ClassFile.FieldType.int) 2 0 0 noF S [vr (0, 0, 0), vi p0] (fun r S' => r = some (vi (-9)) ∧ S' = S) := by
  have hX := hI.1
  have hmc := hX.m6
  refine Cn.of (by decide) (Nat.le_of_ble_eq_true rfl) ?_
  intro X Y hl hE hbase haw hfr C B
  subst hl; subst hE; subst hbase; subst haw
  refine g_iload_n (pc := 0) C dX6_count_0 rfl ?_
  refine g_bipush (pc := 1) C 10 dX6_count_1 (by decide) ?_
  refine g_icmp_le (pc := 3) C 22 dX6_count_3 (by decide) (fun h3 => ?_) (fun h3 => ?_)
  ·
    refine g_iload_n (pc := 22) C dX6_count_22 rfl ?_
    refine g_tabOut (pc := 23) C 72 dX6_count_23 (tab_out (n := 3) (by decide) hx) (by decide) ?_
    refine g_bipush (pc := 72) C (-9) dX6_count_72 (by decide) ?_
    exact g_iret (pc := 74) C B rfl dX6_count_74 (⟨rfl, rfl⟩)
  ·
    refine g_iload_n (pc := 6) C dX6_count_6 rfl ?_
    refine g_bipush (pc := 7) C 16 dX6_count_7 (by decide) ?_
    refine g_icmp_gt (pc := 9) C 22 dX6_count_9 (by decide) (fun h9 => ?_) (fun h9 => ?_)
    ·
      refine g_iload_n (pc := 22) C dX6_count_22 rfl ?_
      refine g_tabOut (pc := 23) C 72 dX6_count_23 (tab_out (n := 3) (by decide) hx) (by decide) ?_
      refine g_bipush (pc := 72) C (-9) dX6_count_72 (by decide) ?_
      exact g_iret (pc := 74) C B rfl dX6_count_74 (⟨rfl, rfl⟩)
    ·
      exact absurd (show (11 : Int32) ≤ p0 ∧ p0 ≤ 16 from ⟨le_11 h3, Int32.not_lt.mp h9⟩) hy

