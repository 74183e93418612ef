set_option maxHeartbeats 400000 in
set_option maxRecDepth 100000 in
/-- change of no machine -/
theorem c_X7_change_b (l : Launch) (E : En) (base aw : Nat) (S : Mm) (mc : Nat) (lc : Nat → Nat) (hI : IM S mc lc) (p0 p1 : Int32) (h : ¬ (okN mc p0)) : Cn l E base aw yX7_change cX7_change 4 (some Jvm.ClassFile.FieldType.int) 2 0 0 noF S [vr (2, 0, 0), vi p0, vi p1] (fun r S' => r = some (vi (-1)) ∧ S' = rfM S 1) := by
  have hM := hI.1
  have hmc := hI.2.2.1
  have hx : ¬ okN mc p0 := fun q => h q
  refine Cn.of (by decide) (Nat.le_of_ble_eq_true rfl) ?_
  intro X Y hl hE hbase haw hfr C B
  subst hl; subst hE; subst hbase; subst haw
  refine g_aload_n (pc := 0) C dX7_change_0 rfl ?_
  refine g_iload_n (pc := 1) C dX7_change_1 rfl ?_
  refine g_callV (pc := 2) C B mX7_112 (c_isM_f _ _ _ _ _ mc lc hI p0 hx) rfl rfl rfl rfl hM.1 (by decide) ⟨Nat.le_refl _, Nat.le_refl _⟩ (Nat.le_of_ble_eq_true rfl) dX7_change_2 (fun rr SS hP => ?_)
  rw [hP.1, hP.2]
  refine g_if_ne (pc := 5) C 14 dX7_change_5 (by decide) (fun h5 => absurd (by decide) h5) (fun _ => ?_)
  refine g_aload_n (pc := 8) C dX7_change_8 rfl ?_
  refine g_iconst (pc := 9) C (-1) dX7_change_9 (by decide) ?_
  refine g_callV (pc := 10) C B mX7_116 (c_mrefuse _ _ _ _ _ hM (-1) 1 (by decide) (by decide)) rfl rfl rfl rfl hM.1 (by decide) ⟨Nat.le_refl _, Nat.le_refl _⟩ (Nat.le_of_ble_eq_true rfl) dX7_change_10 (fun rr SS hP => ?_)
  rw [hP.1, hP.2]
  exact g_iret (pc := 13) C B rfl dX7_change_13 (⟨rfl, rfl⟩)

set_option maxHeartbeats 400000 in
set_option maxRecDepth 100000 in
theorem c_X7_change_lo (l : Launch) (E : En) (base aw : Nat) (S : Mm) (mc : Nat) (lc : Nat → Nat) (hI : IM S mc lc) (i : Nat) (hi : i < mc) (p1 : Int32) (hlo : ¬ 0 ≤ p1) : Cn l E base aw yX7_change cX7_change 4 (some Jvm.ClassFile.FieldType.int) 2 0 0 noF S [vr (2, 0, 0), vi (nI i), vi p1] (fun r S' => r = some (vi (-4)) ∧ S' = rfM S 4) := by
  have hM := hI.1
  have hmc := hI.2.2.1
  refine Cn.of (by decide) (Nat.le_of_ble_eq_true rfl) ?_
  intro X Y hl hE hbase haw hfr C B
  subst hl; subst hE; subst hbase; subst haw
  refine g_aload_n (pc := 0) C dX7_change_0 rfl ?_
  refine g_iload_n (pc := 1) C dX7_change_1 rfl ?_
  refine g_callV (pc := 2) C B mX7_112 (c_isM_t _ _ _ _ _ mc lc hI i hi) rfl rfl rfl rfl hM.1 (by decide) ⟨Nat.le_refl _, Nat.le_refl _⟩ (Nat.le_of_ble_eq_true rfl) dX7_change_2 (fun rr SS hP => ?_)
  rw [hP.1, hP.2]
  refine g_if_ne (pc := 5) C 14 dX7_change_5 (by decide) (fun _ => ?_) (fun h5 => absurd h5 (by decide))
  refine g_iload_n (pc := 14) C dX7_change_14 rfl ?_
  refine g_if_ge (pc := 15) C 25 dX7_change_15 (by decide) (fun h15 => absurd h15 hlo) (fun _ => ?_)
  refine g_aload_n (pc := 18) C dX7_change_18 rfl ?_
  refine g_bipush (pc := 19) C (-4) dX7_change_19 (by decide) ?_
  refine g_callV (pc := 21) C B mX7_116 (c_mrefuse _ _ _ _ _ hM (-4) 4 (by decide) (by decide)) rfl rfl rfl rfl hM.1 (by decide) ⟨Nat.le_refl _, Nat.le_refl _⟩ (Nat.le_of_ble_eq_true rfl) dX7_change_21 (fun rr SS hP => ?_)
  rw [hP.1, hP.2]
  exact g_iret (pc := 24) C B rfl dX7_change_24 (⟨rfl, rfl⟩)

set_option maxHeartbeats 400000 in
set_option maxRecDepth 100000 in
theorem c_X7_change_hi (l : Launch) (E : En) (base aw : Nat) (S : Mm) (mc : Nat) (lc : Nat → Nat) (hI : IM S mc lc) (i : Nat) (hi : i < mc) (p1 : Int32) (hlo : 0 ≤ p1) (hhi : ¬ p1 ≤ 20000) : Cn l E base aw yX7_change cX7_change 4 (some Jvm.ClassFile.FieldType.int) 2 0 0 noF S [vr (2, 0, 0), vi (nI i), vi p1] (fun r S' => r = some (vi (-6)) ∧ S' = rfM S 6) := by
  have hM := hI.1
  have hmc := hI.2.2.1
  refine Cn.of (by decide) (Nat.le_of_ble_eq_true rfl) ?_
  intro X Y hl hE hbase haw hfr C B
  subst hl; subst hE; subst hbase; subst haw
  refine g_aload_n (pc := 0) C dX7_change_0 rfl ?_
  refine g_iload_n (pc := 1) C dX7_change_1 rfl ?_
  refine g_callV (pc := 2) C B mX7_112 (c_isM_t _ _ _ _ _ mc lc hI i hi) rfl rfl rfl rfl hM.1 (by decide) ⟨Nat.le_refl _, Nat.le_refl _⟩ (Nat.le_of_ble_eq_true rfl) dX7_change_2 (fun rr SS hP => ?_)
  rw [hP.1, hP.2]
  refine g_if_ne (pc := 5) C 14 dX7_change_5 (by decide) (fun _ => ?_) (fun h5 => absurd h5 (by decide))
  refine g_iload_n (pc := 14) C dX7_change_14 rfl ?_
  refine g_if_ge (pc := 15) C 25 dX7_change_15 (by decide) (fun _ => ?_) (fun h15 => absurd hlo h15)
  refine g_iload_n (pc := 25) C dX7_change_25 rfl ?_
  refine g_sipush (pc := 26) C 20000 dX7_change_26 (by decide) ?_
  refine g_icmp_le (pc := 29) C 39 dX7_change_29 (by decide) (fun h29 => absurd h29 hhi) (fun _ => ?_)
  refine g_aload_n (pc := 32) C dX7_change_32 rfl ?_
  refine g_bipush (pc := 33) C (-6) dX7_change_33 (by decide) ?_
  refine g_callV (pc := 35) C B mX7_116 (c_mrefuse _ _ _ _ _ hM (-6) 6 (by decide) (by decide)) rfl rfl rfl rfl hM.1 (by decide) ⟨Nat.le_refl _, Nat.le_refl _⟩ (Nat.le_of_ble_eq_true rfl) dX7_change_35 (fun rr SS hP => ?_)
  rw [hP.1, hP.2]
  exact g_iret (pc := 38) C B rfl dX7_change_38 (⟨rfl, rfl⟩)

set_option maxHeartbeats 400000 in
set_option maxRecDepth 100000 in
theorem c_X7_change_n (l : Launch) (E : En) (base aw : Nat) (S : Mm) (mc : Nat) (lc : Nat → Nat) (hI : IM S mc lc) (i : Nat) (hi : i < mc) (t : Nat) (ht : t ≤ 20000) (hm : t % 10 ≠ 0) : Cn l E base aw yX7_change cX7_change 4 (some Jvm.ClassFile.FieldType.int) 2 0 0 noF S [vr (2, 0, 0), vi (nI i), vi (nI t)] (fun r S' => r = some (vi (-9)) ∧ S' = czM S 6) := by
  have hM := hI.1
  have hmc := hI.2.2.1
  refine Cn.of (by decide) (Nat.le_of_ble_eq_true rfl) ?_
  intro X Y hl hE hbase haw hfr C B
  subst hl; subst hE; subst hbase; subst haw
  refine g_aload_n (pc := 0) C dX7_change_0 rfl ?_
  refine g_iload_n (pc := 1) C dX7_change_1 rfl ?_
  refine g_callV (pc := 2) C B mX7_112 (c_isM_t _ _ _ _ _ mc lc hI i hi) rfl rfl rfl rfl hM.1 (by decide) ⟨Nat.le_refl _, Nat.le_refl _⟩ (Nat.le_of_ble_eq_true rfl) dX7_change_2 (fun rr SS hP => ?_)
  rw [hP.1, hP.2]
  refine g_if_ne (pc := 5) C 14 dX7_change_5 (by decide) (fun _ => ?_) (fun h5 => absurd h5 (by decide))
  refine g_iload_n (pc := 14) C dX7_change_14 rfl ?_
  refine g_if_ge (pc := 15) C 25 dX7_change_15 (by decide) (fun _ => ?_) (fun h15 => absurd (nI_pos' (by omega)) h15)
  refine g_iload_n (pc := 25) C dX7_change_25 rfl ?_
  refine g_sipush (pc := 26) C 20000 dX7_change_26 (by decide) ?_
  refine g_icmp_le (pc := 29) C 39 dX7_change_29 (by decide) (fun _ => ?_) (fun h29 => absurd (nI_le (b := 20000) ht (by decide)) h29)
  refine g_aload_n (pc := 39) C dX7_change_39 rfl ?_
  refine g_iload_n (pc := 40) C dX7_change_40 rfl ?_
  refine g_iload_n (pc := 41) C dX7_change_41 rfl ?_
  refine g_callV (pc := 42) C B mX7_143 (c_findChange_n _ _ _ _ _ hM i (by omega) t ht hm) rfl rfl rfl rfl hM.1 (by decide) ⟨Nat.le_refl _, Nat.le_refl _⟩ (Nat.le_of_ble_eq_true rfl) dX7_change_42 (fun rr SS hP => ?_)
  rw [hP.1, hP.2]
  refine g_istore_n (pc := 45) C dX7_change_45 (by decide) ?_
  refine g_iload_n (pc := 46) C dX7_change_46 rfl ?_
  refine g_sipush (pc := 47) C 1000 dX7_change_47 (by decide) ?_
  refine g_icmp_ge (pc := 50) C 57 dX7_change_50 (by decide) (fun _ => ?_) (fun h50 => absurd (by decide) h50)
  refine g_bipush (pc := 57) C (-9) dX7_change_57 (by decide) ?_
  exact g_iret (pc := 59) C B rfl dX7_change_59 (⟨rfl, rfl⟩)

set_option maxHeartbeats 400000 in
set_option maxRecDepth 100000 in
theorem c_X7_change_f (l : Launch) (E : En) (base aw : Nat) (S : Mm) (mc : Nat) (lc : Nat → Nat) (hI : IM S mc lc) (i : Nat) (hi : i < mc) (t : Nat) (ht : t ≤ 20000) (hm : t % 10 = 0) (hv : Nat → Nat) (hhv : ∀ w, w < 6 → S.1 (2, 0, 3) (6 * i + w) + S.1 (2, 0, 5) (6 * i + w) = nI (hv w) ∧ hv w ≤ 1000) (hok : 1000 ≤ fcR hv 6 (t / 10)) : Cn l E base aw yX7_change cX7_change 4 (some Jvm.ClassFile.FieldType.int) 2 0 0 noF S [vr (2, 0, 0), vi (nI i), vi (nI t)] (fun r S' => r = some (vi (-9)) ∧ S' = tbM S hv (t / 10)) := by
  have hM := hI.1
  have hmc := hI.2.2.1
  have hf9 := fcR_le hv 6 (t / 10)
  refine Cn.of (by decide) (Nat.le_of_ble_eq_true rfl) ?_
  intro X Y hl hE hbase haw hfr C B
  subst hl; subst hE; subst hbase; subst haw
  refine g_aload_n (pc := 0) C dX7_change_0 rfl ?_
  refine g_iload_n (pc := 1) C dX7_change_1 rfl ?_
  refine g_callV (pc := 2) C B mX7_112 (c_isM_t _ _ _ _ _ mc lc hI i hi) rfl rfl rfl rfl hM.1 (by decide) ⟨Nat.le_refl _, Nat.le_refl _⟩ (Nat.le_of_ble_eq_true rfl) dX7_change_2 (fun rr SS hP => ?_)
  rw [hP.1, hP.2]
  refine g_if_ne (pc := 5) C 14 dX7_change_5 (by decide) (fun _ => ?_) (fun h5 => absurd h5 (by decide))
  refine g_iload_n (pc := 14) C dX7_change_14 rfl ?_
  refine g_if_ge (pc := 15) C 25 dX7_change_15 (by decide) (fun _ => ?_) (fun h15 => absurd (nI_pos' (by omega)) h15)
  refine g_iload_n (pc := 25) C dX7_change_25 rfl ?_
  refine g_sipush (pc := 26) C 20000 dX7_change_26 (by decide) ?_
  refine g_icmp_le (pc := 29) C 39 dX7_change_29 (by decide) (fun _ => ?_) (fun h29 => absurd (nI_le (b := 20000) ht (by decide)) h29)
  refine g_aload_n (pc := 39) C dX7_change_39 rfl ?_
  refine g_iload_n (pc := 40) C dX7_change_40 rfl ?_
  refine g_iload_n (pc := 41) C dX7_change_41 rfl ?_
  refine g_callV (pc := 42) C B mX7_143 (c_findChange_f _ _ _ _ _ hM i (by omega) t ht hm hv hhv hok) rfl rfl rfl rfl hM.1 (by decide) ⟨Nat.le_refl _, Nat.le_refl _⟩ (Nat.le_of_ble_eq_true rfl) dX7_change_42 (fun rr SS hP => ?_)
  rw [hP.1, hP.2]
  refine g_istore_n (pc := 45) C dX7_change_45 (by decide) ?_
  refine g_iload_n (pc := 46) C dX7_change_46 rfl ?_
  refine g_sipush (pc := 47) C 1000 dX7_change_47 (by decide) ?_
  refine g_icmp_ge (pc := 50) C 57 dX7_change_50 (by decide) (fun _ => ?_) (fun h50 => absurd ((nI_leI (a := 1000) (b := fcR hv 6 (t / 10)) (by omega) (by omega)).mpr (by omega)) h50)
  refine g_bipush (pc := 57) C (-9) dX7_change_57 (by decide) ?_
  exact g_iret (pc := 59) C B rfl dX7_change_59 (⟨rfl, rfl⟩)

set_option maxHeartbeats 400000 in
set_option maxRecDepth 100000 in
theorem c_X7_change_y (l : Launch) (E : En) (base aw : Nat) (S : Mm) (mc : Nat) (lc : Nat → Nat) (hI : IM S mc lc) (i : Nat) (hi : i < mc) (t : Nat) (ht : t ≤ 20000) (hm : t % 10 = 0) (hv : Nat → Nat) (hhv : ∀ w, w < 6 → S.1 (2, 0, 3) (6 * i + w) + S.1 (2, 0, 5) (6 * i + w) = nI (hv w) ∧ hv w ≤ 1000) (hok : fcR hv 6 (t / 10) < 1000) : Cn l E base aw yX7_change cX7_change 4 (some Jvm.ClassFile.FieldType.int) 2 0 0 noF S [vr (2, 0, 0), vi (nI i), vi (nI t)] (fun r S' => r = some (vi (nI (fcR hv 6 (t / 10)))) ∧ S' = chM (tbM S hv (t / 10)) hv (t / 10) 6) := by
  have hM := hI.1
  have hmc := hI.2.2.1
  have hf9 := fcR_le hv 6 (t / 10)
  refine Cn.of (by decide) (Nat.le_of_ble_eq_true rfl) ?_
  intro X Y hl hE hbase haw hfr C B
  subst hl; subst hE; subst hbase; subst haw
  refine g_aload_n (pc := 0) C dX7_change_0 rfl ?_
  refine g_iload_n (pc := 1) C dX7_change_1 rfl ?_
  refine g_callV (pc := 2) C B mX7_112 (c_isM_t _ _ _ _ _ mc lc hI i hi) rfl rfl rfl rfl hM.1 (by decide) ⟨Nat.le_refl _, Nat.le_refl _⟩ (Nat.le_of_ble_eq_true rfl) dX7_change_2 (fun rr SS hP => ?_)
  rw [hP.1, hP.2]
  refine g_if_ne (pc := 5) C 14 dX7_change_5 (by decide) (fun _ => ?_) (fun h5 => absurd h5 (by decide))
  refine g_iload_n (pc := 14) C dX7_change_14 rfl ?_
  refine g_if_ge (pc := 15) C 25 dX7_change_15 (by decide) (fun _ => ?_) (fun h15 => absurd (nI_pos' (by omega)) h15)
  refine g_iload_n (pc := 25) C dX7_change_25 rfl ?_
  refine g_sipush (pc := 26) C 20000 dX7_change_26 (by decide) ?_
  refine g_icmp_le (pc := 29) C 39 dX7_change_29 (by decide) (fun _ => ?_) (fun h29 => absurd (nI_le (b := 20000) ht (by decide)) h29)
  refine g_aload_n (pc := 39) C dX7_change_39 rfl ?_
  refine g_iload_n (pc := 40) C dX7_change_40 rfl ?_
  refine g_iload_n (pc := 41) C dX7_change_41 rfl ?_
  refine g_callV (pc := 42) C B mX7_143 (c_findChange_y _ _ _ _ _ hM i (by omega) t ht hm hv hhv hok) rfl rfl rfl rfl hM.1 (by decide) ⟨Nat.le_refl _, Nat.le_refl _⟩ (Nat.le_of_ble_eq_true rfl) dX7_change_42 (fun rr SS hP => ?_)
  rw [hP.1, hP.2]
  refine g_istore_n (pc := 45) C dX7_change_45 (by decide) ?_
  refine g_iload_n (pc := 46) C dX7_change_46 rfl ?_
  refine g_sipush (pc := 47) C 1000 dX7_change_47 (by decide) ?_
  refine g_icmp_ge (pc := 50) C 57 dX7_change_50 (by decide) (fun h50 => absurd h50 (fun q => absurd ((nI_leI (a := 1000) (b := fcR hv 6 (t / 10)) (by omega) (by omega)).mp q) (by omega))) (fun _ => ?_)
  refine g_iload_n (pc := 53) C dX7_change_53 rfl ?_
  refine g_goto (pc := 54) C 59 dX7_change_54 (by decide) ?_
  exact g_iret (pc := 59) C B rfl dX7_change_59 (⟨rfl, rfl⟩)

set_option maxHeartbeats 400000 in
set_option maxRecDepth 100000 in
/-- choose of no lane -/
theorem c_X7_choose_b (l : Launch) (E : En) (base aw : Nat) (S : Mm) (mc : Nat) (lc : Nat → Nat) (hI : IM S mc lc) (p0 p1 : Int32) (h : ¬ (okL mc lc p0 p1)) : Cn l E base aw yX7_choose cX7_choose 9 (some Jvm.ClassFile.FieldType.int) 4 0 0 noF S [vr (2, 0, 0), vi p0, vi p1] (fun r S' => r = some (vi (-1)) ∧ S' = rfM S 1) := by
  have hM := hI.1
  have hmc := hI.2.2.1
  have hx : ¬ okL mc lc p0 p1 := fun q => h q
  refine Cn.of (by decide) (Nat.le_of_ble_eq_true rfl) ?_
  intro X Y hl hE hbase haw hfr C B
  subst hl; subst hE; subst hbase; subst haw
  refine g_aload_n (pc := 0) C dX7_choose_0 rfl ?_
  refine g_iload_n (pc := 1) C dX7_choose_1 rfl ?_
  refine g_iload_n (pc := 2) C dX7_choose_2 rfl ?_
  refine g_callV (pc := 3) C B mX7_123 (c_isL_f _ _ _ _ _ mc lc hI p0 p1 hx) rfl rfl rfl rfl hM.1 (by decide) ⟨Nat.le_refl _, Nat.le_refl _⟩ (Nat.le_of_ble_eq_true rfl) dX7_choose_3 (fun rr SS hP => ?_)
  rw [hP.1, hP.2]
  refine g_if_ne (pc := 6) C 15 dX7_choose_6 (by decide) (fun h6 => absurd (by decide) h6) (fun _ => ?_)
  refine g_aload_n (pc := 9) C dX7_choose_9 rfl ?_
  refine g_iconst (pc := 10) C (-1) dX7_choose_10 (by decide) ?_
  refine g_callV (pc := 11) C B mX7_116 (c_mrefuse _ _ _ _ _ hM (-1) 1 (by decide) (by decide)) rfl rfl rfl rfl hM.1 (by decide) ⟨Nat.le_refl _, Nat.le_refl _⟩ (Nat.le_of_ble_eq_true rfl) dX7_choose_11 (fun rr SS hP => ?_)
  rw [hP.1, hP.2]
  exact g_iret (pc := 14) C B rfl dX7_choose_14 (⟨rfl, rfl⟩)

set_option maxHeartbeats 400000 in
set_option maxRecDepth 100000 in
theorem c_X7_choose_3 (l : Launch) (E : En) (base aw : Nat) (S : Mm) (mc : Nat) (lc : Nat → Nat) (hI : IM S mc lc) (i : Nat) (hi : i < mc) (j : Nat) (hj : j < lc i) (hs : v_X7_sells S i j = 0) : Cn l E base aw yX7_choose cX7_choose 9 (some Jvm.ClassFile.FieldType.int) 4 0 0 noF S [vr (2, 0, 0), vi (nI i), vi (nI j)] (fun r S' => r = some (vi (-3)) ∧ S' = rfM S 3) := by
  have hM := hI.1
  have hmc := hI.2.2.1
  have hlc := (hI.2.2.2 i (by omega)).2
  refine Cn.of (by decide) (Nat.le_of_ble_eq_true rfl) ?_
  intro X Y hl hE hbase haw hfr C B
  subst hl; subst hE; subst hbase; subst haw
  refine g_aload_n (pc := 0) C dX7_choose_0 rfl ?_
  refine g_iload_n (pc := 1) C dX7_choose_1 rfl ?_
  refine g_iload_n (pc := 2) C dX7_choose_2 rfl ?_
  refine g_callV (pc := 3) C B mX7_123 (c_isL_t _ _ _ _ _ mc lc hI i hi j hj) rfl rfl rfl rfl hM.1 (by decide) ⟨Nat.le_refl _, Nat.le_refl _⟩ (Nat.le_of_ble_eq_true rfl) dX7_choose_3 (fun rr SS hP => ?_)
  rw [hP.1, hP.2]
  refine g_if_ne (pc := 6) C 15 dX7_choose_6 (by decide) (fun _ => ?_) (fun h6 => absurd h6 (by decide))
  refine g_bipush (pc := 15) C 8 dX7_choose_15 (by decide) ?_
  refine g_iload_n (pc := 17) C dX7_choose_17 rfl ?_
  refine g_imul (pc := 18) C dX7_choose_18 ?_
  refine g_eqi (nI (8 * i)) (pk_mul 8 i) ?_
  refine g_iload_n (pc := 19) C dX7_choose_19 rfl ?_
  refine g_iadd (pc := 20) C dX7_choose_20 ?_
  refine g_eqi (nI ((8 * i) + j)) (nI_add (8 * i) j) ?_
  refine g_istore_n (pc := 21) C dX7_choose_21 (by decide) ?_
  refine g_aload_n (pc := 22) C dX7_choose_22 rfl ?_
  refine g_iload_n (pc := 23) C dX7_choose_23 rfl ?_
  refine g_iload_n (pc := 24) C dX7_choose_24 rfl ?_
  refine g_callV (pc := 25) C B mX7_147 (c_X7_sells _ _ _ _ _ mc lc hI i hi j (by omega)) rfl rfl rfl rfl hM.1 (by decide) ⟨Nat.le_refl _, Nat.le_refl _⟩ (Nat.le_of_ble_eq_true rfl) dX7_choose_25 (fun rr SS hP => ?_)
  rw [hP.1, hP.2]
  refine g_if_ne (pc := 28) C 38 dX7_choose_28 (by decide) (fun h28 => absurd hs h28) (fun _ => ?_)
  refine g_aload_n (pc := 31) C dX7_choose_31 rfl ?_
  refine g_bipush (pc := 32) C (-3) dX7_choose_32 (by decide) ?_
  refine g_callV (pc := 34) C B mX7_116 (c_mrefuse _ _ _ _ _ hM (-3) 3 (by decide) (by decide)) rfl rfl rfl rfl hM.1 (by decide) ⟨Nat.le_refl _, Nat.le_refl _⟩ (Nat.le_of_ble_eq_true rfl) dX7_choose_34 (fun rr SS hP => ?_)
  rw [hP.1, hP.2]
  exact g_iret (pc := 37) C B rfl dX7_choose_37 (⟨rfl, rfl⟩)

set_option maxHeartbeats 400000 in
set_option maxRecDepth 100000 in
theorem c_X7_choose_5 (l : Launch) (E : En) (base aw : Nat) (S : Mm) (mc : Nat) (lc : Nat → Nat) (hI : IM S mc lc) (i : Nat) (hi : i < mc) (j : Nat) (hj : j < lc i) (hs : ¬ v_X7_sells S i j = 0) (hb : ¬ 0 ≤ wsum (fun z => S.1 (2, 0, 5) (6 * i + z)) 6 - S.1 (2, 0, 11) (8 * i + j)) : Cn l E base aw yX7_choose cX7_choose 9 (some Jvm.ClassFile.FieldType.int) 4 0 0 noF S [vr (2, 0, 0), vi (nI i), vi (nI j)] (fun r S' => r = some (vi (-5)) ∧ S' = rfM S 5) := by
  have hM := hI.1
  have hmc := hI.2.2.1
  have hlc := (hI.2.2.2 i (by omega)).2
  refine Cn.of (by decide) (Nat.le_of_ble_eq_true rfl) ?_
  intro X Y hl hE hbase haw hfr C B
  subst hl; subst hE; subst hbase; subst haw
  refine g_aload_n (pc := 0) C dX7_choose_0 rfl ?_
  refine g_iload_n (pc := 1) C dX7_choose_1 rfl ?_
  refine g_iload_n (pc := 2) C dX7_choose_2 rfl ?_
  refine g_callV (pc := 3) C B mX7_123 (c_isL_t _ _ _ _ _ mc lc hI i hi j hj) rfl rfl rfl rfl hM.1 (by decide) ⟨Nat.le_refl _, Nat.le_refl _⟩ (Nat.le_of_ble_eq_true rfl) dX7_choose_3 (fun rr SS hP => ?_)
  rw [hP.1, hP.2]
  refine g_if_ne (pc := 6) C 15 dX7_choose_6 (by decide) (fun _ => ?_) (fun h6 => absurd h6 (by decide))
  refine g_bipush (pc := 15) C 8 dX7_choose_15 (by decide) ?_
  refine g_iload_n (pc := 17) C dX7_choose_17 rfl ?_
  refine g_imul (pc := 18) C dX7_choose_18 ?_
  refine g_eqi (nI (8 * i)) (pk_mul 8 i) ?_
  refine g_iload_n (pc := 19) C dX7_choose_19 rfl ?_
  refine g_iadd (pc := 20) C dX7_choose_20 ?_
  refine g_eqi (nI ((8 * i) + j)) (nI_add (8 * i) j) ?_
  refine g_istore_n (pc := 21) C dX7_choose_21 (by decide) ?_
  refine g_aload_n (pc := 22) C dX7_choose_22 rfl ?_
  refine g_iload_n (pc := 23) C dX7_choose_23 rfl ?_
  refine g_iload_n (pc := 24) C dX7_choose_24 rfl ?_
  refine g_callV (pc := 25) C B mX7_147 (c_X7_sells _ _ _ _ _ mc lc hI i hi j (by omega)) rfl rfl rfl rfl hM.1 (by decide) ⟨Nat.le_refl _, Nat.le_refl _⟩ (Nat.le_of_ble_eq_true rfl) dX7_choose_25 (fun rr SS hP => ?_)
  rw [hP.1, hP.2]
  refine g_if_ne (pc := 28) C 38 dX7_choose_28 (by decide) (fun _ => ?_) (fun h28 => absurd h28 hs)
  refine g_aload_n (pc := 38) C dX7_choose_38 rfl ?_
  refine g_aload_n (pc := 39) C dX7_choose_39 rfl ?_
  refine g_getr (pc := 40) C fX7_19 rfl hM.1 dX7_choose_40 rfl (hM.2 5 rfl).1 ?_
  refine g_iload_n (pc := 43) C dX7_choose_43 rfl ?_
  refine g_callV (pc := 44) C B mX7_136 (c_worthIn _ _ _ _ _ i 5 (by omega) (hM.2 5 rfl).2 rfl) rfl rfl rfl rfl hM.1 (by decide) ⟨Nat.le_refl _, Nat.le_refl _⟩ (Nat.le_of_ble_eq_true rfl) dX7_choose_44 (fun rr SS hP => ?_)
  rw [hP.1, hP.2]
  refine g_aload_n (pc := 47) C dX7_choose_47 rfl ?_
  refine g_getr (pc := 48) C fX7_38 rfl hM.1 dX7_choose_48 rfl (hM.2 11 rfl).1 ?_
  refine g_iload_n (pc := 51) C dX7_choose_51 rfl ?_
  refine g_ialdN (pc := 52) C rfl (hM.2 11 rfl).2 (by omega) (by decide) dX7_choose_52 ?_
  refine g_isub (pc := 53) C dX7_choose_53 ?_
  refine g_istore (pc := 54) C dX7_choose_54 (by decide) ?_
  refine g_iload (pc := 56) C dX7_choose_56 rfl ?_
  refine g_if_ge (pc := 58) C 68 dX7_choose_58 (by decide) (fun h58 => absurd h58 hb) (fun _ => ?_)
  refine g_aload_n (pc := 61) C dX7_choose_61 rfl ?_
  refine g_bipush (pc := 62) C (-5) dX7_choose_62 (by decide) ?_
  refine g_callV (pc := 64) C B mX7_116 (c_mrefuse _ _ _ _ _ hM (-5) 5 (by decide) (by decide)) rfl rfl rfl rfl hM.1 (by decide) ⟨Nat.le_refl _, Nat.le_refl _⟩ (Nat.le_of_ble_eq_true rfl) dX7_choose_64 (fun rr SS hP => ?_)
  rw [hP.1, hP.2]
  exact g_iret (pc := 67) C B rfl dX7_choose_67 (⟨rfl, rfl⟩)

set_option maxHeartbeats 400000 in
set_option maxRecDepth 100000 in
theorem c_X7_choose_6n (l : Launch) (E : En) (base aw : Nat) (S : Mm) (mc : Nat) (lc : Nat → Nat) (hI : IM S mc lc) (i : Nat) (hi : i < mc) (j : Nat) (hj : j < lc i) (hs : ¬ v_X7_sells S i j = 0) (t : Nat) (hb : wsum (fun z => S.1 (2, 0, 5) (6 * i + z)) 6 - S.1 (2, 0, 11) (8 * i + j) = nI t) (ht : t ≤ 20000) (hm : t % 10 ≠ 0) : Cn l E base aw yX7_choose cX7_choose 9 (some Jvm.ClassFile.FieldType.int) 4 0 0 noF S [vr (2, 0, 0), vi (nI i), vi (nI j)] (fun r S' => r = some (vi (-6)) ∧ S' = rfM (czM S 6) 6) := by
  have hM := hI.1
  have hmc := hI.2.2.1
  have hlc := (hI.2.2.2 i (by omega)).2
  refine Cn.of (by decide) (Nat.le_of_ble_eq_true rfl) ?_
  intro X Y hl hE hbase haw hfr C B
  subst hl; subst hE; subst hbase; subst haw
  refine g_aload_n (pc := 0) C dX7_choose_0 rfl ?_
  refine g_iload_n (pc := 1) C dX7_choose_1 rfl ?_
  refine g_iload_n (pc := 2) C dX7_choose_2 rfl ?_
  refine g_callV (pc := 3) C B mX7_123 (c_isL_t _ _ _ _ _ mc lc hI i hi j hj) rfl rfl rfl rfl hM.1 (by decide) ⟨Nat.le_refl _, Nat.le_refl _⟩ (Nat.le_of_ble_eq_true rfl) dX7_choose_3 (fun rr SS hP => ?_)
  rw [hP.1, hP.2]
  refine g_if_ne (pc := 6) C 15 dX7_choose_6 (by decide) (fun _ => ?_) (fun h6 => absurd h6 (by decide))
  refine g_bipush (pc := 15) C 8 dX7_choose_15 (by decide) ?_
  refine g_iload_n (pc := 17) C dX7_choose_17 rfl ?_
  refine g_imul (pc := 18) C dX7_choose_18 ?_
  refine g_eqi (nI (8 * i)) (pk_mul 8 i) ?_
  refine g_iload_n (pc := 19) C dX7_choose_19 rfl ?_
  refine g_iadd (pc := 20) C dX7_choose_20 ?_
  refine g_eqi (nI ((8 * i) + j)) (nI_add (8 * i) j) ?_
  refine g_istore_n (pc := 21) C dX7_choose_21 (by decide) ?_
  refine g_aload_n (pc := 22) C dX7_choose_22 rfl ?_
  refine g_iload_n (pc := 23) C dX7_choose_23 rfl ?_
  refine g_iload_n (pc := 24) C dX7_choose_24 rfl ?_
  refine g_callV (pc := 25) C B mX7_147 (c_X7_sells _ _ _ _ _ mc lc hI i hi j (by omega)) rfl rfl rfl rfl hM.1 (by decide) ⟨Nat.le_refl _, Nat.le_refl _⟩ (Nat.le_of_ble_eq_true rfl) dX7_choose_25 (fun rr SS hP => ?_)
  rw [hP.1, hP.2]
  refine g_if_ne (pc := 28) C 38 dX7_choose_28 (by decide) (fun _ => ?_) (fun h28 => absurd h28 hs)
  refine g_aload_n (pc := 38) C dX7_choose_38 rfl ?_
  refine g_aload_n (pc := 39) C dX7_choose_39 rfl ?_
  refine g_getr (pc := 40) C fX7_19 rfl hM.1 dX7_choose_40 rfl (hM.2 5 rfl).1 ?_
  refine g_iload_n (pc := 43) C dX7_choose_43 rfl ?_
  refine g_callV (pc := 44) C B mX7_136 (c_worthIn _ _ _ _ _ i 5 (by omega) (hM.2 5 rfl).2 rfl) rfl rfl rfl rfl hM.1 (by decide) ⟨Nat.le_refl _, Nat.le_refl _⟩ (Nat.le_of_ble_eq_true rfl) dX7_choose_44 (fun rr SS hP => ?_)
  rw [hP.1, hP.2]
  refine g_aload_n (pc := 47) C dX7_choose_47 rfl ?_
  refine g_getr (pc := 48) C fX7_38 rfl hM.1 dX7_choose_48 rfl (hM.2 11 rfl).1 ?_
  refine g_iload_n (pc := 51) C dX7_choose_51 rfl ?_
  refine g_ialdN (pc := 52) C rfl (hM.2 11 rfl).2 (by omega) (by decide) dX7_choose_52 ?_
  refine g_isub (pc := 53) C dX7_choose_53 ?_
  refine g_eqi (nI (t)) hb ?_
  refine g_istore (pc := 54) C dX7_choose_54 (by decide) ?_
  refine g_iload (pc := 56) C dX7_choose_56 rfl ?_
  refine g_if_ge (pc := 58) C 68 dX7_choose_58 (by decide) (fun _ => ?_) (fun h58 => absurd (nI_pos' (by omega)) h58)
  refine g_aload_n (pc := 68) C dX7_choose_68 rfl ?_
  refine g_iload_n (pc := 69) C dX7_choose_69 rfl ?_
  refine g_iload (pc := 70) C dX7_choose_70 rfl ?_
  refine g_callV (pc := 72) C B mX7_143 (c_findChange_n _ _ _ _ _ hM i (by omega) t ht hm) rfl rfl rfl rfl hM.1 (by decide) ⟨Nat.le_refl _, Nat.le_refl _⟩ (Nat.le_of_ble_eq_true rfl) dX7_choose_72 (fun rr SS hP => ?_)
  rw [hP.1, hP.2]
  refine g_sipush (pc := 75) C 1000 dX7_choose_75 (by decide) ?_
  have hM : ShM (czM S 6) := hM.same (czM_but S 6).1
  refine g_icmp_lt (pc := 78) C 88 dX7_choose_78 (by decide) (fun h78 => absurd h78 (by decide)) (fun _ => ?_)
  refine g_aload_n (pc := 81) C dX7_choose_81 rfl ?_
  refine g_bipush (pc := 82) C (-6) dX7_choose_82 (by decide) ?_
  refine g_callV (pc := 84) C B mX7_116 (c_mrefuse _ _ _ _ _ hM (-6) 6 (by decide) (by decide)) rfl rfl rfl rfl hM.1 (by decide) ⟨Nat.le_refl _, Nat.le_refl _⟩ (Nat.le_of_ble_eq_true rfl) dX7_choose_84 (fun rr SS hP => ?_)
  rw [hP.1, hP.2]
  exact g_iret (pc := 87) C B rfl dX7_choose_87 (⟨rfl, rfl⟩)

set_option maxHeartbeats 400000 in
set_option maxRecDepth 100000 in
theorem c_X7_choose_6f (l : Launch) (E : En) (base aw : Nat) (S : Mm) (mc : Nat) (lc : Nat → Nat) (hI : IM S mc lc) (i : Nat) (hi : i < mc) (j : Nat) (hj : j < lc i) (hs : ¬ v_X7_sells S i j = 0) (t : Nat) (hb : wsum (fun z => S.1 (2, 0, 5) (6 * i + z)) 6 - S.1 (2, 0, 11) (8 * i + j) = nI t) (ht : t ≤ 20000) (hm : t % 10 = 0) (hv : Nat → Nat) (hhv : ∀ w, w < 6 → S.1 (2, 0, 3) (6 * i + w) + S.1 (2, 0, 5) (6 * i + w) = nI (hv w) ∧ hv w ≤ 1000) (hok : 1000 ≤ fcR hv 6 (t / 10)) : Cn l E base aw yX7_choose cX7_choose 9 (some Jvm.ClassFile.FieldType.int) 4 0 0 noF S [vr (2, 0, 0), vi (nI i), vi (nI j)] (fun r S' => r = some (vi (-6)) ∧ S' = rfM (tbM S hv (t / 10)) 6) := by
  have hM := hI.1
  have hmc := hI.2.2.1
  have hlc := (hI.2.2.2 i (by omega)).2
  have hf9 := fcR_le hv 6 (t / 10)
  refine Cn.of (by decide) (Nat.le_of_ble_eq_true rfl) ?_
  intro X Y hl hE hbase haw hfr C B
  subst hl; subst hE; subst hbase; subst haw
  refine g_aload_n (pc := 0) C dX7_choose_0 rfl ?_
  refine g_iload_n (pc := 1) C dX7_choose_1 rfl ?_
  refine g_iload_n (pc := 2) C dX7_choose_2 rfl ?_
  refine g_callV (pc := 3) C B mX7_123 (c_isL_t _ _ _ _ _ mc lc hI i hi j hj) rfl rfl rfl rfl hM.1 (by decide) ⟨Nat.le_refl _, Nat.le_refl _⟩ (Nat.le_of_ble_eq_true rfl) dX7_choose_3 (fun rr SS hP => ?_)
  rw [hP.1, hP.2]
  refine g_if_ne (pc := 6) C 15 dX7_choose_6 (by decide) (fun _ => ?_) (fun h6 => absurd h6 (by decide))
  refine g_bipush (pc := 15) C 8 dX7_choose_15 (by decide) ?_
  refine g_iload_n (pc := 17) C dX7_choose_17 rfl ?_
  refine g_imul (pc := 18) C dX7_choose_18 ?_
  refine g_eqi (nI (8 * i)) (pk_mul 8 i) ?_
  refine g_iload_n (pc := 19) C dX7_choose_19 rfl ?_
  refine g_iadd (pc := 20) C dX7_choose_20 ?_
  refine g_eqi (nI ((8 * i) + j)) (nI_add (8 * i) j) ?_
  refine g_istore_n (pc := 21) C dX7_choose_21 (by decide) ?_
  refine g_aload_n (pc := 22) C dX7_choose_22 rfl ?_
  refine g_iload_n (pc := 23) C dX7_choose_23 rfl ?_
  refine g_iload_n (pc := 24) C dX7_choose_24 rfl ?_
  refine g_callV (pc := 25) C B mX7_147 (c_X7_sells _ _ _ _ _ mc lc hI i hi j (by omega)) rfl rfl rfl rfl hM.1 (by decide) ⟨Nat.le_refl _, Nat.le_refl _⟩ (Nat.le_of_ble_eq_true rfl) dX7_choose_25 (fun rr SS hP => ?_)
  rw [hP.1, hP.2]
  refine g_if_ne (pc := 28) C 38 dX7_choose_28 (by decide) (fun _ => ?_) (fun h28 => absurd h28 hs)
  refine g_aload_n (pc := 38) C dX7_choose_38 rfl ?_
  refine g_aload_n (pc := 39) C dX7_choose_39 rfl ?_
  refine g_getr (pc := 40) C fX7_19 rfl hM.1 dX7_choose_40 rfl (hM.2 5 rfl).1 ?_
  refine g_iload_n (pc := 43) C dX7_choose_43 rfl ?_
  refine g_callV (pc := 44) C B mX7_136 (c_worthIn _ _ _ _ _ i 5 (by omega) (hM.2 5 rfl).2 rfl) rfl rfl rfl rfl hM.1 (by decide) ⟨Nat.le_refl _, Nat.le_refl _⟩ (Nat.le_of_ble_eq_true rfl) dX7_choose_44 (fun rr SS hP => ?_)
  rw [hP.1, hP.2]
  refine g_aload_n (pc := 47) C dX7_choose_47 rfl ?_
  refine g_getr (pc := 48) C fX7_38 rfl hM.1 dX7_choose_48 rfl (hM.2 11 rfl).1 ?_
  refine g_iload_n (pc := 51) C dX7_choose_51 rfl ?_
  refine g_ialdN (pc := 52) C rfl (hM.2 11 rfl).2 (by omega) (by decide) dX7_choose_52 ?_
  refine g_isub (pc := 53) C dX7_choose_53 ?_
  refine g_eqi (nI (t)) hb ?_
  refine g_istore (pc := 54) C dX7_choose_54 (by decide) ?_
  refine g_iload (pc := 56) C dX7_choose_56 rfl ?_
  refine g_if_ge (pc := 58) C 68 dX7_choose_58 (by decide) (fun _ => ?_) (fun h58 => absurd (nI_pos' (by omega)) h58)
  refine g_aload_n (pc := 68) C dX7_choose_68 rfl ?_
  refine g_iload_n (pc := 69) C dX7_choose_69 rfl ?_
  refine g_iload (pc := 70) C dX7_choose_70 rfl ?_
  refine g_callV (pc := 72) C B mX7_143 (c_findChange_f _ _ _ _ _ hM i (by omega) t ht hm hv hhv hok) rfl rfl rfl rfl hM.1 (by decide) ⟨Nat.le_refl _, Nat.le_refl _⟩ (Nat.le_of_ble_eq_true rfl) dX7_choose_72 (fun rr SS hP => ?_)
  rw [hP.1, hP.2]
  refine g_sipush (pc := 75) C 1000 dX7_choose_75 (by decide) ?_
  have hM : ShM (tbM S hv (t / 10)) := hM.same (tbM_but S hv (t / 10)).1
  refine g_icmp_lt (pc := 78) C 88 dX7_choose_78 (by decide) (fun h78 => absurd h78 (fun q => absurd ((nI_ltI (a := fcR hv 6 (t / 10)) (b := 1000) (by omega) (by omega)).mp q) (by omega))) (fun _ => ?_)
  refine g_aload_n (pc := 81) C dX7_choose_81 rfl ?_
  refine g_bipush (pc := 82) C (-6) dX7_choose_82 (by decide) ?_
  refine g_callV (pc := 84) C B mX7_116 (c_mrefuse _ _ _ _ _ hM (-6) 6 (by decide) (by decide)) rfl rfl rfl rfl hM.1 (by decide) ⟨Nat.le_refl _, Nat.le_refl _⟩ (Nat.le_of_ble_eq_true rfl) dX7_choose_84 (fun rr SS hP => ?_)
  rw [hP.1, hP.2]
  exact g_iret (pc := 87) C B rfl dX7_choose_87 (⟨rfl, rfl⟩)

/-- the memory behind findChange -/
def fyM (S : Mm) (hv : Nat → Nat) (t : Nat) : Mm := chM (tbM S hv (t / 10)) hv (t / 10) 6
theorem fyM_but (S : Mm) (hv : Nat → Nat) (t : Nat) : but fFC S (fyM S hv t) := (tbM_but S hv (t / 10)).tr (chM_but _ _ _ _)
def t_X7_choose_7 (S : Mm) (hv : Nat → Nat) (t : Nat) (i : Nat) (j : Nat) : Option AV × Mm := if ((wI (wI (fyM S hv t) (2, 0, 16) ((8 * i) + j) (((fyM S hv t).1 (2, 0, 16) ((8 * i) + j)) - 1)) (2, 0, 17) ((8 * i) + j) (((wI (fyM S hv t) (2, 0, 16) ((8 * i) + j) (((fyM S hv t).1 (2, 0, 16) ((8 * i) + j)) - 1)).1 (2, 0, 17) ((8 * i) + j)) + 1)).1 (2, 0, 17) ((8 * i) + j)) = 3 then (some (vi ((-7))), abM (wI (wI (wI (wI (fyM S hv t) (2, 0, 16) ((8 * i) + j) (((fyM S hv t).1 (2, 0, 16) ((8 * i) + j)) - 1)) (2, 0, 17) ((8 * i) + j) (((wI (fyM S hv t) (2, 0, 16) ((8 * i) + j) (((fyM S hv t).1 (2, 0, 16) ((8 * i) + j)) - 1)).1 (2, 0, 17) ((8 * i) + j)) + 1)) (2, 0, 18) ((8 * i) + j) 1) (2, 0, 0) 27 (((wI (wI (wI (fyM S hv t) (2, 0, 16) ((8 * i) + j) (((fyM S hv t).1 (2, 0, 16) ((8 * i) + j)) - 1)) (2, 0, 17) ((8 * i) + j) (((wI (fyM S hv t) (2, 0, 16) ((8 * i) + j) (((fyM S hv t).1 (2, 0, 16) ((8 * i) + j)) - 1)).1 (2, 0, 17) ((8 * i) + j)) + 1)) (2, 0, 18) ((8 * i) + j) 1).1 (2, 0, 0) 27) + 1)) i 6) else (some (vi ((-7))), abM (wI (wI (wI (wI (fyM S hv t) (2, 0, 16) ((8 * i) + j) (((fyM S hv t).1 (2, 0, 16) ((8 * i) + j)) - 1)) (2, 0, 17) ((8 * i) + j) (((wI (fyM S hv t) (2, 0, 16) ((8 * i) + j) (((fyM S hv t).1 (2, 0, 16) ((8 * i) + j)) - 1)).1 (2, 0, 17) ((8 * i) + j)) + 1)) (2, 0, 18) ((8 * i) + j) 0) (2, 0, 0) 27 (((wI (wI (wI (fyM S hv t) (2, 0, 16) ((8 * i) + j) (((fyM S hv t).1 (2, 0, 16) ((8 * i) + j)) - 1)) (2, 0, 17) ((8 * i) + j) (((wI (fyM S hv t) (2, 0, 16) ((8 * i) + j) (((fyM S hv t).1 (2, 0, 16) ((8 * i) + j)) - 1)).1 (2, 0, 17) ((8 * i) + j)) + 1)) (2, 0, 18) ((8 * i) + j) 0).1 (2, 0, 0) 27) + 1)) i 6)
set_option maxHeartbeats 400000 in
set_option maxRecDepth 100000 in
/-- choose: it sticks -/
theorem c_X7_choose_7 (l : Launch) (E : En) (base aw : Nat) (S : Mm) (mc : Nat) (lc : Nat → Nat) (hI : IM S mc lc) (i : Nat) (hi : i < mc) (j : Nat) (hj : j < lc i) (hs : ¬ v_X7_sells S i j = 0) (t : Nat) (hb : wsum (fun z => S.1 (2, 0, 5) (6 * i + z)) 6 - S.1 (2, 0, 11) (8 * i + j) = nI t) (ht : t ≤ 20000) (hm : t % 10 = 0) (hv : Nat → Nat) (hhv : ∀ w, w < 6 → S.1 (2, 0, 3) (6 * i + w) + S.1 (2, 0, 5) (6 * i + w) = nI (hv w) ∧ hv w ≤ 1000) (hok : fcR hv 6 (t / 10) < 1000) (hst : ¬ S.1 (2, 0, 16) (8 * i + j) ≤ 0) : Cn l E base aw yX7_choose cX7_choose 9 (some Jvm.ClassFile.FieldType.int) 4 0 0 noF S [vr (2, 0, 0), vi (nI i), vi (nI j)] (fun r S' => (r, S') = t_X7_choose_7 S hv t i j) := by
  have hM := hI.1
  have hmc := hI.2.2.1
  have hlc := (hI.2.2.2 i (by omega)).2
  have hf9 := fcR_le hv 6 (t / 10)
  refine Cn.of (by decide) (Nat.le_of_ble_eq_true rfl) ?_
  intro X Y hl hE hbase haw hfr C B
  subst hl; subst hE; subst hbase; subst haw
  refine g_aload_n (pc := 0) C dX7_choose_0 rfl ?_
  refine g_iload_n (pc := 1) C dX7_choose_1 rfl ?_
  refine g_iload_n (pc := 2) C dX7_choose_2 rfl ?_
  refine g_callV (pc := 3) C B mX7_123 (c_isL_t _ _ _ _ _ mc lc hI i hi j hj) rfl rfl rfl rfl hM.1 (by decide) ⟨Nat.le_refl _, Nat.le_refl _⟩ (Nat.le_of_ble_eq_true rfl) dX7_choose_3 (fun rr SS hP => ?_)
  rw [hP.1, hP.2]
  refine g_if_ne (pc := 6) C 15 dX7_choose_6 (by decide) (fun _ => ?_) (fun h6 => absurd h6 (by decide))
  refine g_bipush (pc := 15) C 8 dX7_choose_15 (by decide) ?_
  refine g_iload_n (pc := 17) C dX7_choose_17 rfl ?_
  refine g_imul (pc := 18) C dX7_choose_18 ?_
  refine g_eqi (nI (8 * i)) (pk_mul 8 i) ?_
  refine g_iload_n (pc := 19) C dX7_choose_19 rfl ?_
  refine g_iadd (pc := 20) C dX7_choose_20 ?_
  refine g_eqi (nI ((8 * i) + j)) (nI_add (8 * i) j) ?_
  refine g_istore_n (pc := 21) C dX7_choose_21 (by decide) ?_
  refine g_aload_n (pc := 22) C dX7_choose_22 rfl ?_
  refine g_iload_n (pc := 23) C dX7_choose_23 rfl ?_
  refine g_iload_n (pc := 24) C dX7_choose_24 rfl ?_
  refine g_callV (pc := 25) C B mX7_147 (c_X7_sells _ _ _ _ _ mc lc hI i hi j (by omega)) rfl rfl rfl rfl hM.1 (by decide) ⟨Nat.le_refl _, Nat.le_refl _⟩ (Nat.le_of_ble_eq_true rfl) dX7_choose_25 (fun rr SS hP => ?_)
  rw [hP.1, hP.2]
  refine g_if_ne (pc := 28) C 38 dX7_choose_28 (by decide) (fun _ => ?_) (fun h28 => absurd h28 hs)
  refine g_aload_n (pc := 38) C dX7_choose_38 rfl ?_
  refine g_aload_n (pc := 39) C dX7_choose_39 rfl ?_
  refine g_getr (pc := 40) C fX7_19 rfl hM.1 dX7_choose_40 rfl (hM.2 5 rfl).1 ?_
  refine g_iload_n (pc := 43) C dX7_choose_43 rfl ?_
  refine g_callV (pc := 44) C B mX7_136 (c_worthIn _ _ _ _ _ i 5 (by omega) (hM.2 5 rfl).2 rfl) rfl rfl rfl rfl hM.1 (by decide) ⟨Nat.le_refl _, Nat.le_refl _⟩ (Nat.le_of_ble_eq_true rfl) dX7_choose_44 (fun rr SS hP => ?_)
  rw [hP.1, hP.2]
  refine g_aload_n (pc := 47) C dX7_choose_47 rfl ?_
  refine g_getr (pc := 48) C fX7_38 rfl hM.1 dX7_choose_48 rfl (hM.2 11 rfl).1 ?_
  refine g_iload_n (pc := 51) C dX7_choose_51 rfl ?_
  refine g_ialdN (pc := 52) C rfl (hM.2 11 rfl).2 (by omega) (by decide) dX7_choose_52 ?_
  refine g_isub (pc := 53) C dX7_choose_53 ?_
  refine g_eqi (nI (t)) hb ?_
  refine g_istore (pc := 54) C dX7_choose_54 (by decide) ?_
  refine g_iload (pc := 56) C dX7_choose_56 rfl ?_
  refine g_if_ge (pc := 58) C 68 dX7_choose_58 (by decide) (fun _ => ?_) (fun h58 => absurd (nI_pos' (by omega)) h58)
  refine g_aload_n (pc := 68) C dX7_choose_68 rfl ?_
  refine g_iload_n (pc := 69) C dX7_choose_69 rfl ?_
  refine g_iload (pc := 70) C dX7_choose_70 rfl ?_
  refine g_callV (pc := 72) C B mX7_143 (c_findChange_y _ _ _ _ _ hM i (by omega) t ht hm hv hhv hok) rfl rfl rfl rfl hM.1 (by decide) ⟨Nat.le_refl _, Nat.le_refl _⟩ (Nat.le_of_ble_eq_true rfl) dX7_choose_72 (fun rr SS hP => ?_)
  rw [hP.1, show SS = fyM S hv t from hP.2]
  refine g_sipush (pc := 75) C 1000 dX7_choose_75 (by decide) ?_
  have hM : ShM (fyM S hv t) := hM.same (fyM_but S hv t).1
  refine g_icmp_lt (pc := 78) C 88 dX7_choose_78 (by decide) (fun _ => ?_) (fun h78 => absurd ((nI_ltI (a := fcR hv 6 (t / 10)) (b := 1000) (by omega) (by omega)).mpr (by omega)) h78)
  refine g_aload_n (pc := 88) C dX7_choose_88 rfl ?_
  refine g_getr (pc := 89) C fX7_53 rfl hM.1 dX7_choose_89 rfl (hM.2 16 rfl).1 ?_
  refine g_iload_n (pc := 92) C dX7_choose_92 rfl ?_
  refine g_ialdN (pc := 93) C rfl (hM.2 16 rfl).2 (by omega) (by decide) dX7_choose_93 ?_
  refine g_eqi (S.1 (2, 0, 16) (8 * i + j)) ((fyM_but S hv t).2 _ _ (fun q => by rcases q with q | q <;> cases q)) ?_
  refine g_if_le (pc := 94) C 158 dX7_choose_94 (by decide) (fun h94 => absurd h94 hst) (fun _ => ?_)
  refine g_aload_n (pc := 97) C dX7_choose_97 rfl ?_
  refine g_getr (pc := 98) C fX7_53 rfl hM.1 dX7_choose_98 rfl (hM.2 16 rfl).1 ?_
  refine g_iload_n (pc := 101) C dX7_choose_101 rfl ?_
  refine g_dup2 (pc := 102) C dX7_choose_102 ?_
  refine g_ialdN (pc := 103) C rfl (hM.2 16 rfl).2 (by omega) (by decide) dX7_choose_103 ?_
  refine g_iconst (pc := 104) C 1 dX7_choose_104 (by decide) ?_
  refine g_isub (pc := 105) C dX7_choose_105 ?_
  refine g_iastN (pc := 106) C rfl (hM.2 16 rfl).2 (by omega) (by decide) dX7_choose_106 ?_
  refine g_aload_n (pc := 107) C dX7_choose_107 rfl ?_
  refine g_getr (pc := 108) C fX7_56 rfl hM.1 dX7_choose_108 rfl (hM.2 17 rfl).1 ?_
  refine g_iload_n (pc := 111) C dX7_choose_111 rfl ?_
  refine g_dup2 (pc := 112) C dX7_choose_112 ?_
  refine g_ialdN (pc := 113) C rfl (hM.2 17 rfl).2 (by omega) (by decide) dX7_choose_113 ?_
  refine g_iconst (pc := 114) C 1 dX7_choose_114 (by decide) ?_
  refine g_iadd (pc := 115) C dX7_choose_115 ?_
  refine g_iastN (pc := 116) C rfl (hM.2 17 rfl).2 (by omega) (by decide) dX7_choose_116 ?_
  refine g_aload_n (pc := 117) C dX7_choose_117 rfl ?_
  refine g_getr (pc := 118) C fX7_59 rfl hM.1 dX7_choose_118 rfl (hM.2 18 rfl).1 ?_
  refine g_iload_n (pc := 121) C dX7_choose_121 rfl ?_
  refine g_aload_n (pc := 122) C dX7_choose_122 rfl ?_
  refine g_getr (pc := 123) C fX7_56 rfl hM.1 dX7_choose_123 rfl (hM.2 17 rfl).1 ?_
  refine g_iload_n (pc := 126) C dX7_choose_126 rfl ?_
  refine g_ialdN (pc := 127) C rfl (hM.2 17 rfl).2 (by omega) (by decide) dX7_choose_127 ?_
  refine g_iconst (pc := 128) C 3 dX7_choose_128 (by decide) ?_
  refine g_icmp_ne (pc := 129) C 136 dX7_choose_129 (by decide) (fun h129 => ?_) (fun h129 => ?_)
  ·
    refine g_iconst (pc := 136) C 0 dX7_choose_136 (by decide) ?_
    refine g_bastN (pc := 137) C rfl (hM.2 18 rfl).2 (by omega) (by decide) (Or.inl rfl) dX7_choose_137 ?_
    refine g_aload_n (pc := 138) C dX7_choose_138 rfl ?_
    refine g_dup (pc := 139) C dX7_choose_139 ?_
    refine g_geti (pc := 140) C fX7_150 rfl hM.1 dX7_choose_140 rfl ?_
    refine g_iconst (pc := 143) C 1 dX7_choose_143 (by decide) ?_
    refine g_iadd (pc := 144) C dX7_choose_144 ?_
    refine g_puti (pc := 145) C fX7_150 (Or.inl fm7_27) rfl hM.1 dX7_choose_145 (Or.inl rfl) ?_
    refine g_aload_n (pc := 148) C dX7_choose_148 rfl ?_
    refine g_iload_n (pc := 149) C dX7_choose_149 rfl ?_
    refine g_callV (pc := 150) C B mX7_140 (c_allBack _ _ _ _ _ i hM (by omega)) rfl rfl rfl rfl hM.1 (by decide) ⟨Nat.le_refl _, Nat.le_refl _⟩ (Nat.le_of_ble_eq_true rfl) dX7_choose_150 (fun rr SS hP => ?_)
    rw [hP.1, hP.2]
    refine g_istore (pc := 153) C dX7_choose_153 (by decide) ?_
    refine g_bipush (pc := 155) C (-7) dX7_choose_155 (by decide) ?_
    exact g_iret (pc := 157) C B rfl dX7_choose_157 (by show (_, _) = t_X7_choose_7 S hv t i j; unfold t_X7_choose_7; rw [if_neg h129])
  ·
    refine g_iconst (pc := 132) C 1 dX7_choose_132 (by decide) ?_
    refine g_goto (pc := 133) C 137 dX7_choose_133 (by decide) ?_
    refine g_bastN (pc := 137) C rfl (hM.2 18 rfl).2 (by omega) (by decide) (Or.inr rfl) dX7_choose_137 ?_
    refine g_aload_n (pc := 138) C dX7_choose_138 rfl ?_
    refine g_dup (pc := 139) C dX7_choose_139 ?_
    refine g_geti (pc := 140) C fX7_150 rfl hM.1 dX7_choose_140 rfl ?_
    refine g_iconst (pc := 143) C 1 dX7_choose_143 (by decide) ?_
    refine g_iadd (pc := 144) C dX7_choose_144 ?_
    refine g_puti (pc := 145) C fX7_150 (Or.inl fm7_27) rfl hM.1 dX7_choose_145 (Or.inl rfl) ?_
    refine g_aload_n (pc := 148) C dX7_choose_148 rfl ?_
    refine g_iload_n (pc := 149) C dX7_choose_149 rfl ?_
    refine g_callV (pc := 150) C B mX7_140 (c_allBack _ _ _ _ _ i hM (by omega)) rfl rfl rfl rfl hM.1 (by decide) ⟨Nat.le_refl _, Nat.le_refl _⟩ (Nat.le_of_ble_eq_true rfl) dX7_choose_150 (fun rr SS hP => ?_)
    rw [hP.1, hP.2]
    refine g_istore (pc := 153) C dX7_choose_153 (by decide) ?_
    refine g_bipush (pc := 155) C (-7) dX7_choose_155 (by decide) ?_
    exact g_iret (pc := 157) C B rfl dX7_choose_157 (by show (_, _) = t_X7_choose_7 S hv t i j; unfold t_X7_choose_7; rw [if_pos h129])

set_option maxHeartbeats 400000 in
set_option maxRecDepth 100000 in
theorem lp_choose {X : Xt} {Y : Yt} {P : Option AV → Mm → Prop} {nm : String}  (C : Cx X Y cX7_choose 9 RX7) (B : Bx X Y nm (some Jvm.ClassFile.FieldType.int) 4 0 0 P) {S : Mm} {i t : Nat} (hM0 : ShM S) (hi : i < 6) (K : G X Y 0 0 (seM S i 6) 372 [(0, vr (2, 0, 0)), (1, vi (nI i)), (4, vi (nI t)), (6, vi (nI 6))] []) : ∀ n w, w + n = 6 → G X Y 0 0 (seM S i w) 239 [(0, vr (2, 0, 0)), (1, vi (nI i)), (4, vi (nI t)), (6, vi (nI w))] [] := by
  intro n
  induction n with
  | zero =>
    intro w hw
    have e : 6 = w := by omega
    subst e
    have hM : ShM (seM S i 6) := hM0.same (seM_2 S i 6)
    refine g_iload (pc := 239) C dX7_choose_239 rfl ?_
    refine g_bipush (pc := 241) C 6 dX7_choose_241 (by decide) ?_
    refine g_icmp_ge (pc := 243) C 372 dX7_choose_243 (by decide) (fun _ => ?_) (fun h243 => absurd ((nI_leI (a := 6) (b := 6) (by omega) (by omega)).mpr (by omega)) h243)
    exact K
  | succ n ih =>
    intro w hw
    have hM : ShM (seM S i w) := hM0.same (seM_2 S i w)
    refine g_iload (pc := 239) C dX7_choose_239 rfl ?_
    refine g_bipush (pc := 241) C 6 dX7_choose_241 (by decide) ?_
    refine g_icmp_ge (pc := 243) C 372 dX7_choose_243 (by decide) (fun h243 => absurd h243 (fun q => absurd ((nI_leI (a := 6) (b := w) (by omega) (by omega)).mp q) (by omega))) (fun _ => ?_)
    refine g_bipush (pc := 246) C 6 dX7_choose_246 (by decide) ?_
    refine g_iload_n (pc := 248) C dX7_choose_248 rfl ?_
    refine g_imul (pc := 249) C dX7_choose_249 ?_
    refine g_eqi (nI (6 * i)) (pk_mul 6 i) ?_
    refine g_iload (pc := 250) C dX7_choose_250 rfl ?_
    refine g_iadd (pc := 252) C dX7_choose_252 ?_
    refine g_eqi (nI ((6 * i) + w)) (nI_add (6 * i) w) ?_
    refine g_istore (pc := 253) C dX7_choose_253 (by decide) ?_
    refine g_aload_n (pc := 255) C dX7_choose_255 rfl ?_
    refine g_getr (pc := 256) C fX7_13 rfl hM.1 dX7_choose_256 rfl (hM.2 3 rfl).1 ?_
    refine g_iload (pc := 259) C dX7_choose_259 rfl ?_
    refine g_ialdN (pc := 261) C rfl (hM.2 3 rfl).2 (by omega) (by decide) dX7_choose_261 ?_
    refine g_aload_n (pc := 262) C dX7_choose_262 rfl ?_
    refine g_getr (pc := 263) C fX7_19 rfl hM.1 dX7_choose_263 rfl (hM.2 5 rfl).1 ?_
    refine g_iload (pc := 266) C dX7_choose_266 rfl ?_
    refine g_ialdN (pc := 268) C rfl (hM.2 5 rfl).2 (by omega) (by decide) dX7_choose_268 ?_
    refine g_iadd (pc := 269) C dX7_choose_269 ?_
    refine g_aload_n (pc := 270) C dX7_choose_270 rfl ?_
    refine g_getr (pc := 271) C fX7_98 rfl hM.1 dX7_choose_271 rfl (hM.2 32 rfl).1 ?_
    refine g_iload (pc := 274) C dX7_choose_274 rfl ?_
    refine g_ialdN (pc := 276) C rfl (hM.2 32 rfl).2 (by omega) (by decide) dX7_choose_276 ?_
    refine g_isub (pc := 277) C dX7_choose_277 ?_
    refine g_eqi (nSe (seM S i w) i w) rfl ?_
    refine g_istore (pc := 278) C dX7_choose_278 (by decide) ?_
    refine g_aload_n (pc := 280) C dX7_choose_280 rfl ?_
    refine g_getr (pc := 281) C fX7_19 rfl hM.1 dX7_choose_281 rfl (hM.2 5 rfl).1 ?_
    refine g_iload (pc := 284) C dX7_choose_284 rfl ?_
    refine g_iconst (pc := 286) C 0 dX7_choose_286 (by decide) ?_
    refine g_iastN (pc := 287) C rfl (hM.2 5 rfl).2 (by omega) (by decide) dX7_choose_287 ?_
    refine g_aload_n (pc := 288) C dX7_choose_288 rfl ?_
    refine g_getr (pc := 289) C fX7_13 rfl hM.1 dX7_choose_289 rfl (hM.2 3 rfl).1 ?_
    refine g_iload (pc := 292) C dX7_choose_292 rfl ?_
    refine g_iload (pc := 294) C dX7_choose_294 rfl ?_
    refine g_bipush (pc := 296) C 50 dX7_choose_296 (by decide) ?_
    refine g_icmp_le (pc := 298) C 306 dX7_choose_298 (by decide) (fun h298 => ?_) (fun h298 => ?_)
    ·
      refine g_iload (pc := 306) C dX7_choose_306 rfl ?_
      refine g_iastN (pc := 308) C rfl (hM.2 3 rfl).2 (by omega) (by decide) dX7_choose_308 ?_
      refine g_aload_n (pc := 309) C dX7_choose_309 rfl ?_
      refine g_getr (pc := 310) C fX7_16 rfl hM.1 dX7_choose_310 rfl (hM.2 4 rfl).1 ?_
      refine g_iload (pc := 313) C dX7_choose_313 rfl ?_
      refine g_dup2 (pc := 315) C dX7_choose_315 ?_
      refine g_ialdN (pc := 316) C rfl (hM.2 4 rfl).2 (by omega) (by decide) dX7_choose_316 ?_
      refine g_iload (pc := 317) C dX7_choose_317 rfl ?_
      refine g_bipush (pc := 319) C 50 dX7_choose_319 (by decide) ?_
      refine g_icmp_le (pc := 321) C 332 dX7_choose_321 (by decide) (fun h321 => ?_) (fun h321 => ?_)
      ·
        refine g_iconst (pc := 332) C 0 dX7_choose_332 (by decide) ?_
        refine g_iadd (pc := 333) C dX7_choose_333 ?_
        refine g_iastN (pc := 334) C rfl (hM.2 4 rfl).2 (by omega) (by decide) dX7_choose_334 ?_
        refine g_aload_n (pc := 335) C dX7_choose_335 rfl ?_
        refine g_getr (pc := 336) C fX7_86 rfl hM.1 dX7_choose_336 rfl (hM.2 28 rfl).1 ?_
        refine g_iload (pc := 339) C dX7_choose_339 rfl ?_
        refine g_aload_n (pc := 341) C dX7_choose_341 rfl ?_
        refine g_getr (pc := 342) C fX7_98 rfl hM.1 dX7_choose_342 rfl (hM.2 32 rfl).1 ?_
        refine g_iload (pc := 345) C dX7_choose_345 rfl ?_
        refine g_ialdN (pc := 347) C rfl (hM.2 32 rfl).2 (by omega) (by decide) dX7_choose_347 ?_
        refine g_iastN (pc := 348) C rfl (hM.2 28 rfl).2 (by omega) (by decide) dX7_choose_348 ?_
        refine g_aload_n (pc := 349) C dX7_choose_349 rfl ?_
        refine g_getr (pc := 350) C fX7_25 rfl hM.1 dX7_choose_350 rfl (hM.2 7 rfl).1 ?_
        refine g_iload (pc := 353) C dX7_choose_353 rfl ?_
        refine g_dup2 (pc := 355) C dX7_choose_355 ?_
        refine g_ialdN (pc := 356) C rfl (hM.2 7 rfl).2 (by omega) (by decide) dX7_choose_356 ?_
        refine g_aload_n (pc := 357) C dX7_choose_357 rfl ?_
        refine g_getr (pc := 358) C fX7_98 rfl hM.1 dX7_choose_358 rfl (hM.2 32 rfl).1 ?_
        refine g_iload (pc := 361) C dX7_choose_361 rfl ?_
        refine g_ialdN (pc := 363) C rfl (hM.2 32 rfl).2 (by omega) (by decide) dX7_choose_363 ?_
        refine g_iadd (pc := 364) C dX7_choose_364 ?_
        refine g_iastN (pc := 365) C rfl (hM.2 7 rfl).2 (by omega) (by decide) dX7_choose_365 ?_
        refine g_iincN (pc := 366) C 1 dX7_choose_366 rfl (by decide) (by decide) ?_
        refine g_goto (pc := 369) C 239 dX7_choose_369 (by decide) ?_
        refine g_eqS (S' := seM S i ((w + 1))) (by simp only [seM]; rw [if_pos h298, if_pos h298]; rfl) ?_
        exact g_subR (ih (w + 1) (by omega)) ⟨rfl, rfl, rfl, rfl, trivial⟩
      ·
        exact absurd h298 h321
    ·
      refine g_bipush (pc := 301) C 50 dX7_choose_301 (by decide) ?_
      refine g_goto (pc := 303) C 308 dX7_choose_303 (by decide) ?_
      refine g_iastN (pc := 308) C rfl (hM.2 3 rfl).2 (by omega) (by decide) dX7_choose_308 ?_
      refine g_aload_n (pc := 309) C dX7_choose_309 rfl ?_
      refine g_getr (pc := 310) C fX7_16 rfl hM.1 dX7_choose_310 rfl (hM.2 4 rfl).1 ?_
      refine g_iload (pc := 313) C dX7_choose_313 rfl ?_
      refine g_dup2 (pc := 315) C dX7_choose_315 ?_
      refine g_ialdN (pc := 316) C rfl (hM.2 4 rfl).2 (by omega) (by decide) dX7_choose_316 ?_
      refine g_iload (pc := 317) C dX7_choose_317 rfl ?_
      refine g_bipush (pc := 319) C 50 dX7_choose_319 (by decide) ?_
      refine g_icmp_le (pc := 321) C 332 dX7_choose_321 (by decide) (fun h321 => ?_) (fun h321 => ?_)
      ·
        exact absurd h321 h298
      ·
        refine g_iload (pc := 324) C dX7_choose_324 rfl ?_
        refine g_bipush (pc := 326) C 50 dX7_choose_326 (by decide) ?_
        refine g_isub (pc := 328) C dX7_choose_328 ?_
        refine g_goto (pc := 329) C 333 dX7_choose_329 (by decide) ?_
        refine g_iadd (pc := 333) C dX7_choose_333 ?_
        refine g_iastN (pc := 334) C rfl (hM.2 4 rfl).2 (by omega) (by decide) dX7_choose_334 ?_
        refine g_aload_n (pc := 335) C dX7_choose_335 rfl ?_
        refine g_getr (pc := 336) C fX7_86 rfl hM.1 dX7_choose_336 rfl (hM.2 28 rfl).1 ?_
        refine g_iload (pc := 339) C dX7_choose_339 rfl ?_
        refine g_aload_n (pc := 341) C dX7_choose_341 rfl ?_
        refine g_getr (pc := 342) C fX7_98 rfl hM.1 dX7_choose_342 rfl (hM.2 32 rfl).1 ?_
        refine g_iload (pc := 345) C dX7_choose_345 rfl ?_
        refine g_ialdN (pc := 347) C rfl (hM.2 32 rfl).2 (by omega) (by decide) dX7_choose_347 ?_
        refine g_iastN (pc := 348) C rfl (hM.2 28 rfl).2 (by omega) (by decide) dX7_choose_348 ?_
        refine g_aload_n (pc := 349) C dX7_choose_349 rfl ?_
        refine g_getr (pc := 350) C fX7_25 rfl hM.1 dX7_choose_350 rfl (hM.2 7 rfl).1 ?_
        refine g_iload (pc := 353) C dX7_choose_353 rfl ?_
        refine g_dup2 (pc := 355) C dX7_choose_355 ?_
        refine g_ialdN (pc := 356) C rfl (hM.2 7 rfl).2 (by omega) (by decide) dX7_choose_356 ?_
        refine g_aload_n (pc := 357) C dX7_choose_357 rfl ?_
        refine g_getr (pc := 358) C fX7_98 rfl hM.1 dX7_choose_358 rfl (hM.2 32 rfl).1 ?_
        refine g_iload (pc := 361) C dX7_choose_361 rfl ?_
        refine g_ialdN (pc := 363) C rfl (hM.2 32 rfl).2 (by omega) (by decide) dX7_choose_363 ?_
        refine g_iadd (pc := 364) C dX7_choose_364 ?_
        refine g_iastN (pc := 365) C rfl (hM.2 7 rfl).2 (by omega) (by decide) dX7_choose_365 ?_
        refine g_iincN (pc := 366) C 1 dX7_choose_366 rfl (by decide) (by decide) ?_
        refine g_goto (pc := 369) C 239 dX7_choose_369 (by decide) ?_
        refine g_eqS (S' := seM S i ((w + 1))) (by simp only [seM]; rw [if_neg h298, if_neg h298]; rfl) ?_
        exact g_subR (ih (w + 1) (by omega)) ⟨rfl, rfl, rfl, rfl, trivial⟩
def t_X7_choose_f0 (S : Mm) (hv : Nat → Nat) (t : Nat) (i : Nat) (j : Nat) (g : Nat) (h : Nat) : Option AV × Mm := (some (vi (nI t)), seM (wI (wI (wI (wI (fyM S hv t) (2, 0, 13) ((8 * i) + j) (((fyM S hv t).1 (2, 0, 13) ((8 * i) + j)) - 1)) (2, 0, 17) ((8 * i) + j) 0) (2, 0, 25) i (((wI (wI (fyM S hv t) (2, 0, 13) ((8 * i) + j) (((fyM S hv t).1 (2, 0, 13) ((8 * i) + j)) - 1)) (2, 0, 17) ((8 * i) + j) 0).1 (2, 0, 25) i) + 1)) (2, 0, 21) (((384 * i) + (24 * g)) + (h % 24)) (((wI (wI (wI (fyM S hv t) (2, 0, 13) ((8 * i) + j) (((fyM S hv t).1 (2, 0, 13) ((8 * i) + j)) - 1)) (2, 0, 17) ((8 * i) + j) 0) (2, 0, 25) i (((wI (wI (fyM S hv t) (2, 0, 13) ((8 * i) + j) (((fyM S hv t).1 (2, 0, 13) ((8 * i) + j)) - 1)) (2, 0, 17) ((8 * i) + j) 0).1 (2, 0, 25) i) + 1)).1 (2, 0, 21) (((384 * i) + (24 * g)) + (h % 24))) + 1)) i 6)
set_option maxHeartbeats 400000 in
set_option maxRecDepth 100000 in
/-- choose: the good falls -/
theorem c_X7_choose_f0 (l : Launch) (E : En) (base aw : Nat) (S : Mm) (mc : Nat) (lc : Nat → Nat) (hI : IM S mc lc) (i : Nat) (hi : i < mc) (j : Nat) (hj : j < lc i) (hs : ¬ v_X7_sells S i j = 0) (t : Nat) (hb : wsum (fun z => S.1 (2, 0, 5) (6 * i + z)) 6 - S.1 (2, 0, 11) (8 * i + j) = nI t) (ht : t ≤ 20000) (hm : t % 10 = 0) (hv : Nat → Nat) (hhv : ∀ w, w < 6 → S.1 (2, 0, 3) (6 * i + w) + S.1 (2, 0, 5) (6 * i + w) = nI (hv w) ∧ hv w ≤ 1000) (hok : fcR hv 6 (t / 10) < 1000) (hst : S.1 (2, 0, 16) (8 * i + j) ≤ 0) (g : Nat) (hgd : S.1 (2, 0, 10) (8 * i + j) = nI g) (hg : g < 16) (h : Nat) (hh : S.1 (2, 0, 0) 0 = nI h) (hh0 : h ≤ 3000) (hsk : ¬ S.1 (2, 0, 13) (8 * i + j) ≤ 0) : Cn l E base aw yX7_choose cX7_choose 9 (some Jvm.ClassFile.FieldType.int) 4 0 0 noF S [vr (2, 0, 0), vi (nI i), vi (nI j)] (fun r S' => (r, S') = t_X7_choose_f0 S hv t i j g h) := by
  have hM := hI.1
  have hmc := hI.2.2.1
  have hlc := (hI.2.2.2 i (by omega)).2
  have hf9 := fcR_le hv 6 (t / 10)
  refine Cn.of (by decide) (Nat.le_of_ble_eq_true rfl) ?_
  intro X Y hl hE hbase haw hfr C B
  subst hl; subst hE; subst hbase; subst haw
  refine g_aload_n (pc := 0) C dX7_choose_0 rfl ?_
  refine g_iload_n (pc := 1) C dX7_choose_1 rfl ?_
  refine g_iload_n (pc := 2) C dX7_choose_2 rfl ?_
  refine g_callV (pc := 3) C B mX7_123 (c_isL_t _ _ _ _ _ mc lc hI i hi j hj) rfl rfl rfl rfl hM.1 (by decide) ⟨Nat.le_refl _, Nat.le_refl _⟩ (Nat.le_of_ble_eq_true rfl) dX7_choose_3 (fun rr SS hP => ?_)
  rw [hP.1, hP.2]
  refine g_if_ne (pc := 6) C 15 dX7_choose_6 (by decide) (fun _ => ?_) (fun h6 => absurd h6 (by decide))
  refine g_bipush (pc := 15) C 8 dX7_choose_15 (by decide) ?_
  refine g_iload_n (pc := 17) C dX7_choose_17 rfl ?_
  refine g_imul (pc := 18) C dX7_choose_18 ?_
  refine g_eqi (nI (8 * i)) (pk_mul 8 i) ?_
  refine g_iload_n (pc := 19) C dX7_choose_19 rfl ?_
  refine g_iadd (pc := 20) C dX7_choose_20 ?_
  refine g_eqi (nI ((8 * i) + j)) (nI_add (8 * i) j) ?_
  refine g_istore_n (pc := 21) C dX7_choose_21 (by decide) ?_
  refine g_aload_n (pc := 22) C dX7_choose_22 rfl ?_
  refine g_iload_n (pc := 23) C dX7_choose_23 rfl ?_
  refine g_iload_n (pc := 24) C dX7_choose_24 rfl ?_
  refine g_callV (pc := 25) C B mX7_147 (c_X7_sells _ _ _ _ _ mc lc hI i hi j (by omega)) rfl rfl rfl rfl hM.1 (by decide) ⟨Nat.le_refl _, Nat.le_refl _⟩ (Nat.le_of_ble_eq_true rfl) dX7_choose_25 (fun rr SS hP => ?_)
  rw [hP.1, hP.2]
  refine g_if_ne (pc := 28) C 38 dX7_choose_28 (by decide) (fun _ => ?_) (fun h28 => absurd h28 hs)
  refine g_aload_n (pc := 38) C dX7_choose_38 rfl ?_
  refine g_aload_n (pc := 39) C dX7_choose_39 rfl ?_
  refine g_getr (pc := 40) C fX7_19 rfl hM.1 dX7_choose_40 rfl (hM.2 5 rfl).1 ?_
  refine g_iload_n (pc := 43) C dX7_choose_43 rfl ?_
  refine g_callV (pc := 44) C B mX7_136 (c_worthIn _ _ _ _ _ i 5 (by omega) (hM.2 5 rfl).2 rfl) rfl rfl rfl rfl hM.1 (by decide) ⟨Nat.le_refl _, Nat.le_refl _⟩ (Nat.le_of_ble_eq_true rfl) dX7_choose_44 (fun rr SS hP => ?_)
  rw [hP.1, hP.2]
  refine g_aload_n (pc := 47) C dX7_choose_47 rfl ?_
  refine g_getr (pc := 48) C fX7_38 rfl hM.1 dX7_choose_48 rfl (hM.2 11 rfl).1 ?_
  refine g_iload_n (pc := 51) C dX7_choose_51 rfl ?_
  refine g_ialdN (pc := 52) C rfl (hM.2 11 rfl).2 (by omega) (by decide) dX7_choose_52 ?_
  refine g_isub (pc := 53) C dX7_choose_53 ?_
  refine g_eqi (nI (t)) hb ?_
  refine g_istore (pc := 54) C dX7_choose_54 (by decide) ?_
  refine g_iload (pc := 56) C dX7_choose_56 rfl ?_
  refine g_if_ge (pc := 58) C 68 dX7_choose_58 (by decide) (fun _ => ?_) (fun h58 => absurd (nI_pos' (by omega)) h58)
  refine g_aload_n (pc := 68) C dX7_choose_68 rfl ?_
  refine g_iload_n (pc := 69) C dX7_choose_69 rfl ?_
  refine g_iload (pc := 70) C dX7_choose_70 rfl ?_
  refine g_callV (pc := 72) C B mX7_143 (c_findChange_y _ _ _ _ _ hM i (by omega) t ht hm hv hhv hok) rfl rfl rfl rfl hM.1 (by decide) ⟨Nat.le_refl _, Nat.le_refl _⟩ (Nat.le_of_ble_eq_true rfl) dX7_choose_72 (fun rr SS hP => ?_)
  rw [hP.1, show SS = fyM S hv t from hP.2]
  refine g_sipush (pc := 75) C 1000 dX7_choose_75 (by decide) ?_
  have hM : ShM (fyM S hv t) := hM.same (fyM_but S hv t).1
  refine g_icmp_lt (pc := 78) C 88 dX7_choose_78 (by decide) (fun _ => ?_) (fun h78 => absurd ((nI_ltI (a := fcR hv 6 (t / 10)) (b := 1000) (by omega) (by omega)).mpr (by omega)) h78)
  refine g_aload_n (pc := 88) C dX7_choose_88 rfl ?_
  refine g_getr (pc := 89) C fX7_53 rfl hM.1 dX7_choose_89 rfl (hM.2 16 rfl).1 ?_
  refine g_iload_n (pc := 92) C dX7_choose_92 rfl ?_
  refine g_ialdN (pc := 93) C rfl (hM.2 16 rfl).2 (by omega) (by decide) dX7_choose_93 ?_
  refine g_eqi (S.1 (2, 0, 16) (8 * i + j)) ((fyM_but S hv t).2 _ _ (fun q => by rcases q with q | q <;> cases q)) ?_
  refine g_if_le (pc := 94) C 158 dX7_choose_94 (by decide) (fun _ => ?_) (fun h94 => absurd hst h94)
  refine g_aload_n (pc := 158) C dX7_choose_158 rfl ?_
  refine g_getr (pc := 159) C fX7_44 rfl hM.1 dX7_choose_159 rfl (hM.2 13 rfl).1 ?_
  refine g_iload_n (pc := 162) C dX7_choose_162 rfl ?_
  refine g_ialdN (pc := 163) C rfl (hM.2 13 rfl).2 (by omega) (by decide) dX7_choose_163 ?_
  refine g_eqi (S.1 (2, 0, 13) (8 * i + j)) ((fyM_but S hv t).2 _ _ (fun q => by rcases q with q | q <;> cases q)) ?_
  refine g_if_le (pc := 164) C 171 dX7_choose_164 (by decide) (fun h164 => absurd h164 hsk) (fun _ => ?_)
  refine g_iload_n (pc := 167) C dX7_choose_167 rfl ?_
  refine g_goto (pc := 168) C 174 dX7_choose_168 (by decide) ?_
  refine g_istore (pc := 174) C dX7_choose_174 (by decide) ?_
  refine g_aload_n (pc := 176) C dX7_choose_176 rfl ?_
  refine g_getr (pc := 177) C fX7_44 rfl hM.1 dX7_choose_177 rfl (hM.2 13 rfl).1 ?_
  refine g_iload (pc := 180) C dX7_choose_180 rfl ?_
  refine g_dup2 (pc := 182) C dX7_choose_182 ?_
  refine g_ialdN (pc := 183) C rfl (hM.2 13 rfl).2 (by omega) (by decide) dX7_choose_183 ?_
  refine g_iconst (pc := 184) C 1 dX7_choose_184 (by decide) ?_
  refine g_isub (pc := 185) C dX7_choose_185 ?_
  refine g_iastN (pc := 186) C rfl (hM.2 13 rfl).2 (by omega) (by decide) dX7_choose_186 ?_
  refine g_aload_n (pc := 187) C dX7_choose_187 rfl ?_
  refine g_getr (pc := 188) C fX7_56 rfl hM.1 dX7_choose_188 rfl (hM.2 17 rfl).1 ?_
  refine g_iload_n (pc := 191) C dX7_choose_191 rfl ?_
  refine g_iconst (pc := 192) C 0 dX7_choose_192 (by decide) ?_
  refine g_iastN (pc := 193) C rfl (hM.2 17 rfl).2 (by omega) (by decide) dX7_choose_193 ?_
  refine g_aload_n (pc := 194) C dX7_choose_194 rfl ?_
  refine g_getr (pc := 195) C fX7_80 rfl hM.1 dX7_choose_195 rfl (hM.2 25 rfl).1 ?_
  refine g_iload_n (pc := 198) C dX7_choose_198 rfl ?_
  refine g_dup2 (pc := 199) C dX7_choose_199 ?_
  refine g_ialdN (pc := 200) C rfl (hM.2 25 rfl).2 (by omega) (by decide) dX7_choose_200 ?_
  refine g_iconst (pc := 201) C 1 dX7_choose_201 (by decide) ?_
  refine g_iadd (pc := 202) C dX7_choose_202 ?_
  refine g_iastN (pc := 203) C rfl (hM.2 25 rfl).2 (by omega) (by decide) dX7_choose_203 ?_
  refine g_aload_n (pc := 204) C dX7_choose_204 rfl ?_
  refine g_getr (pc := 205) C fX7_68 rfl hM.1 dX7_choose_205 rfl (hM.2 21 rfl).1 ?_
  refine g_sipush (pc := 208) C 384 dX7_choose_208 (by decide) ?_
  refine g_iload_n (pc := 211) C dX7_choose_211 rfl ?_
  refine g_imul (pc := 212) C dX7_choose_212 ?_
  refine g_eqi (nI (384 * i)) (pk_mul 384 i) ?_
  refine g_bipush (pc := 213) C 24 dX7_choose_213 (by decide) ?_
  refine g_aload_n (pc := 215) C dX7_choose_215 rfl ?_
  refine g_getr (pc := 216) C fX7_35 rfl hM.1 dX7_choose_216 rfl (hM.2 10 rfl).1 ?_
  refine g_iload_n (pc := 219) C dX7_choose_219 rfl ?_
  refine g_ialdN (pc := 220) C rfl (hM.2 10 rfl).2 (by omega) (by decide) dX7_choose_220 ?_
  refine g_eqi (nI g) (((fyM_but S hv t).2 (2, 0, 10) (8 * i + j) (fun q => by rcases q with q | q <;> cases q)).trans hgd) ?_
  refine g_imul (pc := 221) C dX7_choose_221 ?_
  refine g_eqi (nI (24 * g)) (pk_mul 24 g) ?_
  refine g_iadd (pc := 222) C dX7_choose_222 ?_
  refine g_eqi (nI ((384 * i) + (24 * g))) (nI_add (384 * i) (24 * g)) ?_
  refine g_aload_n (pc := 223) C dX7_choose_223 rfl ?_
  refine g_geti (pc := 224) C fX7_153 rfl hM.1 dX7_choose_224 rfl ?_
  refine g_eqi (nI h) (((fyM_but S hv t).2 (2, 0, 0) 0 (fun q => by rcases q with q | q <;> cases q)).trans hh) ?_
  refine g_bipush (pc := 227) C 24 dX7_choose_227 (by decide) ?_
  refine g_irem (pc := 229) C dX7_choose_229 (by decide) ?_
  refine g_eqi (nI (h % 24)) (pk_rem (a := h) (d := 24) (by omega) (by decide) (by decide)) ?_
  refine g_iadd (pc := 230) C dX7_choose_230 ?_
  refine g_eqi (nI (((384 * i) + (24 * g)) + (h % 24))) (nI_add ((384 * i) + (24 * g)) (h % 24)) ?_
  refine g_dup2 (pc := 231) C dX7_choose_231 ?_
  refine g_ialdN (pc := 232) C rfl (hM.2 21 rfl).2 (by omega) (by decide) dX7_choose_232 ?_
  refine g_iconst (pc := 233) C 1 dX7_choose_233 (by decide) ?_
  refine g_iadd (pc := 234) C dX7_choose_234 ?_
  refine g_iastN (pc := 235) C rfl (hM.2 21 rfl).2 (by omega) (by decide) dX7_choose_235 ?_
  refine g_iconst (pc := 236) C 0 dX7_choose_236 (by decide) ?_
  refine g_istore (pc := 237) C dX7_choose_237 (by decide) ?_
  refine g_subR (lp_choose (S := wI (wI (wI (wI (fyM S hv t) (2, 0, 13) ((8 * i) + j) (((fyM S hv t).1 (2, 0, 13) ((8 * i) + j)) - 1)) (2, 0, 17) ((8 * i) + j) 0) (2, 0, 25) i (((wI (wI (fyM S hv t) (2, 0, 13) ((8 * i) + j) (((fyM S hv t).1 (2, 0, 13) ((8 * i) + j)) - 1)) (2, 0, 17) ((8 * i) + j) 0).1 (2, 0, 25) i) + 1)) (2, 0, 21) (((384 * i) + (24 * g)) + (h % 24)) (((wI (wI (wI (fyM S hv t) (2, 0, 13) ((8 * i) + j) (((fyM S hv t).1 (2, 0, 13) ((8 * i) + j)) - 1)) (2, 0, 17) ((8 * i) + j) 0) (2, 0, 25) i (((wI (wI (fyM S hv t) (2, 0, 13) ((8 * i) + j) (((fyM S hv t).1 (2, 0, 13) ((8 * i) + j)) - 1)) (2, 0, 17) ((8 * i) + j) 0).1 (2, 0, 25) i) + 1)).1 (2, 0, 21) (((384 * i) + (24 * g)) + (h % 24))) + 1)) (i := i) C B hM (by omega) ?_ 6 0 rfl) ⟨rfl, rfl, rfl, rfl, trivial⟩
  have hM := hM.same (T := seM (wI (wI (wI (wI (fyM S hv t) (2, 0, 13) ((8 * i) + j) (((fyM S hv t).1 (2, 0, 13) ((8 * i) + j)) - 1)) (2, 0, 17) ((8 * i) + j) 0) (2, 0, 25) i (((wI (wI (fyM S hv t) (2, 0, 13) ((8 * i) + j) (((fyM S hv t).1 (2, 0, 13) ((8 * i) + j)) - 1)) (2, 0, 17) ((8 * i) + j) 0).1 (2, 0, 25) i) + 1)) (2, 0, 21) (((384 * i) + (24 * g)) + (h % 24)) (((wI (wI (wI (fyM S hv t) (2, 0, 13) ((8 * i) + j) (((fyM S hv t).1 (2, 0, 13) ((8 * i) + j)) - 1)) (2, 0, 17) ((8 * i) + j) 0) (2, 0, 25) i (((wI (wI (fyM S hv t) (2, 0, 13) ((8 * i) + j) (((fyM S hv t).1 (2, 0, 13) ((8 * i) + j)) - 1)) (2, 0, 17) ((8 * i) + j) 0).1 (2, 0, 25) i) + 1)).1 (2, 0, 21) (((384 * i) + (24 * g)) + (h % 24))) + 1)) i 6) (seM_2 _ i 6)
  refine g_iload (pc := 372) C dX7_choose_372 rfl ?_
  exact g_iret (pc := 374) C B rfl dX7_choose_374 (by show (_, _) = t_X7_choose_f0 S hv t i j g h; unfold t_X7_choose_f0; rfl)

def t_X7_choose_f1 (S : Mm) (hv : Nat → Nat) (t : Nat) (i : Nat) (j : Nat) (g : Nat) (h : Nat) : Option AV × Mm := (some (vi (nI t)), seM (wI (wI (wI (wI (fyM S hv t) (2, 0, 13) (((8 * i) + j) + 1) (((fyM S hv t).1 (2, 0, 13) (((8 * i) + j) + 1)) - 1)) (2, 0, 17) ((8 * i) + j) 0) (2, 0, 25) i (((wI (wI (fyM S hv t) (2, 0, 13) (((8 * i) + j) + 1) (((fyM S hv t).1 (2, 0, 13) (((8 * i) + j) + 1)) - 1)) (2, 0, 17) ((8 * i) + j) 0).1 (2, 0, 25) i) + 1)) (2, 0, 21) (((384 * i) + (24 * g)) + (h % 24)) (((wI (wI (wI (fyM S hv t) (2, 0, 13) (((8 * i) + j) + 1) (((fyM S hv t).1 (2, 0, 13) (((8 * i) + j) + 1)) - 1)) (2, 0, 17) ((8 * i) + j) 0) (2, 0, 25) i (((wI (wI (fyM S hv t) (2, 0, 13) (((8 * i) + j) + 1) (((fyM S hv t).1 (2, 0, 13) (((8 * i) + j) + 1)) - 1)) (2, 0, 17) ((8 * i) + j) 0).1 (2, 0, 25) i) + 1)).1 (2, 0, 21) (((384 * i) + (24 * g)) + (h % 24))) + 1)) i 6)
set_option maxHeartbeats 400000 in
set_option maxRecDepth 100000 in
/-- choose: the good falls -/
theorem c_X7_choose_f1 (l : Launch) (E : En) (base aw : Nat) (S : Mm) (mc : Nat) (lc : Nat → Nat) (hI : IM S mc lc) (i : Nat) (hi : i < mc) (j : Nat) (hj : j < lc i) (hs : ¬ v_X7_sells S i j = 0) (t : Nat) (hb : wsum (fun z => S.1 (2, 0, 5) (6 * i + z)) 6 - S.1 (2, 0, 11) (8 * i + j) = nI t) (ht : t ≤ 20000) (hm : t % 10 = 0) (hv : Nat → Nat) (hhv : ∀ w, w < 6 → S.1 (2, 0, 3) (6 * i + w) + S.1 (2, 0, 5) (6 * i + w) = nI (hv w) ∧ hv w ≤ 1000) (hok : fcR hv 6 (t / 10) < 1000) (hst : S.1 (2, 0, 16) (8 * i + j) ≤ 0) (g : Nat) (hgd : S.1 (2, 0, 10) (8 * i + j) = nI g) (hg : g < 16) (h : Nat) (hh : S.1 (2, 0, 0) 0 = nI h) (hh0 : h ≤ 3000) (hsk : S.1 (2, 0, 13) (8 * i + j) ≤ 0) (hj1 : j + 1 < lc i) : Cn l E base aw yX7_choose cX7_choose 9 (some Jvm.ClassFile.FieldType.int) 4 0 0 noF S [vr (2, 0, 0), vi (nI i), vi (nI j)] (fun r S' => (r, S') = t_X7_choose_f1 S hv t i j g h) := by
  have hM := hI.1
  have hmc := hI.2.2.1
  have hlc := (hI.2.2.2 i (by omega)).2
  have hf9 := fcR_le hv 6 (t / 10)
  refine Cn.of (by decide) (Nat.le_of_ble_eq_true rfl) ?_
  intro X Y hl hE hbase haw hfr C B
  subst hl; subst hE; subst hbase; subst haw
  refine g_aload_n (pc := 0) C dX7_choose_0 rfl ?_
  refine g_iload_n (pc := 1) C dX7_choose_1 rfl ?_
  refine g_iload_n (pc := 2) C dX7_choose_2 rfl ?_
  refine g_callV (pc := 3) C B mX7_123 (c_isL_t _ _ _ _ _ mc lc hI i hi j hj) rfl rfl rfl rfl hM.1 (by decide) ⟨Nat.le_refl _, Nat.le_refl _⟩ (Nat.le_of_ble_eq_true rfl) dX7_choose_3 (fun rr SS hP => ?_)
  rw [hP.1, hP.2]
  refine g_if_ne (pc := 6) C 15 dX7_choose_6 (by decide) (fun _ => ?_) (fun h6 => absurd h6 (by decide))
  refine g_bipush (pc := 15) C 8 dX7_choose_15 (by decide) ?_
  refine g_iload_n (pc := 17) C dX7_choose_17 rfl ?_
  refine g_imul (pc := 18) C dX7_choose_18 ?_
  refine g_eqi (nI (8 * i)) (pk_mul 8 i) ?_
  refine g_iload_n (pc := 19) C dX7_choose_19 rfl ?_
  refine g_iadd (pc := 20) C dX7_choose_20 ?_
  refine g_eqi (nI ((8 * i) + j)) (nI_add (8 * i) j) ?_
  refine g_istore_n (pc := 21) C dX7_choose_21 (by decide) ?_
  refine g_aload_n (pc := 22) C dX7_choose_22 rfl ?_
  refine g_iload_n (pc := 23) C dX7_choose_23 rfl ?_
  refine g_iload_n (pc := 24) C dX7_choose_24 rfl ?_
  refine g_callV (pc := 25) C B mX7_147 (c_X7_sells _ _ _ _ _ mc lc hI i hi j (by omega)) rfl rfl rfl rfl hM.1 (by decide) ⟨Nat.le_refl _, Nat.le_refl _⟩ (Nat.le_of_ble_eq_true rfl) dX7_choose_25 (fun rr SS hP => ?_)
  rw [hP.1, hP.2]
  refine g_if_ne (pc := 28) C 38 dX7_choose_28 (by decide) (fun _ => ?_) (fun h28 => absurd h28 hs)
  refine g_aload_n (pc := 38) C dX7_choose_38 rfl ?_
  refine g_aload_n (pc := 39) C dX7_choose_39 rfl ?_
  refine g_getr (pc := 40) C fX7_19 rfl hM.1 dX7_choose_40 rfl (hM.2 5 rfl).1 ?_
  refine g_iload_n (pc := 43) C dX7_choose_43 rfl ?_
  refine g_callV (pc := 44) C B mX7_136 (c_worthIn _ _ _ _ _ i 5 (by omega) (hM.2 5 rfl).2 rfl) rfl rfl rfl rfl hM.1 (by decide) ⟨Nat.le_refl _, Nat.le_refl _⟩ (Nat.le_of_ble_eq_true rfl) dX7_choose_44 (fun rr SS hP => ?_)
  rw [hP.1, hP.2]
  refine g_aload_n (pc := 47) C dX7_choose_47 rfl ?_
  refine g_getr (pc := 48) C fX7_38 rfl hM.1 dX7_choose_48 rfl (hM.2 11 rfl).1 ?_
  refine g_iload_n (pc := 51) C dX7_choose_51 rfl ?_
  refine g_ialdN (pc := 52) C rfl (hM.2 11 rfl).2 (by omega) (by decide) dX7_choose_52 ?_
  refine g_isub (pc := 53) C dX7_choose_53 ?_
  refine g_eqi (nI (t)) hb ?_
  refine g_istore (pc := 54) C dX7_choose_54 (by decide) ?_
  refine g_iload (pc := 56) C dX7_choose_56 rfl ?_
  refine g_if_ge (pc := 58) C 68 dX7_choose_58 (by decide) (fun _ => ?_) (fun h58 => absurd (nI_pos' (by omega)) h58)
  refine g_aload_n (pc := 68) C dX7_choose_68 rfl ?_
  refine g_iload_n (pc := 69) C dX7_choose_69 rfl ?_
  refine g_iload (pc := 70) C dX7_choose_70 rfl ?_
  refine g_callV (pc := 72) C B mX7_143 (c_findChange_y _ _ _ _ _ hM i (by omega) t ht hm hv hhv hok) rfl rfl rfl rfl hM.1 (by decide) ⟨Nat.le_refl _, Nat.le_refl _⟩ (Nat.le_of_ble_eq_true rfl) dX7_choose_72 (fun rr SS hP => ?_)
  rw [hP.1, show SS = fyM S hv t from hP.2]
  refine g_sipush (pc := 75) C 1000 dX7_choose_75 (by decide) ?_
  have hM : ShM (fyM S hv t) := hM.same (fyM_but S hv t).1
  refine g_icmp_lt (pc := 78) C 88 dX7_choose_78 (by decide) (fun _ => ?_) (fun h78 => absurd ((nI_ltI (a := fcR hv 6 (t / 10)) (b := 1000) (by omega) (by omega)).mpr (by omega)) h78)
  refine g_aload_n (pc := 88) C dX7_choose_88 rfl ?_
  refine g_getr (pc := 89) C fX7_53 rfl hM.1 dX7_choose_89 rfl (hM.2 16 rfl).1 ?_
  refine g_iload_n (pc := 92) C dX7_choose_92 rfl ?_
  refine g_ialdN (pc := 93) C rfl (hM.2 16 rfl).2 (by omega) (by decide) dX7_choose_93 ?_
  refine g_eqi (S.1 (2, 0, 16) (8 * i + j)) ((fyM_but S hv t).2 _ _ (fun q => by rcases q with q | q <;> cases q)) ?_
  refine g_if_le (pc := 94) C 158 dX7_choose_94 (by decide) (fun _ => ?_) (fun h94 => absurd hst h94)
  refine g_aload_n (pc := 158) C dX7_choose_158 rfl ?_
  refine g_getr (pc := 159) C fX7_44 rfl hM.1 dX7_choose_159 rfl (hM.2 13 rfl).1 ?_
  refine g_iload_n (pc := 162) C dX7_choose_162 rfl ?_
  refine g_ialdN (pc := 163) C rfl (hM.2 13 rfl).2 (by omega) (by decide) dX7_choose_163 ?_
  refine g_eqi (S.1 (2, 0, 13) (8 * i + j)) ((fyM_but S hv t).2 _ _ (fun q => by rcases q with q | q <;> cases q)) ?_
  refine g_if_le (pc := 164) C 171 dX7_choose_164 (by decide) (fun _ => ?_) (fun h164 => absurd hsk h164)
  refine g_iload_n (pc := 171) C dX7_choose_171 rfl ?_
  refine g_iconst (pc := 172) C 1 dX7_choose_172 (by decide) ?_
  refine g_iadd (pc := 173) C dX7_choose_173 ?_
  refine g_eqi (nI (((8 * i) + j) + 1)) (nI_add ((8 * i) + j) 1) ?_
  refine g_istore (pc := 174) C dX7_choose_174 (by decide) ?_
  refine g_aload_n (pc := 176) C dX7_choose_176 rfl ?_
  refine g_getr (pc := 177) C fX7_44 rfl hM.1 dX7_choose_177 rfl (hM.2 13 rfl).1 ?_
  refine g_iload (pc := 180) C dX7_choose_180 rfl ?_
  refine g_dup2 (pc := 182) C dX7_choose_182 ?_
  refine g_ialdN (pc := 183) C rfl (hM.2 13 rfl).2 (by omega) (by decide) dX7_choose_183 ?_
  refine g_iconst (pc := 184) C 1 dX7_choose_184 (by decide) ?_
  refine g_isub (pc := 185) C dX7_choose_185 ?_
  refine g_iastN (pc := 186) C rfl (hM.2 13 rfl).2 (by omega) (by decide) dX7_choose_186 ?_
  refine g_aload_n (pc := 187) C dX7_choose_187 rfl ?_
  refine g_getr (pc := 188) C fX7_56 rfl hM.1 dX7_choose_188 rfl (hM.2 17 rfl).1 ?_
  refine g_iload_n (pc := 191) C dX7_choose_191 rfl ?_
  refine g_iconst (pc := 192) C 0 dX7_choose_192 (by decide) ?_
  refine g_iastN (pc := 193) C rfl (hM.2 17 rfl).2 (by omega) (by decide) dX7_choose_193 ?_
  refine g_aload_n (pc := 194) C dX7_choose_194 rfl ?_
  refine g_getr (pc := 195) C fX7_80 rfl hM.1 dX7_choose_195 rfl (hM.2 25 rfl).1 ?_
  refine g_iload_n (pc := 198) C dX7_choose_198 rfl ?_
  refine g_dup2 (pc := 199) C dX7_choose_199 ?_
  refine g_ialdN (pc := 200) C rfl (hM.2 25 rfl).2 (by omega) (by decide) dX7_choose_200 ?_
  refine g_iconst (pc := 201) C 1 dX7_choose_201 (by decide) ?_
  refine g_iadd (pc := 202) C dX7_choose_202 ?_
  refine g_iastN (pc := 203) C rfl (hM.2 25 rfl).2 (by omega) (by decide) dX7_choose_203 ?_
  refine g_aload_n (pc := 204) C dX7_choose_204 rfl ?_
  refine g_getr (pc := 205) C fX7_68 rfl hM.1 dX7_choose_205 rfl (hM.2 21 rfl).1 ?_
  refine g_sipush (pc := 208) C 384 dX7_choose_208 (by decide) ?_
  refine g_iload_n (pc := 211) C dX7_choose_211 rfl ?_
  refine g_imul (pc := 212) C dX7_choose_212 ?_
  refine g_eqi (nI (384 * i)) (pk_mul 384 i) ?_
  refine g_bipush (pc := 213) C 24 dX7_choose_213 (by decide) ?_
  refine g_aload_n (pc := 215) C dX7_choose_215 rfl ?_
  refine g_getr (pc := 216) C fX7_35 rfl hM.1 dX7_choose_216 rfl (hM.2 10 rfl).1 ?_
  refine g_iload_n (pc := 219) C dX7_choose_219 rfl ?_
  refine g_ialdN (pc := 220) C rfl (hM.2 10 rfl).2 (by omega) (by decide) dX7_choose_220 ?_
  refine g_eqi (nI g) (((fyM_but S hv t).2 (2, 0, 10) (8 * i + j) (fun q => by rcases q with q | q <;> cases q)).trans hgd) ?_
  refine g_imul (pc := 221) C dX7_choose_221 ?_
  refine g_eqi (nI (24 * g)) (pk_mul 24 g) ?_
  refine g_iadd (pc := 222) C dX7_choose_222 ?_
  refine g_eqi (nI ((384 * i) + (24 * g))) (nI_add (384 * i) (24 * g)) ?_
  refine g_aload_n (pc := 223) C dX7_choose_223 rfl ?_
  refine g_geti (pc := 224) C fX7_153 rfl hM.1 dX7_choose_224 rfl ?_
  refine g_eqi (nI h) (((fyM_but S hv t).2 (2, 0, 0) 0 (fun q => by rcases q with q | q <;> cases q)).trans hh) ?_
  refine g_bipush (pc := 227) C 24 dX7_choose_227 (by decide) ?_
  refine g_irem (pc := 229) C dX7_choose_229 (by decide) ?_
  refine g_eqi (nI (h % 24)) (pk_rem (a := h) (d := 24) (by omega) (by decide) (by decide)) ?_
  refine g_iadd (pc := 230) C dX7_choose_230 ?_
  refine g_eqi (nI (((384 * i) + (24 * g)) + (h % 24))) (nI_add ((384 * i) + (24 * g)) (h % 24)) ?_
  refine g_dup2 (pc := 231) C dX7_choose_231 ?_
  refine g_ialdN (pc := 232) C rfl (hM.2 21 rfl).2 (by omega) (by decide) dX7_choose_232 ?_
  refine g_iconst (pc := 233) C 1 dX7_choose_233 (by decide) ?_
  refine g_iadd (pc := 234) C dX7_choose_234 ?_
  refine g_iastN (pc := 235) C rfl (hM.2 21 rfl).2 (by omega) (by decide) dX7_choose_235 ?_
  refine g_iconst (pc := 236) C 0 dX7_choose_236 (by decide) ?_
  refine g_istore (pc := 237) C dX7_choose_237 (by decide) ?_
  refine g_subR (lp_choose (S := wI (wI (wI (wI (fyM S hv t) (2, 0, 13) (((8 * i) + j) + 1) (((fyM S hv t).1 (2, 0, 13) (((8 * i) + j) + 1)) - 1)) (2, 0, 17) ((8 * i) + j) 0) (2, 0, 25) i (((wI (wI (fyM S hv t) (2, 0, 13) (((8 * i) + j) + 1) (((fyM S hv t).1 (2, 0, 13) (((8 * i) + j) + 1)) - 1)) (2, 0, 17) ((8 * i) + j) 0).1 (2, 0, 25) i) + 1)) (2, 0, 21) (((384 * i) + (24 * g)) + (h % 24)) (((wI (wI (wI (fyM S hv t) (2, 0, 13) (((8 * i) + j) + 1) (((fyM S hv t).1 (2, 0, 13) (((8 * i) + j) + 1)) - 1)) (2, 0, 17) ((8 * i) + j) 0) (2, 0, 25) i (((wI (wI (fyM S hv t) (2, 0, 13) (((8 * i) + j) + 1) (((fyM S hv t).1 (2, 0, 13) (((8 * i) + j) + 1)) - 1)) (2, 0, 17) ((8 * i) + j) 0).1 (2, 0, 25) i) + 1)).1 (2, 0, 21) (((384 * i) + (24 * g)) + (h % 24))) + 1)) (i := i) C B hM (by omega) ?_ 6 0 rfl) ⟨rfl, rfl, rfl, rfl, trivial⟩
  have hM := hM.same (T := seM (wI (wI (wI (wI (fyM S hv t) (2, 0, 13) (((8 * i) + j) + 1) (((fyM S hv t).1 (2, 0, 13) (((8 * i) + j) + 1)) - 1)) (2, 0, 17) ((8 * i) + j) 0) (2, 0, 25) i (((wI (wI (fyM S hv t) (2, 0, 13) (((8 * i) + j) + 1) (((fyM S hv t).1 (2, 0, 13) (((8 * i) + j) + 1)) - 1)) (2, 0, 17) ((8 * i) + j) 0).1 (2, 0, 25) i) + 1)) (2, 0, 21) (((384 * i) + (24 * g)) + (h % 24)) (((wI (wI (wI (fyM S hv t) (2, 0, 13) (((8 * i) + j) + 1) (((fyM S hv t).1 (2, 0, 13) (((8 * i) + j) + 1)) - 1)) (2, 0, 17) ((8 * i) + j) 0) (2, 0, 25) i (((wI (wI (fyM S hv t) (2, 0, 13) (((8 * i) + j) + 1) (((fyM S hv t).1 (2, 0, 13) (((8 * i) + j) + 1)) - 1)) (2, 0, 17) ((8 * i) + j) 0).1 (2, 0, 25) i) + 1)).1 (2, 0, 21) (((384 * i) + (24 * g)) + (h % 24))) + 1)) i 6) (seM_2 _ i 6)
  refine g_iload (pc := 372) C dX7_choose_372 rfl ?_
  exact g_iret (pc := 374) C B rfl dX7_choose_374 (by show (_, _) = t_X7_choose_f1 S hv t i j g h; unfold t_X7_choose_f1; rfl)

