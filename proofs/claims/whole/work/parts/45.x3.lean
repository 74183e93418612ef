theorem if_min {a b : Nat} (ha : a < 2 ^ 31) (hb : b < 2 ^ 31) : (if nI b < nI a then nI b else nI a) = nI (min a b) := by
  by_cases h : b < a
  · rw [if_pos ((nI_ltI hb ha).mpr h), Nat.min_eq_right (Nat.le_of_lt h)]
  · rw [if_neg (fun q => h ((nI_ltI hb ha).mp q)), Nat.min_eq_left (Nat.le_of_not_lt h)]
set_option maxHeartbeats 400000 in
set_option maxRecDepth 100000 in
theorem c_mostOf (l : Launch) (E : En) (base aw : Nat) (S : Mm) (ww h lf : Nat) (hw : 0 < ww) (hw2 : ww ≤ 500) (hh : h ≤ 1000) (hl : lf ≤ 20000) : Cn l E base aw yX0_mostOf cX0_mostOf 3 (some Jvm.ClassFile.FieldType.int) 1 0 0 noF S [vi (nI ww), vi (nI h), vi (nI lf)] (fun r S' => r = some (vi (nI (min h (lf / ww)))) ∧ S' = S) := by
  have hdl := Nat.div_le_self lf ww
  refine Cn.of (by decide) (Nat.le_of_ble_eq_true rfl) ?_
  intro X Y hl hE hbase haw hfr C B
  subst hl; subst hE; subst hbase; subst haw
  refine g_iload_n (pc := 0) C dX0_mostOf_0 rfl ?_
  refine g_if_le (pc := 1) C 14 dX0_mostOf_1 (by decide) (fun h1 => absurd h1 (nI_nle hw (by omega))) (fun _ => ?_)
  refine g_iload_n (pc := 4) C dX0_mostOf_4 rfl ?_
  refine g_iload_n (pc := 5) C dX0_mostOf_5 rfl ?_
  refine g_iload_n (pc := 6) C dX0_mostOf_6 rfl ?_
  refine g_idiv (pc := 7) C dX0_mostOf_7 (nI_ne0 hw (by omega)) ?_
  refine g_eqi (nI (lf / ww)) (pk_div (a := lf) (d := ww) (by omega) hw (by omega)) ?_
  refine g_mmin (pc := 8) C B mthX0_43 mth_s_min mth_c_min mth_i (by decide) ⟨Nat.le_refl _, Nat.le_refl _⟩ (Nat.le_of_ble_eq_true rfl) dX0_mostOf_8 ?_
  refine g_eqi (nI (min h (lf / ww))) (by rw [if_min]; all_goals omega) ?_
  refine g_goto (pc := 11) C 15 dX0_mostOf_11 (by decide) ?_
  exact g_iret (pc := 15) C B rfl dX0_mostOf_15 (⟨rfl, rfl⟩)

set_option maxHeartbeats 400000 in
set_option maxRecDepth 100000 in
theorem lp_cow {X : Xt} {Y : Yt} {P : Option AV → Mm → Prop} {nm : String} (C : Cx X Y cX0_coinsOfWay 9 RX0) (B : Bx X Y nm (some .int) 2 0 0 P) {S : Mm} {i n ways : Nat} {hv : Nat → Nat} (hm0 : MSh S i n) (hc0 : ChS S) (hwy : ways < 16) (hhv : ∀ w, w < 6 → S.1 (1, i, 3) w + S.1 (1, i, 5) w = nI (hv w) ∧ hv w ≤ 1000) : ∀ (f w left coins : Nat) (T : Mm), w + f = 6 → left ≤ 20000 → coins + 1000 * f ≤ 6000 → but fTr S T → P (some (vi (cowV hv ways f w left coins))) (cowM hv ways f w left T) → G X Y 0 0 T 9 [(0, vr (0, 0, 5)), (1, vi (nI ways)), (2, vr (1, i, 2)), (4, vi (nI left)), (5, vi (nI coins)), (6, vi (nI w))] [] := by
  intro f
  induction f with
  | zero =>
    intro w left coins T hw hlf hco hbt hP0
    have e : 6 = w := by omega
    subst e
    have hm := hm0.same hbt.1
    have hc := hc0.same hbt.1
    refine g_iload (pc := 9) C dX0_coinsOfWay_9 rfl ?_
    refine g_aload_n (pc := 11) C dX0_coinsOfWay_11 rfl ?_
    refine g_getr (pc := 12) C fX0_13 rfl hc.1 dX0_coinsOfWay_12 rfl hc.2.2.2.1 ?_
    refine g_alen (pc := 15) C rfl (by decide) hc.2.1 dX0_coinsOfWay_15 ?_
    refine g_icmp_ge (pc := 16) C 123 dX0_coinsOfWay_16 (by decide) (fun _ => ?_) (fun h16 => absurd ((nI_leI (a := 6) (b := 6) (by omega) (by omega)).mpr (by omega)) h16)
    refine g_iload (pc := 123) C dX0_coinsOfWay_123 rfl ?_
    refine g_if_ne (pc := 125) C 133 dX0_coinsOfWay_125 (by decide) (fun h125 => ?_) (fun h125 => ?_)
    ·
      refine g_bipush (pc := 133) C (-9) dX0_coinsOfWay_133 (by decide) ?_
      exact g_iret (pc := 135) C B rfl dX0_coinsOfWay_135 (by rw [cowV, if_neg (fun q => h125 (by rw [q]; rfl))] at hP0; exact hP0)
    ·
      refine g_iload (pc := 128) C dX0_coinsOfWay_128 rfl ?_
      refine g_goto (pc := 130) C 135 dX0_coinsOfWay_130 (by decide) ?_
      exact g_iret (pc := 135) C B rfl dX0_coinsOfWay_135 (by rw [cowV, if_pos ((nI_eq (a := left) (b := 0) (by omega) (by omega)).mp h125)] at hP0; exact hP0)
  | succ f ih =>
    intro w left coins T hw hlf hco hbt hP0
    have hm := hm0.same hbt.1
    have hc := hc0.same hbt.1
    have hl1 := lsN_le ways w
    have hmo : moN hv w left ≤ 1000 := Nat.le_trans (Nat.min_le_left _ _) (hhv w (by omega)).2
    have hmw : moN hv w left * wN w ≤ left := (Nat.le_div_iff_mul_le (wN_pos w)).mp (Nat.min_le_right _ _)
    by_cases hlt : moN hv w left < lsN ways w
    ·
      rw [cowV, cowM, if_pos hlt, if_pos hlt] at hP0
      by_cases h4 : w < 4
      ·
        refine g_iload (pc := 9) C dX0_coinsOfWay_9 rfl ?_
        refine g_aload_n (pc := 11) C dX0_coinsOfWay_11 rfl ?_
        refine g_getr (pc := 12) C fX0_13 rfl hc.1 dX0_coinsOfWay_12 rfl hc.2.2.2.1 ?_
        refine g_alen (pc := 15) C rfl (by decide) hc.2.1 dX0_coinsOfWay_15 ?_
        refine g_icmp_ge (pc := 16) C 123 dX0_coinsOfWay_16 (by decide) (fun h16 => absurd h16 (fun q => absurd ((nI_leI (a := 6) (b := w) (by omega) (by omega)).mp q) (by omega))) (fun _ => ?_)
        refine g_iload (pc := 19) C dX0_coinsOfWay_19 rfl ?_
        refine g_wst (pc := 21) C wsX0_9 dX0_coinsOfWay_21 ?_
        refine g_wln (pc := 24) C dX0_coinsOfWay_24 ?_
        refine g_icmp_ge (pc := 25) C 123 dX0_coinsOfWay_25 (by decide) (fun h25 => absurd h25 (fun q => absurd ((nI_leI (a := 6) (b := w) (by omega) (by omega)).mp q) (by omega))) (fun _ => ?_)
        refine g_iload (pc := 28) C dX0_coinsOfWay_28 rfl ?_
        refine g_iconst (pc := 30) C 4 dX0_coinsOfWay_30 (by decide) ?_
        refine g_icmp_ge (pc := 31) C 45 dX0_coinsOfWay_31 (by decide) (fun h31 => absurd h31 (fun q => absurd ((nI_leI (a := 4) (b := w) (by omega) (by omega)).mp q) (by omega))) (fun _ => ?_)
        refine g_iload_n (pc := 34) C dX0_coinsOfWay_34 rfl ?_
        refine g_iconst (pc := 35) C 3 dX0_coinsOfWay_35 (by decide) ?_
        refine g_iload (pc := 36) C dX0_coinsOfWay_36 rfl ?_
        refine g_isub (pc := 38) C dX0_coinsOfWay_38 ?_
        refine g_eqi (nI (3 - w)) (pk_sub (a := 3) (b := w) (by omega)) ?_
        refine g_ishr (pc := 39) C dX0_coinsOfWay_39 ?_
        refine g_iconst (pc := 40) C 1 dX0_coinsOfWay_40 (by decide) ?_
        refine g_iand (pc := 41) C dX0_coinsOfWay_41 ?_
        refine g_goto (pc := 42) C 46 dX0_coinsOfWay_42 (by decide) ?_
        refine g_eqi (nI (lsN ways w)) (ls_eq ways hwy w h4) ?_
        refine g_istore (pc := 46) C dX0_coinsOfWay_46 (by decide) ?_
        refine g_wst (pc := 48) C wsX0_9 dX0_coinsOfWay_48 ?_
        refine g_iload (pc := 51) C dX0_coinsOfWay_51 rfl ?_
        refine g_wldN (pc := 53) C (by omega) dX0_coinsOfWay_53 ?_
        refine g_eqi (nI (wN w)) (wths_N w (by omega)) ?_
        refine g_aload_n (pc := 54) C dX0_coinsOfWay_54 rfl ?_
        refine g_getr (pc := 55) C fX0_31 rfl (hm.1 2 (by decide)) dX0_coinsOfWay_55 rfl hm.t0 ?_
        refine g_iload (pc := 58) C dX0_coinsOfWay_58 rfl ?_
        refine g_ialdN (pc := 60) C rfl (hm.1 3 (by decide)) (by omega) (by decide) dX0_coinsOfWay_60 ?_
        refine g_aload_n (pc := 61) C dX0_coinsOfWay_61 rfl ?_
        refine g_getr (pc := 62) C fX0_36 rfl (hm.1 2 (by decide)) dX0_coinsOfWay_62 rfl hm.t2 ?_
        refine g_iload (pc := 65) C dX0_coinsOfWay_65 rfl ?_
        refine g_ialdN (pc := 67) C rfl (hm.1 5 (by decide)) (by omega) (by decide) dX0_coinsOfWay_67 ?_
        refine g_iadd (pc := 68) C dX0_coinsOfWay_68 ?_
        refine g_eqi (nI (hv w)) (by rw [hbt.2 (1, i, 3) _ (fun q => by cases q), hbt.2 (1, i, 5) _ (fun q => by cases q)]; exact (hhv w (by omega)).1) ?_
        refine g_iload (pc := 69) C dX0_coinsOfWay_69 rfl ?_
        refine g_callS (pc := 71) C B mX0_39 (c_mostOf _ _ _ _ _ (wN w) (hv w) left (wN_pos w) (wN_le w) (hhv w (by omega)).2 hlf) rfl rfl (by decide) ⟨Nat.le_refl _, Nat.le_refl _⟩ (Nat.le_of_ble_eq_true rfl) dX0_coinsOfWay_71 (fun rr SS hP => ?_)
        rw [hP.1, hP.2]
        refine g_eqi (nI (moN hv w left)) rfl ?_
        refine g_iload (pc := 74) C dX0_coinsOfWay_74 rfl ?_
        refine g_isub (pc := 76) C dX0_coinsOfWay_76 ?_
        refine g_topi (fun y ey => ?_)
        have hy : ¬ 0 ≤ y := by rw [ey]; exact Int32.not_le.mpr (pk_sneg (by omega) hlt)
        refine g_istore (pc := 77) C dX0_coinsOfWay_77 (by decide) ?_
        refine g_iload (pc := 79) C dX0_coinsOfWay_79 rfl ?_
        refine g_if_ge (pc := 81) C 87 dX0_coinsOfWay_81 (by decide) (fun h81 => absurd h81 hy) (fun _ => ?_)
        refine g_bipush (pc := 84) C (-9) dX0_coinsOfWay_84 (by decide) ?_
        exact g_iret (pc := 86) C B rfl dX0_coinsOfWay_86 (hP0)
      ·
        refine g_iload (pc := 9) C dX0_coinsOfWay_9 rfl ?_
        refine g_aload_n (pc := 11) C dX0_coinsOfWay_11 rfl ?_
        refine g_getr (pc := 12) C fX0_13 rfl hc.1 dX0_coinsOfWay_12 rfl hc.2.2.2.1 ?_
        refine g_alen (pc := 15) C rfl (by decide) hc.2.1 dX0_coinsOfWay_15 ?_
        refine g_icmp_ge (pc := 16) C 123 dX0_coinsOfWay_16 (by decide) (fun h16 => absurd h16 (fun q => absurd ((nI_leI (a := 6) (b := w) (by omega) (by omega)).mp q) (by omega))) (fun _ => ?_)
        refine g_iload (pc := 19) C dX0_coinsOfWay_19 rfl ?_
        refine g_wst (pc := 21) C wsX0_9 dX0_coinsOfWay_21 ?_
        refine g_wln (pc := 24) C dX0_coinsOfWay_24 ?_
        refine g_icmp_ge (pc := 25) C 123 dX0_coinsOfWay_25 (by decide) (fun h25 => absurd h25 (fun q => absurd ((nI_leI (a := 6) (b := w) (by omega) (by omega)).mp q) (by omega))) (fun _ => ?_)
        refine g_iload (pc := 28) C dX0_coinsOfWay_28 rfl ?_
        refine g_iconst (pc := 30) C 4 dX0_coinsOfWay_30 (by decide) ?_
        refine g_icmp_ge (pc := 31) C 45 dX0_coinsOfWay_31 (by decide) (fun _ => ?_) (fun h31 => absurd ((nI_leI (a := 4) (b := w) (by omega) (by omega)).mpr (by omega)) h31)
        refine g_iconst (pc := 45) C 0 dX0_coinsOfWay_45 (by decide) ?_
        refine g_eqi (nI (lsN ways w)) (by unfold lsN; rw [if_neg h4]; rfl) ?_
        refine g_istore (pc := 46) C dX0_coinsOfWay_46 (by decide) ?_
        refine g_wst (pc := 48) C wsX0_9 dX0_coinsOfWay_48 ?_
        refine g_iload (pc := 51) C dX0_coinsOfWay_51 rfl ?_
        refine g_wldN (pc := 53) C (by omega) dX0_coinsOfWay_53 ?_
        refine g_eqi (nI (wN w)) (wths_N w (by omega)) ?_
        refine g_aload_n (pc := 54) C dX0_coinsOfWay_54 rfl ?_
        refine g_getr (pc := 55) C fX0_31 rfl (hm.1 2 (by decide)) dX0_coinsOfWay_55 rfl hm.t0 ?_
        refine g_iload (pc := 58) C dX0_coinsOfWay_58 rfl ?_
        refine g_ialdN (pc := 60) C rfl (hm.1 3 (by decide)) (by omega) (by decide) dX0_coinsOfWay_60 ?_
        refine g_aload_n (pc := 61) C dX0_coinsOfWay_61 rfl ?_
        refine g_getr (pc := 62) C fX0_36 rfl (hm.1 2 (by decide)) dX0_coinsOfWay_62 rfl hm.t2 ?_
        refine g_iload (pc := 65) C dX0_coinsOfWay_65 rfl ?_
        refine g_ialdN (pc := 67) C rfl (hm.1 5 (by decide)) (by omega) (by decide) dX0_coinsOfWay_67 ?_
        refine g_iadd (pc := 68) C dX0_coinsOfWay_68 ?_
        refine g_eqi (nI (hv w)) (by rw [hbt.2 (1, i, 3) _ (fun q => by cases q), hbt.2 (1, i, 5) _ (fun q => by cases q)]; exact (hhv w (by omega)).1) ?_
        refine g_iload (pc := 69) C dX0_coinsOfWay_69 rfl ?_
        refine g_callS (pc := 71) C B mX0_39 (c_mostOf _ _ _ _ _ (wN w) (hv w) left (wN_pos w) (wN_le w) (hhv w (by omega)).2 hlf) rfl rfl (by decide) ⟨Nat.le_refl _, Nat.le_refl _⟩ (Nat.le_of_ble_eq_true rfl) dX0_coinsOfWay_71 (fun rr SS hP => ?_)
        rw [hP.1, hP.2]
        refine g_eqi (nI (moN hv w left)) rfl ?_
        refine g_iload (pc := 74) C dX0_coinsOfWay_74 rfl ?_
        refine g_isub (pc := 76) C dX0_coinsOfWay_76 ?_
        refine g_topi (fun y ey => ?_)
        have hy : ¬ 0 ≤ y := by rw [ey]; exact Int32.not_le.mpr (pk_sneg (by omega) hlt)
        refine g_istore (pc := 77) C dX0_coinsOfWay_77 (by decide) ?_
        refine g_iload (pc := 79) C dX0_coinsOfWay_79 rfl ?_
        refine g_if_ge (pc := 81) C 87 dX0_coinsOfWay_81 (by decide) (fun h81 => absurd h81 hy) (fun _ => ?_)
        refine g_bipush (pc := 84) C (-9) dX0_coinsOfWay_84 (by decide) ?_
        exact g_iret (pc := 86) C B rfl dX0_coinsOfWay_86 (hP0)
    ·
      rw [cowV, cowM, if_neg hlt, if_neg hlt] at hP0
      by_cases h4 : w < 4
      ·
        refine g_iload (pc := 9) C dX0_coinsOfWay_9 rfl ?_
        refine g_aload_n (pc := 11) C dX0_coinsOfWay_11 rfl ?_
        refine g_getr (pc := 12) C fX0_13 rfl hc.1 dX0_coinsOfWay_12 rfl hc.2.2.2.1 ?_
        refine g_alen (pc := 15) C rfl (by decide) hc.2.1 dX0_coinsOfWay_15 ?_
        refine g_icmp_ge (pc := 16) C 123 dX0_coinsOfWay_16 (by decide) (fun h16 => absurd h16 (fun q => absurd ((nI_leI (a := 6) (b := w) (by omega) (by omega)).mp q) (by omega))) (fun _ => ?_)
        refine g_iload (pc := 19) C dX0_coinsOfWay_19 rfl ?_
        refine g_wst (pc := 21) C wsX0_9 dX0_coinsOfWay_21 ?_
        refine g_wln (pc := 24) C dX0_coinsOfWay_24 ?_
        refine g_icmp_ge (pc := 25) C 123 dX0_coinsOfWay_25 (by decide) (fun h25 => absurd h25 (fun q => absurd ((nI_leI (a := 6) (b := w) (by omega) (by omega)).mp q) (by omega))) (fun _ => ?_)
        refine g_iload (pc := 28) C dX0_coinsOfWay_28 rfl ?_
        refine g_iconst (pc := 30) C 4 dX0_coinsOfWay_30 (by decide) ?_
        refine g_icmp_ge (pc := 31) C 45 dX0_coinsOfWay_31 (by decide) (fun h31 => absurd h31 (fun q => absurd ((nI_leI (a := 4) (b := w) (by omega) (by omega)).mp q) (by omega))) (fun _ => ?_)
        refine g_iload_n (pc := 34) C dX0_coinsOfWay_34 rfl ?_
        refine g_iconst (pc := 35) C 3 dX0_coinsOfWay_35 (by decide) ?_
        refine g_iload (pc := 36) C dX0_coinsOfWay_36 rfl ?_
        refine g_isub (pc := 38) C dX0_coinsOfWay_38 ?_
        refine g_eqi (nI (3 - w)) (pk_sub (a := 3) (b := w) (by omega)) ?_
        refine g_ishr (pc := 39) C dX0_coinsOfWay_39 ?_
        refine g_iconst (pc := 40) C 1 dX0_coinsOfWay_40 (by decide) ?_
        refine g_iand (pc := 41) C dX0_coinsOfWay_41 ?_
        refine g_goto (pc := 42) C 46 dX0_coinsOfWay_42 (by decide) ?_
        refine g_eqi (nI (lsN ways w)) (ls_eq ways hwy w h4) ?_
        refine g_istore (pc := 46) C dX0_coinsOfWay_46 (by decide) ?_
        refine g_wst (pc := 48) C wsX0_9 dX0_coinsOfWay_48 ?_
        refine g_iload (pc := 51) C dX0_coinsOfWay_51 rfl ?_
        refine g_wldN (pc := 53) C (by omega) dX0_coinsOfWay_53 ?_
        refine g_eqi (nI (wN w)) (wths_N w (by omega)) ?_
        refine g_aload_n (pc := 54) C dX0_coinsOfWay_54 rfl ?_
        refine g_getr (pc := 55) C fX0_31 rfl (hm.1 2 (by decide)) dX0_coinsOfWay_55 rfl hm.t0 ?_
        refine g_iload (pc := 58) C dX0_coinsOfWay_58 rfl ?_
        refine g_ialdN (pc := 60) C rfl (hm.1 3 (by decide)) (by omega) (by decide) dX0_coinsOfWay_60 ?_
        refine g_aload_n (pc := 61) C dX0_coinsOfWay_61 rfl ?_
        refine g_getr (pc := 62) C fX0_36 rfl (hm.1 2 (by decide)) dX0_coinsOfWay_62 rfl hm.t2 ?_
        refine g_iload (pc := 65) C dX0_coinsOfWay_65 rfl ?_
        refine g_ialdN (pc := 67) C rfl (hm.1 5 (by decide)) (by omega) (by decide) dX0_coinsOfWay_67 ?_
        refine g_iadd (pc := 68) C dX0_coinsOfWay_68 ?_
        refine g_eqi (nI (hv w)) (by rw [hbt.2 (1, i, 3) _ (fun q => by cases q), hbt.2 (1, i, 5) _ (fun q => by cases q)]; exact (hhv w (by omega)).1) ?_
        refine g_iload (pc := 69) C dX0_coinsOfWay_69 rfl ?_
        refine g_callS (pc := 71) C B mX0_39 (c_mostOf _ _ _ _ _ (wN w) (hv w) left (wN_pos w) (wN_le w) (hhv w (by omega)).2 hlf) rfl rfl (by decide) ⟨Nat.le_refl _, Nat.le_refl _⟩ (Nat.le_of_ble_eq_true rfl) dX0_coinsOfWay_71 (fun rr SS hP => ?_)
        rw [hP.1, hP.2]
        refine g_eqi (nI (moN hv w left)) rfl ?_
        refine g_iload (pc := 74) C dX0_coinsOfWay_74 rfl ?_
        refine g_isub (pc := 76) C dX0_coinsOfWay_76 ?_
        refine g_eqi (nI (moN hv w left - lsN ways w)) (pk_sub (a := moN hv w left) (b := lsN ways w) (by omega)) ?_
        refine g_istore (pc := 77) C dX0_coinsOfWay_77 (by decide) ?_
        refine g_iload (pc := 79) C dX0_coinsOfWay_79 rfl ?_
        refine g_if_ge (pc := 81) C 87 dX0_coinsOfWay_81 (by decide) (fun _ => ?_) (fun h81 => absurd (nI_pos' (by omega)) h81)
        refine g_aload_n (pc := 87) C dX0_coinsOfWay_87 rfl ?_
        refine g_getr (pc := 88) C fX0_13 rfl hc.1 dX0_coinsOfWay_88 rfl hc.2.2.2.1 ?_
        refine g_iload (pc := 91) C dX0_coinsOfWay_91 rfl ?_
        refine g_iload (pc := 93) C dX0_coinsOfWay_93 rfl ?_
        refine g_iastN (pc := 95) C rfl hc.2.1 (by omega) (by decide) dX0_coinsOfWay_95 ?_
        refine g_iload (pc := 96) C dX0_coinsOfWay_96 rfl ?_
        refine g_iload (pc := 98) C dX0_coinsOfWay_98 rfl ?_
        refine g_iadd (pc := 100) C dX0_coinsOfWay_100 ?_
        refine g_eqi (nI (coins + (moN hv w left - lsN ways w))) (nI_add coins (moN hv w left - lsN ways w)) ?_
        refine g_istore (pc := 101) C dX0_coinsOfWay_101 (by decide) ?_
        refine g_iload (pc := 103) C dX0_coinsOfWay_103 rfl ?_
        refine g_iload (pc := 105) C dX0_coinsOfWay_105 rfl ?_
        refine g_wst (pc := 107) C wsX0_9 dX0_coinsOfWay_107 ?_
        refine g_iload (pc := 110) C dX0_coinsOfWay_110 rfl ?_
        refine g_wldN (pc := 112) C (by omega) dX0_coinsOfWay_112 ?_
        refine g_eqi (nI (wN w)) (wths_N w (by omega)) ?_
        refine g_imul (pc := 113) C dX0_coinsOfWay_113 ?_
        refine g_eqi (nI ((moN hv w left - lsN ways w) * (wN w))) (pk_mul (moN hv w left - lsN ways w) (wN w)) ?_
        refine g_isub (pc := 114) C dX0_coinsOfWay_114 ?_
        refine g_eqi (nI (left - (moN hv w left - lsN ways w) * wN w)) (pk_sub (a := left) (b := (moN hv w left - lsN ways w) * wN w) (Nat.le_trans (Nat.mul_le_mul_right _ (Nat.sub_le _ _)) hmw)) ?_
        refine g_istore (pc := 115) C dX0_coinsOfWay_115 (by decide) ?_
        refine g_iincN (pc := 117) C 1 dX0_coinsOfWay_117 rfl (by decide) (by decide) ?_
        refine g_goto (pc := 120) C 9 dX0_coinsOfWay_120 (by decide) ?_
        exact g_subR (ih (w + 1) (left - (moN hv w left - lsN ways w) * wN w) (coins + (moN hv w left - lsN ways w)) (wI T (0, 0, 6) w (nI (moN hv w left - lsN ways w))) (by omega) (by omega) (by omega) (hbt.wI rfl) hP0) ⟨rfl, rfl, rfl, rfl, rfl, rfl, trivial⟩
      ·
        refine g_iload (pc := 9) C dX0_coinsOfWay_9 rfl ?_
        refine g_aload_n (pc := 11) C dX0_coinsOfWay_11 rfl ?_
        refine g_getr (pc := 12) C fX0_13 rfl hc.1 dX0_coinsOfWay_12 rfl hc.2.2.2.1 ?_
        refine g_alen (pc := 15) C rfl (by decide) hc.2.1 dX0_coinsOfWay_15 ?_
        refine g_icmp_ge (pc := 16) C 123 dX0_coinsOfWay_16 (by decide) (fun h16 => absurd h16 (fun q => absurd ((nI_leI (a := 6) (b := w) (by omega) (by omega)).mp q) (by omega))) (fun _ => ?_)
        refine g_iload (pc := 19) C dX0_coinsOfWay_19 rfl ?_
        refine g_wst (pc := 21) C wsX0_9 dX0_coinsOfWay_21 ?_
        refine g_wln (pc := 24) C dX0_coinsOfWay_24 ?_
        refine g_icmp_ge (pc := 25) C 123 dX0_coinsOfWay_25 (by decide) (fun h25 => absurd h25 (fun q => absurd ((nI_leI (a := 6) (b := w) (by omega) (by omega)).mp q) (by omega))) (fun _ => ?_)
        refine g_iload (pc := 28) C dX0_coinsOfWay_28 rfl ?_
        refine g_iconst (pc := 30) C 4 dX0_coinsOfWay_30 (by decide) ?_
        refine g_icmp_ge (pc := 31) C 45 dX0_coinsOfWay_31 (by decide) (fun _ => ?_) (fun h31 => absurd ((nI_leI (a := 4) (b := w) (by omega) (by omega)).mpr (by omega)) h31)
        refine g_iconst (pc := 45) C 0 dX0_coinsOfWay_45 (by decide) ?_
        refine g_eqi (nI (lsN ways w)) (by unfold lsN; rw [if_neg h4]; rfl) ?_
        refine g_istore (pc := 46) C dX0_coinsOfWay_46 (by decide) ?_
        refine g_wst (pc := 48) C wsX0_9 dX0_coinsOfWay_48 ?_
        refine g_iload (pc := 51) C dX0_coinsOfWay_51 rfl ?_
        refine g_wldN (pc := 53) C (by omega) dX0_coinsOfWay_53 ?_
        refine g_eqi (nI (wN w)) (wths_N w (by omega)) ?_
        refine g_aload_n (pc := 54) C dX0_coinsOfWay_54 rfl ?_
        refine g_getr (pc := 55) C fX0_31 rfl (hm.1 2 (by decide)) dX0_coinsOfWay_55 rfl hm.t0 ?_
        refine g_iload (pc := 58) C dX0_coinsOfWay_58 rfl ?_
        refine g_ialdN (pc := 60) C rfl (hm.1 3 (by decide)) (by omega) (by decide) dX0_coinsOfWay_60 ?_
        refine g_aload_n (pc := 61) C dX0_coinsOfWay_61 rfl ?_
        refine g_getr (pc := 62) C fX0_36 rfl (hm.1 2 (by decide)) dX0_coinsOfWay_62 rfl hm.t2 ?_
        refine g_iload (pc := 65) C dX0_coinsOfWay_65 rfl ?_
        refine g_ialdN (pc := 67) C rfl (hm.1 5 (by decide)) (by omega) (by decide) dX0_coinsOfWay_67 ?_
        refine g_iadd (pc := 68) C dX0_coinsOfWay_68 ?_
        refine g_eqi (nI (hv w)) (by rw [hbt.2 (1, i, 3) _ (fun q => by cases q), hbt.2 (1, i, 5) _ (fun q => by cases q)]; exact (hhv w (by omega)).1) ?_
        refine g_iload (pc := 69) C dX0_coinsOfWay_69 rfl ?_
        refine g_callS (pc := 71) C B mX0_39 (c_mostOf _ _ _ _ _ (wN w) (hv w) left (wN_pos w) (wN_le w) (hhv w (by omega)).2 hlf) rfl rfl (by decide) ⟨Nat.le_refl _, Nat.le_refl _⟩ (Nat.le_of_ble_eq_true rfl) dX0_coinsOfWay_71 (fun rr SS hP => ?_)
        rw [hP.1, hP.2]
        refine g_eqi (nI (moN hv w left)) rfl ?_
        refine g_iload (pc := 74) C dX0_coinsOfWay_74 rfl ?_
        refine g_isub (pc := 76) C dX0_coinsOfWay_76 ?_
        refine g_eqi (nI (moN hv w left - lsN ways w)) (pk_sub (a := moN hv w left) (b := lsN ways w) (by omega)) ?_
        refine g_istore (pc := 77) C dX0_coinsOfWay_77 (by decide) ?_
        refine g_iload (pc := 79) C dX0_coinsOfWay_79 rfl ?_
        refine g_if_ge (pc := 81) C 87 dX0_coinsOfWay_81 (by decide) (fun _ => ?_) (fun h81 => absurd (nI_pos' (by omega)) h81)
        refine g_aload_n (pc := 87) C dX0_coinsOfWay_87 rfl ?_
        refine g_getr (pc := 88) C fX0_13 rfl hc.1 dX0_coinsOfWay_88 rfl hc.2.2.2.1 ?_
        refine g_iload (pc := 91) C dX0_coinsOfWay_91 rfl ?_
        refine g_iload (pc := 93) C dX0_coinsOfWay_93 rfl ?_
        refine g_iastN (pc := 95) C rfl hc.2.1 (by omega) (by decide) dX0_coinsOfWay_95 ?_
        refine g_iload (pc := 96) C dX0_coinsOfWay_96 rfl ?_
        refine g_iload (pc := 98) C dX0_coinsOfWay_98 rfl ?_
        refine g_iadd (pc := 100) C dX0_coinsOfWay_100 ?_
        refine g_eqi (nI (coins + (moN hv w left - lsN ways w))) (nI_add coins (moN hv w left - lsN ways w)) ?_
        refine g_istore (pc := 101) C dX0_coinsOfWay_101 (by decide) ?_
        refine g_iload (pc := 103) C dX0_coinsOfWay_103 rfl ?_
        refine g_iload (pc := 105) C dX0_coinsOfWay_105 rfl ?_
        refine g_wst (pc := 107) C wsX0_9 dX0_coinsOfWay_107 ?_
        refine g_iload (pc := 110) C dX0_coinsOfWay_110 rfl ?_
        refine g_wldN (pc := 112) C (by omega) dX0_coinsOfWay_112 ?_
        refine g_eqi (nI (wN w)) (wths_N w (by omega)) ?_
        refine g_imul (pc := 113) C dX0_coinsOfWay_113 ?_
        refine g_eqi (nI ((moN hv w left - lsN ways w) * (wN w))) (pk_mul (moN hv w left - lsN ways w) (wN w)) ?_
        refine g_isub (pc := 114) C dX0_coinsOfWay_114 ?_
        refine g_eqi (nI (left - (moN hv w left - lsN ways w) * wN w)) (pk_sub (a := left) (b := (moN hv w left - lsN ways w) * wN w) (Nat.le_trans (Nat.mul_le_mul_right _ (Nat.sub_le _ _)) hmw)) ?_
        refine g_istore (pc := 115) C dX0_coinsOfWay_115 (by decide) ?_
        refine g_iincN (pc := 117) C 1 dX0_coinsOfWay_117 rfl (by decide) (by decide) ?_
        refine g_goto (pc := 120) C 9 dX0_coinsOfWay_120 (by decide) ?_
        exact g_subR (ih (w + 1) (left - (moN hv w left - lsN ways w) * wN w) (coins + (moN hv w left - lsN ways w)) (wI T (0, 0, 6) w (nI (moN hv w left - lsN ways w))) (by omega) (by omega) (by omega) (hbt.wI rfl) hP0) ⟨rfl, rfl, rfl, rfl, rfl, rfl, trivial⟩
set_option maxHeartbeats 400000 in
set_option maxRecDepth 100000 in
theorem c_cow (l : Launch) (E : En) (base aw : Nat) (S : Mm) (i n : Nat) (hm : MSh S i n) (hc : ChS S) (hv : Nat → Nat) (hhv : ∀ w, w < 6 → S.1 (1, i, 3) w + S.1 (1, i, 5) w = nI (hv w) ∧ hv w ≤ 1000) (ways : Nat) (hwy : ways < 16) (sum : Nat) (hs : sum ≤ 20000) : Cn l E base aw yX0_coinsOfWay cX0_coinsOfWay 9 (some Jvm.ClassFile.FieldType.int) 2 0 0 noF S [vr (0, 0, 5), vi (nI ways), vr (1, i, 2), vi (nI sum)] (fun r S' => r = some (vi (cowV hv ways 6 0 sum 0)) ∧ S' = cowM hv ways 6 0 sum S) := by
  refine Cn.of (by decide) (Nat.le_of_ble_eq_true rfl) ?_
  intro X Y hl hE hbase haw hfr C B
  subst hl; subst hE; subst hbase; subst haw
  refine g_iload_n (pc := 0) C dX0_coinsOfWay_0 rfl ?_
  refine g_istore (pc := 1) C dX0_coinsOfWay_1 (by decide) ?_
  refine g_iconst (pc := 3) C 0 dX0_coinsOfWay_3 (by decide) ?_
  refine g_istore (pc := 4) C dX0_coinsOfWay_4 (by decide) ?_
  refine g_iconst (pc := 6) C 0 dX0_coinsOfWay_6 (by decide) ?_
  refine g_istore (pc := 7) C dX0_coinsOfWay_7 (by decide) ?_
  exact g_subR (lp_cow C B hm hc hwy hhv 6 0 sum 0 S rfl hs (by decide) but.rf ⟨rfl, rfl⟩) ⟨rfl, rfl, rfl, rfl, rfl, rfl, trivial⟩

set_option maxHeartbeats 400000 in
set_option maxRecDepth 100000 in
theorem lp_few {X : Xt} {Y : Yt} {P : Option AV → Mm → Prop} {nm : String}  (C : Cx X Y cX0_fewest 6 RX0) (B : Bx X Y nm (some Jvm.ClassFile.FieldType.int) 3 0 0 P) {S : Mm} {i n sum : Nat} {hv : Nat → Nat} (hm0 : MSh S i n) (hc0 : ChS S) (hhv : ∀ w, w < 6 → S.1 (1, i, 3) w + S.1 (1, i, 5) w = nI (hv w) ∧ hv w ≤ 1000) (hs : sum ≤ 20000) (K : G X Y 0 0 (fewM S hv sum 16) 69 [(0, vr (0, 0, 5)), (1, vr (1, i, 2)), (2, vi (nI sum)), (3, vi (fewV hv sum 16)), (4, vi (nI 16))] []) : ∀ n9 w, w + n9 = 16 → G X Y 0 0 (fewM S hv sum w) 6 [(0, vr (0, 0, 5)), (1, vr (1, i, 2)), (2, vi (nI sum)), (3, vi (fewV hv sum w)), (4, vi (nI w))] [] := by
  intro n9
  induction n9 with
  | zero =>
    intro w hw
    have e : 16 = w := by omega
    subst e
    have hbt := fewM_but S hv sum 16
    have hm := hm0.same hbt.1
    have hc := hc0.same hbt.1
    have hhv1 : ∀ z, z < 6 → (fewM S hv sum 16).1 (1, i, 3) z + (fewM S hv sum 16).1 (1, i, 5) z = nI (hv z) ∧ hv z ≤ 1000 := fun z hz => by rw [hbt.2 (1, i, 3) _ (fun q => by rcases q with q | q <;> cases q), hbt.2 (1, i, 5) _ (fun q => by rcases q with q | q <;> cases q)]; exact hhv z hz
    refine g_iload (pc := 6) C dX0_fewest_6 rfl ?_
    refine g_bipush (pc := 8) C 16 dX0_fewest_8 (by decide) ?_
    refine g_icmp_ge (pc := 10) C 69 dX0_fewest_10 (by decide) (fun _ => ?_) (fun h10 => absurd ((nI_leI (a := 16) (b := 16) (by omega) (by omega)).mpr (by omega)) h10)
    exact K
  | succ n9 ih =>
    intro w hw
    have hbt := fewM_but S hv sum w
    have hm := hm0.same hbt.1
    have hc := hc0.same hbt.1
    have hhv1 : ∀ z, z < 6 → (fewM S hv sum w).1 (1, i, 3) z + (fewM S hv sum w).1 (1, i, 5) z = nI (hv z) ∧ hv z ≤ 1000 := fun z hz => by rw [hbt.2 (1, i, 3) _ (fun q => by rcases q with q | q <;> cases q), hbt.2 (1, i, 5) _ (fun q => by rcases q with q | q <;> cases q)]; exact hhv z hz
    refine g_iload (pc := 6) C dX0_fewest_6 rfl ?_
    refine g_bipush (pc := 8) C 16 dX0_fewest_8 (by decide) ?_
    refine g_icmp_ge (pc := 10) C 69 dX0_fewest_10 (by decide) (fun h10 => absurd h10 (fun q => absurd ((nI_leI (a := 16) (b := w) (by omega) (by omega)).mp q) (by omega))) (fun _ => ?_)
    refine g_aload_n (pc := 13) C dX0_fewest_13 rfl ?_
    refine g_iload (pc := 14) C dX0_fewest_14 rfl ?_
    refine g_aload_n (pc := 16) C dX0_fewest_16 rfl ?_
    refine g_iload_n (pc := 17) C dX0_fewest_17 rfl ?_
    refine g_callV (pc := 18) C B mX0_21 (c_cow _ _ _ _ _ i n hm hc hv hhv1 w (by omega) sum hs) rfl rfl rfl rfl hc.1 (by decide) ⟨Nat.le_refl _, Nat.le_refl _⟩ (Nat.le_of_ble_eq_true rfl) dX0_fewest_18 (fun rr SS hP => ?_)
    rw [hP.1, hP.2]
    have hbt2 := hbt.tr (cow_but' hv w 6 0 sum (fewM S hv sum w))
    have hm := hm0.same hbt2.1
    have hc := hc0.same hbt2.1
    refine g_istore (pc := 21) C dX0_fewest_21 (by decide) ?_
    refine g_iload (pc := 23) C dX0_fewest_23 rfl ?_
    refine g_bipush (pc := 25) C (-9) dX0_fewest_25 (by decide) ?_
    refine g_icmp_eq (pc := 27) C 63 dX0_fewest_27 (by decide) (fun h27 => ?_) (fun h27 => ?_)
    ·
      refine g_iincN (pc := 63) C 1 dX0_fewest_63 rfl (by decide) (by decide) ?_
      refine g_goto (pc := 66) C 6 dX0_fewest_66 (by decide) ?_
      refine g_eqS (S' := fewM S hv sum ((w + 1))) (by simp only [fewM]; rw [if_pos h27]) ?_
      exact g_subR (ih (w + 1) (by omega)) ⟨rfl, rfl, rfl, by show some (vi _) = some (vi _); simp only [fewV]; rw [if_pos h27], rfl, trivial⟩
    ·
      refine g_iload_n (pc := 30) C dX0_fewest_30 rfl ?_
      refine g_bipush (pc := 31) C (-9) dX0_fewest_31 (by decide) ?_
      refine g_icmp_eq (pc := 33) C 42 dX0_fewest_33 (by decide) (fun h33 => ?_) (fun h33 => ?_)
      ·
        refine g_iload (pc := 42) C dX0_fewest_42 rfl ?_
        refine g_istore_n (pc := 44) C dX0_fewest_44 (by decide) ?_
        refine g_aload_n (pc := 45) C dX0_fewest_45 rfl ?_
        refine g_getr (pc := 46) C fX0_13 rfl hc.1 dX0_fewest_46 rfl hc.2.2.2.1 ?_
        refine g_iconst (pc := 49) C 0 dX0_fewest_49 (by decide) ?_
        refine g_aload_n (pc := 50) C dX0_fewest_50 rfl ?_
        refine g_getr (pc := 51) C fX0_18 rfl hc.1 dX0_fewest_51 rfl hc.2.2.2.2 ?_
        refine g_iconst (pc := 54) C 0 dX0_fewest_54 (by decide) ?_
        refine g_aload_n (pc := 55) C dX0_fewest_55 rfl ?_
        refine g_getr (pc := 56) C fX0_18 rfl hc.1 dX0_fewest_56 rfl hc.2.2.2.2 ?_
        refine g_alen (pc := 59) C rfl (by decide) hc.2.2.1 dX0_fewest_59 ?_
        refine g_copy (pc := 60) C (k0 := (0, 0, 6)) (k1 := (0, 0, 7)) rfl rfl hc.2.1 hc.2.2.1 (by decide) cpX0_25 cp_n cp_s cp_i (by rw [B.1]; decide) rfl dX0_fewest_60 ?_
        refine g_iincN (pc := 63) C 1 dX0_fewest_63 rfl (by decide) (by decide) ?_
        refine g_goto (pc := 66) C 6 dX0_fewest_66 (by decide) ?_
        refine g_eqS (S' := fewM S hv sum ((w + 1))) (by simp only [fewM]; rw [if_neg h27, if_pos h33]) ?_
        exact g_subR (ih (w + 1) (by omega)) ⟨rfl, rfl, rfl, by show some (vi _) = some (vi _); simp only [fewV]; rw [if_neg h27, if_pos h33], rfl, trivial⟩
      ·
        refine g_iload (pc := 36) C dX0_fewest_36 rfl ?_
        refine g_iload_n (pc := 38) C dX0_fewest_38 rfl ?_
        refine g_icmp_ge (pc := 39) C 63 dX0_fewest_39 (by decide) (fun h39 => ?_) (fun h39 => ?_)
        ·
          refine g_iincN (pc := 63) C 1 dX0_fewest_63 rfl (by decide) (by decide) ?_
          refine g_goto (pc := 66) C 6 dX0_fewest_66 (by decide) ?_
          refine g_eqS (S' := fewM S hv sum ((w + 1))) (by simp only [fewM]; rw [if_neg h27, if_neg h33, if_pos h39]) ?_
          exact g_subR (ih (w + 1) (by omega)) ⟨rfl, rfl, rfl, by show some (vi _) = some (vi _); simp only [fewV]; rw [if_neg h27, if_neg h33, if_pos h39], rfl, trivial⟩
        ·
          refine g_iload (pc := 42) C dX0_fewest_42 rfl ?_
          refine g_istore_n (pc := 44) C dX0_fewest_44 (by decide) ?_
          refine g_aload_n (pc := 45) C dX0_fewest_45 rfl ?_
          refine g_getr (pc := 46) C fX0_13 rfl hc.1 dX0_fewest_46 rfl hc.2.2.2.1 ?_
          refine g_iconst (pc := 49) C 0 dX0_fewest_49 (by decide) ?_
          refine g_aload_n (pc := 50) C dX0_fewest_50 rfl ?_
          refine g_getr (pc := 51) C fX0_18 rfl hc.1 dX0_fewest_51 rfl hc.2.2.2.2 ?_
          refine g_iconst (pc := 54) C 0 dX0_fewest_54 (by decide) ?_
          refine g_aload_n (pc := 55) C dX0_fewest_55 rfl ?_
          refine g_getr (pc := 56) C fX0_18 rfl hc.1 dX0_fewest_56 rfl hc.2.2.2.2 ?_
          refine g_alen (pc := 59) C rfl (by decide) hc.2.2.1 dX0_fewest_59 ?_
          refine g_copy (pc := 60) C (k0 := (0, 0, 6)) (k1 := (0, 0, 7)) rfl rfl hc.2.1 hc.2.2.1 (by decide) cpX0_25 cp_n cp_s cp_i (by rw [B.1]; decide) rfl dX0_fewest_60 ?_
          refine g_iincN (pc := 63) C 1 dX0_fewest_63 rfl (by decide) (by decide) ?_
          refine g_goto (pc := 66) C 6 dX0_fewest_66 (by decide) ?_
          refine g_eqS (S' := fewM S hv sum ((w + 1))) (by simp only [fewM]; rw [if_neg h27, if_neg h33, if_neg h39]) ?_
          exact g_subR (ih (w + 1) (by omega)) ⟨rfl, rfl, rfl, by show some (vi _) = some (vi _); simp only [fewV]; rw [if_neg h27, if_neg h33, if_neg h39], rfl, trivial⟩
set_option maxHeartbeats 400000 in
set_option maxRecDepth 100000 in
theorem c_fewest (l : Launch) (E : En) (base aw : Nat) (S : Mm) (i n : Nat) (hm : MSh S i n) (hc : ChS S) (hv : Nat → Nat) (hhv : ∀ w, w < 6 → S.1 (1, i, 3) w + S.1 (1, i, 5) w = nI (hv w) ∧ hv w ≤ 1000) (sum : Nat) (hs : sum ≤ 20000) : Cn l E base aw yX0_fewest cX0_fewest 6 (some Jvm.ClassFile.FieldType.int) 3 0 0 noF S [vr (0, 0, 5), vr (1, i, 2), vi (nI sum)] (fun r S' => r = some (vi (fewV hv sum 16)) ∧ S' = fewM S hv sum 16) := by
  refine Cn.of (by decide) (Nat.le_of_ble_eq_true rfl) ?_
  intro X Y hl hE hbase haw hfr C B
  subst hl; subst hE; subst hbase; subst haw
  refine g_bipush (pc := 0) C (-9) dX0_fewest_0 (by decide) ?_
  refine g_istore_n (pc := 2) C dX0_fewest_2 (by decide) ?_
  refine g_iconst (pc := 3) C 0 dX0_fewest_3 (by decide) ?_
  refine g_istore (pc := 4) C dX0_fewest_4 (by decide) ?_
  refine g_subR (lp_few C B hm hc hhv hs ?_ 16 0 rfl) ⟨rfl, rfl, rfl, rfl, rfl, trivial⟩
  refine g_iload_n (pc := 69) C dX0_fewest_69 rfl ?_
  exact g_iret (pc := 70) C B rfl dX0_fewest_70 (⟨rfl, rfl⟩)

