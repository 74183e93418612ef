set_option maxHeartbeats 400000 in
set_option maxRecDepth 100000 in
theorem c_src0 (l : Launch) (E : En) (base aw : Nat) (S : Mm) (i n : Nat) (hm : MSh S i n) (hn : S.1 (1, i, 0) 3 = nI n) (j : Nat) (hj : j < n) (h : v_src S i j n = 0) : Cn l E base aw yX3_sourceOf cX3_sourceOf 5 (some (Jvm.ClassFile.FieldType.object "SlotHouse$Lane")) 1 0 0 noF S [vr (1, i, 0), vi (nI j)] (fun r S' => r = some vn ∧ S' = S) := by
  have hn8 := hm.n8
  by_cases hjn : j + 1 < n
  ·
    refine Cn.of (by decide) (Nat.le_of_ble_eq_true rfl) ?_
    intro X Y hl hE hbase haw hfr C B
    subst hl; subst hE; subst hbase; subst haw
    refine g_aload_n (pc := 0) C dX3_sourceOf_0 rfl ?_
    refine g_iload_n (pc := 1) C dX3_sourceOf_1 rfl ?_
    refine g_callV (pc := 2) C B mX3_43 (c_lN_t _ _ _ _ _ i n hm hn j (by omega)) rfl rfl rfl rfl (hm.1 0 (by decide)) (by decide) ⟨Nat.le_refl _, Nat.le_refl _⟩ (Nat.le_of_ble_eq_true rfl) dX3_sourceOf_2 (fun rr SS hP => ?_)
    rw [hP.1, hP.2]
    refine g_astore_n (pc := 5) C dX3_sourceOf_5 (by decide) ?_
    refine g_aload_n (pc := 6) C dX3_sourceOf_6 rfl ?_
    refine g_ifnull (pc := 7) C 17 dX3_sourceOf_7 (by decide) (fun h => by cases h) (fun _ _ => ?_)
    refine g_aload_n (pc := 10) C dX3_sourceOf_10 rfl ?_
    refine g_callV (pc := 11) C B mX3_47 (c_closed _ _ _ _ _ i j (hm.ln (by omega))) rfl rfl rfl rfl (hm.ln (by omega)) (by decide) ⟨Nat.le_refl _, Nat.le_refl _⟩ (Nat.le_of_ble_eq_true rfl) dX3_sourceOf_11 (fun rr SS hP => ?_)
    rw [hP.1, hP.2]
    refine g_if_eq (pc := 14) C 19 dX3_sourceOf_14 (by decide) (fun h14 => ?_) (fun h14 => ?_)
    ·
      refine g_aload_n (pc := 19) C dX3_sourceOf_19 rfl ?_
      refine g_geti (pc := 20) C fX3_50 rfl (hm.ln (by omega)) dX3_sourceOf_20 rfl ?_
      refine g_if_le (pc := 23) C 28 dX3_sourceOf_23 (by decide) (fun h23 => ?_) (fun h23 => ?_)
      ·
        refine g_aload_n (pc := 28) C dX3_sourceOf_28 rfl ?_
        refine g_geti (pc := 29) C fX3_53 rfl (hm.ln (by omega)) dX3_sourceOf_29 rfl ?_
        refine g_iconst (pc := 32) C 3 dX3_sourceOf_32 (by decide) ?_
        refine g_icmp_eq (pc := 33) C 38 dX3_sourceOf_33 (by decide) (fun h33 => ?_) (fun h33 => ?_)
        ·
          refine g_aload_n (pc := 38) C dX3_sourceOf_38 rfl ?_
          refine g_iload_n (pc := 39) C dX3_sourceOf_39 rfl ?_
          refine g_iconst (pc := 40) C 1 dX3_sourceOf_40 (by decide) ?_
          refine g_iadd (pc := 41) C dX3_sourceOf_41 ?_
          refine g_eqi (nI (j + 1)) (nI_add j 1) ?_
          refine g_callV (pc := 42) C B mX3_43 (c_lN_t _ _ _ _ _ i n hm hn (j + 1) (by omega)) rfl rfl rfl rfl (hm.1 0 (by decide)) (by decide) ⟨Nat.le_refl _, Nat.le_refl _⟩ (Nat.le_of_ble_eq_true rfl) dX3_sourceOf_42 (fun rr SS hP => ?_)
          rw [hP.1, hP.2]
          refine g_astore_n (pc := 45) C dX3_sourceOf_45 (by decide) ?_
          refine g_aload_n (pc := 46) C dX3_sourceOf_46 rfl ?_
          refine g_ifnull (pc := 47) C 79 dX3_sourceOf_47 (by decide) (fun h => by cases h) (fun _ _ => ?_)
          refine g_aload_n (pc := 50) C dX3_sourceOf_50 rfl ?_
          refine g_geti (pc := 51) C fX3_56 rfl (hm.ln (by omega)) dX3_sourceOf_51 rfl ?_
          refine g_aload_n (pc := 54) C dX3_sourceOf_54 rfl ?_
          refine g_geti (pc := 55) C fX3_56 rfl (hm.ln (by omega)) dX3_sourceOf_55 rfl ?_
          refine g_icmp_ne (pc := 58) C 79 dX3_sourceOf_58 (by decide) (fun h58 => ?_) (fun h58 => ?_)
          ·
            refine g_iconst (pc := 79) C 0 dX3_sourceOf_79 (by decide) ?_
            refine g_istore (pc := 80) C dX3_sourceOf_80 (by decide) ?_
            refine g_iload (pc := 82) C dX3_sourceOf_82 rfl ?_
            refine g_if_eq (pc := 84) C 91 dX3_sourceOf_84 (by decide) (fun _ => ?_) (fun h84 => absurd (by decide) h84)
            refine g_null (pc := 91) C dX3_sourceOf_91 ?_
            exact g_aret (pc := 92) C B (Or.inl ⟨_, rfl⟩) dX3_sourceOf_92 (⟨rfl, rfl⟩)
          ·
            refine g_aload_n (pc := 61) C dX3_sourceOf_61 rfl ?_
            refine g_geti (pc := 62) C fX3_50 rfl (hm.ln (by omega)) dX3_sourceOf_62 rfl ?_
            refine g_if_le (pc := 65) C 79 dX3_sourceOf_65 (by decide) (fun h65 => ?_) (fun h65 => ?_)
            ·
              refine g_iconst (pc := 79) C 0 dX3_sourceOf_79 (by decide) ?_
              refine g_istore (pc := 80) C dX3_sourceOf_80 (by decide) ?_
              refine g_iload (pc := 82) C dX3_sourceOf_82 rfl ?_
              refine g_if_eq (pc := 84) C 91 dX3_sourceOf_84 (by decide) (fun _ => ?_) (fun h84 => absurd (by decide) h84)
              refine g_null (pc := 91) C dX3_sourceOf_91 ?_
              exact g_aret (pc := 92) C B (Or.inl ⟨_, rfl⟩) dX3_sourceOf_92 (⟨rfl, rfl⟩)
            ·
              refine g_aload_n (pc := 68) C dX3_sourceOf_68 rfl ?_
              refine g_callV (pc := 69) C B mX3_47 (c_closed _ _ _ _ _ i (j + 1) (hm.ln (by omega))) rfl rfl rfl rfl (hm.ln (by omega)) (by decide) ⟨Nat.le_refl _, Nat.le_refl _⟩ (Nat.le_of_ble_eq_true rfl) dX3_sourceOf_69 (fun rr SS hP => ?_)
              rw [hP.1, hP.2]
              refine g_if_ne (pc := 72) C 79 dX3_sourceOf_72 (by decide) (fun h72 => ?_) (fun h72 => ?_)
              ·
                refine g_iconst (pc := 79) C 0 dX3_sourceOf_79 (by decide) ?_
                refine g_istore (pc := 80) C dX3_sourceOf_80 (by decide) ?_
                refine g_iload (pc := 82) C dX3_sourceOf_82 rfl ?_
                refine g_if_eq (pc := 84) C 91 dX3_sourceOf_84 (by decide) (fun _ => ?_) (fun h84 => absurd (by decide) h84)
                refine g_null (pc := 91) C dX3_sourceOf_91 ?_
                exact g_aret (pc := 92) C B (Or.inl ⟨_, rfl⟩) dX3_sourceOf_92 (⟨rfl, rfl⟩)
              ·
                refine g_iconst (pc := 75) C 1 dX3_sourceOf_75 (by decide) ?_
                refine g_goto (pc := 76) C 80 dX3_sourceOf_76 (by decide) ?_
                refine g_istore (pc := 80) C dX3_sourceOf_80 (by decide) ?_
                refine g_iload (pc := 82) C dX3_sourceOf_82 rfl ?_
                refine g_if_eq (pc := 84) C 91 dX3_sourceOf_84 (by decide) (fun h84 => absurd h84 (by decide)) (fun _ => ?_)
                refine g_aload_n (pc := 87) C dX3_sourceOf_87 rfl ?_
                refine g_goto (pc := 88) C 92 dX3_sourceOf_88 (by decide) ?_
                exact g_aret (pc := 92) C B (Or.inl ⟨_, rfl⟩) dX3_sourceOf_92 (absurd h (by unfold v_src; rw [if_pos h14, if_pos h23, if_pos h33, if_pos hjn, if_pos h58, if_neg h65, if_pos h72]; decide))
        ·
          refine g_null (pc := 36) C dX3_sourceOf_36 ?_
          exact g_aret (pc := 37) C B (Or.inl ⟨_, rfl⟩) dX3_sourceOf_37 (⟨rfl, rfl⟩)
      ·
        refine g_aload_n (pc := 26) C dX3_sourceOf_26 rfl ?_
        exact g_aret (pc := 27) C B (Or.inl ⟨_, rfl⟩) dX3_sourceOf_27 (absurd h (by unfold v_src; rw [if_pos h14, if_neg h23]; decide))
    ·
      refine g_null (pc := 17) C dX3_sourceOf_17 ?_
      exact g_aret (pc := 18) C B (Or.inl ⟨_, rfl⟩) dX3_sourceOf_18 (⟨rfl, rfl⟩)
  ·
    refine Cn.of (by decide) (Nat.le_of_ble_eq_true rfl) ?_
    intro X Y hl hE hbase haw hfr C B
    subst hl; subst hE; subst hbase; subst haw
    refine g_aload_n (pc := 0) C dX3_sourceOf_0 rfl ?_
    refine g_iload_n (pc := 1) C dX3_sourceOf_1 rfl ?_
    refine g_callV (pc := 2) C B mX3_43 (c_lN_t _ _ _ _ _ i n hm hn j (by omega)) rfl rfl rfl rfl (hm.1 0 (by decide)) (by decide) ⟨Nat.le_refl _, Nat.le_refl _⟩ (Nat.le_of_ble_eq_true rfl) dX3_sourceOf_2 (fun rr SS hP => ?_)
    rw [hP.1, hP.2]
    refine g_astore_n (pc := 5) C dX3_sourceOf_5 (by decide) ?_
    refine g_aload_n (pc := 6) C dX3_sourceOf_6 rfl ?_
    refine g_ifnull (pc := 7) C 17 dX3_sourceOf_7 (by decide) (fun h => by cases h) (fun _ _ => ?_)
    refine g_aload_n (pc := 10) C dX3_sourceOf_10 rfl ?_
    refine g_callV (pc := 11) C B mX3_47 (c_closed _ _ _ _ _ i j (hm.ln (by omega))) rfl rfl rfl rfl (hm.ln (by omega)) (by decide) ⟨Nat.le_refl _, Nat.le_refl _⟩ (Nat.le_of_ble_eq_true rfl) dX3_sourceOf_11 (fun rr SS hP => ?_)
    rw [hP.1, hP.2]
    refine g_if_eq (pc := 14) C 19 dX3_sourceOf_14 (by decide) (fun h14 => ?_) (fun h14 => ?_)
    ·
      refine g_aload_n (pc := 19) C dX3_sourceOf_19 rfl ?_
      refine g_geti (pc := 20) C fX3_50 rfl (hm.ln (by omega)) dX3_sourceOf_20 rfl ?_
      refine g_if_le (pc := 23) C 28 dX3_sourceOf_23 (by decide) (fun h23 => ?_) (fun h23 => ?_)
      ·
        refine g_aload_n (pc := 28) C dX3_sourceOf_28 rfl ?_
        refine g_geti (pc := 29) C fX3_53 rfl (hm.ln (by omega)) dX3_sourceOf_29 rfl ?_
        refine g_iconst (pc := 32) C 3 dX3_sourceOf_32 (by decide) ?_
        refine g_icmp_eq (pc := 33) C 38 dX3_sourceOf_33 (by decide) (fun h33 => ?_) (fun h33 => ?_)
        ·
          refine g_aload_n (pc := 38) C dX3_sourceOf_38 rfl ?_
          refine g_iload_n (pc := 39) C dX3_sourceOf_39 rfl ?_
          refine g_iconst (pc := 40) C 1 dX3_sourceOf_40 (by decide) ?_
          refine g_iadd (pc := 41) C dX3_sourceOf_41 ?_
          refine g_eqi (nI (j + 1)) (nI_add j 1) ?_
          refine g_callV (pc := 42) C B mX3_43 (c_lN_f _ _ _ _ _ i n hm hn (nI (j + 1)) (fun ⟨q, h1, h2⟩ => hjn (by have := (nI_eq (a := j + 1) (b := q) (by omega) (by omega)).mp h2; omega))) rfl rfl rfl rfl (hm.1 0 (by decide)) (by decide) ⟨Nat.le_refl _, Nat.le_refl _⟩ (Nat.le_of_ble_eq_true rfl) dX3_sourceOf_42 (fun rr SS hP => ?_)
          rw [hP.1, hP.2]
          refine g_astore_n (pc := 45) C dX3_sourceOf_45 (by decide) ?_
          refine g_aload_n (pc := 46) C dX3_sourceOf_46 rfl ?_
          refine g_ifnull (pc := 47) C 79 dX3_sourceOf_47 (by decide) (fun _ => ?_) (fun _ h => by cases h)
          refine g_iconst (pc := 79) C 0 dX3_sourceOf_79 (by decide) ?_
          refine g_istore (pc := 80) C dX3_sourceOf_80 (by decide) ?_
          refine g_iload (pc := 82) C dX3_sourceOf_82 rfl ?_
          refine g_if_eq (pc := 84) C 91 dX3_sourceOf_84 (by decide) (fun _ => ?_) (fun h84 => absurd (by decide) h84)
          refine g_null (pc := 91) C dX3_sourceOf_91 ?_
          exact g_aret (pc := 92) C B (Or.inl ⟨_, rfl⟩) dX3_sourceOf_92 (⟨rfl, rfl⟩)
        ·
          refine g_null (pc := 36) C dX3_sourceOf_36 ?_
          exact g_aret (pc := 37) C B (Or.inl ⟨_, rfl⟩) dX3_sourceOf_37 (⟨rfl, rfl⟩)
      ·
        refine g_aload_n (pc := 26) C dX3_sourceOf_26 rfl ?_
        exact g_aret (pc := 27) C B (Or.inl ⟨_, rfl⟩) dX3_sourceOf_27 (absurd h (by unfold v_src; rw [if_pos h14, if_neg h23]; decide))
    ·
      refine g_null (pc := 17) C dX3_sourceOf_17 ?_
      exact g_aret (pc := 18) C B (Or.inl ⟨_, rfl⟩) dX3_sourceOf_18 (⟨rfl, rfl⟩)

set_option maxHeartbeats 400000 in
set_option maxRecDepth 100000 in
theorem c_src1 (l : Launch) (E : En) (base aw : Nat) (S : Mm) (i n : Nat) (hm : MSh S i n) (hn : S.1 (1, i, 0) 3 = nI n) (j : Nat) (hj : j < n) (h : v_src S i j n = 1) : Cn l E base aw yX3_sourceOf cX3_sourceOf 5 (some (Jvm.ClassFile.FieldType.object "SlotHouse$Lane")) 1 0 0 noF S [vr (1, i, 0), vi (nI j)] (fun r S' => r = some (vr (3, i, j)) ∧ S' = S) := by
  have hn8 := hm.n8
  by_cases hjn : j + 1 < n
  ·
    refine Cn.of (by decide) (Nat.le_of_ble_eq_true rfl) ?_
    intro X Y hl hE hbase haw hfr C B
    subst hl; subst hE; subst hbase; subst haw
    refine g_aload_n (pc := 0) C dX3_sourceOf_0 rfl ?_
    refine g_iload_n (pc := 1) C dX3_sourceOf_1 rfl ?_
    refine g_callV (pc := 2) C B mX3_43 (c_lN_t _ _ _ _ _ i n hm hn j (by omega)) rfl rfl rfl rfl (hm.1 0 (by decide)) (by decide) ⟨Nat.le_refl _, Nat.le_refl _⟩ (Nat.le_of_ble_eq_true rfl) dX3_sourceOf_2 (fun rr SS hP => ?_)
    rw [hP.1, hP.2]
    refine g_astore_n (pc := 5) C dX3_sourceOf_5 (by decide) ?_
    refine g_aload_n (pc := 6) C dX3_sourceOf_6 rfl ?_
    refine g_ifnull (pc := 7) C 17 dX3_sourceOf_7 (by decide) (fun h => by cases h) (fun _ _ => ?_)
    refine g_aload_n (pc := 10) C dX3_sourceOf_10 rfl ?_
    refine g_callV (pc := 11) C B mX3_47 (c_closed _ _ _ _ _ i j (hm.ln (by omega))) rfl rfl rfl rfl (hm.ln (by omega)) (by decide) ⟨Nat.le_refl _, Nat.le_refl _⟩ (Nat.le_of_ble_eq_true rfl) dX3_sourceOf_11 (fun rr SS hP => ?_)
    rw [hP.1, hP.2]
    refine g_if_eq (pc := 14) C 19 dX3_sourceOf_14 (by decide) (fun h14 => ?_) (fun h14 => ?_)
    ·
      refine g_aload_n (pc := 19) C dX3_sourceOf_19 rfl ?_
      refine g_geti (pc := 20) C fX3_50 rfl (hm.ln (by omega)) dX3_sourceOf_20 rfl ?_
      refine g_if_le (pc := 23) C 28 dX3_sourceOf_23 (by decide) (fun h23 => ?_) (fun h23 => ?_)
      ·
        refine g_aload_n (pc := 28) C dX3_sourceOf_28 rfl ?_
        refine g_geti (pc := 29) C fX3_53 rfl (hm.ln (by omega)) dX3_sourceOf_29 rfl ?_
        refine g_iconst (pc := 32) C 3 dX3_sourceOf_32 (by decide) ?_
        refine g_icmp_eq (pc := 33) C 38 dX3_sourceOf_33 (by decide) (fun h33 => ?_) (fun h33 => ?_)
        ·
          refine g_aload_n (pc := 38) C dX3_sourceOf_38 rfl ?_
          refine g_iload_n (pc := 39) C dX3_sourceOf_39 rfl ?_
          refine g_iconst (pc := 40) C 1 dX3_sourceOf_40 (by decide) ?_
          refine g_iadd (pc := 41) C dX3_sourceOf_41 ?_
          refine g_eqi (nI (j + 1)) (nI_add j 1) ?_
          refine g_callV (pc := 42) C B mX3_43 (c_lN_t _ _ _ _ _ i n hm hn (j + 1) (by omega)) rfl rfl rfl rfl (hm.1 0 (by decide)) (by decide) ⟨Nat.le_refl _, Nat.le_refl _⟩ (Nat.le_of_ble_eq_true rfl) dX3_sourceOf_42 (fun rr SS hP => ?_)
          rw [hP.1, hP.2]
          refine g_astore_n (pc := 45) C dX3_sourceOf_45 (by decide) ?_
          refine g_aload_n (pc := 46) C dX3_sourceOf_46 rfl ?_
          refine g_ifnull (pc := 47) C 79 dX3_sourceOf_47 (by decide) (fun h => by cases h) (fun _ _ => ?_)
          refine g_aload_n (pc := 50) C dX3_sourceOf_50 rfl ?_
          refine g_geti (pc := 51) C fX3_56 rfl (hm.ln (by omega)) dX3_sourceOf_51 rfl ?_
          refine g_aload_n (pc := 54) C dX3_sourceOf_54 rfl ?_
          refine g_geti (pc := 55) C fX3_56 rfl (hm.ln (by omega)) dX3_sourceOf_55 rfl ?_
          refine g_icmp_ne (pc := 58) C 79 dX3_sourceOf_58 (by decide) (fun h58 => ?_) (fun h58 => ?_)
          ·
            refine g_iconst (pc := 79) C 0 dX3_sourceOf_79 (by decide) ?_
            refine g_istore (pc := 80) C dX3_sourceOf_80 (by decide) ?_
            refine g_iload (pc := 82) C dX3_sourceOf_82 rfl ?_
            refine g_if_eq (pc := 84) C 91 dX3_sourceOf_84 (by decide) (fun _ => ?_) (fun h84 => absurd (by decide) h84)
            refine g_null (pc := 91) C dX3_sourceOf_91 ?_
            exact g_aret (pc := 92) C B (Or.inl ⟨_, rfl⟩) dX3_sourceOf_92 (absurd h (by unfold v_src; rw [if_pos h14, if_pos h23, if_pos h33, if_pos hjn, if_neg h58]; decide))
          ·
            refine g_aload_n (pc := 61) C dX3_sourceOf_61 rfl ?_
            refine g_geti (pc := 62) C fX3_50 rfl (hm.ln (by omega)) dX3_sourceOf_62 rfl ?_
            refine g_if_le (pc := 65) C 79 dX3_sourceOf_65 (by decide) (fun h65 => ?_) (fun h65 => ?_)
            ·
              refine g_iconst (pc := 79) C 0 dX3_sourceOf_79 (by decide) ?_
              refine g_istore (pc := 80) C dX3_sourceOf_80 (by decide) ?_
              refine g_iload (pc := 82) C dX3_sourceOf_82 rfl ?_
              refine g_if_eq (pc := 84) C 91 dX3_sourceOf_84 (by decide) (fun _ => ?_) (fun h84 => absurd (by decide) h84)
              refine g_null (pc := 91) C dX3_sourceOf_91 ?_
              exact g_aret (pc := 92) C B (Or.inl ⟨_, rfl⟩) dX3_sourceOf_92 (absurd h (by unfold v_src; rw [if_pos h14, if_pos h23, if_pos h33, if_pos hjn, if_pos h58, if_pos h65]; decide))
            ·
              refine g_aload_n (pc := 68) C dX3_sourceOf_68 rfl ?_
              refine g_callV (pc := 69) C B mX3_47 (c_closed _ _ _ _ _ i (j + 1) (hm.ln (by omega))) rfl rfl rfl rfl (hm.ln (by omega)) (by decide) ⟨Nat.le_refl _, Nat.le_refl _⟩ (Nat.le_of_ble_eq_true rfl) dX3_sourceOf_69 (fun rr SS hP => ?_)
              rw [hP.1, hP.2]
              refine g_if_ne (pc := 72) C 79 dX3_sourceOf_72 (by decide) (fun h72 => ?_) (fun h72 => ?_)
              ·
                refine g_iconst (pc := 79) C 0 dX3_sourceOf_79 (by decide) ?_
                refine g_istore (pc := 80) C dX3_sourceOf_80 (by decide) ?_
                refine g_iload (pc := 82) C dX3_sourceOf_82 rfl ?_
                refine g_if_eq (pc := 84) C 91 dX3_sourceOf_84 (by decide) (fun _ => ?_) (fun h84 => absurd (by decide) h84)
                refine g_null (pc := 91) C dX3_sourceOf_91 ?_
                exact g_aret (pc := 92) C B (Or.inl ⟨_, rfl⟩) dX3_sourceOf_92 (absurd h (by unfold v_src; rw [if_pos h14, if_pos h23, if_pos h33, if_pos hjn, if_pos h58, if_neg h65, if_neg h72]; decide))
              ·
                refine g_iconst (pc := 75) C 1 dX3_sourceOf_75 (by decide) ?_
                refine g_goto (pc := 76) C 80 dX3_sourceOf_76 (by decide) ?_
                refine g_istore (pc := 80) C dX3_sourceOf_80 (by decide) ?_
                refine g_iload (pc := 82) C dX3_sourceOf_82 rfl ?_
                refine g_if_eq (pc := 84) C 91 dX3_sourceOf_84 (by decide) (fun h84 => absurd h84 (by decide)) (fun _ => ?_)
                refine g_aload_n (pc := 87) C dX3_sourceOf_87 rfl ?_
                refine g_goto (pc := 88) C 92 dX3_sourceOf_88 (by decide) ?_
                exact g_aret (pc := 92) C B (Or.inl ⟨_, rfl⟩) dX3_sourceOf_92 (absurd h (by unfold v_src; rw [if_pos h14, if_pos h23, if_pos h33, if_pos hjn, if_pos h58, if_neg h65, if_pos h72]; decide))
        ·
          refine g_null (pc := 36) C dX3_sourceOf_36 ?_
          exact g_aret (pc := 37) C B (Or.inl ⟨_, rfl⟩) dX3_sourceOf_37 (absurd h (by unfold v_src; rw [if_pos h14, if_pos h23, if_neg h33]; decide))
      ·
        refine g_aload_n (pc := 26) C dX3_sourceOf_26 rfl ?_
        exact g_aret (pc := 27) C B (Or.inl ⟨_, rfl⟩) dX3_sourceOf_27 (⟨rfl, rfl⟩)
    ·
      refine g_null (pc := 17) C dX3_sourceOf_17 ?_
      exact g_aret (pc := 18) C B (Or.inl ⟨_, rfl⟩) dX3_sourceOf_18 (absurd h (by unfold v_src; rw [if_neg h14]; decide))
  ·
    refine Cn.of (by decide) (Nat.le_of_ble_eq_true rfl) ?_
    intro X Y hl hE hbase haw hfr C B
    subst hl; subst hE; subst hbase; subst haw
    refine g_aload_n (pc := 0) C dX3_sourceOf_0 rfl ?_
    refine g_iload_n (pc := 1) C dX3_sourceOf_1 rfl ?_
    refine g_callV (pc := 2) C B mX3_43 (c_lN_t _ _ _ _ _ i n hm hn j (by omega)) rfl rfl rfl rfl (hm.1 0 (by decide)) (by decide) ⟨Nat.le_refl _, Nat.le_refl _⟩ (Nat.le_of_ble_eq_true rfl) dX3_sourceOf_2 (fun rr SS hP => ?_)
    rw [hP.1, hP.2]
    refine g_astore_n (pc := 5) C dX3_sourceOf_5 (by decide) ?_
    refine g_aload_n (pc := 6) C dX3_sourceOf_6 rfl ?_
    refine g_ifnull (pc := 7) C 17 dX3_sourceOf_7 (by decide) (fun h => by cases h) (fun _ _ => ?_)
    refine g_aload_n (pc := 10) C dX3_sourceOf_10 rfl ?_
    refine g_callV (pc := 11) C B mX3_47 (c_closed _ _ _ _ _ i j (hm.ln (by omega))) rfl rfl rfl rfl (hm.ln (by omega)) (by decide) ⟨Nat.le_refl _, Nat.le_refl _⟩ (Nat.le_of_ble_eq_true rfl) dX3_sourceOf_11 (fun rr SS hP => ?_)
    rw [hP.1, hP.2]
    refine g_if_eq (pc := 14) C 19 dX3_sourceOf_14 (by decide) (fun h14 => ?_) (fun h14 => ?_)
    ·
      refine g_aload_n (pc := 19) C dX3_sourceOf_19 rfl ?_
      refine g_geti (pc := 20) C fX3_50 rfl (hm.ln (by omega)) dX3_sourceOf_20 rfl ?_
      refine g_if_le (pc := 23) C 28 dX3_sourceOf_23 (by decide) (fun h23 => ?_) (fun h23 => ?_)
      ·
        refine g_aload_n (pc := 28) C dX3_sourceOf_28 rfl ?_
        refine g_geti (pc := 29) C fX3_53 rfl (hm.ln (by omega)) dX3_sourceOf_29 rfl ?_
        refine g_iconst (pc := 32) C 3 dX3_sourceOf_32 (by decide) ?_
        refine g_icmp_eq (pc := 33) C 38 dX3_sourceOf_33 (by decide) (fun h33 => ?_) (fun h33 => ?_)
        ·
          refine g_aload_n (pc := 38) C dX3_sourceOf_38 rfl ?_
          refine g_iload_n (pc := 39) C dX3_sourceOf_39 rfl ?_
          refine g_iconst (pc := 40) C 1 dX3_sourceOf_40 (by decide) ?_
          refine g_iadd (pc := 41) C dX3_sourceOf_41 ?_
          refine g_eqi (nI (j + 1)) (nI_add j 1) ?_
          refine g_callV (pc := 42) C B mX3_43 (c_lN_f _ _ _ _ _ i n hm hn (nI (j + 1)) (fun ⟨q, h1, h2⟩ => hjn (by have := (nI_eq (a := j + 1) (b := q) (by omega) (by omega)).mp h2; omega))) rfl rfl rfl rfl (hm.1 0 (by decide)) (by decide) ⟨Nat.le_refl _, Nat.le_refl _⟩ (Nat.le_of_ble_eq_true rfl) dX3_sourceOf_42 (fun rr SS hP => ?_)
          rw [hP.1, hP.2]
          refine g_astore_n (pc := 45) C dX3_sourceOf_45 (by decide) ?_
          refine g_aload_n (pc := 46) C dX3_sourceOf_46 rfl ?_
          refine g_ifnull (pc := 47) C 79 dX3_sourceOf_47 (by decide) (fun _ => ?_) (fun _ h => by cases h)
          refine g_iconst (pc := 79) C 0 dX3_sourceOf_79 (by decide) ?_
          refine g_istore (pc := 80) C dX3_sourceOf_80 (by decide) ?_
          refine g_iload (pc := 82) C dX3_sourceOf_82 rfl ?_
          refine g_if_eq (pc := 84) C 91 dX3_sourceOf_84 (by decide) (fun _ => ?_) (fun h84 => absurd (by decide) h84)
          refine g_null (pc := 91) C dX3_sourceOf_91 ?_
          exact g_aret (pc := 92) C B (Or.inl ⟨_, rfl⟩) dX3_sourceOf_92 (absurd h (by unfold v_src; rw [if_pos h14, if_pos h23, if_pos h33, if_neg hjn]; decide))
        ·
          refine g_null (pc := 36) C dX3_sourceOf_36 ?_
          exact g_aret (pc := 37) C B (Or.inl ⟨_, rfl⟩) dX3_sourceOf_37 (absurd h (by unfold v_src; rw [if_pos h14, if_pos h23, if_neg h33]; decide))
      ·
        refine g_aload_n (pc := 26) C dX3_sourceOf_26 rfl ?_
        exact g_aret (pc := 27) C B (Or.inl ⟨_, rfl⟩) dX3_sourceOf_27 (⟨rfl, rfl⟩)
    ·
      refine g_null (pc := 17) C dX3_sourceOf_17 ?_
      exact g_aret (pc := 18) C B (Or.inl ⟨_, rfl⟩) dX3_sourceOf_18 (absurd h (by unfold v_src; rw [if_neg h14]; decide))

set_option maxHeartbeats 400000 in
set_option maxRecDepth 100000 in
theorem c_src2 (l : Launch) (E : En) (base aw : Nat) (S : Mm) (i n : Nat) (hm : MSh S i n) (hn : S.1 (1, i, 0) 3 = nI n) (j : Nat) (hj : j < n) (h : v_src S i j n = 2) : Cn l E base aw yX3_sourceOf cX3_sourceOf 5 (some (Jvm.ClassFile.FieldType.object "SlotHouse$Lane")) 1 0 0 noF S [vr (1, i, 0), vi (nI j)] (fun r S' => r = some (vr (3, i, j + 1)) ∧ S' = S) := by
  have hn8 := hm.n8
  by_cases hjn : j + 1 < n
  ·
    refine Cn.of (by decide) (Nat.le_of_ble_eq_true rfl) ?_
    intro X Y hl hE hbase haw hfr C B
    subst hl; subst hE; subst hbase; subst haw
    refine g_aload_n (pc := 0) C dX3_sourceOf_0 rfl ?_
    refine g_iload_n (pc := 1) C dX3_sourceOf_1 rfl ?_
    refine g_callV (pc := 2) C B mX3_43 (c_lN_t _ _ _ _ _ i n hm hn j (by omega)) rfl rfl rfl rfl (hm.1 0 (by decide)) (by decide) ⟨Nat.le_refl _, Nat.le_refl _⟩ (Nat.le_of_ble_eq_true rfl) dX3_sourceOf_2 (fun rr SS hP => ?_)
    rw [hP.1, hP.2]
    refine g_astore_n (pc := 5) C dX3_sourceOf_5 (by decide) ?_
    refine g_aload_n (pc := 6) C dX3_sourceOf_6 rfl ?_
    refine g_ifnull (pc := 7) C 17 dX3_sourceOf_7 (by decide) (fun h => by cases h) (fun _ _ => ?_)
    refine g_aload_n (pc := 10) C dX3_sourceOf_10 rfl ?_
    refine g_callV (pc := 11) C B mX3_47 (c_closed _ _ _ _ _ i j (hm.ln (by omega))) rfl rfl rfl rfl (hm.ln (by omega)) (by decide) ⟨Nat.le_refl _, Nat.le_refl _⟩ (Nat.le_of_ble_eq_true rfl) dX3_sourceOf_11 (fun rr SS hP => ?_)
    rw [hP.1, hP.2]
    refine g_if_eq (pc := 14) C 19 dX3_sourceOf_14 (by decide) (fun h14 => ?_) (fun h14 => ?_)
    ·
      refine g_aload_n (pc := 19) C dX3_sourceOf_19 rfl ?_
      refine g_geti (pc := 20) C fX3_50 rfl (hm.ln (by omega)) dX3_sourceOf_20 rfl ?_
      refine g_if_le (pc := 23) C 28 dX3_sourceOf_23 (by decide) (fun h23 => ?_) (fun h23 => ?_)
      ·
        refine g_aload_n (pc := 28) C dX3_sourceOf_28 rfl ?_
        refine g_geti (pc := 29) C fX3_53 rfl (hm.ln (by omega)) dX3_sourceOf_29 rfl ?_
        refine g_iconst (pc := 32) C 3 dX3_sourceOf_32 (by decide) ?_
        refine g_icmp_eq (pc := 33) C 38 dX3_sourceOf_33 (by decide) (fun h33 => ?_) (fun h33 => ?_)
        ·
          refine g_aload_n (pc := 38) C dX3_sourceOf_38 rfl ?_
          refine g_iload_n (pc := 39) C dX3_sourceOf_39 rfl ?_
          refine g_iconst (pc := 40) C 1 dX3_sourceOf_40 (by decide) ?_
          refine g_iadd (pc := 41) C dX3_sourceOf_41 ?_
          refine g_eqi (nI (j + 1)) (nI_add j 1) ?_
          refine g_callV (pc := 42) C B mX3_43 (c_lN_t _ _ _ _ _ i n hm hn (j + 1) (by omega)) rfl rfl rfl rfl (hm.1 0 (by decide)) (by decide) ⟨Nat.le_refl _, Nat.le_refl _⟩ (Nat.le_of_ble_eq_true rfl) dX3_sourceOf_42 (fun rr SS hP => ?_)
          rw [hP.1, hP.2]
          refine g_astore_n (pc := 45) C dX3_sourceOf_45 (by decide) ?_
          refine g_aload_n (pc := 46) C dX3_sourceOf_46 rfl ?_
          refine g_ifnull (pc := 47) C 79 dX3_sourceOf_47 (by decide) (fun h => by cases h) (fun _ _ => ?_)
          refine g_aload_n (pc := 50) C dX3_sourceOf_50 rfl ?_
          refine g_geti (pc := 51) C fX3_56 rfl (hm.ln (by omega)) dX3_sourceOf_51 rfl ?_
          refine g_aload_n (pc := 54) C dX3_sourceOf_54 rfl ?_
          refine g_geti (pc := 55) C fX3_56 rfl (hm.ln (by omega)) dX3_sourceOf_55 rfl ?_
          refine g_icmp_ne (pc := 58) C 79 dX3_sourceOf_58 (by decide) (fun h58 => ?_) (fun h58 => ?_)
          ·
            refine g_iconst (pc := 79) C 0 dX3_sourceOf_79 (by decide) ?_
            refine g_istore (pc := 80) C dX3_sourceOf_80 (by decide) ?_
            refine g_iload (pc := 82) C dX3_sourceOf_82 rfl ?_
            refine g_if_eq (pc := 84) C 91 dX3_sourceOf_84 (by decide) (fun _ => ?_) (fun h84 => absurd (by decide) h84)
            refine g_null (pc := 91) C dX3_sourceOf_91 ?_
            exact g_aret (pc := 92) C B (Or.inl ⟨_, rfl⟩) dX3_sourceOf_92 (absurd h (by unfold v_src; rw [if_pos h14, if_pos h23, if_pos h33, if_pos hjn, if_neg h58]; decide))
          ·
            refine g_aload_n (pc := 61) C dX3_sourceOf_61 rfl ?_
            refine g_geti (pc := 62) C fX3_50 rfl (hm.ln (by omega)) dX3_sourceOf_62 rfl ?_
            refine g_if_le (pc := 65) C 79 dX3_sourceOf_65 (by decide) (fun h65 => ?_) (fun h65 => ?_)
            ·
              refine g_iconst (pc := 79) C 0 dX3_sourceOf_79 (by decide) ?_
              refine g_istore (pc := 80) C dX3_sourceOf_80 (by decide) ?_
              refine g_iload (pc := 82) C dX3_sourceOf_82 rfl ?_
              refine g_if_eq (pc := 84) C 91 dX3_sourceOf_84 (by decide) (fun _ => ?_) (fun h84 => absurd (by decide) h84)
              refine g_null (pc := 91) C dX3_sourceOf_91 ?_
              exact g_aret (pc := 92) C B (Or.inl ⟨_, rfl⟩) dX3_sourceOf_92 (absurd h (by unfold v_src; rw [if_pos h14, if_pos h23, if_pos h33, if_pos hjn, if_pos h58, if_pos h65]; decide))
            ·
              refine g_aload_n (pc := 68) C dX3_sourceOf_68 rfl ?_
              refine g_callV (pc := 69) C B mX3_47 (c_closed _ _ _ _ _ i (j + 1) (hm.ln (by omega))) rfl rfl rfl rfl (hm.ln (by omega)) (by decide) ⟨Nat.le_refl _, Nat.le_refl _⟩ (Nat.le_of_ble_eq_true rfl) dX3_sourceOf_69 (fun rr SS hP => ?_)
              rw [hP.1, hP.2]
              refine g_if_ne (pc := 72) C 79 dX3_sourceOf_72 (by decide) (fun h72 => ?_) (fun h72 => ?_)
              ·
                refine g_iconst (pc := 79) C 0 dX3_sourceOf_79 (by decide) ?_
                refine g_istore (pc := 80) C dX3_sourceOf_80 (by decide) ?_
                refine g_iload (pc := 82) C dX3_sourceOf_82 rfl ?_
                refine g_if_eq (pc := 84) C 91 dX3_sourceOf_84 (by decide) (fun _ => ?_) (fun h84 => absurd (by decide) h84)
                refine g_null (pc := 91) C dX3_sourceOf_91 ?_
                exact g_aret (pc := 92) C B (Or.inl ⟨_, rfl⟩) dX3_sourceOf_92 (absurd h (by unfold v_src; rw [if_pos h14, if_pos h23, if_pos h33, if_pos hjn, if_pos h58, if_neg h65, if_neg h72]; decide))
              ·
                refine g_iconst (pc := 75) C 1 dX3_sourceOf_75 (by decide) ?_
                refine g_goto (pc := 76) C 80 dX3_sourceOf_76 (by decide) ?_
                refine g_istore (pc := 80) C dX3_sourceOf_80 (by decide) ?_
                refine g_iload (pc := 82) C dX3_sourceOf_82 rfl ?_
                refine g_if_eq (pc := 84) C 91 dX3_sourceOf_84 (by decide) (fun h84 => absurd h84 (by decide)) (fun _ => ?_)
                refine g_aload_n (pc := 87) C dX3_sourceOf_87 rfl ?_
                refine g_goto (pc := 88) C 92 dX3_sourceOf_88 (by decide) ?_
                exact g_aret (pc := 92) C B (Or.inl ⟨_, rfl⟩) dX3_sourceOf_92 (⟨rfl, rfl⟩)
        ·
          refine g_null (pc := 36) C dX3_sourceOf_36 ?_
          exact g_aret (pc := 37) C B (Or.inl ⟨_, rfl⟩) dX3_sourceOf_37 (absurd h (by unfold v_src; rw [if_pos h14, if_pos h23, if_neg h33]; decide))
      ·
        refine g_aload_n (pc := 26) C dX3_sourceOf_26 rfl ?_
        exact g_aret (pc := 27) C B (Or.inl ⟨_, rfl⟩) dX3_sourceOf_27 (absurd h (by unfold v_src; rw [if_pos h14, if_neg h23]; decide))
    ·
      refine g_null (pc := 17) C dX3_sourceOf_17 ?_
      exact g_aret (pc := 18) C B (Or.inl ⟨_, rfl⟩) dX3_sourceOf_18 (absurd h (by unfold v_src; rw [if_neg h14]; decide))
  ·
    refine Cn.of (by decide) (Nat.le_of_ble_eq_true rfl) ?_
    intro X Y hl hE hbase haw hfr C B
    subst hl; subst hE; subst hbase; subst haw
    refine g_aload_n (pc := 0) C dX3_sourceOf_0 rfl ?_
    refine g_iload_n (pc := 1) C dX3_sourceOf_1 rfl ?_
    refine g_callV (pc := 2) C B mX3_43 (c_lN_t _ _ _ _ _ i n hm hn j (by omega)) rfl rfl rfl rfl (hm.1 0 (by decide)) (by decide) ⟨Nat.le_refl _, Nat.le_refl _⟩ (Nat.le_of_ble_eq_true rfl) dX3_sourceOf_2 (fun rr SS hP => ?_)
    rw [hP.1, hP.2]
    refine g_astore_n (pc := 5) C dX3_sourceOf_5 (by decide) ?_
    refine g_aload_n (pc := 6) C dX3_sourceOf_6 rfl ?_
    refine g_ifnull (pc := 7) C 17 dX3_sourceOf_7 (by decide) (fun h => by cases h) (fun _ _ => ?_)
    refine g_aload_n (pc := 10) C dX3_sourceOf_10 rfl ?_
    refine g_callV (pc := 11) C B mX3_47 (c_closed _ _ _ _ _ i j (hm.ln (by omega))) rfl rfl rfl rfl (hm.ln (by omega)) (by decide) ⟨Nat.le_refl _, Nat.le_refl _⟩ (Nat.le_of_ble_eq_true rfl) dX3_sourceOf_11 (fun rr SS hP => ?_)
    rw [hP.1, hP.2]
    refine g_if_eq (pc := 14) C 19 dX3_sourceOf_14 (by decide) (fun h14 => ?_) (fun h14 => ?_)
    ·
      refine g_aload_n (pc := 19) C dX3_sourceOf_19 rfl ?_
      refine g_geti (pc := 20) C fX3_50 rfl (hm.ln (by omega)) dX3_sourceOf_20 rfl ?_
      refine g_if_le (pc := 23) C 28 dX3_sourceOf_23 (by decide) (fun h23 => ?_) (fun h23 => ?_)
      ·
        refine g_aload_n (pc := 28) C dX3_sourceOf_28 rfl ?_
        refine g_geti (pc := 29) C fX3_53 rfl (hm.ln (by omega)) dX3_sourceOf_29 rfl ?_
        refine g_iconst (pc := 32) C 3 dX3_sourceOf_32 (by decide) ?_
        refine g_icmp_eq (pc := 33) C 38 dX3_sourceOf_33 (by decide) (fun h33 => ?_) (fun h33 => ?_)
        ·
          refine g_aload_n (pc := 38) C dX3_sourceOf_38 rfl ?_
          refine g_iload_n (pc := 39) C dX3_sourceOf_39 rfl ?_
          refine g_iconst (pc := 40) C 1 dX3_sourceOf_40 (by decide) ?_
          refine g_iadd (pc := 41) C dX3_sourceOf_41 ?_
          refine g_eqi (nI (j + 1)) (nI_add j 1) ?_
          refine g_callV (pc := 42) C B mX3_43 (c_lN_f _ _ _ _ _ i n hm hn (nI (j + 1)) (fun ⟨q, h1, h2⟩ => hjn (by have := (nI_eq (a := j + 1) (b := q) (by omega) (by omega)).mp h2; omega))) rfl rfl rfl rfl (hm.1 0 (by decide)) (by decide) ⟨Nat.le_refl _, Nat.le_refl _⟩ (Nat.le_of_ble_eq_true rfl) dX3_sourceOf_42 (fun rr SS hP => ?_)
          rw [hP.1, hP.2]
          refine g_astore_n (pc := 45) C dX3_sourceOf_45 (by decide) ?_
          refine g_aload_n (pc := 46) C dX3_sourceOf_46 rfl ?_
          refine g_ifnull (pc := 47) C 79 dX3_sourceOf_47 (by decide) (fun _ => ?_) (fun _ h => by cases h)
          refine g_iconst (pc := 79) C 0 dX3_sourceOf_79 (by decide) ?_
          refine g_istore (pc := 80) C dX3_sourceOf_80 (by decide) ?_
          refine g_iload (pc := 82) C dX3_sourceOf_82 rfl ?_
          refine g_if_eq (pc := 84) C 91 dX3_sourceOf_84 (by decide) (fun _ => ?_) (fun h84 => absurd (by decide) h84)
          refine g_null (pc := 91) C dX3_sourceOf_91 ?_
          exact g_aret (pc := 92) C B (Or.inl ⟨_, rfl⟩) dX3_sourceOf_92 (absurd h (by unfold v_src; rw [if_pos h14, if_pos h23, if_pos h33, if_neg hjn]; decide))
        ·
          refine g_null (pc := 36) C dX3_sourceOf_36 ?_
          exact g_aret (pc := 37) C B (Or.inl ⟨_, rfl⟩) dX3_sourceOf_37 (absurd h (by unfold v_src; rw [if_pos h14, if_pos h23, if_neg h33]; decide))
      ·
        refine g_aload_n (pc := 26) C dX3_sourceOf_26 rfl ?_
        exact g_aret (pc := 27) C B (Or.inl ⟨_, rfl⟩) dX3_sourceOf_27 (absurd h (by unfold v_src; rw [if_pos h14, if_neg h23]; decide))
    ·
      refine g_null (pc := 17) C dX3_sourceOf_17 ?_
      exact g_aret (pc := 18) C B (Or.inl ⟨_, rfl⟩) dX3_sourceOf_18 (absurd h (by unfold v_src; rw [if_neg h14]; decide))

set_option maxHeartbeats 400000 in
set_option maxRecDepth 100000 in
theorem lp_stockOf {X : Xt} {Y : Yt} {P : Option AV → Mm → Prop} {nm : String}  (C : Cx X Y cX3_stockOf 5 RX3) (B : Bx X Y nm (some Jvm.ClassFile.FieldType.int) 1 0 0 P) {S : Mm} {i n : Nat} (hm : MSh S i n) (hn : S.1 (1, i, 0) 3 = nI n) {g : Int32} (K : G X Y 0 0 S 47 [(0, vr (1, i, 0)), (1, vi (g)), (2, vi (stX S i g n)), (3, vi (nI n))] []) : ∀ n9 w, w + n9 = n → G X Y 0 0 S 4 [(0, vr (1, i, 0)), (1, vi (g)), (2, vi (stX S i g w)), (3, vi (nI w))] [] := by
  intro n9
  induction n9 with
  | zero =>
    intro w hw
    have e : n = w := by omega
    subst e
    have hn8 := hm.n8
    refine g_iload_n (pc := 4) C dX3_stockOf_4 rfl ?_
    refine g_aload_n (pc := 5) C dX3_stockOf_5 rfl ?_
    refine g_geti (pc := 6) C fX3_35 rfl (hm.1 0 (by decide)) dX3_stockOf_6 rfl ?_
    refine g_eqi (nI n) hn ?_
    refine g_icmp_ge (pc := 9) C 47 dX3_stockOf_9 (by decide) (fun _ => ?_) (fun h9 => absurd ((nI_leI (a := n) (b := n) (by omega) (by omega)).mpr (by omega)) h9)
    exact K
  | succ n9 ih =>
    intro w hw
    have hn8 := hm.n8
    refine g_iload_n (pc := 4) C dX3_stockOf_4 rfl ?_
    refine g_aload_n (pc := 5) C dX3_stockOf_5 rfl ?_
    refine g_geti (pc := 6) C fX3_35 rfl (hm.1 0 (by decide)) dX3_stockOf_6 rfl ?_
    refine g_eqi (nI n) hn ?_
    refine g_icmp_ge (pc := 9) C 47 dX3_stockOf_9 (by decide) (fun h9 => absurd h9 (fun q => absurd ((nI_leI (a := n) (b := w) (by omega) (by omega)).mp q) (by omega))) (fun _ => ?_)
    refine g_aload_n (pc := 12) C dX3_stockOf_12 rfl ?_
    refine g_iload_n (pc := 13) C dX3_stockOf_13 rfl ?_
    refine g_callV (pc := 14) C B mX3_43 (c_lN_t _ _ _ _ _ i n hm hn w (by omega)) rfl rfl rfl rfl (hm.1 0 (by decide)) (by decide) ⟨Nat.le_refl _, Nat.le_refl _⟩ (Nat.le_of_ble_eq_true rfl) dX3_stockOf_14 (fun rr SS hP => ?_)
    rw [hP.1, hP.2]
    refine g_astore (pc := 17) C dX3_stockOf_17 (by decide) ?_
    refine g_aload (pc := 19) C dX3_stockOf_19 rfl ?_
    refine g_ifnull (pc := 21) C 41 dX3_stockOf_21 (by decide) (fun h => by cases h) (fun _ _ => ?_)
    refine g_aload (pc := 24) C dX3_stockOf_24 rfl ?_
    refine g_geti (pc := 26) C fX3_56 rfl (hm.ln (by omega)) dX3_stockOf_26 rfl ?_
    refine g_iload_n (pc := 29) C dX3_stockOf_29 rfl ?_
    refine g_icmp_ne (pc := 30) C 41 dX3_stockOf_30 (by decide) (fun h30 => ?_) (fun h30 => ?_)
    ·
      refine g_iincN (pc := 41) C 1 dX3_stockOf_41 rfl (by decide) (by decide) ?_
      refine g_goto (pc := 44) C 4 dX3_stockOf_44 (by decide) ?_
      exact g_subR (ih (w + 1) (by omega)) ⟨rfl, rfl, by show some (vi _) = some (vi _); simp only [stX]; rw [if_neg h30], rfl, trivial⟩
    ·
      refine g_iload_n (pc := 33) C dX3_stockOf_33 rfl ?_
      refine g_aload (pc := 34) C dX3_stockOf_34 rfl ?_
      refine g_geti (pc := 36) C fX3_50 rfl (hm.ln (by omega)) dX3_stockOf_36 rfl ?_
      refine g_iadd (pc := 39) C dX3_stockOf_39 ?_
      refine g_istore_n (pc := 40) C dX3_stockOf_40 (by decide) ?_
      refine g_iincN (pc := 41) C 1 dX3_stockOf_41 rfl (by decide) (by decide) ?_
      refine g_goto (pc := 44) C 4 dX3_stockOf_44 (by decide) ?_
      exact g_subR (ih (w + 1) (by omega)) ⟨rfl, rfl, by show some (vi _) = some (vi _); simp only [stX]; rw [if_pos h30], rfl, trivial⟩
set_option maxHeartbeats 400000 in
set_option maxRecDepth 100000 in
theorem c_stockOf (l : Launch) (E : En) (base aw : Nat) (S : Mm) (i n : Nat) (hm : MSh S i n) (hn : S.1 (1, i, 0) 3 = nI n) (g : Int32) : Cn l E base aw yX3_stockOf cX3_stockOf 5 (some Jvm.ClassFile.FieldType.int) 1 0 0 noF S [vr (1, i, 0), vi g] (fun r S' => r = some (vi (stX S i g n)) ∧ S' = S) := by
  have hn8 := hm.n8
  refine Cn.of (by decide) (Nat.le_of_ble_eq_true rfl) ?_
  intro X Y hl hE hbase haw hfr C B
  subst hl; subst hE; subst hbase; subst haw
  refine g_iconst (pc := 0) C 0 dX3_stockOf_0 (by decide) ?_
  refine g_istore_n (pc := 1) C dX3_stockOf_1 (by decide) ?_
  refine g_iconst (pc := 2) C 0 dX3_stockOf_2 (by decide) ?_
  refine g_istore_n (pc := 3) C dX3_stockOf_3 (by decide) ?_
  refine g_subR (lp_stockOf C B hm hn ?_ n 0 (by omega)) ⟨rfl, rfl, rfl, rfl, trivial⟩
  refine g_iload_n (pc := 47) C dX3_stockOf_47 rfl ?_
  exact g_iret (pc := 48) C B rfl dX3_stockOf_48 (⟨rfl, rfl⟩)

set_option maxHeartbeats 400000 in
set_option maxRecDepth 100000 in
theorem lp_goods {X : Xt} {Y : Yt} {P : Option AV → Mm → Prop} {nm : String}  (C : Cx X Y cX3_goodsAgree 4 RX3) (B : Bx X Y nm (some Jvm.ClassFile.FieldType.boolean) 1 0 0 P) {S : Mm} {i n : Nat} (hm : MSh S i n) (hn : S.1 (1, i, 0) 3 = nI n) (K : G X Y 0 0 S 35 [(0, vr (1, i, 0)), (1, vi (slX S i n)), (2, vi (nI n))] []) : ∀ n9 w, w + n9 = n → G X Y 0 0 S 4 [(0, vr (1, i, 0)), (1, vi (slX S i w)), (2, vi (nI w))] [] := by
  intro n9
  induction n9 with
  | zero =>
    intro w hw
    have e : n = w := by omega
    subst e
    have hn8 := hm.n8
    refine g_iload_n (pc := 4) C dX3_goodsAgree_4 rfl ?_
    refine g_aload_n (pc := 5) C dX3_goodsAgree_5 rfl ?_
    refine g_geti (pc := 6) C fX3_35 rfl (hm.1 0 (by decide)) dX3_goodsAgree_6 rfl ?_
    refine g_eqi (nI n) hn ?_
    refine g_icmp_ge (pc := 9) C 35 dX3_goodsAgree_9 (by decide) (fun _ => ?_) (fun h9 => absurd ((nI_leI (a := n) (b := n) (by omega) (by omega)).mpr (by omega)) h9)
    exact K
  | succ n9 ih =>
    intro w hw
    have hn8 := hm.n8
    refine g_iload_n (pc := 4) C dX3_goodsAgree_4 rfl ?_
    refine g_aload_n (pc := 5) C dX3_goodsAgree_5 rfl ?_
    refine g_geti (pc := 6) C fX3_35 rfl (hm.1 0 (by decide)) dX3_goodsAgree_6 rfl ?_
    refine g_eqi (nI n) hn ?_
    refine g_icmp_ge (pc := 9) C 35 dX3_goodsAgree_9 (by decide) (fun h9 => absurd h9 (fun q => absurd ((nI_leI (a := n) (b := w) (by omega) (by omega)).mp q) (by omega))) (fun _ => ?_)
    refine g_aload_n (pc := 12) C dX3_goodsAgree_12 rfl ?_
    refine g_iload_n (pc := 13) C dX3_goodsAgree_13 rfl ?_
    refine g_callV (pc := 14) C B mX3_43 (c_lN_t _ _ _ _ _ i n hm hn w (by omega)) rfl rfl rfl rfl (hm.1 0 (by decide)) (by decide) ⟨Nat.le_refl _, Nat.le_refl _⟩ (Nat.le_of_ble_eq_true rfl) dX3_goodsAgree_14 (fun rr SS hP => ?_)
    rw [hP.1, hP.2]
    refine g_astore_n (pc := 17) C dX3_goodsAgree_17 (by decide) ?_
    refine g_aload_n (pc := 18) C dX3_goodsAgree_18 rfl ?_
    refine g_ifnull (pc := 19) C 29 dX3_goodsAgree_19 (by decide) (fun h => by cases h) (fun _ _ => ?_)
    refine g_iload_n (pc := 22) C dX3_goodsAgree_22 rfl ?_
    refine g_aload_n (pc := 23) C dX3_goodsAgree_23 rfl ?_
    refine g_geti (pc := 24) C fX3_50 rfl (hm.ln (by omega)) dX3_goodsAgree_24 rfl ?_
    refine g_iadd (pc := 27) C dX3_goodsAgree_27 ?_
    refine g_istore_n (pc := 28) C dX3_goodsAgree_28 (by decide) ?_
    refine g_iincN (pc := 29) C 1 dX3_goodsAgree_29 rfl (by decide) (by decide) ?_
    refine g_goto (pc := 32) C 4 dX3_goodsAgree_32 (by decide) ?_
    exact g_subR (ih (w + 1) (by omega)) ⟨rfl, rfl, rfl, trivial⟩
def v_goods (S : Mm) (i : Nat) (n : Nat) : Int32 := if (S.1 (1, i, 0) 9) = ((((S.1 (1, i, 0) 8) + (slX S i n)) + (S.1 (1, i, 0) 7)) + (S.1 (1, i, 0) 6)) then 1 else 0
set_option maxHeartbeats 400000 in
set_option maxRecDepth 100000 in
theorem c_goods (l : Launch) (E : En) (base aw : Nat) (S : Mm) (i n : Nat) (hm : MSh S i n) (hn : S.1 (1, i, 0) 3 = nI n) : Cn l E base aw yX3_goodsAgree cX3_goodsAgree 4 (some Jvm.ClassFile.FieldType.boolean) 1 0 0 noF S [vr (1, i, 0)] (fun r S' => r = some (vi (v_goods S i n)) ∧ S' = S) := by
  have hn8 := hm.n8
  refine Cn.of (by decide) (Nat.le_of_ble_eq_true rfl) ?_
  intro X Y hl hE hbase haw hfr C B
  subst hl; subst hE; subst hbase; subst haw
  refine g_iconst (pc := 0) C 0 dX3_goodsAgree_0 (by decide) ?_
  refine g_istore_n (pc := 1) C dX3_goodsAgree_1 (by decide) ?_
  refine g_iconst (pc := 2) C 0 dX3_goodsAgree_2 (by decide) ?_
  refine g_istore_n (pc := 3) C dX3_goodsAgree_3 (by decide) ?_
  refine g_subR (lp_goods C B hm hn ?_ n 0 (by omega)) ⟨rfl, rfl, rfl, trivial⟩
  refine g_aload_n (pc := 35) C dX3_goodsAgree_35 rfl ?_
  refine g_geti (pc := 36) C fX3_73 rfl (hm.1 0 (by decide)) dX3_goodsAgree_36 rfl ?_
  refine g_aload_n (pc := 39) C dX3_goodsAgree_39 rfl ?_
  refine g_geti (pc := 40) C fX3_76 rfl (hm.1 0 (by decide)) dX3_goodsAgree_40 rfl ?_
  refine g_iload_n (pc := 43) C dX3_goodsAgree_43 rfl ?_
  refine g_iadd (pc := 44) C dX3_goodsAgree_44 ?_
  refine g_aload_n (pc := 45) C dX3_goodsAgree_45 rfl ?_
  refine g_geti (pc := 46) C fX3_79 rfl (hm.1 0 (by decide)) dX3_goodsAgree_46 rfl ?_
  refine g_iadd (pc := 49) C dX3_goodsAgree_49 ?_
  refine g_aload_n (pc := 50) C dX3_goodsAgree_50 rfl ?_
  refine g_geti (pc := 51) C fX3_82 rfl (hm.1 0 (by decide)) dX3_goodsAgree_51 rfl ?_
  refine g_iadd (pc := 54) C dX3_goodsAgree_54 ?_
  refine g_icmp_ne (pc := 55) C 62 dX3_goodsAgree_55 (by decide) (fun h55 => ?_) (fun h55 => ?_)
  ·
    refine g_iconst (pc := 62) C 0 dX3_goodsAgree_62 (by decide) ?_
    exact g_iret (pc := 63) C B rfl dX3_goodsAgree_63 (⟨by show some (vi _) = some (vi (v_goods S i n)); unfold v_goods; rw [if_neg h55], rfl⟩)
  ·
    refine g_iconst (pc := 58) C 1 dX3_goodsAgree_58 (by decide) ?_
    refine g_goto (pc := 59) C 63 dX3_goodsAgree_59 (by decide) ?_
    exact g_iret (pc := 63) C B rfl dX3_goodsAgree_63 (⟨by show some (vi _) = some (vi (v_goods S i n)); unfold v_goods; rw [if_pos h55], rfl⟩)

theorem src_012 (S : Mm) (i j n : Nat) : v_src S i j n = 0 ∨ v_src S i j n = 1 ∨ v_src S i j n = 2 := by
  unfold v_src
  repeat (first | exact Or.inl rfl | exact Or.inr (Or.inl rfl) | exact Or.inr (Or.inr rfl) | split)
set_option maxHeartbeats 400000 in
set_option maxRecDepth 100000 in
theorem lp_note {X : Xt} {Y : Yt} {P : Option AV → Mm → Prop} {nm : String}  (C : Cx X Y cX3_noteThere 5 RX3) (B : Bx X Y nm (none) 2 0 0 P) {S : Mm} {i n : Nat} (hm : MSh S i n) (hn : S.1 (1, i, 0) 3 = nI n) {gd : Nat → Nat} {u : Nat} (hgd : ∀ k, k < n → S.1 (3, i, k) 0 = nI (gd k) ∧ gd k < 16) (hu : u < 24) (K : G X Y 0 0 (ntX S i n gd u n) 73 [(0, vr (1, i, 0)), (1, vi (nI u)), (2, vi (nbX S i n n)), (3, vi (nI n))] []) : ∀ n9 w, w + n9 = n → G X Y 0 0 (ntX S i n gd u w) 4 [(0, vr (1, i, 0)), (1, vi (nI u)), (2, vi (nbX S i n w)), (3, vi (nI w))] [] := by
  intro n9
  induction n9 with
  | zero =>
    intro w hw
    have e : n = w := by omega
    subst e
    have hn8 := hm.n8
    have hbt := ntX_but S i n gd u n
    have hm1 := hm.same hbt.1
    have hn1 : (ntX S i n gd u n).1 (1, i, 0) 3 = nI n := (hbt.2 _ _ (fun q => by cases q)).trans hn
    refine g_iload_n (pc := 4) C dX3_noteThere_4 rfl ?_
    refine g_aload_n (pc := 5) C dX3_noteThere_5 rfl ?_
    refine g_geti (pc := 6) C fX3_35 rfl (hm1.1 0 (by decide)) dX3_noteThere_6 rfl ?_
    refine g_eqi (nI n) hn1 ?_
    refine g_icmp_ge (pc := 9) C 73 dX3_noteThere_9 (by decide) (fun _ => ?_) (fun h9 => absurd ((nI_leI (a := n) (b := n) (by omega) (by omega)).mpr (by omega)) h9)
    exact K
  | succ n9 ih =>
    intro w hw
    have hn8 := hm.n8
    have hbt := ntX_but S i n gd u w
    have hm1 := hm.same hbt.1
    have hn1 : (ntX S i n gd u w).1 (1, i, 0) 3 = nI n := (hbt.2 _ _ (fun q => by cases q)).trans hn
    refine g_iload_n (pc := 4) C dX3_noteThere_4 rfl ?_
    refine g_aload_n (pc := 5) C dX3_noteThere_5 rfl ?_
    refine g_geti (pc := 6) C fX3_35 rfl (hm1.1 0 (by decide)) dX3_noteThere_6 rfl ?_
    refine g_eqi (nI n) hn1 ?_
    refine g_icmp_ge (pc := 9) C 73 dX3_noteThere_9 (by decide) (fun h9 => absurd h9 (fun q => absurd ((nI_leI (a := n) (b := w) (by omega) (by omega)).mp q) (by omega))) (fun _ => ?_)
    refine g_aload_n (pc := 12) C dX3_noteThere_12 rfl ?_
    refine g_iload_n (pc := 13) C dX3_noteThere_13 rfl ?_
    refine g_callV (pc := 14) C B mX3_43 (c_lN_t _ _ _ _ _ i n hm1 hn1 w (by omega)) rfl rfl rfl rfl (hm1.1 0 (by decide)) (by decide) ⟨Nat.le_refl _, Nat.le_refl _⟩ (Nat.le_of_ble_eq_true rfl) dX3_noteThere_14 (fun rr SS hP => ?_)
    rw [hP.1, hP.2]
    refine g_astore (pc := 17) C dX3_noteThere_17 (by decide) ?_
    refine g_aload (pc := 19) C dX3_noteThere_19 rfl ?_
    refine g_ifnull (pc := 21) C 67 dX3_noteThere_21 (by decide) (fun h => by cases h) (fun _ _ => ?_)
    refine g_iload_n (pc := 24) C dX3_noteThere_24 rfl ?_
    refine g_aload (pc := 25) C dX3_noteThere_25 rfl ?_
    refine g_geti (pc := 27) C fX3_56 rfl (hm1.ln (by omega)) dX3_noteThere_27 rfl ?_
    refine g_eqi (S.1 (3, i, w) 0) (hbt.2 _ _ (fun q => by cases q)) ?_
    refine g_ishr (pc := 30) C dX3_noteThere_30 ?_
    refine g_iconst (pc := 31) C 1 dX3_noteThere_31 (by decide) ?_
    refine g_iand (pc := 32) C dX3_noteThere_32 ?_
    refine g_if_ne (pc := 33) C 67 dX3_noteThere_33 (by decide) (fun h33 => ?_) (fun h33 => ?_)
    ·
      refine g_iincN (pc := 67) C 1 dX3_noteThere_67 rfl (by decide) (by decide) ?_
      refine g_goto (pc := 70) C 4 dX3_noteThere_70 (by decide) ?_
      refine g_eqS (S' := ntX S i n gd u ((w + 1))) (by simp only [ntX]; rw [if_neg h33]) ?_
      exact g_subR (ih (w + 1) (by omega)) ⟨rfl, rfl, by show some (vi _) = some (vi _); simp only [nbX]; rw [if_neg h33], rfl, trivial⟩
    ·
      refine g_aload_n (pc := 36) C dX3_noteThere_36 rfl ?_
      refine g_iload_n (pc := 37) C dX3_noteThere_37 rfl ?_
      have hs := src_but hbt i w n (fun _ _ q => by cases q)
      have hv : v_src S i w n = 0 ∨ v_src S i w n = 1 ∨ v_src S i w n = 2 := src_012 S i w n
      rcases hv with hv | hv | hv
      ·
        refine g_callV (pc := 38) C B mX3_59 (c_src0 _ _ _ _ _ i n hm1 hn1 w (by omega) (by rw [hs]; exact hv)) rfl rfl rfl rfl (hm1.1 0 (by decide)) (by decide) ⟨Nat.le_refl _, Nat.le_refl _⟩ (Nat.le_of_ble_eq_true rfl) dX3_noteThere_38 (fun rr SS hP => ?_)
        rw [hP.1, hP.2]
        refine g_ifnull (pc := 41) C 67 dX3_noteThere_41 (by decide) (fun _ => ?_) (fun _ h => by cases h)
        refine g_iincN (pc := 67) C 1 dX3_noteThere_67 rfl (by decide) (by decide) ?_
        refine g_goto (pc := 70) C 4 dX3_noteThere_70 (by decide) ?_
        refine g_eqS (S' := ntX S i n gd u ((w + 1))) (by simp only [ntX]; rw [if_pos h33, if_pos hv]) ?_
        exact g_subR (ih (w + 1) (by omega)) ⟨rfl, rfl, by show some (vi _) = some (vi _); simp only [nbX]; rw [if_pos h33, if_pos hv], rfl, trivial⟩
      ·
        refine g_callV (pc := 38) C B mX3_59 (c_src1 _ _ _ _ _ i n hm1 hn1 w (by omega) (by rw [hs]; exact hv)) rfl rfl rfl rfl (hm1.1 0 (by decide)) (by decide) ⟨Nat.le_refl _, Nat.le_refl _⟩ (Nat.le_of_ble_eq_true rfl) dX3_noteThere_38 (fun rr SS hP => ?_)
        rw [hP.1, hP.2]
        refine g_ifnull (pc := 41) C 67 dX3_noteThere_41 (by decide) (fun h => by cases h) (fun _ _ => ?_)
        refine g_iload_n (pc := 44) C dX3_noteThere_44 rfl ?_
        refine g_iconst (pc := 45) C 1 dX3_noteThere_45 (by decide) ?_
        refine g_aload (pc := 46) C dX3_noteThere_46 rfl ?_
        refine g_geti (pc := 48) C fX3_56 rfl (hm1.ln (by omega)) dX3_noteThere_48 rfl ?_
        refine g_eqi (S.1 (3, i, w) 0) (hbt.2 _ _ (fun q => by cases q)) ?_
        refine g_ishl (pc := 51) C dX3_noteThere_51 ?_
        refine g_ior (pc := 52) C dX3_noteThere_52 ?_
        refine g_istore_n (pc := 53) C dX3_noteThere_53 (by decide) ?_
        refine g_aload_n (pc := 54) C dX3_noteThere_54 rfl ?_
        refine g_getr (pc := 55) C fX3_27 rfl (hm1.1 0 (by decide)) dX3_noteThere_55 rfl hm1.r2 ?_
        refine g_aload (pc := 58) C dX3_noteThere_58 rfl ?_
        refine g_geti (pc := 60) C fX3_56 rfl (hm1.ln (by omega)) dX3_noteThere_60 rfl ?_
        refine g_eqi (nI (gd w)) ((hbt.2 _ _ (fun q => by cases q)).trans (hgd w (by omega)).1) ?_
        refine g_iload_n (pc := 63) C dX3_noteThere_63 rfl ?_
        refine g_callV (pc := 64) C B mX3_62 (c_countThere _ _ _ _ _ i n hm1 (gd w) (hgd w (by omega)).2 u hu) rfl rfl rfl rfl (hm1.1 10 (by decide)) (by decide) ⟨Nat.le_refl _, Nat.le_refl _⟩ (Nat.le_of_ble_eq_true rfl) dX3_noteThere_64 (fun rr SS hP => ?_)
        rw [hP.1, hP.2]
        refine g_iincN (pc := 67) C 1 dX3_noteThere_67 rfl (by decide) (by decide) ?_
        refine g_goto (pc := 70) C 4 dX3_noteThere_70 (by decide) ?_
        refine g_eqS (S' := ntX S i n gd u ((w + 1))) (by simp only [ntX]; rw [if_pos h33, if_neg (by rw [hv]; decide)]) ?_
        exact g_subR (ih (w + 1) (by omega)) ⟨rfl, rfl, by show some (vi _) = some (vi _); simp only [nbX]; rw [if_pos h33, if_neg (by rw [hv]; decide)], rfl, trivial⟩
      ·
        refine g_callV (pc := 38) C B mX3_59 (c_src2 _ _ _ _ _ i n hm1 hn1 w (by omega) (by rw [hs]; exact hv)) rfl rfl rfl rfl (hm1.1 0 (by decide)) (by decide) ⟨Nat.le_refl _, Nat.le_refl _⟩ (Nat.le_of_ble_eq_true rfl) dX3_noteThere_38 (fun rr SS hP => ?_)
        rw [hP.1, hP.2]
        refine g_ifnull (pc := 41) C 67 dX3_noteThere_41 (by decide) (fun h => by cases h) (fun _ _ => ?_)
        refine g_iload_n (pc := 44) C dX3_noteThere_44 rfl ?_
        refine g_iconst (pc := 45) C 1 dX3_noteThere_45 (by decide) ?_
        refine g_aload (pc := 46) C dX3_noteThere_46 rfl ?_
        refine g_geti (pc := 48) C fX3_56 rfl (hm1.ln (by omega)) dX3_noteThere_48 rfl ?_
        refine g_eqi (S.1 (3, i, w) 0) (hbt.2 _ _ (fun q => by cases q)) ?_
        refine g_ishl (pc := 51) C dX3_noteThere_51 ?_
        refine g_ior (pc := 52) C dX3_noteThere_52 ?_
        refine g_istore_n (pc := 53) C dX3_noteThere_53 (by decide) ?_
        refine g_aload_n (pc := 54) C dX3_noteThere_54 rfl ?_
        refine g_getr (pc := 55) C fX3_27 rfl (hm1.1 0 (by decide)) dX3_noteThere_55 rfl hm1.r2 ?_
        refine g_aload (pc := 58) C dX3_noteThere_58 rfl ?_
        refine g_geti (pc := 60) C fX3_56 rfl (hm1.ln (by omega)) dX3_noteThere_60 rfl ?_
        refine g_eqi (nI (gd w)) ((hbt.2 _ _ (fun q => by cases q)).trans (hgd w (by omega)).1) ?_
        refine g_iload_n (pc := 63) C dX3_noteThere_63 rfl ?_
        refine g_callV (pc := 64) C B mX3_62 (c_countThere _ _ _ _ _ i n hm1 (gd w) (hgd w (by omega)).2 u hu) rfl rfl rfl rfl (hm1.1 10 (by decide)) (by decide) ⟨Nat.le_refl _, Nat.le_refl _⟩ (Nat.le_of_ble_eq_true rfl) dX3_noteThere_64 (fun rr SS hP => ?_)
        rw [hP.1, hP.2]
        refine g_iincN (pc := 67) C 1 dX3_noteThere_67 rfl (by decide) (by decide) ?_
        refine g_goto (pc := 70) C 4 dX3_noteThere_70 (by decide) ?_
        refine g_eqS (S' := ntX S i n gd u ((w + 1))) (by simp only [ntX]; rw [if_pos h33, if_neg (by rw [hv]; decide)]) ?_
        exact g_subR (ih (w + 1) (by omega)) ⟨rfl, rfl, by show some (vi _) = some (vi _); simp only [nbX]; rw [if_pos h33, if_neg (by rw [hv]; decide)], rfl, trivial⟩
set_option maxHeartbeats 400000 in
set_option maxRecDepth 100000 in
theorem c_note (l : Launch) (E : En) (base aw : Nat) (S : Mm) (i n : Nat) (hm : MSh S i n) (hn : S.1 (1, i, 0) 3 = nI n) (gd : Nat → Nat) (hgd : ∀ k, k < n → S.1 (3, i, k) 0 = nI (gd k) ∧ gd k < 16) (u : Nat) (hu : u < 24) : Cn l E base aw yX3_noteThere cX3_noteThere 5 (none) 2 0 0 noF S [vr (1, i, 0), vi (nI u)] (fun r S' => r = none ∧ S' = ntX S i n gd u n) := by
  have hn8 := hm.n8
  refine Cn.of (by decide) (Nat.le_of_ble_eq_true rfl) ?_
  intro X Y hl hE hbase haw hfr C B
  subst hl; subst hE; subst hbase; subst haw
  refine g_iconst (pc := 0) C 0 dX3_noteThere_0 (by decide) ?_
  refine g_istore_n (pc := 1) C dX3_noteThere_1 (by decide) ?_
  refine g_iconst (pc := 2) C 0 dX3_noteThere_2 (by decide) ?_
  refine g_istore_n (pc := 3) C dX3_noteThere_3 (by decide) ?_
  refine g_subR (lp_note C B hm hn hgd hu ?_ n 0 (by omega)) ⟨rfl, rfl, rfl, rfl, trivial⟩
  exact g_vret (pc := 73) C B dX3_noteThere_73 (⟨rfl, rfl⟩)

set_option maxHeartbeats 400000 in
set_option maxRecDepth 100000 in
theorem c_spoilX (l : Launch) (E : En) (base aw : Nat) (S : Mm) (i j : Nat) (hlv : S.2.2 (3, i, j) = true) (p : Int32) : Cn l E base aw yX2_spoilAfter cX2_spoilAfter 2 (none) 0 0 0 noF S [vr (3, i, j), vi p] (fun r S' => r = none ∧ S' = spX S i j p) := by
  refine Cn.of (by decide) (Nat.le_of_ble_eq_true rfl) ?_
  intro X Y hl hE hbase haw hfr C B
  subst hl; subst hE; subst hbase; subst haw
  refine g_aload_n (pc := 0) C dX2_spoilAfter_0 rfl ?_
  refine g_geti (pc := 1) C fX2_21 rfl hlv dX2_spoilAfter_1 rfl ?_
  refine g_iconst (pc := 4) C 2 dX2_spoilAfter_4 (by decide) ?_
  refine g_icmp_ne (pc := 5) C 28 dX2_spoilAfter_5 (by decide) (fun h5 => ?_) (fun h5 => ?_)
  ·
    exact g_vret (pc := 28) C B dX2_spoilAfter_28 (⟨rfl, by show _ = spX S i j p; unfold spX; rw [if_neg h5]; try rfl⟩)
  ·
    refine g_aload_n (pc := 8) C dX2_spoilAfter_8 rfl ?_
    refine g_geti (pc := 9) C fX2_40 rfl hlv dX2_spoilAfter_9 rfl ?_
    refine g_if_le (pc := 12) C 28 dX2_spoilAfter_12 (by decide) (fun h12 => ?_) (fun h12 => ?_)
    ·
      exact g_vret (pc := 28) C B dX2_spoilAfter_28 (⟨rfl, by show _ = spX S i j p; unfold spX; rw [if_pos h5, if_pos h12]; try rfl⟩)
    ·
      refine g_iload_n (pc := 15) C dX2_spoilAfter_15 rfl ?_
      refine g_aload_n (pc := 16) C dX2_spoilAfter_16 rfl ?_
      refine g_geti (pc := 17) C fX2_24 rfl hlv dX2_spoilAfter_17 rfl ?_
      refine g_icmp_le (pc := 20) C 28 dX2_spoilAfter_20 (by decide) (fun h20 => ?_) (fun h20 => ?_)
      ·
        exact g_vret (pc := 28) C B dX2_spoilAfter_28 (⟨rfl, by show _ = spX S i j p; unfold spX; rw [if_pos h5, if_neg h12, if_pos h20]; try rfl⟩)
      ·
        refine g_aload_n (pc := 23) C dX2_spoilAfter_23 rfl ?_
        refine g_iconst (pc := 24) C 1 dX2_spoilAfter_24 (by decide) ?_
        refine g_puti (pc := 25) C fX2_31 (Or.inl fm2_9) rfl hlv dX2_spoilAfter_25 (Or.inr ⟨rfl, Or.inr rfl⟩) ?_
        exact g_vret (pc := 28) C B dX2_spoilAfter_28 (⟨rfl, by show _ = spX S i j p; unfold spX; rw [if_pos h5, if_neg h12, if_neg h20]; try rfl⟩)

set_option maxHeartbeats 400000 in
set_option maxRecDepth 100000 in
theorem c_missX (l : Launch) (E : En) (base aw : Nat) (S : Mm) (i j : Nat) (hlv : S.2.2 (3, i, j) = true) : Cn l E base aw yX2_miss cX2_miss 1 (none) 0 0 0 noF S [vr (3, i, j)] (fun r S' => r = none ∧ S' = msX S i j) := by
  refine Cn.of (by decide) (Nat.le_of_ble_eq_true rfl) ?_
  intro X Y hl hE hbase haw hfr C B
  subst hl; subst hE; subst hbase; subst haw
  refine g_aload_n (pc := 0) C dX2_miss_0 rfl ?_
  refine g_dup (pc := 1) C dX2_miss_1 ?_
  refine g_geti (pc := 2) C fX2_34 rfl hlv dX2_miss_2 rfl ?_
  refine g_iconst (pc := 5) C 1 dX2_miss_5 (by decide) ?_
  refine g_isub (pc := 6) C dX2_miss_6 ?_
  refine g_puti (pc := 7) C fX2_34 (Or.inl fm2_6) rfl hlv dX2_miss_7 (Or.inl rfl) ?_
  refine g_aload_n (pc := 10) C dX2_miss_10 rfl ?_
  refine g_dup (pc := 11) C dX2_miss_11 ?_
  refine g_geti (pc := 12) C fX2_37 rfl hlv dX2_miss_12 rfl ?_
  refine g_eqi (S.1 (3, i, j) 7) (by simp [wI]) ?_
  refine g_iconst (pc := 15) C 1 dX2_miss_15 (by decide) ?_
  refine g_iadd (pc := 16) C dX2_miss_16 ?_
  refine g_puti (pc := 17) C fX2_37 (Or.inl fm2_7) rfl hlv dX2_miss_17 (Or.inl rfl) ?_
  refine g_aload_n (pc := 20) C dX2_miss_20 rfl ?_
  refine g_geti (pc := 21) C fX2_37 rfl hlv dX2_miss_21 rfl ?_
  refine g_eqi (S.1 (3, i, j) 7 + 1) (by simp [wI]) ?_
  refine g_iconst (pc := 24) C 3 dX2_miss_24 (by decide) ?_
  refine g_icmp_lt (pc := 25) C 33 dX2_miss_25 (by decide) (fun h25 => ?_) (fun h25 => ?_)
  ·
    exact g_vret (pc := 33) C B dX2_miss_33 (⟨rfl, by show _ = msX S i j; unfold msX; rw [if_pos h25]; try rfl⟩)
  ·
    refine g_aload_n (pc := 28) C dX2_miss_28 rfl ?_
    refine g_iconst (pc := 29) C 1 dX2_miss_29 (by decide) ?_
    refine g_puti (pc := 30) C fX2_27 (Or.inl fm2_8) rfl hlv dX2_miss_30 (Or.inr ⟨rfl, Or.inr rfl⟩) ?_
    exact g_vret (pc := 33) C B dX2_miss_33 (⟨rfl, by show _ = msX S i j; unfold msX; rw [if_neg h25]; try rfl⟩)

set_option maxHeartbeats 400000 in
set_option maxRecDepth 100000 in
theorem lp_pow {X : Xt} {Y : Yt} {P : Option AV → Mm → Prop} {nm : String}  (C : Cx X Y cX3_passHourOfPower 3 RX3) (B : Bx X Y nm (none) 1 0 0 P) {S : Mm} {i n : Nat} (hm : MSh S i n) (hn : S.1 (1, i, 0) 3 = nI n) (K : G X Y 0 0 (psX S i n) 52 [(0, vr (1, i, 0)), (1, vi (nI n))] []) : ∀ n9 w, w + n9 = n → G X Y 0 0 (psX S i w) 20 [(0, vr (1, i, 0)), (1, vi (nI w))] [] := by
  intro n9
  induction n9 with
  | zero =>
    intro w hw
    have e : n = w := by omega
    subst e
    have hn8 := hm.n8
    have hbt := psX_but S i n
    have hm1 := hm.same hbt.1
    have hn1 : (psX S i n).1 (1, i, 0) 3 = nI n := (hbt.2 _ _ (fun q => by cases q.1)).trans hn
    refine g_iload_n (pc := 20) C dX3_passHourOfPower_20 rfl ?_
    refine g_aload_n (pc := 21) C dX3_passHourOfPower_21 rfl ?_
    refine g_geti (pc := 22) C fX3_35 rfl (hm1.1 0 (by decide)) dX3_passHourOfPower_22 rfl ?_
    refine g_eqi (nI n) hn1 ?_
    refine g_icmp_ge (pc := 25) C 52 dX3_passHourOfPower_25 (by decide) (fun _ => ?_) (fun h25 => absurd ((nI_leI (a := n) (b := n) (by omega) (by omega)).mpr (by omega)) h25)
    exact K
  | succ n9 ih =>
    intro w hw
    have hn8 := hm.n8
    have hbt := psX_but S i w
    have hm1 := hm.same hbt.1
    have hn1 : (psX S i w).1 (1, i, 0) 3 = nI n := (hbt.2 _ _ (fun q => by cases q.1)).trans hn
    refine g_iload_n (pc := 20) C dX3_passHourOfPower_20 rfl ?_
    refine g_aload_n (pc := 21) C dX3_passHourOfPower_21 rfl ?_
    refine g_geti (pc := 22) C fX3_35 rfl (hm1.1 0 (by decide)) dX3_passHourOfPower_22 rfl ?_
    refine g_eqi (nI n) hn1 ?_
    refine g_icmp_ge (pc := 25) C 52 dX3_passHourOfPower_25 (by decide) (fun h25 => absurd h25 (fun q => absurd ((nI_leI (a := n) (b := w) (by omega) (by omega)).mp q) (by omega))) (fun _ => ?_)
    refine g_aload_n (pc := 28) C dX3_passHourOfPower_28 rfl ?_
    refine g_iload_n (pc := 29) C dX3_passHourOfPower_29 rfl ?_
    refine g_callV (pc := 30) C B mX3_43 (c_lN_t _ _ _ _ _ i n hm1 hn1 w (by omega)) rfl rfl rfl rfl (hm1.1 0 (by decide)) (by decide) ⟨Nat.le_refl _, Nat.le_refl _⟩ (Nat.le_of_ble_eq_true rfl) dX3_passHourOfPower_30 (fun rr SS hP => ?_)
    rw [hP.1, hP.2]
    refine g_astore_n (pc := 33) C dX3_passHourOfPower_33 (by decide) ?_
    refine g_aload_n (pc := 34) C dX3_passHourOfPower_34 rfl ?_
    refine g_ifnull (pc := 35) C 46 dX3_passHourOfPower_35 (by decide) (fun h => by cases h) (fun _ _ => ?_)
    refine g_aload_n (pc := 38) C dX3_passHourOfPower_38 rfl ?_
    refine g_aload_n (pc := 39) C dX3_passHourOfPower_39 rfl ?_
    refine g_geti (pc := 40) C fX3_66 rfl (hm1.1 0 (by decide)) dX3_passHourOfPower_40 rfl ?_
    refine g_eqi (S.1 (1, i, 0) 5) (hbt.2 _ _ (fun q => by cases q.1)) ?_
    refine g_callV (pc := 43) C B mX3_69 (c_spoilX _ _ _ _ _ i w (hm1.ln (by omega)) (S.1 (1, i, 0) 5)) rfl rfl rfl rfl (hm1.ln (by omega)) (by decide) ⟨Nat.le_refl _, Nat.le_refl _⟩ (Nat.le_of_ble_eq_true rfl) dX3_passHourOfPower_43 (fun rr SS hP => ?_)
    rw [hP.1, hP.2]
    refine g_iincN (pc := 46) C 1 dX3_passHourOfPower_46 rfl (by decide) (by decide) ?_
    refine g_goto (pc := 49) C 20 dX3_passHourOfPower_49 (by decide) ?_
    exact g_subR (ih (w + 1) (by omega)) ⟨rfl, rfl, trivial⟩
set_option maxHeartbeats 400000 in
set_option maxRecDepth 100000 in
theorem c_pow1 (l : Launch) (E : En) (base aw : Nat) (S : Mm) (i n : Nat) (hm : MSh S i n) (hn : S.1 (1, i, 0) 3 = nI n) (hp : ¬ S.1 (1, i, 0) 4 = 0) : Cn l E base aw yX3_passHourOfPower cX3_passHourOfPower 3 (none) 1 0 0 noF S [vr (1, i, 0)] (fun r S' => r = none ∧ S' = S) := by
  have hn8 := hm.n8
  refine Cn.of (by decide) (Nat.le_of_ble_eq_true rfl) ?_
  intro X Y hl hE hbase haw hfr C B
  subst hl; subst hE; subst hbase; subst haw
  refine g_aload_n (pc := 0) C dX3_passHourOfPower_0 rfl ?_
  refine g_geti (pc := 1) C fX3_31 rfl (hm.1 0 (by decide)) dX3_passHourOfPower_1 rfl ?_
  refine g_if_eq (pc := 4) C 8 dX3_passHourOfPower_4 (by decide) (fun h4 => absurd h4 hp) (fun _ => ?_)
  exact g_vret (pc := 7) C B dX3_passHourOfPower_7 (⟨rfl, rfl⟩)

set_option maxHeartbeats 400000 in
set_option maxRecDepth 100000 in
theorem c_pow0 (l : Launch) (E : En) (base aw : Nat) (S : Mm) (i n : Nat) (hm : MSh S i n) (hn : S.1 (1, i, 0) 3 = nI n) (hp : S.1 (1, i, 0) 4 = 0) : Cn l E base aw yX3_passHourOfPower cX3_passHourOfPower 3 (none) 1 0 0 noF S [vr (1, i, 0)] (fun r S' => r = none ∧ S' = psX (wI S (1, i, 0) 5 (S.1 (1, i, 0) 5 + 1)) i n) := by
  have hn8 := hm.n8
  refine Cn.of (by decide) (Nat.le_of_ble_eq_true rfl) ?_
  intro X Y hl hE hbase haw hfr C B
  subst hl; subst hE; subst hbase; subst haw
  refine g_aload_n (pc := 0) C dX3_passHourOfPower_0 rfl ?_
  refine g_geti (pc := 1) C fX3_31 rfl (hm.1 0 (by decide)) dX3_passHourOfPower_1 rfl ?_
  refine g_if_eq (pc := 4) C 8 dX3_passHourOfPower_4 (by decide) (fun _ => ?_) (fun h4 => absurd hp h4)
  refine g_aload_n (pc := 8) C dX3_passHourOfPower_8 rfl ?_
  refine g_dup (pc := 9) C dX3_passHourOfPower_9 ?_
  refine g_geti (pc := 10) C fX3_66 rfl (hm.1 0 (by decide)) dX3_passHourOfPower_10 rfl ?_
  refine g_iconst (pc := 13) C 1 dX3_passHourOfPower_13 (by decide) ?_
  refine g_iadd (pc := 14) C dX3_passHourOfPower_14 ?_
  refine g_puti (pc := 15) C fX3_66 (Or.inl fm3_5) rfl (hm.1 0 (by decide)) dX3_passHourOfPower_15 (Or.inl rfl) ?_
  refine g_iconst (pc := 18) C 0 dX3_passHourOfPower_18 (by decide) ?_
  refine g_istore_n (pc := 19) C dX3_passHourOfPower_19 (by decide) ?_
  refine g_subR (lp_pow (S := wI S (1, i, 0) 5 ((S.1 (1, i, 0) 5) + 1)) C B (hm.same rfl) ((wI_ne (fun q => by cases q.2)).trans hn) ?_ n 0 (by omega)) ⟨rfl, rfl, trivial⟩
  exact g_vret (pc := 52) C B dX3_passHourOfPower_52 (⟨rfl, rfl⟩)

set_option maxHeartbeats 400000 in
set_option maxRecDepth 100000 in
theorem c_addTube (l : Launch) (E : En) (base aw : Nat) (S : Mm) (i n : Nat) (hm : MSh S i n) (w : Nat) (hw : w < 6) (x : Int32) : Cn l E base aw yX4_addToTube cX4_addToTube 3 (none) 0 0 0 noF S [vr (1, i, 2), vi (nI w), vi x] (fun r S' => r = none ∧ S' = wI (wI S (1, i, 3) w (S.1 (1, i, 3) w + x)) (1, i, 6) w (S.1 (1, i, 6) w + x)) := by
  refine Cn.of (by decide) (Nat.le_of_ble_eq_true rfl) ?_
  intro X Y hl hE hbase haw hfr C B
  subst hl; subst hE; subst hbase; subst haw
  refine g_aload_n (pc := 0) C dX4_addToTube_0 rfl ?_
  refine g_getr (pc := 1) C fX4_13 rfl (hm.1 2 (by decide)) dX4_addToTube_1 rfl hm.t0 ?_
  refine g_iload_n (pc := 4) C dX4_addToTube_4 rfl ?_
  refine g_dup2 (pc := 5) C dX4_addToTube_5 ?_
  refine g_ialdN (pc := 6) C rfl (hm.1 3 (by decide)) (by omega) (by decide) dX4_addToTube_6 ?_
  refine g_iload_n (pc := 7) C dX4_addToTube_7 rfl ?_
  refine g_iadd (pc := 8) C dX4_addToTube_8 ?_
  refine g_iastN (pc := 9) C rfl (hm.1 3 (by decide)) (by omega) (by decide) dX4_addToTube_9 ?_
  refine g_aload_n (pc := 10) C dX4_addToTube_10 rfl ?_
  refine g_getr (pc := 11) C fX4_24 rfl (hm.1 2 (by decide)) dX4_addToTube_11 rfl hm.t3 ?_
  refine g_iload_n (pc := 14) C dX4_addToTube_14 rfl ?_
  refine g_dup2 (pc := 15) C dX4_addToTube_15 ?_
  refine g_ialdN (pc := 16) C rfl (hm.1 6 (by decide)) (by omega) (by decide) dX4_addToTube_16 ?_
  refine g_iload_n (pc := 17) C dX4_addToTube_17 rfl ?_
  refine g_iadd (pc := 18) C dX4_addToTube_18 ?_
  refine g_iastN (pc := 19) C rfl (hm.1 6 (by decide)) (by omega) (by decide) dX4_addToTube_19 ?_
  exact g_vret (pc := 20) C B dX4_addToTube_20 (⟨rfl, by rw [wI_k] <;> first | decide | rfl⟩)

set_option maxHeartbeats 400000 in
set_option maxRecDepth 100000 in
theorem c_takeIn (l : Launch) (E : En) (base aw : Nat) (S : Mm) (i n : Nat) (hm : MSh S i n) (w : Nat) (hw : w < 6) : Cn l E base aw yX4_takeIn cX4_takeIn 2 (none) 0 0 0 noF S [vr (1, i, 2), vi (nI w)] (fun r S' => r = none ∧ S' = wI (wI (wI S (1, i, 5) w (S.1 (1, i, 5) w + 1)) (1, i, 6) w (S.1 (1, i, 6) w + 1)) (1, i, 2) 7 (S.1 (1, i, 2) 7 + 1)) := by
  refine Cn.of (by decide) (Nat.le_of_ble_eq_true rfl) ?_
  intro X Y hl hE hbase haw hfr C B
  subst hl; subst hE; subst hbase; subst haw
  refine g_aload_n (pc := 0) C dX4_takeIn_0 rfl ?_
  refine g_getr (pc := 1) C fX4_21 rfl (hm.1 2 (by decide)) dX4_takeIn_1 rfl hm.t2 ?_
  refine g_iload_n (pc := 4) C dX4_takeIn_4 rfl ?_
  refine g_dup2 (pc := 5) C dX4_takeIn_5 ?_
  refine g_ialdN (pc := 6) C rfl (hm.1 5 (by decide)) (by omega) (by decide) dX4_takeIn_6 ?_
  refine g_iconst (pc := 7) C 1 dX4_takeIn_7 (by decide) ?_
  refine g_iadd (pc := 8) C dX4_takeIn_8 ?_
  refine g_iastN (pc := 9) C rfl (hm.1 5 (by decide)) (by omega) (by decide) dX4_takeIn_9 ?_
  refine g_aload_n (pc := 10) C dX4_takeIn_10 rfl ?_
  refine g_getr (pc := 11) C fX4_24 rfl (hm.1 2 (by decide)) dX4_takeIn_11 rfl hm.t3 ?_
  refine g_iload_n (pc := 14) C dX4_takeIn_14 rfl ?_
  refine g_dup2 (pc := 15) C dX4_takeIn_15 ?_
  refine g_ialdN (pc := 16) C rfl (hm.1 6 (by decide)) (by omega) (by decide) dX4_takeIn_16 ?_
  refine g_iconst (pc := 17) C 1 dX4_takeIn_17 (by decide) ?_
  refine g_iadd (pc := 18) C dX4_takeIn_18 ?_
  refine g_iastN (pc := 19) C rfl (hm.1 6 (by decide)) (by omega) (by decide) dX4_takeIn_19 ?_
  refine g_aload_n (pc := 20) C dX4_takeIn_20 rfl ?_
  refine g_dup (pc := 21) C dX4_takeIn_21 ?_
  refine g_geti (pc := 22) C fX4_36 rfl (hm.1 2 (by decide)) dX4_takeIn_22 rfl ?_
  refine g_iconst (pc := 25) C 1 dX4_takeIn_25 (by decide) ?_
  refine g_iadd (pc := 26) C dX4_takeIn_26 ?_
  refine g_puti (pc := 27) C fX4_36 (Or.inl fm4_7) rfl (hm.1 2 (by decide)) dX4_takeIn_27 (Or.inl rfl) ?_
  exact g_vret (pc := 30) C B dX4_takeIn_30 (⟨rfl, by rw [wI_k, wI_k, wI_k] <;> first | decide | rfl⟩)

set_option maxHeartbeats 400000 in
set_option maxRecDepth 100000 in
theorem lp_gb {X : Xt} {Y : Yt} {P : Option AV → Mm → Prop} {nm : String}  (C : Cx X Y cX4_giveBack 3 RX4) (B : Bx X Y nm (some Jvm.ClassFile.FieldType.int) 1 0 0 P) {S : Mm} {i n : Nat} (hm0 : MSh S i n) {x1 : Int32} (K : G X Y 0 0 (gbX S i 6) 47 [(0, vr (1, i, 2)), (1, vi (x1)), (2, vi (nI 6))] []) : ∀ n9 w, w + n9 = 6 → G X Y 0 0 (gbX S i w) 10 [(0, vr (1, i, 2)), (1, vi (x1)), (2, vi (nI w))] [] := by
  intro n9
  induction n9 with
  | zero =>
    intro w hw
    have e : 6 = w := by omega
    subst e
    have hm : MSh (gbX S i 6) i n := hm0.same (gbX_2 S i 6)
    refine g_iload_n (pc := 10) C dX4_giveBack_10 rfl ?_
    refine g_aload_n (pc := 11) C dX4_giveBack_11 rfl ?_
    refine g_getr (pc := 12) C fX4_21 rfl (hm.1 2 (by decide)) dX4_giveBack_12 rfl hm.t2 ?_
    refine g_alen (pc := 15) C rfl (by decide) (hm.1 5 (by decide)) dX4_giveBack_15 ?_
    refine g_icmp_ge (pc := 16) C 47 dX4_giveBack_16 (by decide) (fun _ => ?_) (fun h16 => absurd ((nI_leI (a := 6) (b := 6) (by omega) (by omega)).mpr (by omega)) h16)
    exact K
  | succ n9 ih =>
    intro w hw
    have hm : MSh (gbX S i w) i n := hm0.same (gbX_2 S i w)
    refine g_iload_n (pc := 10) C dX4_giveBack_10 rfl ?_
    refine g_aload_n (pc := 11) C dX4_giveBack_11 rfl ?_
    refine g_getr (pc := 12) C fX4_21 rfl (hm.1 2 (by decide)) dX4_giveBack_12 rfl hm.t2 ?_
    refine g_alen (pc := 15) C rfl (by decide) (hm.1 5 (by decide)) dX4_giveBack_15 ?_
    refine g_icmp_ge (pc := 16) C 47 dX4_giveBack_16 (by decide) (fun h16 => absurd h16 (fun q => absurd ((nI_leI (a := 6) (b := w) (by omega) (by omega)).mp q) (by omega))) (fun _ => ?_)
    refine g_aload_n (pc := 19) C dX4_giveBack_19 rfl ?_
    refine g_getr (pc := 20) C fX4_27 rfl (hm.1 2 (by decide)) dX4_giveBack_20 rfl hm.t4 ?_
    refine g_iload_n (pc := 23) C dX4_giveBack_23 rfl ?_
    refine g_dup2 (pc := 24) C dX4_giveBack_24 ?_
    refine g_ialdN (pc := 25) C rfl (hm.1 7 (by decide)) (by omega) (by decide) dX4_giveBack_25 ?_
    refine g_aload_n (pc := 26) C dX4_giveBack_26 rfl ?_
    refine g_getr (pc := 27) C fX4_21 rfl (hm.1 2 (by decide)) dX4_giveBack_27 rfl hm.t2 ?_
    refine g_iload_n (pc := 30) C dX4_giveBack_30 rfl ?_
    refine g_ialdN (pc := 31) C rfl (hm.1 5 (by decide)) (by omega) (by decide) dX4_giveBack_31 ?_
    refine g_iadd (pc := 32) C dX4_giveBack_32 ?_
    refine g_iastN (pc := 33) C rfl (hm.1 7 (by decide)) (by omega) (by decide) dX4_giveBack_33 ?_
    refine g_aload_n (pc := 34) C dX4_giveBack_34 rfl ?_
    refine g_getr (pc := 35) C fX4_21 rfl (hm.1 2 (by decide)) dX4_giveBack_35 rfl hm.t2 ?_
    refine g_iload_n (pc := 38) C dX4_giveBack_38 rfl ?_
    refine g_iconst (pc := 39) C 0 dX4_giveBack_39 (by decide) ?_
    refine g_iastN (pc := 40) C rfl (hm.1 5 (by decide)) (by omega) (by decide) dX4_giveBack_40 ?_
    refine g_iincN (pc := 41) C 1 dX4_giveBack_41 rfl (by decide) (by decide) ?_
    refine g_goto (pc := 44) C 10 dX4_giveBack_44 (by decide) ?_
    exact g_subR (ih (w + 1) (by omega)) ⟨rfl, rfl, rfl, trivial⟩
set_option maxHeartbeats 400000 in
set_option maxRecDepth 100000 in
theorem lp_eb {X : Xt} {Y : Yt} {P : Option AV → Mm → Prop} {nm : String}  (C : Cx X Y cX4_emptyBox 3 RX4) (B : Bx X Y nm (some Jvm.ClassFile.FieldType.int) 1 0 0 P) {S : Mm} {i n : Nat} (hm0 : MSh S i n) {x1 : Int32} (K : G X Y 0 0 (ebX S i 6) 47 [(0, vr (1, i, 2)), (1, vi (x1)), (2, vi (nI 6))] []) : ∀ n9 w, w + n9 = 6 → G X Y 0 0 (ebX S i w) 10 [(0, vr (1, i, 2)), (1, vi (x1)), (2, vi (nI w))] [] := by
  intro n9
  induction n9 with
  | zero =>
    intro w hw
    have e : 6 = w := by omega
    subst e
    have hm : MSh (ebX S i 6) i n := hm0.same (ebX_2 S i 6)
    refine g_iload_n (pc := 10) C dX4_emptyBox_10 rfl ?_
    refine g_aload_n (pc := 11) C dX4_emptyBox_11 rfl ?_
    refine g_getr (pc := 12) C fX4_18 rfl (hm.1 2 (by decide)) dX4_emptyBox_12 rfl hm.t1 ?_
    refine g_alen (pc := 15) C rfl (by decide) (hm.1 4 (by decide)) dX4_emptyBox_15 ?_
    refine g_icmp_ge (pc := 16) C 47 dX4_emptyBox_16 (by decide) (fun _ => ?_) (fun h16 => absurd ((nI_leI (a := 6) (b := 6) (by omega) (by omega)).mpr (by omega)) h16)
    exact K
  | succ n9 ih =>
    intro w hw
    have hm : MSh (ebX S i w) i n := hm0.same (ebX_2 S i w)
    refine g_iload_n (pc := 10) C dX4_emptyBox_10 rfl ?_
    refine g_aload_n (pc := 11) C dX4_emptyBox_11 rfl ?_
    refine g_getr (pc := 12) C fX4_18 rfl (hm.1 2 (by decide)) dX4_emptyBox_12 rfl hm.t1 ?_
    refine g_alen (pc := 15) C rfl (by decide) (hm.1 4 (by decide)) dX4_emptyBox_15 ?_
    refine g_icmp_ge (pc := 16) C 47 dX4_emptyBox_16 (by decide) (fun h16 => absurd h16 (fun q => absurd ((nI_leI (a := 6) (b := w) (by omega) (by omega)).mp q) (by omega))) (fun _ => ?_)
    refine g_aload_n (pc := 19) C dX4_emptyBox_19 rfl ?_
    refine g_getr (pc := 20) C fX4_33 rfl (hm.1 2 (by decide)) dX4_emptyBox_20 rfl hm.t6 ?_
    refine g_iload_n (pc := 23) C dX4_emptyBox_23 rfl ?_
    refine g_dup2 (pc := 24) C dX4_emptyBox_24 ?_
    refine g_ialdN (pc := 25) C rfl (hm.1 9 (by decide)) (by omega) (by decide) dX4_emptyBox_25 ?_
    refine g_aload_n (pc := 26) C dX4_emptyBox_26 rfl ?_
    refine g_getr (pc := 27) C fX4_18 rfl (hm.1 2 (by decide)) dX4_emptyBox_27 rfl hm.t1 ?_
    refine g_iload_n (pc := 30) C dX4_emptyBox_30 rfl ?_
    refine g_ialdN (pc := 31) C rfl (hm.1 4 (by decide)) (by omega) (by decide) dX4_emptyBox_31 ?_
    refine g_iadd (pc := 32) C dX4_emptyBox_32 ?_
    refine g_iastN (pc := 33) C rfl (hm.1 9 (by decide)) (by omega) (by decide) dX4_emptyBox_33 ?_
    refine g_aload_n (pc := 34) C dX4_emptyBox_34 rfl ?_
    refine g_getr (pc := 35) C fX4_18 rfl (hm.1 2 (by decide)) dX4_emptyBox_35 rfl hm.t1 ?_
    refine g_iload_n (pc := 38) C dX4_emptyBox_38 rfl ?_
    refine g_iconst (pc := 39) C 0 dX4_emptyBox_39 (by decide) ?_
    refine g_iastN (pc := 40) C rfl (hm.1 4 (by decide)) (by omega) (by decide) dX4_emptyBox_40 ?_
    refine g_iincN (pc := 41) C 1 dX4_emptyBox_41 rfl (by decide) (by decide) ?_
    refine g_goto (pc := 44) C 10 dX4_emptyBox_44 (by decide) ?_
    exact g_subR (ih (w + 1) (by omega)) ⟨rfl, rfl, rfl, trivial⟩
set_option maxHeartbeats 400000 in
set_option maxRecDepth 100000 in
theorem c_giveBack (l : Launch) (E : En) (base aw : Nat) (S : Mm) (i n : Nat) (hm : MSh S i n) : Cn l E base aw yX4_giveBack cX4_giveBack 3 (some Jvm.ClassFile.FieldType.int) 1 0 0 noF S [vr (1, i, 2)] (fun r S' => r = some (vi (wsum (S.1 (1, i, 5)) 6)) ∧ S' = wI (gbX S i 6) (1, i, 2) 7 0) := by
  refine Cn.of (by decide) (Nat.le_of_ble_eq_true rfl) ?_
  intro X Y hl hE hbase haw hfr C B
  subst hl; subst hE; subst hbase; subst haw
  refine g_aload_n (pc := 0) C dX4_giveBack_0 rfl ?_
  refine g_getr (pc := 1) C fX4_21 rfl (hm.1 2 (by decide)) dX4_giveBack_1 rfl hm.t2 ?_
  refine g_callS (pc := 4) C B mX4_40 (c_xworth _ _ _ _ _ (1, i, 5) rfl (hm.1 5 (by decide))) rfl rfl (by decide) ⟨Nat.le_refl _, Nat.le_refl _⟩ (Nat.le_of_ble_eq_true rfl) dX4_giveBack_4 (fun rr SS hP => ?_)
  rw [hP.1, hP.2]
  refine g_istore_n (pc := 7) C dX4_giveBack_7 (by decide) ?_
  refine g_iconst (pc := 8) C 0 dX4_giveBack_8 (by decide) ?_
  refine g_istore_n (pc := 9) C dX4_giveBack_9 (by decide) ?_
  refine g_subR (lp_gb C B hm ?_ 6 0 rfl) ⟨rfl, rfl, rfl, trivial⟩
  have hm := hm.same (gbX_2 S i 6)
  refine g_aload_n (pc := 47) C dX4_giveBack_47 rfl ?_
  refine g_iconst (pc := 48) C 0 dX4_giveBack_48 (by decide) ?_
  refine g_puti (pc := 49) C fX4_36 (Or.inl fm4_7) rfl (hm.1 2 (by decide)) dX4_giveBack_49 (Or.inl rfl) ?_
  refine g_iload_n (pc := 52) C dX4_giveBack_52 rfl ?_
  exact g_iret (pc := 53) C B rfl dX4_giveBack_53 (⟨rfl, rfl⟩)

set_option maxHeartbeats 400000 in
set_option maxRecDepth 100000 in
theorem c_emptyBox (l : Launch) (E : En) (base aw : Nat) (S : Mm) (i n : Nat) (hm : MSh S i n) : Cn l E base aw yX4_emptyBox cX4_emptyBox 3 (some Jvm.ClassFile.FieldType.int) 1 0 0 noF S [vr (1, i, 2)] (fun r S' => r = some (vi (wsum (S.1 (1, i, 4)) 6)) ∧ S' = ebX S i 6) := by
  refine Cn.of (by decide) (Nat.le_of_ble_eq_true rfl) ?_
  intro X Y hl hE hbase haw hfr C B
  subst hl; subst hE; subst hbase; subst haw
  refine g_aload_n (pc := 0) C dX4_emptyBox_0 rfl ?_
  refine g_getr (pc := 1) C fX4_18 rfl (hm.1 2 (by decide)) dX4_emptyBox_1 rfl hm.t1 ?_
  refine g_callS (pc := 4) C B mX4_40 (c_xworth _ _ _ _ _ (1, i, 4) rfl (hm.1 4 (by decide))) rfl rfl (by decide) ⟨Nat.le_refl _, Nat.le_refl _⟩ (Nat.le_of_ble_eq_true rfl) dX4_emptyBox_4 (fun rr SS hP => ?_)
  rw [hP.1, hP.2]
  refine g_istore_n (pc := 7) C dX4_emptyBox_7 (by decide) ?_
  refine g_iconst (pc := 8) C 0 dX4_emptyBox_8 (by decide) ?_
  refine g_istore_n (pc := 9) C dX4_emptyBox_9 (by decide) ?_
  refine g_subR (lp_eb C B hm ?_ 6 0 rfl) ⟨rfl, rfl, rfl, trivial⟩
  have hm := hm.same (ebX_2 S i 6)
  refine g_iload_n (pc := 47) C dX4_emptyBox_47 rfl ?_
  exact g_iret (pc := 48) C B rfl dX4_emptyBox_48 (⟨rfl, rfl⟩)

set_option maxHeartbeats 400000 in
set_option maxRecDepth 100000 in
theorem lp_settle {X : Xt} {Y : Yt} {P : Option AV → Mm → Prop} {nm : String}  (C : Cx X Y cX4_settle 4 RX4) (B : Bx X Y nm (none) 1 0 0 P) {S : Mm} {i n : Nat} (hm0 : MSh S i n) (hl70 : S.2.2 (0, 0, 7) = true) (K : G X Y 0 0 (seX S i 6) 89 [(0, vr (1, i, 2)), (1, vr (0, 0, 7)), (2, vi (nI 6))] []) : ∀ n9 w, w + n9 = 6 → G X Y 0 0 (seX S i w) 2 [(0, vr (1, i, 2)), (1, vr (0, 0, 7)), (2, vi (nI w))] [] := by
  intro n9
  induction n9 with
  | zero =>
    intro w hw
    have e : 6 = w := by omega
    subst e
    have hm : MSh (seX S i 6) i n := hm0.same (seX_2 S i 6)
    have hl7 : (seX S i 6).2.2 (0, 0, 7) = true := by rw [seX_2]; exact hl70
    refine g_iload_n (pc := 2) C dX4_settle_2 rfl ?_
    refine g_aload_n (pc := 3) C dX4_settle_3 rfl ?_
    refine g_getr (pc := 4) C fX4_13 rfl (hm.1 2 (by decide)) dX4_settle_4 rfl hm.t0 ?_
    refine g_alen (pc := 7) C rfl (by decide) (hm.1 3 (by decide)) dX4_settle_7 ?_
    refine g_icmp_ge (pc := 8) C 89 dX4_settle_8 (by decide) (fun _ => ?_) (fun h8 => absurd ((nI_leI (a := 6) (b := 6) (by omega) (by omega)).mpr (by omega)) h8)
    exact K
  | succ n9 ih =>
    intro w hw
    have hm : MSh (seX S i w) i n := hm0.same (seX_2 S i w)
    have hl7 : (seX S i w).2.2 (0, 0, 7) = true := by rw [seX_2]; exact hl70
    refine g_iload_n (pc := 2) C dX4_settle_2 rfl ?_
    refine g_aload_n (pc := 3) C dX4_settle_3 rfl ?_
    refine g_getr (pc := 4) C fX4_13 rfl (hm.1 2 (by decide)) dX4_settle_4 rfl hm.t0 ?_
    refine g_alen (pc := 7) C rfl (by decide) (hm.1 3 (by decide)) dX4_settle_7 ?_
    refine g_icmp_ge (pc := 8) C 89 dX4_settle_8 (by decide) (fun h8 => absurd h8 (fun q => absurd ((nI_leI (a := 6) (b := w) (by omega) (by omega)).mp q) (by omega))) (fun _ => ?_)
    refine g_iload_n (pc := 11) C dX4_settle_11 rfl ?_
    refine g_aload_n (pc := 12) C dX4_settle_12 rfl ?_
    refine g_alen (pc := 13) C rfl (by decide) hl7 dX4_settle_13 ?_
    refine g_icmp_ge (pc := 14) C 89 dX4_settle_14 (by decide) (fun h14 => absurd h14 (fun q => absurd ((nI_leI (a := 6) (b := w) (by omega) (by omega)).mp q) (by omega))) (fun _ => ?_)
    refine g_aload_n (pc := 17) C dX4_settle_17 rfl ?_
    refine g_getr (pc := 18) C fX4_13 rfl (hm.1 2 (by decide)) dX4_settle_18 rfl hm.t0 ?_
    refine g_iload_n (pc := 21) C dX4_settle_21 rfl ?_
    refine g_ialdN (pc := 22) C rfl (hm.1 3 (by decide)) (by omega) (by decide) dX4_settle_22 ?_
    refine g_aload_n (pc := 23) C dX4_settle_23 rfl ?_
    refine g_getr (pc := 24) C fX4_21 rfl (hm.1 2 (by decide)) dX4_settle_24 rfl hm.t2 ?_
    refine g_iload_n (pc := 27) C dX4_settle_27 rfl ?_
    refine g_ialdN (pc := 28) C rfl (hm.1 5 (by decide)) (by omega) (by decide) dX4_settle_28 ?_
    refine g_iadd (pc := 29) C dX4_settle_29 ?_
    refine g_aload_n (pc := 30) C dX4_settle_30 rfl ?_
    refine g_iload_n (pc := 31) C dX4_settle_31 rfl ?_
    refine g_ialdN (pc := 32) C rfl hl7 (by omega) (by decide) dX4_settle_32 ?_
    refine g_isub (pc := 33) C dX4_settle_33 ?_
    refine g_eqi (nSx (seX S i w) i w) rfl ?_
    refine g_istore_n (pc := 34) C dX4_settle_34 (by decide) ?_
    refine g_aload_n (pc := 35) C dX4_settle_35 rfl ?_
    refine g_getr (pc := 36) C fX4_13 rfl (hm.1 2 (by decide)) dX4_settle_36 rfl hm.t0 ?_
    refine g_iload_n (pc := 39) C dX4_settle_39 rfl ?_
    refine g_iload_n (pc := 40) C dX4_settle_40 rfl ?_
    refine g_bipush (pc := 41) C 50 dX4_settle_41 (by decide) ?_
    refine g_mmin (pc := 43) C B mthX4_44 mth_s_min mth_c_min mth_i (by decide) ⟨Nat.le_refl _, Nat.le_refl _⟩ (Nat.le_of_ble_eq_true rfl) dX4_settle_43 ?_
    refine g_eqi (mnS (seX S i w) i w) rfl ?_
    refine g_iastN (pc := 46) C rfl (hm.1 3 (by decide)) (by omega) (by decide) dX4_settle_46 ?_
    refine g_aload_n (pc := 47) C dX4_settle_47 rfl ?_
    refine g_getr (pc := 48) C fX4_18 rfl (hm.1 2 (by decide)) dX4_settle_48 rfl hm.t1 ?_
    refine g_iload_n (pc := 51) C dX4_settle_51 rfl ?_
    refine g_dup2 (pc := 52) C dX4_settle_52 ?_
    refine g_ialdN (pc := 53) C rfl (hm.1 4 (by decide)) (by omega) (by decide) dX4_settle_53 ?_
    refine g_iload_n (pc := 54) C dX4_settle_54 rfl ?_
    refine g_aload_n (pc := 55) C dX4_settle_55 rfl ?_
    refine g_getr (pc := 56) C fX4_13 rfl (hm.1 2 (by decide)) dX4_settle_56 rfl hm.t0 ?_
    refine g_iload_n (pc := 59) C dX4_settle_59 rfl ?_
    refine g_ialdN (pc := 60) C rfl (hm.1 3 (by decide)) (by omega) (by decide) dX4_settle_60 ?_
    refine g_eqi (mnS (seX S i w) i w) (by simp [wI]) ?_
    refine g_isub (pc := 61) C dX4_settle_61 ?_
    refine g_iadd (pc := 62) C dX4_settle_62 ?_
    refine g_iastN (pc := 63) C rfl (hm.1 4 (by decide)) (by omega) (by decide) dX4_settle_63 ?_
    refine g_aload_n (pc := 64) C dX4_settle_64 rfl ?_
    refine g_getr (pc := 65) C fX4_30 rfl (hm.1 2 (by decide)) dX4_settle_65 rfl hm.t5 ?_
    refine g_iload_n (pc := 68) C dX4_settle_68 rfl ?_
    refine g_dup2 (pc := 69) C dX4_settle_69 ?_
    refine g_ialdN (pc := 70) C rfl (hm.1 8 (by decide)) (by omega) (by decide) dX4_settle_70 ?_
    refine g_aload_n (pc := 71) C dX4_settle_71 rfl ?_
    refine g_iload_n (pc := 72) C dX4_settle_72 rfl ?_
    refine g_ialdN (pc := 73) C rfl hl7 (by omega) (by decide) dX4_settle_73 ?_
    refine g_iadd (pc := 74) C dX4_settle_74 ?_
    refine g_iastN (pc := 75) C rfl (hm.1 8 (by decide)) (by omega) (by decide) dX4_settle_75 ?_
    refine g_aload_n (pc := 76) C dX4_settle_76 rfl ?_
    refine g_getr (pc := 77) C fX4_21 rfl (hm.1 2 (by decide)) dX4_settle_77 rfl hm.t2 ?_
    refine g_iload_n (pc := 80) C dX4_settle_80 rfl ?_
    refine g_iconst (pc := 81) C 0 dX4_settle_81 (by decide) ?_
    refine g_iastN (pc := 82) C rfl (hm.1 5 (by decide)) (by omega) (by decide) dX4_settle_82 ?_
    refine g_iincN (pc := 83) C 1 dX4_settle_83 rfl (by decide) (by decide) ?_
    refine g_goto (pc := 86) C 2 dX4_settle_86 (by decide) ?_
    refine g_eqS (S' := seX S i ((w + 1))) (by simp only [seX]; rw [wI_k, wI_k, wI_k] <;> first | decide | rfl) ?_
    exact g_subR (ih (w + 1) (by omega)) ⟨rfl, rfl, rfl, trivial⟩
set_option maxHeartbeats 400000 in
set_option maxRecDepth 100000 in
theorem c_settle (l : Launch) (E : En) (base aw : Nat) (S : Mm) (i n : Nat) (hm : MSh S i n) (hl7 : S.2.2 (0, 0, 7) = true) : Cn l E base aw yX4_settle cX4_settle 4 (none) 1 0 0 noF S [vr (1, i, 2), vr (0, 0, 7)] (fun r S' => r = none ∧ S' = wI (seX S i 6) (1, i, 2) 7 0) := by
  refine Cn.of (by decide) (Nat.le_of_ble_eq_true rfl) ?_
  intro X Y hl hE hbase haw hfr C B
  subst hl; subst hE; subst hbase; subst haw
  refine g_iconst (pc := 0) C 0 dX4_settle_0 (by decide) ?_
  refine g_istore_n (pc := 1) C dX4_settle_1 (by decide) ?_
  refine g_subR (lp_settle C B hm hl7 ?_ 6 0 rfl) ⟨rfl, rfl, rfl, trivial⟩
  have hm := hm.same (seX_2 S i 6)
  refine g_aload_n (pc := 89) C dX4_settle_89 rfl ?_
  refine g_iconst (pc := 90) C 0 dX4_settle_90 (by decide) ?_
  refine g_puti (pc := 91) C fX4_36 (Or.inl fm4_7) rfl (hm.1 2 (by decide)) dX4_settle_91 (Or.inl rfl) ?_
  exact g_vret (pc := 94) C B dX4_settle_94 (⟨rfl, rfl⟩)

set_option maxHeartbeats 400000 in
set_option maxRecDepth 100000 in
theorem lp_coins {X : Xt} {Y : Yt} {P : Option AV → Mm → Prop} {nm : String} (C : Cx X Y cX4_coinsAgree 3 RX4) (B : Bx X Y nm (some .boolean) 1 0 0 P) {S : Mm} {i n : Nat} (hm : MSh S i n) : ∀ (f w : Nat), w + f = 6 → P (some (vi (ckX S i f w))) S → G X Y 0 0 S 2 [(0, vr (1, i, 2)), (1, vi (nI w))] [] := by
  intro f
  induction f with
  | zero =>
    intro w hw hP0
    have e : 6 = w := by omega
    subst e
    refine g_iload_n (pc := 2) C dX4_coinsAgree_2 rfl ?_
    refine g_aload_n (pc := 3) C dX4_coinsAgree_3 rfl ?_
    refine g_getr (pc := 4) C fX4_24 rfl (hm.1 2 (by decide)) dX4_coinsAgree_4 rfl hm.t3 ?_
    refine g_alen (pc := 7) C rfl (by decide) (hm.1 6 (by decide)) dX4_coinsAgree_7 ?_
    refine g_icmp_ge (pc := 8) C 71 dX4_coinsAgree_8 (by decide) (fun _ => ?_) (fun h8 => absurd ((nI_leI (a := 6) (b := 6) (by omega) (by omega)).mpr (by omega)) h8)
    refine g_iconst (pc := 71) C 1 dX4_coinsAgree_71 (by decide) ?_
    exact g_iret (pc := 72) C B rfl dX4_coinsAgree_72 (hP0)
  | succ f ih =>
    intro w hw hP0
    refine g_iload_n (pc := 2) C dX4_coinsAgree_2 rfl ?_
    refine g_aload_n (pc := 3) C dX4_coinsAgree_3 rfl ?_
    refine g_getr (pc := 4) C fX4_24 rfl (hm.1 2 (by decide)) dX4_coinsAgree_4 rfl hm.t3 ?_
    refine g_alen (pc := 7) C rfl (by decide) (hm.1 6 (by decide)) dX4_coinsAgree_7 ?_
    refine g_icmp_ge (pc := 8) C 71 dX4_coinsAgree_8 (by decide) (fun h8 => absurd h8 (fun q => absurd ((nI_leI (a := 6) (b := w) (by omega) (by omega)).mp q) (by omega))) (fun _ => ?_)
    refine g_aload_n (pc := 11) C dX4_coinsAgree_11 rfl ?_
    refine g_getr (pc := 12) C fX4_13 rfl (hm.1 2 (by decide)) dX4_coinsAgree_12 rfl hm.t0 ?_
    refine g_iload_n (pc := 15) C dX4_coinsAgree_15 rfl ?_
    refine g_ialdN (pc := 16) C rfl (hm.1 3 (by decide)) (by omega) (by decide) dX4_coinsAgree_16 ?_
    refine g_aload_n (pc := 17) C dX4_coinsAgree_17 rfl ?_
    refine g_getr (pc := 18) C fX4_18 rfl (hm.1 2 (by decide)) dX4_coinsAgree_18 rfl hm.t1 ?_
    refine g_iload_n (pc := 21) C dX4_coinsAgree_21 rfl ?_
    refine g_ialdN (pc := 22) C rfl (hm.1 4 (by decide)) (by omega) (by decide) dX4_coinsAgree_22 ?_
    refine g_iadd (pc := 23) C dX4_coinsAgree_23 ?_
    refine g_aload_n (pc := 24) C dX4_coinsAgree_24 rfl ?_
    refine g_getr (pc := 25) C fX4_21 rfl (hm.1 2 (by decide)) dX4_coinsAgree_25 rfl hm.t2 ?_
    refine g_iload_n (pc := 28) C dX4_coinsAgree_28 rfl ?_
    refine g_ialdN (pc := 29) C rfl (hm.1 5 (by decide)) (by omega) (by decide) dX4_coinsAgree_29 ?_
    refine g_iadd (pc := 30) C dX4_coinsAgree_30 ?_
    refine g_aload_n (pc := 31) C dX4_coinsAgree_31 rfl ?_
    refine g_getr (pc := 32) C fX4_27 rfl (hm.1 2 (by decide)) dX4_coinsAgree_32 rfl hm.t4 ?_
    refine g_iload_n (pc := 35) C dX4_coinsAgree_35 rfl ?_
    refine g_ialdN (pc := 36) C rfl (hm.1 7 (by decide)) (by omega) (by decide) dX4_coinsAgree_36 ?_
    refine g_iadd (pc := 37) C dX4_coinsAgree_37 ?_
    refine g_aload_n (pc := 38) C dX4_coinsAgree_38 rfl ?_
    refine g_getr (pc := 39) C fX4_30 rfl (hm.1 2 (by decide)) dX4_coinsAgree_39 rfl hm.t5 ?_
    refine g_iload_n (pc := 42) C dX4_coinsAgree_42 rfl ?_
    refine g_ialdN (pc := 43) C rfl (hm.1 8 (by decide)) (by omega) (by decide) dX4_coinsAgree_43 ?_
    refine g_iadd (pc := 44) C dX4_coinsAgree_44 ?_
    refine g_aload_n (pc := 45) C dX4_coinsAgree_45 rfl ?_
    refine g_getr (pc := 46) C fX4_33 rfl (hm.1 2 (by decide)) dX4_coinsAgree_46 rfl hm.t6 ?_
    refine g_iload_n (pc := 49) C dX4_coinsAgree_49 rfl ?_
    refine g_ialdN (pc := 50) C rfl (hm.1 9 (by decide)) (by omega) (by decide) dX4_coinsAgree_50 ?_
    refine g_iadd (pc := 51) C dX4_coinsAgree_51 ?_
    refine g_istore_n (pc := 52) C dX4_coinsAgree_52 (by decide) ?_
    refine g_aload_n (pc := 53) C dX4_coinsAgree_53 rfl ?_
    refine g_getr (pc := 54) C fX4_24 rfl (hm.1 2 (by decide)) dX4_coinsAgree_54 rfl hm.t3 ?_
    refine g_iload_n (pc := 57) C dX4_coinsAgree_57 rfl ?_
    refine g_ialdN (pc := 58) C rfl (hm.1 6 (by decide)) (by omega) (by decide) dX4_coinsAgree_58 ?_
    refine g_iload_n (pc := 59) C dX4_coinsAgree_59 rfl ?_
    refine g_icmp_eq (pc := 60) C 65 dX4_coinsAgree_60 (by decide) (fun h60 => ?_) (fun h60 => ?_)
    ·
      refine g_iincN (pc := 65) C 1 dX4_coinsAgree_65 rfl (by decide) (by decide) ?_
      refine g_goto (pc := 68) C 2 dX4_coinsAgree_68 (by decide) ?_
      exact g_subR (ih (w + 1) (by omega) (by rw [ckX, if_pos h60] at hP0; exact hP0)) ⟨rfl, rfl, trivial⟩
    ·
      refine g_iconst (pc := 63) C 0 dX4_coinsAgree_63 (by decide) ?_
      exact g_iret (pc := 64) C B rfl dX4_coinsAgree_64 (by rw [ckX, if_neg h60] at hP0; exact hP0)
set_option maxHeartbeats 400000 in
set_option maxRecDepth 100000 in
theorem c_coins (l : Launch) (E : En) (base aw : Nat) (S : Mm) (i n : Nat) (hm : MSh S i n) : Cn l E base aw yX4_coinsAgree cX4_coinsAgree 3 (some Jvm.ClassFile.FieldType.boolean) 1 0 0 noF S [vr (1, i, 2)] (fun r S' => r = some (vi (ckX S i 6 0)) ∧ S' = S) := by
  refine Cn.of (by decide) (Nat.le_of_ble_eq_true rfl) ?_
  intro X Y hl hE hbase haw hfr C B
  subst hl; subst hE; subst hbase; subst haw
  refine g_iconst (pc := 0) C 0 dX4_coinsAgree_0 (by decide) ?_
  refine g_istore_n (pc := 1) C dX4_coinsAgree_1 (by decide) ?_
  exact g_subR (lp_coins C B hm 6 0 rfl ⟨rfl, rfl⟩) ⟨rfl, rfl, trivial⟩

