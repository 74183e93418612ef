set_option maxHeartbeats 400000 in
theorem o_shut (l : Launch) (E : En) (base aw : Nat) {S : Mm} {mc : Nat} {lc : Nat → Nat} (h : RR S S mc lc) (p0 p1 p2 : Int32) (hon : p2 = 0 ∨ p2 = 1) : Op l E base aw yX6_shut cX6_shut 5 (some Jvm.ClassFile.FieldType.boolean) 2 yX7_shut cX7_shut 4 3 [vi p0, vi p1, vi p2] S := by
  by_cases ok : okL mc lc p0 p1
  · obtain ⟨i, j, hi, hj, rfl, rfl⟩ := ok
    have h8 := h.l8 hi
    by_cases c0 : S.1 (3, i, j) 8 = p2
    · refine Op.same h (v := 0) (v' := 0) ((c_X6_shut _ _ _ _ _ mc lc h.ix i hi j hj p2 hon).t (by simp only [t_X6_shut, if_pos c0])) ((c_X7_shut _ _ _ _ _ mc lc h.im i hi j hj p2 hon).t (by
        have e18 : S.1 (2, 0, 18) (8 * i + j) = S.1 (3, i, j) 8 := (h.d _ _ (vd.l8 hi hj h8)).symm
        simp only [t_X7_shut, e18, if_pos c0])) rfl
    · rcases hon with rfl | rfl
      · refine Op.gen h (v := 1) (S1 := wI (wI S (3, i, j) 8 0) (3, i, j) 7 0) (S2 := wI (wI (wI (wI S (3, i, j) 8 0) (3, i, j) 7 0) (2, 0, 18) (8 * i + j) 0) (2, 0, 17) (8 * i + j) 0) ((c_X6_shut _ _ _ _ _ mc lc h.ix i hi j hj 0 (Or.inl rfl)).t (by simp only [t_X6_shut, if_neg c0, if_true])) ((agM.rf.wI (by simp)).wI (by simp)) (fun h1 => (c_X7_shut _ _ _ _ _ mc lc h1.im i hi j hj 0 (Or.inl rfl)).t (by
          have e18 : (wI (wI S (3, i, j) 8 0) (3, i, j) 7 0).1 (2, 0, 18) (8 * i + j) = S.1 (3, i, j) 8 := (h1.d _ _ (vd.l8 hi hj h8)).symm
          simp only [t_X7_shut, e18, if_neg c0, if_true])) ((agX.rf.wI rfl).wI rfl) (fun h1 => ?_)
        rw [wI_comm (S := S) (by simp), wI_comm (k := (2, 0, 18)) (k' := (2, 0, 17)) (by simp)]
        rw [wI_comm (S := S) (by simp)] at h1
        exact (h1.missU hi hj (v := 0) ⟨0, rfl, by decide, fun _ => by decide⟩).shutU hi hj (fun _ => ⟨0, wI_same, by decide⟩)
      · refine Op.gen h (v := 1) (S1 := wI S (3, i, j) 8 1) (S2 := wI (wI S (3, i, j) 8 1) (2, 0, 18) (8 * i + j) 1) ((c_X6_shut _ _ _ _ _ mc lc h.ix i hi j hj 1 (Or.inr rfl)).t (by simp only [t_X6_shut, if_neg c0, if_neg (show ¬ (1 : Int32) = 0 by decide)])) (agM.rf.wI (by simp)) (fun h1 => (c_X7_shut _ _ _ _ _ mc lc h1.im i hi j hj 1 (Or.inr rfl)).t (by
          have e18 : (wI S (3, i, j) 8 1).1 (2, 0, 18) (8 * i + j) = S.1 (3, i, j) 8 := (h1.d _ _ (vd.l8 hi hj h8)).symm
          simp only [t_X7_shut, e18, if_neg c0, if_neg (show ¬ (1 : Int32) = 0 by decide)]
          rw [wI_id rfl])) (agX.rf.wI rfl) (fun h1 => h1.shutU hi hj (fun q => absurd q (by decide)))
  · exact Op.same h (c_X6_shut_b _ _ _ _ _ mc lc h.ix p0 p1 p2 ok) (c_X7_shut_b _ _ _ _ _ mc lc h.im p0 p1 p2 ok) rfl
set_option maxHeartbeats 400000 in
theorem o_power (l : Launch) (E : En) (base aw : Nat) {S : Mm} {mc : Nat} {lc : Nat → Nat} (h : RR S S mc lc) (p0 p1 : Int32) (hon : p1 = 0 ∨ p1 = 1) : Op l E base aw yX6_power cX6_power 4 (some Jvm.ClassFile.FieldType.boolean) 1 yX7_power cX7_power 3 3 [vi p0, vi p1] S := by
  by_cases ok : okN mc p0
  · obtain ⟨i, hi, rfl⟩ := ok
    have hp := h.pw i hi
    by_cases c0 : S.1 (1, i, 0) 4 = p1
    · refine Op.same h (v := 0) (v' := 0) ((c_X6_power _ _ _ _ _ mc lc h.ix i hi p1 hon).t (by simp only [t_X6_power, if_pos c0])) ((c_X7_power _ _ _ _ _ mc lc h.im i hi p1).t (by
        have e8 : ¬ S.1 (2, 0, 8) i = p1 := by
          rw [← c0]
          rcases hp with ⟨a, b⟩ | ⟨a, b⟩ <;> rw [a, b] <;> decide
        simp only [t_X7_power, if_neg e8])) rfl
    · rcases hon with rfl | rfl
      · have hz : S.1 (2, 0, 8) i = 0 := by
          rcases hp with ⟨a, b⟩ | ⟨a, b⟩
          · exact absurd a c0
          · exact b
        refine Op.gen h (v := 1) (S1 := wI (wI S (1, i, 0) 4 0) (1, i, 0) 5 0) (S2 := wI (wI (wI (wI S (1, i, 0) 4 0) (1, i, 0) 5 0) (2, 0, 8) i 1) (2, 0, 9) i 0) ((c_X6_power _ _ _ _ _ mc lc h.ix i hi 0 (Or.inl rfl)).t (by simp only [t_X6_power, if_neg c0])) ((agM.rf.wI (by simp)).wI (by simp)) (fun h1 => (c_X7_power _ _ _ _ _ mc lc h1.im i hi 0).t (by
          have e8 : (wI (wI S (1, i, 0) 4 0) (1, i, 0) 5 0).1 (2, 0, 8) i = 0 := hz
          simp only [t_X7_power, e8, if_true, if_true])) ((agX.rf.wI rfl).wI rfl) (fun h1 => (h1.powU hi (by decide)).pair (vd.m5 hi) rfl)
      · have hz : S.1 (2, 0, 8) i = 1 := by
          rcases hp with ⟨a, b⟩ | ⟨a, b⟩
          · exact b
          · exact absurd a c0
        refine Op.gen h (v := 1) (S1 := wI (wI S (1, i, 0) 4 1) (1, i, 0) 5 0) (S2 := wI (wI (wI (wI S (1, i, 0) 4 1) (1, i, 0) 5 0) (2, 0, 8) i 0) (2, 0, 9) i 0) ((c_X6_power _ _ _ _ _ mc lc h.ix i hi 1 (Or.inr rfl)).t (by simp only [t_X6_power, if_neg c0])) ((agM.rf.wI (by simp)).wI (by simp)) (fun h1 => (c_X7_power _ _ _ _ _ mc lc h1.im i hi 1).t (by
          have e8 : (wI (wI S (1, i, 0) 4 1) (1, i, 0) 5 0).1 (2, 0, 8) i = 1 := hz
          simp only [t_X7_power, e8, if_true, if_neg (show ¬ (1 : Int32) = 0 by decide)])) ((agX.rf.wI rfl).wI rfl) (fun h1 => (h1.powU hi (by decide)).pair (vd.m5 hi) rfl)
  · exact Op.same h (c_X6_power_b _ _ _ _ _ mc lc h.ix p0 p1 ok) (c_X7_power_b _ _ _ _ _ mc lc h.im p0 p1 ok) rfl
set_option maxHeartbeats 400000 in
theorem o_insert (l : Launch) (E : En) (base aw : Nat) {S : Mm} {mc : Nat} {lc : Nat → Nat} (h : RR S S mc lc) (p0 p1 : Int32) : Op l E base aw yX6_insert cX6_insert 4 (some Jvm.ClassFile.FieldType.int) 1 yX7_insert cX7_insert 3 2 [vi p0, vi p1] S := by
  by_cases ok : okN mc p0 ∧ okN 6 p1
  · obtain ⟨⟨i, hi, rfl⟩, ⟨w, hw, rfl⟩⟩ := ok
    obtain ⟨f, f1, f2, f3⟩ := h.nn i hi
    have hcs : ∀ S1 : Mm, RR S S1 mc lc → csum (fun z => S1.1 (2, 0, 5) (6 * i + z)) 6 = nI (sm f) := fun S1 h1 => cs_n (fun z hz => by rw [← f1 z hz]; exact (h1.d _ _ (vd.inn hi hz)).symm)
    by_cases c0 : sm f = 20
    · have c1 : ¬ S.1 (1, i, 2) 7 < 20 := by rw [f3, c0]; decide
      exact Op.ref h (k := 6) (v := -6) (by decide) ((c_X6_insert _ _ _ _ _ mc lc h.ix i hi w hw).t (by simp only [t_X6_insert, if_neg c1])) (fun S1 h1 => (c_X7_insert _ _ _ _ S1 mc lc h1.im i hi w hw).t (by
        have e : csum (fun z => S1.1 (2, 0, 5) (6 * i + z)) 6 = 20 := by rw [hcs S1 h1, c0]; rfl
        simp only [t_X7_insert, if_pos e]))
    · have c1 : S.1 (1, i, 2) 7 < 20 := by
        rw [f3]
        exact (nI_ltI (a := sm f) (b := 20) (by omega) (by decide)).mpr (by omega)
      refine Op.gen h (v := wsum ((wI (wI (wI S (1, i, 5) w (S.1 (1, i, 5) w + 1)) (1, i, 6) w (S.1 (1, i, 6) w + 1)) (1, i, 2) 7 (S.1 (1, i, 2) 7 + 1)).1 (1, i, 5)) 6) (S1 := wI (wI (wI S (1, i, 5) w (S.1 (1, i, 5) w + 1)) (1, i, 6) w (S.1 (1, i, 6) w + 1)) (1, i, 2) 7 (S.1 (1, i, 2) 7 + 1)) (S2 := wI (wI (wI (wI (wI S (1, i, 5) w (S.1 (1, i, 5) w + 1)) (1, i, 6) w (S.1 (1, i, 6) w + 1)) (1, i, 2) 7 (S.1 (1, i, 2) 7 + 1)) (2, 0, 5) (6 * i + w) (S.1 (1, i, 5) w + 1)) (2, 0, 6) (6 * i + w) (S.1 (1, i, 6) w + 1)) ((c_X6_insert _ _ _ _ _ mc lc h.ix i hi w hw).t (by simp only [t_X6_insert, if_pos c1])) (((agM.rf.wI (by simp)).wI (by simp)).wI (by simp)) (fun h1 => (c_X7_insert _ _ _ _ _ mc lc h1.im i hi w hw).t ?_) ((agX.rf.wI rfl).wI rfl) (fun h1 => ?_)
      · have e : ¬ csum (fun z => (wI (wI (wI S (1, i, 5) w (S.1 (1, i, 5) w + 1)) (1, i, 6) w (S.1 (1, i, 6) w + 1)) (1, i, 2) 7 (S.1 (1, i, 2) 7 + 1)).1 (2, 0, 5) (6 * i + z)) 6 = 20 := by
          rw [hcs _ h1]
          intro q
          have q' : nI (sm f) = nI 20 := q
          rw [nI_eq (by omega) (by omega)] at q'
          omega
        have e5 : (wI (wI (wI S (1, i, 5) w (S.1 (1, i, 5) w + 1)) (1, i, 6) w (S.1 (1, i, 6) w + 1)) (1, i, 2) 7 (S.1 (1, i, 2) 7 + 1)).1 (2, 0, 5) (6 * i + w) = S.1 (1, i, 5) w := (h1.d _ _ (vd.inn hi hw)).symm
        have e6 : (wI (wI (wI S (1, i, 5) w (S.1 (1, i, 5) w + 1)) (1, i, 6) w (S.1 (1, i, 6) w + 1)) (1, i, 2) 7 (S.1 (1, i, 2) 7 + 1)).1 (2, 0, 6) (6 * i + w) = S.1 (1, i, 6) w := (h1.d _ _ (vd.cam hi hw)).symm
        simp only [t_X7_insert, if_neg e, e5]
        rw [show (wI (wI (wI (wI S (1, i, 5) w (S.1 (1, i, 5) w + 1)) (1, i, 6) w (S.1 (1, i, 6) w + 1)) (1, i, 2) 7 (S.1 (1, i, 2) 7 + 1)) (2, 0, 5) (6 * i + w) (S.1 (1, i, 5) w + 1)).1 (2, 0, 6) (6 * i + w) = S.1 (1, i, 6) w from e6]
        refine Prod.ext (congrArg (fun z => some (vi z)) (ws_eq (fun z hz => ?_))) rfl
        have e2 : (wI (wI (wI S (1, i, 5) w (S.1 (1, i, 5) w + 1)) (1, i, 6) w (S.1 (1, i, 6) w + 1)) (1, i, 2) 7 (S.1 (1, i, 2) 7 + 1)).1 (1, i, 5) z = (wI S (1, i, 5) w (S.1 (1, i, 5) w + 1)).1 (1, i, 5) z := (wI_ne (fun q => by cases q.1)).trans (wI_ne (fun q => by cases q.1))
        rw [e2]
        refine (wI_ne (fun q => by cases q.1)).trans ?_
        by_cases q : z = w
        · subst q
          rw [wI_same, wI_same]
        · rw [wI_ne (fun a => q (by have := a.2; omega)), wI_ne (fun a => q a.2)]
          exact (h1.d _ _ (vd.inn hi hz)).symm
      · rw [wI_comm (k := (1, i, 6)) (k' := (1, i, 2)) (by simp)]
        rw [wI_comm (k := (1, i, 6)) (k' := (1, i, 2)) (by simp)] at h1
        refine RR.pair (RR.inU h1 hi hw ⟨fun z => if z = w then f z + 1 else f z, fun z hz => ?_, ?_, ?_⟩) (vd.cam hi hw) rfl
        · by_cases q : z = w
          · subst q
            show _ = nI (if z = z then f z + 1 else f z)
            rw [wI_same, if_pos rfl, f1 z hz]
            exact nI_add _ 1
          · show _ = nI (if z = w then f z + 1 else f z)
            rw [wI_ne (fun a => q a.2), if_neg q]
            exact f1 z hz
        · have : sm (fun z => if z = w then f z + 1 else f z) = sm f + 1 := by
            unfold sm
            rcases (show w = 0 ∨ w = 1 ∨ w = 2 ∨ w = 3 ∨ w = 4 ∨ w = 5 by omega) with rfl | rfl | rfl | rfl | rfl | rfl <;> simp <;> omega
          omega
        · have : sm (fun z => if z = w then f z + 1 else f z) = sm f + 1 := by
            unfold sm
            rcases (show w = 0 ∨ w = 1 ∨ w = 2 ∨ w = 3 ∨ w = 4 ∨ w = 5 by omega) with rfl | rfl | rfl | rfl | rfl | rfl <;> simp <;> omega
          rw [this, f3]
          exact nI_add _ 1
  · exact Op.ref h (k := 1) (by decide) (c_X6_insert_b _ _ _ _ _ mc lc h.ix p0 p1 ok) (fun S1 h1 => c_X7_insert_b _ _ _ _ S1 mc lc h1.im p0 p1 ok)
set_option maxHeartbeats 400000 in
theorem o_back (l : Launch) (E : En) (base aw : Nat) {S : Mm} {mc : Nat} {lc : Nat → Nat} (h : RR S S mc lc) (p0 : Int32) : Op l E base aw yX6_back cX6_back 3 (some Jvm.ClassFile.FieldType.int) 2 yX7_back cX7_back 2 3 [vi p0] S := by
  by_cases ok : okN mc p0
  · obtain ⟨i, hi, rfl⟩ := ok
    refine Op.gen h (S2 := abM (wI (gbX S i 6) (1, i, 2) 7 0) i 6) (c_X6_back _ _ _ _ _ mc lc h.ix i hi) ((gbX_M S i 6).wI (by simp)) (fun h1 => (c_X7_back _ _ _ _ _ mc lc h1.im i hi).t ?_) (abM_X _ i 6) (fun h1 => h1.backU hi)
    have e : wsum (fun z => (wI (gbX S i 6) (1, i, 2) 7 0).1 (2, 0, 5) (6 * i + z)) 6 = wsum (S.1 (1, i, 5)) 6 := ws_eq (fun z hz => (h1.d _ _ (vd.inn hi hz)).symm)
    unfold t_X7_back
    rw [e]
  · exact Op.ref h (k := 1) (by decide) (c_X6_back_b _ _ _ _ _ mc lc h.ix p0 ok) (fun S1 h1 => c_X7_back_b _ _ _ _ S1 mc lc h1.im p0 ok)
set_option maxHeartbeats 400000 in
theorem o_collect (l : Launch) (E : En) (base aw : Nat) {S : Mm} {mc : Nat} {lc : Nat → Nat} (h : RR S S mc lc) (p0 : Int32) : Op l E base aw yX6_collect cX6_collect 3 (some Jvm.ClassFile.FieldType.int) 2 yX7_collect cX7_collect 4 2 [vi p0] S := by
  by_cases ok : okN mc p0
  · obtain ⟨i, hi, rfl⟩ := ok
    refine Op.gen h (S2 := coM (ebX S i 6) i 6) (c_X6_collect _ _ _ _ _ mc lc h.ix i hi) (ebX_M S i 6) (fun h1 => (c_X7_collect _ _ _ _ _ mc lc h1.im i hi).t ?_) (coM_X _ i 6) (fun h1 => h1.collU hi)
    have e : wsum (fun z => (ebX S i 6).1 (2, 0, 4) (6 * i + z)) 6 = wsum (S.1 (1, i, 4)) 6 := ws_eq (fun z hz => (h1.d _ _ (vd.box hi hz)).symm)
    unfold t_X7_collect
    rw [e]
  · exact Op.ref h (k := 1) (by decide) (c_X6_collect_b _ _ _ _ _ mc lc h.ix p0 ok) (fun S1 h1 => c_X7_collect_b _ _ _ _ S1 mc lc h1.im p0 ok)
set_option maxHeartbeats 400000 in
theorem o_check (l : Launch) (E : En) (base aw : Nat) {S : Mm} {mc : Nat} {lc : Nat → Nat} (h : RR S S mc lc) (p0 : Int32) : Op l E base aw yX6_check cX6_check 3 (some Jvm.ClassFile.FieldType.boolean) 2 yX7_check cX7_check 5 2 [vi p0] S := by
  by_cases ok : okN mc p0
  · obtain ⟨i, hi, rfl⟩ := ok
    exact Op.same h (c_X6_check _ _ _ _ _ mc lc h.ix i hi) (c_X7_check _ _ _ _ _ mc lc h.im i hi) (h.chk hi)
  · exact Op.same h (c_X6_check_b _ _ _ _ _ mc lc h.ix p0 ok) (c_X7_check_b _ _ _ _ _ mc lc h.im p0 ok) rfl
set_option maxHeartbeats 400000 in
theorem o_foretell (l : Launch) (E : En) (base aw : Nat) {S : Mm} {mc : Nat} {lc : Nat → Nat} (h : RR S S mc lc) (p0 p1 p2 : Int32) : Op l E base aw yX6_foretell cX6_foretell 5 (some Jvm.ClassFile.FieldType.int) 3 yX7_foretell cX7_foretell 6 2 [vi p0, vi p1, vi p2] S := by
  by_cases ok : okN mc p0 ∧ okN 16 p1
  · obtain ⟨⟨i, hi, rfl⟩, ⟨g, hg, rfl⟩⟩ := ok
    obtain ⟨t, t1, t2, -⟩ := h.hr
    by_cases c1 : 0 ≤ p2
    · by_cases c2 : p2 ≤ 240
      · obtain ⟨n, rfl, -, hn⟩ := i32_rng (a := 0) (b := 240) c1 c2
        exact Op.same h (c_X6_foretell _ _ _ _ _ mc lc h.ix i hi g hg t t2 t1 n hn) (c_X7_foretell _ _ _ _ _ mc lc h.im i hi g hg t ((h.d _ _ vd.hour).symm.trans t2) t1 n hn) (h.fs hi hg n)
      · exact Op.ref h (k := 6) (by decide) (c_X6_foretell_hi _ _ _ _ _ mc lc h.ix i hi g hg p2 c1 c2) (fun S1 h1 => c_X7_foretell_hi _ _ _ _ S1 mc lc h1.im i hi g hg p2 c1 c2)
    · exact Op.ref h (k := 4) (by decide) (c_X6_foretell_lo _ _ _ _ _ mc lc h.ix i hi g hg p2 c1) (fun S1 h1 => c_X7_foretell_lo _ _ _ _ S1 mc lc h1.im i hi g hg p2 c1)
  · exact Op.ref h (k := 1) (by decide) (c_X6_foretell_b _ _ _ _ _ mc lc h.ix p0 p1 p2 ok) (fun S1 h1 => c_X7_foretell_b _ _ _ _ S1 mc lc h1.im p0 p1 p2 ok)
set_option maxHeartbeats 400000 in
theorem o_when (l : Launch) (E : En) (base aw : Nat) {S : Mm} {mc : Nat} {lc : Nat → Nat} (h : RR S S mc lc) (p0 p1 : Int32) : Op l E base aw yX6_when cX6_when 6 (some Jvm.ClassFile.FieldType.int) 3 yX7_when cX7_when 7 3 [vi p0, vi p1] S := by
  by_cases ok : okL mc lc p0 p1
  · obtain ⟨i, j, hi, hj, rfl, rfl⟩ := ok
    have h8 := h.l8 hi
    obtain ⟨t, t1, t2, -⟩ := h.hr
    obtain ⟨⟨g, g1, g2⟩, -⟩ := h.lb i hi j hj
    exact Op.same h (c_X6_when _ _ _ _ _ mc lc h.ix i hi j hj g g1 g2 t t2 t1) (c_X7_when _ _ _ _ _ mc lc h.im i hi j hj g ((h.d _ _ (vd.l0 hi hj h8)).symm.trans g1) g2 t ((h.d _ _ vd.hour).symm.trans t2) t1) (by
      unfold v_X7_when v_X6_when
      rw [h.st hi _ _ (Nat.le_refl _), h.wh hi g2])
  · exact Op.ref h (k := 1) (by decide) (c_X6_when_b _ _ _ _ _ mc lc h.ix p0 p1 ok) (fun S1 h1 => c_X7_when_b _ _ _ _ S1 mc lc h1.im p0 p1 ok)
