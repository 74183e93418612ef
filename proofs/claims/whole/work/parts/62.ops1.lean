theorem i32_rng {v : Int32} {a b : Nat} (h1 : nI a ≤ v) (h2 : v ≤ nI b) (ha : a < 2 ^ 31 := by decide) (hb : b < 2 ^ 31 := by decide) : ∃ s, v = nI s ∧ a ≤ s ∧ s ≤ b := by
  have h1' := Int32.le_iff_toInt_le.mp h1
  have h2' := Int32.le_iff_toInt_le.mp h2
  rw [nI_toInt ha] at h1'
  rw [nI_toInt hb] at h2'
  have e : v = nI v.toInt.toNat := by
    apply Int32.toInt_inj.mp
    rw [nI_toInt (by omega)]
    omega
  exact ⟨v.toInt.toNat, e, by omega, by omega⟩
theorem blw_rng {v : Int32} (h : blw v = 0) (h2 : v ≤ 5000) : ∃ p, v = nI p ∧ 10 ≤ p ∧ p ≤ 5000 ∧ p % 10 = 0 := by
  unfold blw at h
  split at h
  · exact absurd h (by decide)
  · rename_i q
    have q1 : (10 : Int32) ≤ v := Int32.not_lt.mp (fun z => q (Or.inl z))
    obtain ⟨p, rfl, a, b⟩ := i32_rng (a := 10) (b := 5000) q1 h2
    refine ⟨p, rfl, a, b, ?_⟩
    have q2 : nI p - nI p / 10 * 10 = 0 := Decidable.not_not.mp (fun z => q (Or.inr z))
    have e : nI p - nI p / 10 * 10 = nI (p % 10) := pk_rem (a := p) (d := 10) (by omega) (by decide) (by decide)
    rw [e] at q2
    rcases Nat.eq_zero_or_pos (p % 10) with z | z
    · exact z
    · exact absurd q2 (nI_ne0 z (by omega))
set_option maxHeartbeats 400000 in
theorem o_size (l : Launch) (E : En) (base aw : Nat) {S : Mm} {mc : Nat} {lc : Nat → Nat} (h : RR S S mc lc) (p0 p1 : Int32) : Op l E base aw yX6_size cX6_size 4 (some Jvm.ClassFile.FieldType.int) 1 yX7_size cX7_size 4 1 [vi p0, vi p1] S := by
  by_cases ok : okN 16 p0
  · obtain ⟨g, hg, rfl⟩ := ok
    by_cases c1 : 1 ≤ p1
    · by_cases c2 : p1 ≤ 9
      · refine Op.gen h (v := S.1 (0, 0, 2) g) (S1 := wI S (0, 0, 2) g p1) (S2 := wI (wI S (0, 0, 2) g p1) (2, 0, 20) g p1) ((c_X6_size _ _ _ _ _ mc lc h.ix g hg p1).t (by simp only [t_X6_size, if_pos c1, if_pos c2])) (agM.rf.wI (by simp)) (fun h1 => (c_X7_size _ _ _ _ _ h1.im.1 g hg p1).t (by
          have e : (wI S (0, 0, 2) g p1).1 (2, 0, 20) g = S.1 (0, 0, 2) g := (h1.d _ _ (vd.size hg)).symm
          simp only [t_X7_size, if_pos c1, if_pos c2, e])) (agX.rf.wI rfl) (fun h1 => h1.sizeU hg (i32_rng c1 c2))
      · exact Op.ref h (k := 6) (v := -6) (by decide) ((c_X6_size _ _ _ _ _ mc lc h.ix g hg p1).t (by simp only [t_X6_size, if_pos c1, if_neg c2])) (fun S1 h1 => (c_X7_size _ _ _ _ _ h1.im.1 g hg p1).t (by simp only [t_X7_size, if_pos c1, if_neg c2]))
    · exact Op.ref h (k := 4) (v := -4) (by decide) ((c_X6_size _ _ _ _ _ mc lc h.ix g hg p1).t (by simp only [t_X6_size, if_neg c1])) (fun S1 h1 => (c_X7_size _ _ _ _ _ h1.im.1 g hg p1).t (by simp only [t_X7_size, if_neg c1]))
  · exact Op.ref h (k := 1) (by decide) (c_X6_size_b _ _ _ _ _ mc lc h.ix p0 p1 ok) (fun S1 h1 => c_X7_size_b _ _ _ _ S1 h1.im.1 p0 p1 ok)
set_option maxHeartbeats 400000 in
theorem o_given (l : Launch) (E : En) (base aw : Nat) {S : Mm} {mc : Nat} {lc : Nat → Nat} (h : RR S S mc lc) (p0 : Int32) : Op l E base aw yX6_given cX6_given 2 (some Jvm.ClassFile.FieldType.int) 1 yX7_given cX7_given 2 1 [vi p0] S := by
  by_cases ok : okN 6 p0
  · obtain ⟨g, hg, rfl⟩ := ok
    exact Op.same h (c_X6_given _ _ _ _ _ mc lc h.ix g hg) ((c_X7_given _ _ _ _ _ h.im.1 g hg).t rfl) (h.d _ _ (vd.giv hg)).symm
  · exact Op.ref h (k := 1) (by decide) (c_X6_given_b _ _ _ _ _ mc lc h.ix p0 ok) (fun S1 h1 => c_X7_given_b _ _ _ _ S1 h1.im.1 p0 ok)
set_option maxHeartbeats 400000 in
theorem o_price (l : Launch) (E : En) (base aw : Nat) {S : Mm} {mc : Nat} {lc : Nat → Nat} (h : RR S S mc lc) (p0 p1 p2 : Int32) : Op l E base aw yX6_price cX6_price 6 (some Jvm.ClassFile.FieldType.int) 2 yX7_price cX7_price 5 3 [vi p0, vi p1, vi p2] S := by
  by_cases ok : okL mc lc p0 p1
  · obtain ⟨i, j, hi, hj, rfl, rfl⟩ := ok
    have h8 := h.l8 hi
    by_cases c1 : blw p2 = 0
    · by_cases c2 : p2 ≤ 5000
      · refine Op.gen h (v := S.1 (3, i, j) 4) (S1 := wI S (3, i, j) 4 p2) (S2 := wI (wI S (3, i, j) 4 p2) (2, 0, 11) (8 * i + j) p2) ((c_X6_price _ _ _ _ _ mc lc h.ix i hi j hj p2).t (by simp only [t_X6_price, if_pos c1, if_pos c2])) (agM.rf.wI (by simp)) (fun h1 => (c_X7_price _ _ _ _ _ mc lc h1.im i hi j hj p2).t (by
          have e : (wI S (3, i, j) 4 p2).1 (2, 0, 11) (8 * i + j) = S.1 (3, i, j) 4 := (h1.d _ _ (vd.l4 hi hj h8)).symm
          simp only [t_X7_price, if_pos c1, if_pos c2, e])) (agX.rf.wI rfl) (fun h1 => h1.priceU hi hj (blw_rng c1 c2))
      · exact Op.ref h (k := 6) (v := -6) (by decide) ((c_X6_price _ _ _ _ _ mc lc h.ix i hi j hj p2).t (by simp only [t_X6_price, if_pos c1, if_neg c2])) (fun S1 h1 => (c_X7_price _ _ _ _ S1 mc lc h1.im i hi j hj p2).t (by simp only [t_X7_price, if_pos c1, if_neg c2]))
    · exact Op.ref h (k := 4) (v := -4) (by decide) ((c_X6_price _ _ _ _ _ mc lc h.ix i hi j hj p2).t (by simp only [t_X6_price, if_neg c1])) (fun S1 h1 => (c_X7_price _ _ _ _ S1 mc lc h1.im i hi j hj p2).t (by simp only [t_X7_price, if_neg c1]))
  · exact Op.ref h (k := 1) (by decide) (c_X6_price_b _ _ _ _ _ mc lc h.ix p0 p1 p2 ok) (fun S1 h1 => c_X7_price_b _ _ _ _ S1 mc lc h1.im p0 p1 p2 ok)
set_option maxHeartbeats 400000 in
theorem o_stick (l : Launch) (E : En) (base aw : Nat) {S : Mm} {mc : Nat} {lc : Nat → Nat} (h : RR S S mc lc) (p0 p1 p2 : Int32) : Op l E base aw yX6_stick cX6_stick 5 (some Jvm.ClassFile.FieldType.int) 2 yX7_stick cX7_stick 4 3 [vi p0, vi p1, vi p2] S := by
  by_cases ok : okL mc lc p0 p1
  · obtain ⟨i, j, hi, hj, rfl, rfl⟩ := ok
    have h8 := h.l8 hi
    by_cases c0 : S.1 (3, i, j) 2 = 1
    · by_cases c1 : 0 ≤ p2
      · by_cases c2 : p2 ≤ 9 - S.1 (3, i, j) 6
        · refine Op.gen h (v := S.1 (3, i, j) 6 + p2) (S1 := wI S (3, i, j) 6 (S.1 (3, i, j) 6 + p2)) (S2 := wI (wI S (3, i, j) 6 (S.1 (3, i, j) 6 + p2)) (2, 0, 16) (8 * i + j) (S.1 (3, i, j) 6 + p2)) ((c_X6_stick _ _ _ _ _ mc lc h.ix i hi j hj p2).t (by simp only [t_X6_stick, if_pos c0, if_pos c1, if_pos c2, wI_same])) (agM.rf.wI (by simp)) (fun h1 => (c_X7_stick _ _ _ _ _ mc lc h1.im i hi j hj p2).t (by
            have e16 : (wI S (3, i, j) 6 (S.1 (3, i, j) 6 + p2)).1 (2, 0, 16) (8 * i + j) = S.1 (3, i, j) 6 := (h1.d _ _ (vd.l6 hi hj h8)).symm
            have e14 : (wI S (3, i, j) 6 (S.1 (3, i, j) 6 + p2)).1 (2, 0, 14) (8 * i + j) = S.1 (3, i, j) 2 := (h1.d _ _ (vd.l2 hi hj h8)).symm
            simp only [t_X7_stick, e14, e16, if_pos c0, if_pos c1, if_pos c2, wI_same])) (agX.rf.wI rfl) (fun h1 => h1.pair (vd.l6 hi hj h8) rfl)
        · exact Op.ref h (k := 6) (v := -6) (by decide) ((c_X6_stick _ _ _ _ _ mc lc h.ix i hi j hj p2).t (by simp only [t_X6_stick, if_pos c0, if_pos c1, if_neg c2])) (fun S1 h1 => (c_X7_stick _ _ _ _ S1 mc lc h1.im i hi j hj p2).t (by have e16 : S1.1 (2, 0, 16) (8 * i + j) = S.1 (3, i, j) 6 := (h1.d _ _ (vd.l6 hi hj h8)).symm; have e14 : S1.1 (2, 0, 14) (8 * i + j) = S.1 (3, i, j) 2 := (h1.d _ _ (vd.l2 hi hj h8)).symm; simp only [t_X7_stick, e14, e16, if_pos c0, if_pos c1, if_neg c2]))
      · exact Op.ref h (k := 4) (v := -4) (by decide) ((c_X6_stick _ _ _ _ _ mc lc h.ix i hi j hj p2).t (by simp only [t_X6_stick, if_pos c0, if_neg c1])) (fun S1 h1 => (c_X7_stick _ _ _ _ S1 mc lc h1.im i hi j hj p2).t (by have e14 : S1.1 (2, 0, 14) (8 * i + j) = S.1 (3, i, j) 2 := (h1.d _ _ (vd.l2 hi hj h8)).symm; simp only [t_X7_stick, e14, if_pos c0, if_neg c1]))
    · exact Op.ref h (k := 2) (v := -2) (by decide) ((c_X6_stick _ _ _ _ _ mc lc h.ix i hi j hj p2).t (by simp only [t_X6_stick, if_neg c0])) (fun S1 h1 => (c_X7_stick _ _ _ _ S1 mc lc h1.im i hi j hj p2).t (by have e14 : S1.1 (2, 0, 14) (8 * i + j) = S.1 (3, i, j) 2 := (h1.d _ _ (vd.l2 hi hj h8)).symm; simp only [t_X7_stick, e14, if_neg c0]))
  · exact Op.ref h (k := 1) (by decide) (c_X6_stick_b _ _ _ _ _ mc lc h.ix p0 p1 p2 ok) (fun S1 h1 => c_X7_stick_b _ _ _ _ S1 mc lc h1.im p0 p1 p2 ok)
set_option maxHeartbeats 400000 in
theorem o_fill (l : Launch) (E : En) (base aw : Nat) {S : Mm} {mc : Nat} {lc : Nat → Nat} (h : RR S S mc lc) (p0 p1 p2 : Int32) : Op l E base aw yX6_fill cX6_fill 6 (some Jvm.ClassFile.FieldType.int) 2 yX7_fill cX7_fill 5 3 [vi p0, vi p1, vi p2] S := by
  by_cases ok : okL mc lc p0 p1
  · obtain ⟨i, j, hi, hj, rfl, rfl⟩ := ok
    have h8 := h.l8 hi
    by_cases c0 : S.1 (3, i, j) 9 = 0
    · by_cases c1 : 0 ≤ p2
      · by_cases c2 : p2 ≤ S.1 (3, i, j) 1 - S.1 (3, i, j) 5
        · refine Op.gen h (v := S.1 (3, i, j) 5 + p2) (S1 := wI (wI S (3, i, j) 5 (S.1 (3, i, j) 5 + p2)) (1, i, 0) 9 (S.1 (1, i, 0) 9 + p2)) (S2 := wI (wI (wI (wI S (3, i, j) 5 (S.1 (3, i, j) 5 + p2)) (1, i, 0) 9 (S.1 (1, i, 0) 9 + p2)) (2, 0, 13) (8 * i + j) (S.1 (3, i, j) 5 + p2)) (2, 0, 26) i (S.1 (1, i, 0) 9 + p2)) ((c_X6_fill _ _ _ _ _ mc lc h.ix i hi j hj p2).t (by
            simp only [t_X6_fill, if_pos c0, if_pos c1, if_pos c2]
            rw [show (wI S (3, i, j) 5 (S.1 (3, i, j) 5 + p2)).1 (1, i, 0) 9 = S.1 (1, i, 0) 9 from rfl, show (wI (wI S (3, i, j) 5 (S.1 (3, i, j) 5 + p2)) (1, i, 0) 9 (S.1 (1, i, 0) 9 + p2)).1 (3, i, j) 5 = S.1 (3, i, j) 5 + p2 from wI_same])) ((agM.rf.wI (by simp)).wI (by simp)) (fun h1 => (c_X7_fill _ _ _ _ _ mc lc h1.im i hi j hj p2).t (by
            have e19 : (wI (wI S (3, i, j) 5 (S.1 (3, i, j) 5 + p2)) (1, i, 0) 9 (S.1 (1, i, 0) 9 + p2)).1 (2, 0, 19) (8 * i + j) = S.1 (3, i, j) 9 := (h1.d _ _ (vd.l9 hi hj h8)).symm
            have e12 : (wI (wI S (3, i, j) 5 (S.1 (3, i, j) 5 + p2)) (1, i, 0) 9 (S.1 (1, i, 0) 9 + p2)).1 (2, 0, 12) (8 * i + j) = S.1 (3, i, j) 1 := (h1.d _ _ (vd.l1 hi hj h8)).symm
            have e13 : (wI (wI S (3, i, j) 5 (S.1 (3, i, j) 5 + p2)) (1, i, 0) 9 (S.1 (1, i, 0) 9 + p2)).1 (2, 0, 13) (8 * i + j) = S.1 (3, i, j) 5 := (h1.d _ _ (vd.l5 hi hj h8)).symm
            have e26 : (wI (wI S (3, i, j) 5 (S.1 (3, i, j) 5 + p2)) (1, i, 0) 9 (S.1 (1, i, 0) 9 + p2)).1 (2, 0, 26) (i) = S.1 (1, i, 0) 9 := (h1.d _ _ (vd.m9 hi)).symm
            simp only [t_X7_fill, e19, e12, e13, if_pos c0, if_pos c1, if_pos c2]
            rw [show (wI (wI (wI S (3, i, j) 5 (S.1 (3, i, j) 5 + p2)) (1, i, 0) 9 (S.1 (1, i, 0) 9 + p2)) (2, 0, 13) (8 * i + j) (S.1 (3, i, j) 5 + p2)).1 (2, 0, 26) i = S.1 (1, i, 0) 9 from e26, show (wI (wI (wI (wI S (3, i, j) 5 (S.1 (3, i, j) 5 + p2)) (1, i, 0) 9 (S.1 (1, i, 0) 9 + p2)) (2, 0, 13) (8 * i + j) (S.1 (3, i, j) 5 + p2)) (2, 0, 26) i (S.1 (1, i, 0) 9 + p2)).1 (2, 0, 13) (8 * i + j) = S.1 (3, i, j) 5 + p2 from wI_same])) ((agX.rf.wI rfl).wI rfl) (fun h1 => RR.pair (RR.stockU h1 hi hj ?_) (vd.m9 hi) rfl)
          obtain ⟨-, ⟨d, s, d1, d2, d3, d4⟩, -⟩ := h.lb i hi j hj
          rw [d1, d3, pk_sub d4] at c2
          obtain ⟨p, rfl, -, hp⟩ := i32_rng (a := 0) (b := d - s) c1 c2 (by decide) (by omega)
          exact ⟨d, s + p, d1, by rw [d3, nI_add], by omega, d2⟩
        · exact Op.ref h (k := 6) (v := -6) (by decide) ((c_X6_fill _ _ _ _ _ mc lc h.ix i hi j hj p2).t (by simp only [t_X6_fill, if_pos c0, if_pos c1, if_neg c2])) (fun S1 h1 => (c_X7_fill _ _ _ _ S1 mc lc h1.im i hi j hj p2).t (by have e19 : S1.1 (2, 0, 19) (8 * i + j) = S.1 (3, i, j) 9 := (h1.d _ _ (vd.l9 hi hj h8)).symm; have e12 : S1.1 (2, 0, 12) (8 * i + j) = S.1 (3, i, j) 1 := (h1.d _ _ (vd.l1 hi hj h8)).symm; have e13 : S1.1 (2, 0, 13) (8 * i + j) = S.1 (3, i, j) 5 := (h1.d _ _ (vd.l5 hi hj h8)).symm; simp only [t_X7_fill, e19, e12, e13, if_pos c0, if_pos c1, if_neg c2]))
      · exact Op.ref h (k := 4) (v := -4) (by decide) ((c_X6_fill _ _ _ _ _ mc lc h.ix i hi j hj p2).t (by simp only [t_X6_fill, if_pos c0, if_neg c1])) (fun S1 h1 => (c_X7_fill _ _ _ _ S1 mc lc h1.im i hi j hj p2).t (by have e19 : S1.1 (2, 0, 19) (8 * i + j) = S.1 (3, i, j) 9 := (h1.d _ _ (vd.l9 hi hj h8)).symm; simp only [t_X7_fill, e19, if_pos c0, if_neg c1]))
    · exact Op.ref h (k := 3) (v := -3) (by decide) ((c_X6_fill _ _ _ _ _ mc lc h.ix i hi j hj p2).t (by simp only [t_X6_fill, if_neg c0])) (fun S1 h1 => (c_X7_fill _ _ _ _ S1 mc lc h1.im i hi j hj p2).t (by have e19 : S1.1 (2, 0, 19) (8 * i + j) = S.1 (3, i, j) 9 := (h1.d _ _ (vd.l9 hi hj h8)).symm; simp only [t_X7_fill, e19, if_neg c0]))
  · exact Op.ref h (k := 1) (by decide) (c_X6_fill_b _ _ _ _ _ mc lc h.ix p0 p1 p2 ok) (fun S1 h1 => c_X7_fill_b _ _ _ _ S1 mc lc h1.im p0 p1 p2 ok)
set_option maxHeartbeats 400000 in
theorem o_found (l : Launch) (E : En) (base aw : Nat) {S : Mm} {mc : Nat} {lc : Nat → Nat} (h : RR S S mc lc) (p0 p1 p2 : Int32) : Op l E base aw yX6_found cX6_found 7 (some Jvm.ClassFile.FieldType.int) 2 yX7_found cX7_found 6 3 [vi p0, vi p1, vi p2] S := by
  by_cases ok : okL mc lc p0 p1
  · obtain ⟨i, j, hi, hj, rfl, rfl⟩ := ok
    have h8 := h.l8 hi
    by_cases c1 : 0 ≤ p2
    · by_cases c2 : p2 ≤ S.1 (3, i, j) 1
      · refine Op.gen h (v := S.1 (3, i, j) 5) (S1 := wI (wI S (1, i, 0) 6 (S.1 (1, i, 0) 6 + (S.1 (3, i, j) 5 - p2))) (3, i, j) 5 p2) (S2 := wI (wI (wI (wI S (1, i, 0) 6 (S.1 (1, i, 0) 6 + (S.1 (3, i, j) 5 - p2))) (3, i, j) 5 p2) (2, 0, 23) i (S.1 (1, i, 0) 6 + (S.1 (3, i, j) 5 - p2))) (2, 0, 13) (8 * i + j) p2) ((c_X6_found _ _ _ _ _ mc lc h.ix i hi j hj p2).t (by
            simp only [t_X6_found, if_pos c1, if_pos c2])) ((agM.rf.wI (by simp)).wI (by simp)) (fun h1 => (c_X7_found _ _ _ _ _ mc lc h1.im i hi j hj p2).t (by
            have e12 : (wI (wI S (1, i, 0) 6 (S.1 (1, i, 0) 6 + (S.1 (3, i, j) 5 - p2))) (3, i, j) 5 p2).1 (2, 0, 12) (8 * i + j) = S.1 (3, i, j) 1 := (h1.d _ _ (vd.l1 hi hj h8)).symm
            have e13 : (wI (wI S (1, i, 0) 6 (S.1 (1, i, 0) 6 + (S.1 (3, i, j) 5 - p2))) (3, i, j) 5 p2).1 (2, 0, 13) (8 * i + j) = S.1 (3, i, j) 5 := (h1.d _ _ (vd.l5 hi hj h8)).symm
            have e23 : (wI (wI S (1, i, 0) 6 (S.1 (1, i, 0) 6 + (S.1 (3, i, j) 5 - p2))) (3, i, j) 5 p2).1 (2, 0, 23) (i) = S.1 (1, i, 0) 6 := (h1.d _ _ (vd.m6 hi)).symm
            simp only [t_X7_found, e12, e13, e23, if_pos c1, if_pos c2])) ((agX.rf.wI rfl).wI rfl) (fun h1 => RR.stockU (RR.pair h1 (vd.m6 hi) rfl) hi hj ?_)
        obtain ⟨-, ⟨d, s, d1, d2, d3, d4⟩, -⟩ := h.lb i hi j hj
        rw [d1] at c2
        obtain ⟨p, rfl, -, hp⟩ := i32_rng (a := 0) (b := d) c1 c2 (by decide) (by omega)
        exact ⟨d, p, d1, rfl, hp, d2⟩
      · exact Op.ref h (k := 6) (v := -6) (by decide) ((c_X6_found _ _ _ _ _ mc lc h.ix i hi j hj p2).t (by simp only [t_X6_found, if_pos c1, if_neg c2])) (fun S1 h1 => (c_X7_found _ _ _ _ S1 mc lc h1.im i hi j hj p2).t (by have e12 : S1.1 (2, 0, 12) (8 * i + j) = S.1 (3, i, j) 1 := (h1.d _ _ (vd.l1 hi hj h8)).symm; simp only [t_X7_found, e12, if_pos c1, if_neg c2]))
    · exact Op.ref h (k := 4) (v := -4) (by decide) ((c_X6_found _ _ _ _ _ mc lc h.ix i hi j hj p2).t (by simp only [t_X6_found, if_neg c1])) (fun S1 h1 => (c_X7_found _ _ _ _ S1 mc lc h1.im i hi j hj p2).t (by simp only [t_X7_found, if_neg c1]))
  · exact Op.ref h (k := 1) (by decide) (c_X6_found_b _ _ _ _ _ mc lc h.ix p0 p1 p2 ok) (fun S1 h1 => c_X7_found_b _ _ _ _ S1 mc lc h1.im p0 p1 p2 ok)
set_option maxHeartbeats 400000 in
theorem o_empty (l : Launch) (E : En) (base aw : Nat) {S : Mm} {mc : Nat} {lc : Nat → Nat} (h : RR S S mc lc) (p0 p1 : Int32) : Op l E base aw yX6_empty cX6_empty 6 (some Jvm.ClassFile.FieldType.int) 2 yX7_empty cX7_empty 5 3 [vi p0, vi p1] S := by
  by_cases ok : okL mc lc p0 p1
  · obtain ⟨i, j, hi, hj, rfl, rfl⟩ := ok
    have h8 := h.l8 hi
    refine Op.gen h (v := S.1 (3, i, j) 5) (S1 := wI (wI (wI S (1, i, 0) 7 (S.1 (1, i, 0) 7 + S.1 (3, i, j) 5)) (3, i, j) 5 0) (3, i, j) 9 0) (S2 := wI (wI (wI (wI (wI (wI S (1, i, 0) 7 (S.1 (1, i, 0) 7 + S.1 (3, i, j) 5)) (3, i, j) 5 0) (3, i, j) 9 0) (2, 0, 24) i (S.1 (1, i, 0) 7 + S.1 (3, i, j) 5)) (2, 0, 13) (8 * i + j) 0) (2, 0, 19) (8 * i + j) 0) ((c_X6_empty _ _ _ _ _ mc lc h.ix i hi j hj).t rfl) (((agM.rf.wI (by simp)).wI (by simp)).wI (by simp)) (fun h1 => (c_X7_empty _ _ _ _ _ mc lc h1.im i hi j hj).t (by
        have e13 : (wI (wI (wI S (1, i, 0) 7 (S.1 (1, i, 0) 7 + S.1 (3, i, j) 5)) (3, i, j) 5 0) (3, i, j) 9 0).1 (2, 0, 13) (8 * i + j) = S.1 (3, i, j) 5 := (h1.d _ _ (vd.l5 hi hj h8)).symm
        have e24 : (wI (wI (wI S (1, i, 0) 7 (S.1 (1, i, 0) 7 + S.1 (3, i, j) 5)) (3, i, j) 5 0) (3, i, j) 9 0).1 (2, 0, 24) (i) = S.1 (1, i, 0) 7 := (h1.d _ _ (vd.m7 hi)).symm
        simp only [t_X7_empty, e13, e24])) (((agX.rf.wI rfl).wI rfl).wI rfl) (fun h1 => RR.pair (RR.stockU (RR.pair h1 (vd.m7 hi) rfl) hi hj ?_) (vd.l9 hi hj h8) rfl)
    obtain ⟨-, ⟨d, s, d1, d2, d3, d4⟩, -⟩ := h.lb i hi j hj
    exact ⟨d, 0, d1, rfl, Nat.zero_le _, d2⟩
  · exact Op.ref h (k := 1) (by decide) (c_X6_empty_b _ _ _ _ _ mc lc h.ix p0 p1 ok) (fun S1 h1 => c_X7_empty_b _ _ _ _ S1 mc lc h1.im p0 p1 ok)
set_option maxHeartbeats 400000 in
theorem o_tube (l : Launch) (E : En) (base aw : Nat) {S : Mm} {mc : Nat} {lc : Nat → Nat} (h : RR S S mc lc) (p0 p1 p2 : Int32) : Op l E base aw yX6_tube cX6_tube 5 (some Jvm.ClassFile.FieldType.int) 1 yX7_tube cX7_tube 4 2 [vi p0, vi p1, vi p2] S := by
  by_cases ok : okN mc p0 ∧ okN 6 p1
  · obtain ⟨⟨i, hi, rfl⟩, ⟨w, hw, rfl⟩⟩ := ok
    by_cases c1 : 0 ≤ p2
    · by_cases c2 : p2 ≤ 50 - S.1 (1, i, 3) w
      · refine Op.gen h (v := S.1 (1, i, 3) w + p2) (S1 := wI (wI S (1, i, 3) w (S.1 (1, i, 3) w + p2)) (1, i, 6) w (S.1 (1, i, 6) w + p2)) (S2 := wI (wI (wI (wI S (1, i, 3) w (S.1 (1, i, 3) w + p2)) (1, i, 6) w (S.1 (1, i, 6) w + p2)) (2, 0, 3) (6 * i + w) (S.1 (1, i, 3) w + p2)) (2, 0, 6) (6 * i + w) (S.1 (1, i, 6) w + p2)) ((c_X6_tube _ _ _ _ _ mc lc h.ix i hi w hw p2).t (by
            simp only [t_X6_tube, if_pos c1, if_pos c2]
            rw [show (wI (wI S (1, i, 3) w (S.1 (1, i, 3) w + p2)) (1, i, 6) w (S.1 (1, i, 6) w + p2)).1 (1, i, 3) w = S.1 (1, i, 3) w + p2 from (wI_ne (fun q => by cases q.1)).trans wI_same])) ((agM.rf.wI (by simp)).wI (by simp)) (fun h1 => (c_X7_tube _ _ _ _ _ mc lc h1.im i hi w hw p2).t (by
            have e3 : (wI (wI S (1, i, 3) w (S.1 (1, i, 3) w + p2)) (1, i, 6) w (S.1 (1, i, 6) w + p2)).1 (2, 0, 3) (6 * i + w) = S.1 (1, i, 3) w := (h1.d _ _ (vd.tub hi hw)).symm
            have e6 : (wI (wI S (1, i, 3) w (S.1 (1, i, 3) w + p2)) (1, i, 6) w (S.1 (1, i, 6) w + p2)).1 (2, 0, 6) (6 * i + w) = S.1 (1, i, 6) w := (h1.d _ _ (vd.cam hi hw)).symm
            simp only [t_X7_tube, e3, if_pos c1, if_pos c2]
            rw [show (wI (wI (wI S (1, i, 3) w (S.1 (1, i, 3) w + p2)) (1, i, 6) w (S.1 (1, i, 6) w + p2)) (2, 0, 3) (6 * i + w) (S.1 (1, i, 3) w + p2)).1 (2, 0, 6) (6 * i + w) = S.1 (1, i, 6) w from e6, show (wI (wI (wI (wI S (1, i, 3) w (S.1 (1, i, 3) w + p2)) (1, i, 6) w (S.1 (1, i, 6) w + p2)) (2, 0, 3) (6 * i + w) (S.1 (1, i, 3) w + p2)) (2, 0, 6) (6 * i + w) (S.1 (1, i, 6) w + p2)).1 (2, 0, 3) (6 * i + w) = S.1 (1, i, 3) w + p2 from wI_same])) ((agX.rf.wI rfl).wI rfl) (fun h1 => RR.pair (RR.tubeU h1 hi hw ?_) (vd.cam hi hw) rfl)
        obtain ⟨n, n1, n2⟩ := h.tb i hi w hw
        rw [n1, show (50 : Int32) - nI n = nI (50 - n) from pk_sub (a := 50) n2] at c2
        obtain ⟨p, rfl, -, hp⟩ := i32_rng (a := 0) (b := 50 - n) c1 c2 (by decide) (by omega)
        exact ⟨n + p, by rw [n1, nI_add], by omega⟩
      · exact Op.ref h (k := 6) (v := -6) (by decide) ((c_X6_tube _ _ _ _ _ mc lc h.ix i hi w hw p2).t (by simp only [t_X6_tube, if_pos c1, if_neg c2])) (fun S1 h1 => (c_X7_tube _ _ _ _ S1 mc lc h1.im i hi w hw p2).t (by have e3 : S1.1 (2, 0, 3) (6 * i + w) = S.1 (1, i, 3) w := (h1.d _ _ (vd.tub hi hw)).symm; simp only [t_X7_tube, e3, if_pos c1, if_neg c2]))
    · exact Op.ref h (k := 4) (v := -4) (by decide) ((c_X6_tube _ _ _ _ _ mc lc h.ix i hi w hw p2).t (by simp only [t_X6_tube, if_neg c1])) (fun S1 h1 => (c_X7_tube _ _ _ _ S1 mc lc h1.im i hi w hw p2).t (by simp only [t_X7_tube, if_neg c1]))
  · exact Op.ref h (k := 1) (by decide) (c_X6_tube_b _ _ _ _ _ mc lc h.ix p0 p1 p2 ok) (fun S1 h1 => c_X7_tube_b _ _ _ _ S1 mc lc h1.im p0 p1 p2 ok)
set_option maxHeartbeats 400000 in
theorem o_tubeOf (l : Launch) (E : En) (base aw : Nat) {S : Mm} {mc : Nat} {lc : Nat → Nat} (h : RR S S mc lc) (p0 p1 : Int32) : Op l E base aw yX6_tubeOf cX6_tubeOf 4 (some Jvm.ClassFile.FieldType.int) 1 yX7_tubeOf cX7_tubeOf 3 2 [vi p0, vi p1] S := by
  by_cases ok : okN mc p0 ∧ okN 6 p1
  · obtain ⟨⟨i, hi, rfl⟩, ⟨w, hw, rfl⟩⟩ := ok
    exact Op.same h (c_X6_tubeOf _ _ _ _ _ mc lc h.ix i hi w hw) (c_X7_tubeOf _ _ _ _ _ mc lc h.im i hi w hw) (h.d _ _ (vd.tub hi hw)).symm
  · exact Op.ref h (k := 1) (by decide) (c_X6_tubeOf_b _ _ _ _ _ mc lc h.ix p0 p1 ok) (fun S1 h1 => c_X7_tubeOf_b _ _ _ _ S1 mc lc h1.im p0 p1 ok)
set_option maxHeartbeats 400000 in
theorem o_loaded (l : Launch) (E : En) (base aw : Nat) {S : Mm} {mc : Nat} {lc : Nat → Nat} (h : RR S S mc lc) (p0 : Int32) : Op l E base aw yX6_loaded cX6_loaded 2 (some Jvm.ClassFile.FieldType.int) 1 yX7_loaded cX7_loaded 2 1 [vi p0] S := by
  by_cases c1 : 0 ≤ p0
  · by_cases c2 : (8 : Int32) ≤ p0
    · exact Op.same h (c_X6_loaded_hi _ _ _ _ _ mc lc h.ix p0 c1 c2) (c_X7_loaded_hi _ _ _ _ _ h.im.1 p0 c1 c2) rfl
    · obtain ⟨t, ht, rfl⟩ : okN 8 p0 := by
        rcases pk_ix p0 (n := 8) (by decide) with a | a | a
        · exact absurd a (Int32.not_lt.mpr c1)
        · exact absurd a c2
        · exact a
      exact Op.same h (c_X6_loaded _ _ _ _ _ mc lc h.ix t ht) (c_X7_loaded _ _ _ _ _ h.im.1 t ht) (h.d _ _ (vd.pie ht)).symm
  · exact Op.ref h (k := 4) (by decide) (c_X6_loaded_lo _ _ _ _ _ mc lc h.ix p0 c1) (fun S1 h1 => c_X7_loaded_lo _ _ _ _ S1 h1.im.1 p0 c1)
theorem src_vals (S : Mm) (i j n : Nat) : v_src S i j n = 0 ∨ v_src S i j n = 1 ∨ v_src S i j n = 2 := by
  unfold v_src
  repeat' split
  all_goals simp
theorem RR.sells {T U : Mm} {mc : Nat} {lc : Nat → Nat} {i j : Nat} (h : RR T U mc lc) (hi : i < mc) (hj : j < lc i) : v_X7_sells U i j = 0 ↔ v_src T i j (lc i) = 0 := by
  have h8 := h.l8 hi
  have e : ∀ {j f q : Nat}, vd mc lc (3, i, j) q → pt (3, i, j) q = (f, 8 * i + j) → U.1 (2, 0, f) (8 * i + j) = T.1 (3, i, j) q := fun {j f q} hv hp => by
    have := h.d _ _ hv
    rw [hp] at this
    exact this.symm
  have e18 := e (f := 18) (vd.l8 hi hj h8) rfl
  have e19 := e (f := 19) (vd.l9 hi hj h8) rfl
  have e13 := e (f := 13) (vd.l5 hi hj h8) rfl
  have e14 := e (f := 14) (vd.l2 hi hj h8) rfl
  have e10 := e (f := 10) (vd.l0 hi hj h8) rfl
  have e2 : U.1 (2, 0, 2) i = nI (lc i) := (h.im.2.2.2 i (h.i6 hi)).1
  unfold v_X7_sells v_src v_X7_nextServes v_closed
  rw [e18, e19, e13, e14, e10, e2]
  by_cases c8 : T.1 (3, i, j) 8 = 0
  · by_cases c9 : T.1 (3, i, j) 9 = 0
    · by_cases c5 : T.1 (3, i, j) 5 ≤ 0
      · have c5' : ¬ 0 < T.1 (3, i, j) 5 := Int32.not_lt.mpr c5
        by_cases c2 : T.1 (3, i, j) 2 = 3
        · by_cases cn : j + 1 < lc i
          · have n10 := e (f := 10) (vd.l0 hi cn h8) rfl
            have n13 := e (f := 13) (vd.l5 hi cn h8) rfl
            have n18 := e (f := 18) (vd.l8 hi cn h8) rfl
            have n19 := e (f := 19) (vd.l9 hi cn h8) rfl
            rw [show 8 * i + j + 1 = 8 * i + (j + 1) by omega, n10, n13, n18, n19]
            have cn' : ¬ nI (lc i) ≤ nI (j + 1) := fun q => by rw [nI_leI (by omega) (by omega)] at q; omega
            simp only [c8, c9, c5, c5', c2, cn, cn', if_true, if_false]
            by_cases d0 : T.1 (3, i, j + 1) 0 = T.1 (3, i, j) 0 <;> by_cases d5 : T.1 (3, i, j + 1) 5 ≤ 0 <;> by_cases d8 : T.1 (3, i, j + 1) 8 = 0 <;> by_cases d9 : T.1 (3, i, j + 1) 9 = 0 <;> simp [d0, d5, d8, d9]
          · have cn' : nI (lc i) ≤ nI (j + 1) := (nI_leI (by omega) (by omega)).mpr (by omega)
            simp [c8, c9, c5, c5', c2, cn, cn']
        · simp [c8, c9, c5, c5', c2]
      · have c5' : 0 < T.1 (3, i, j) 5 := Int32.not_le.mp c5
        simp [c8, c9, c5, c5']
    · simp [c8, c9]
  · simp [c8]
set_option maxHeartbeats 400000 in
theorem o_laneOf (l : Launch) (E : En) (base aw : Nat) {S : Mm} {mc : Nat} {lc : Nat → Nat} (h : RR S S mc lc) (p0 p1 p2 : Int32) : Op l E base aw yX6_laneOf cX6_laneOf 6 (some Jvm.ClassFile.FieldType.int) 2 yX7_laneOf cX7_laneOf 5 3 [vi p0, vi p1, vi p2] S := by
  by_cases ok : okL mc lc p0 p1
  · obtain ⟨i, j, hi, hj, rfl, rfl⟩ := ok
    have h8 := h.l8 hi
    by_cases ok2 : okN 9 p2
    · obtain ⟨t, ht, rfl⟩ := ok2
      rcases (show t = 0 ∨ t = 1 ∨ t = 2 ∨ t = 3 ∨ t = 4 ∨ t = 5 ∨ t = 6 ∨ t = 7 ∨ t = 8 by omega) with rfl | rfl | rfl | rfl | rfl | rfl | rfl | rfl | rfl
      · exact Op.same h (c_X6_laneOf0 _ _ _ _ _ mc lc h.ix i hi j hj) (c_X7_laneOf0 _ _ _ _ _ mc lc h.im i hi j hj) (h.d _ _ (vd.l0 hi hj h8)).symm
      · exact Op.same h (c_X6_laneOf1 _ _ _ _ _ mc lc h.ix i hi j hj) (c_X7_laneOf1 _ _ _ _ _ mc lc h.im i hi j hj) (h.d _ _ (vd.l4 hi hj h8)).symm
      · exact Op.same h (c_X6_laneOf2 _ _ _ _ _ mc lc h.ix i hi j hj) (c_X7_laneOf2 _ _ _ _ _ mc lc h.im i hi j hj) (h.d _ _ (vd.l1 hi hj h8)).symm
      · exact Op.same h (c_X6_laneOf3 _ _ _ _ _ mc lc h.ix i hi j hj) (c_X7_laneOf3 _ _ _ _ _ mc lc h.im i hi j hj) (h.d _ _ (vd.l5 hi hj h8)).symm
      · exact Op.same h (c_X6_laneOf4 _ _ _ _ _ mc lc h.ix i hi j hj) (c_X7_laneOf4 _ _ _ _ _ mc lc h.im i hi j hj) (h.d _ _ (vd.l2 hi hj h8)).symm
      · exact Op.same h (c_X6_laneOf5 _ _ _ _ _ mc lc h.ix i hi j hj) (c_X7_laneOf5 _ _ _ _ _ mc lc h.im i hi j hj) (by unfold v_X7_laneOf5 v_X6_laneOf5; rw [show S.1 (2, 0, 18) (8 * i + j) = S.1 (3, i, j) 8 from (h.d _ _ (vd.l8 hi hj h8)).symm])
      · exact Op.same h (c_X6_laneOf6 _ _ _ _ _ mc lc h.ix i hi j hj) (c_X7_laneOf6 _ _ _ _ _ mc lc h.im i hi j hj) (h.d _ _ (vd.l7 hi hj h8)).symm
      · exact Op.same h (c_X6_laneOf7 _ _ _ _ _ mc lc h.ix i hi j hj) (c_X7_laneOf7 _ _ _ _ _ mc lc h.im i hi j hj) (by unfold v_X7_laneOf7 v_X6_laneOf7; rw [show S.1 (2, 0, 19) (8 * i + j) = S.1 (3, i, j) 9 from (h.d _ _ (vd.l9 hi hj h8)).symm])
      · rcases src_vals S i j (lc i) with hs | hs | hs
        · exact Op.same h (c_X6_laneOf8_0 _ _ _ _ _ mc lc h.ix i hi j hj hs) (c_X7_laneOf8 _ _ _ _ _ mc lc h.im i hi j hj) (by unfold v_X7_laneOf8; rw [if_pos ((h.sells hi hj).mpr hs)])
        · exact Op.same h (c_X6_laneOf8_1 _ _ _ _ _ mc lc h.ix i hi j hj hs) (c_X7_laneOf8 _ _ _ _ _ mc lc h.im i hi j hj) (by unfold v_X7_laneOf8; rw [if_neg (fun q => absurd (hs.symm.trans ((h.sells hi hj).mp q)) (by decide))])
        · exact Op.same h (c_X6_laneOf8_2 _ _ _ _ _ mc lc h.ix i hi j hj hs) (c_X7_laneOf8 _ _ _ _ _ mc lc h.im i hi j hj) (by unfold v_X7_laneOf8; rw [if_neg (fun q => absurd (hs.symm.trans ((h.sells hi hj).mp q)) (by decide))])
    · exact Op.ref h (k := 2) (by decide) (c_X6_laneOf_w _ _ _ _ _ mc lc h.ix i hi j hj p2 ok2) (fun S1 h1 => c_X7_laneOf_w _ _ _ _ S1 mc lc h1.im i hi j hj p2 ok2)
  · exact Op.ref h (k := 1) (by decide) (c_X6_laneOf_b _ _ _ _ _ mc lc h.ix p0 p1 p2 ok) (fun S1 h1 => c_X7_laneOf_b _ _ _ _ S1 mc lc h1.im p0 p1 p2 ok)
theorem ws_eq {f g : Nat → Int32} (h : ∀ w, w < 6 → f w = g w) : wsum f 6 = wsum g 6 := by
  simp only [wsum]
  rw [h 0 (by decide), h 1 (by decide), h 2 (by decide), h 3 (by decide), h 4 (by decide), h 5 (by decide)]
theorem cs_eq {f g : Nat → Int32} : ∀ n, (∀ w, w < n → f w = g w) → csum f n = csum g n
  | 0, _ => rfl
  | n + 1, h => by
    show csum f n + f n = csum g n + g n
    rw [cs_eq n (fun w hw => h w (by omega)), h n (by omega)]
set_option maxHeartbeats 400000 in
theorem o_machineOf (l : Launch) (E : En) (base aw : Nat) {S : Mm} {mc : Nat} {lc : Nat → Nat} (h : RR S S mc lc) (p0 p1 : Int32) : Op l E base aw yX6_machineOf cX6_machineOf 4 (some Jvm.ClassFile.FieldType.int) 1 yX7_machineOf cX7_machineOf 3 2 [vi p0, vi p1] S := by
  by_cases ok : okN mc p0
  · obtain ⟨i, hi, rfl⟩ := ok
    by_cases ok2 : okN 9 p1
    · obtain ⟨t, ht, rfl⟩ := ok2
      rcases (show t = 0 ∨ t = 1 ∨ t = 2 ∨ t = 3 ∨ t = 4 ∨ t = 5 ∨ t = 6 ∨ t = 7 ∨ t = 8 by omega) with rfl | rfl | rfl | rfl | rfl | rfl | rfl | rfl | rfl
      · exact Op.same h (c_X6_machineOf0 _ _ _ _ _ mc lc h.ix i hi) (c_X7_machineOf0 _ _ _ _ _ mc lc h.im i hi) ((h.im.2.2.2 i (h.i6 hi)).1.trans (h.ix.2.2 i hi).symm)
      · exact Op.same h (c_X6_machineOf1 _ _ _ _ _ mc lc h.ix i hi) (c_X7_machineOf1 _ _ _ _ _ mc lc h.im i hi) (ws_eq (fun w hw => (h.d _ _ (vd.tub hi hw)).symm))
      · exact Op.same h (c_X6_machineOf2 _ _ _ _ _ mc lc h.ix i hi) (c_X7_machineOf2 _ _ _ _ _ mc lc h.im i hi) (ws_eq (fun w hw => (h.d _ _ (vd.box hi hw)).symm))
      · exact Op.same h (c_X6_machineOf3 _ _ _ _ _ mc lc h.ix i hi) (c_X7_machineOf3 _ _ _ _ _ mc lc h.im i hi) (ws_eq (fun w hw => (h.d _ _ (vd.inn hi hw)).symm))
      · exact Op.same h (c_X6_machineOf4 _ _ _ _ _ mc lc h.ix i hi) (c_X7_machineOf4 _ _ _ _ _ mc lc h.im i hi) (h.d _ _ (vd.m6 hi)).symm
      · exact Op.same h (c_X6_machineOf5 _ _ _ _ _ mc lc h.ix i hi) (c_X7_machineOf5 _ _ _ _ _ mc lc h.im i hi) (h.d _ _ (vd.m7 hi)).symm
      · exact Op.same h (c_X6_machineOf6 _ _ _ _ _ mc lc h.ix i hi) (c_X7_machineOf6 _ _ _ _ _ mc lc h.im i hi) (h.d _ _ (vd.m8 hi)).symm
      · exact Op.same h (c_X6_machineOf7 _ _ _ _ _ mc lc h.ix i hi) (c_X7_machineOf7 _ _ _ _ _ mc lc h.im i hi) (h.d _ _ (vd.m9 hi)).symm
      · exact Op.same h (c_X6_machineOf8 _ _ _ _ _ mc lc h.ix i hi) (c_X7_machineOf8 _ _ _ _ _ mc lc h.im i hi) (h.d _ _ (vd.m5 hi)).symm
    · exact Op.ref h (k := 2) (by decide) (c_X6_machineOf_w _ _ _ _ _ mc lc h.ix i hi p1 ok2) (fun S1 h1 => c_X7_machineOf_w _ _ _ _ S1 mc lc h1.im i hi p1 ok2)
  · exact Op.ref h (k := 1) (by decide) (c_X6_machineOf_b _ _ _ _ _ mc lc h.ix p0 p1 ok) (fun S1 h1 => c_X7_machineOf_b _ _ _ _ S1 mc lc h1.im p0 p1 ok)
set_option maxHeartbeats 400000 in
theorem o_count (l : Launch) (E : En) (base aw : Nat) {S : Mm} {mc : Nat} {lc : Nat → Nat} (h : RR S S mc lc) (p0 : Int32) : Op l E base aw yX6_count cX6_count 2 (some Jvm.ClassFile.FieldType.int) 2 yX7_count cX7_count 4 1 [vi p0] S := by
  by_cases ok : okN 4 p0
  · obtain ⟨t, ht, rfl⟩ := ok
    rcases (show t = 0 ∨ t = 1 ∨ t = 2 ∨ t = 3 by omega) with rfl | rfl | rfl | rfl
    · exact Op.same h (c_X6_count0 _ _ _ _ _ mc lc h.ix) (c_X7_count0 _ _ _ _ _ h.im.1) (h.d _ _ vd.hour).symm
    · exact Op.same h (c_X6_count1 _ _ _ _ _ mc lc h.ix) (c_X7_count1 _ _ _ _ _ h.im.1) (h.im.2.1.trans h.ix.2.1.symm)
    · exact Op.same h (c_X6_count2 _ _ _ _ _ mc lc h.ix) (c_X7_count2 _ _ _ _ _ mc lc h.im) (cs_eq mc (fun w hw => (h.d _ _ (vd.m8 hw)).symm))
    · exact Op.same h (c_X6_count3 _ _ _ _ _ mc lc h.ix) (c_X7_count3 _ _ _ _ _ h.im.1) (h.d _ _ vd.mis).symm
  · by_cases ok2 : 11 ≤ p0 ∧ p0 ≤ 16
    · obtain ⟨t, rfl, h1, h2⟩ := i32_rng (a := 11) (b := 16) ok2.1 ok2.2
      rcases (show t = 11 ∨ t = 12 ∨ t = 13 ∨ t = 14 ∨ t = 15 ∨ t = 16 by omega) with rfl | rfl | rfl | rfl | rfl | rfl
      · exact Op.same h (c_X6_count11 _ _ _ _ _ mc lc h.ix) (c_X7_count11 _ _ _ _ _ h.im.1) (h.d _ _ (vd.ref (by decide))).symm
      · exact Op.same h (c_X6_count12 _ _ _ _ _ mc lc h.ix) (c_X7_count12 _ _ _ _ _ h.im.1) (h.d _ _ (vd.ref (by decide))).symm
      · exact Op.same h (c_X6_count13 _ _ _ _ _ mc lc h.ix) (c_X7_count13 _ _ _ _ _ h.im.1) (h.d _ _ (vd.ref (by decide))).symm
      · exact Op.same h (c_X6_count14 _ _ _ _ _ mc lc h.ix) (c_X7_count14 _ _ _ _ _ h.im.1) (h.d _ _ (vd.ref (by decide))).symm
      · exact Op.same h (c_X6_count15 _ _ _ _ _ mc lc h.ix) (c_X7_count15 _ _ _ _ _ h.im.1) (h.d _ _ (vd.ref (by decide))).symm
      · exact Op.same h (c_X6_count16 _ _ _ _ _ mc lc h.ix) (c_X7_count16 _ _ _ _ _ h.im.1) (h.d _ _ (vd.ref (by decide))).symm
    · exact Op.same h (c_X6_count_w _ _ _ _ _ mc lc h.ix p0 ok ok2) (c_X7_count_w _ _ _ _ _ h.im.1 p0 ok ok2) rfl
set_option maxHeartbeats 400000 in
theorem o_counted (l : Launch) (E : En) (base aw : Nat) {S : Mm} {mc : Nat} {lc : Nat → Nat} (h : RR S S mc lc) (p0 p1 p2 p3 : Int32) : Op l E base aw yX6_counted cX6_counted 6 (some Jvm.ClassFile.FieldType.int) 1 yX7_counted cX7_counted 6 2 [vi p0, vi p1, vi p2, vi p3] S := by
  by_cases ok : okN mc p0 ∧ okN 16 p1
  · obtain ⟨⟨i, hi, rfl⟩, ⟨g, hg, rfl⟩⟩ := ok
    by_cases ok2 : okN 2 p3
    · obtain ⟨t, ht, rfl⟩ := ok2
      by_cases c1 : 0 ≤ p2
      · by_cases c2 : okN 24 p2
        · obtain ⟨u, hu, rfl⟩ := c2
          rcases (show t = 0 ∨ t = 1 by omega) with rfl | rfl
          · exact Op.same h (c_X6_counted0 _ _ _ _ _ mc lc h.ix i hi g hg u hu) (c_X7_counted0 _ _ _ _ _ mc lc h.im i hi g hg u hu) (by rw [show 384 * i + 24 * g + u = 384 * i + (g * 24 + u) by omega]; exact (h.d _ _ (vd.sal hi (q := g * 24 + u) (by omega))).symm)
          · exact Op.same h (c_X6_counted1 _ _ _ _ _ mc lc h.ix i hi g hg u hu) (c_X7_counted1 _ _ _ _ _ mc lc h.im i hi g hg u hu) (by rw [show 384 * i + 24 * g + u = 384 * i + (g * 24 + u) by omega]; exact (h.d _ _ (vd.the hi (q := g * 24 + u) (by omega))).symm)
        · have c3 : ¬ p2 < 24 := fun q => by
            rcases okN_no (n := 24) (by decide) c2 with a | a
            · exact Int32.not_lt.mpr c1 a
            · exact Int32.not_lt.mpr a q
          have c4 : ¬ p2 ≤ 23 := fun q => c3 (Int32.lt_of_le_of_lt q (by decide))
          rcases (show t = 0 ∨ t = 1 by omega) with rfl | rfl
          · exact Op.ref h (k := 6) (by decide) (c_X6_counted_hi0 _ _ _ _ _ mc lc h.ix i hi g hg p2 c1 c3) (fun S1 h1 => c_X7_counted_hi0 _ _ _ _ S1 mc lc h1.im i hi g hg p2 c1 c4)
          · exact Op.ref h (k := 6) (by decide) (c_X6_counted_hi1 _ _ _ _ _ mc lc h.ix i hi g hg p2 c1 c3) (fun S1 h1 => c_X7_counted_hi1 _ _ _ _ S1 mc lc h1.im i hi g hg p2 c1 c4)
      · rcases (show t = 0 ∨ t = 1 by omega) with rfl | rfl
        · exact Op.ref h (k := 4) (by decide) (c_X6_counted_lo0 _ _ _ _ _ mc lc h.ix i hi g hg p2 c1) (fun S1 h1 => c_X7_counted_lo0 _ _ _ _ S1 mc lc h1.im i hi g hg p2 (Int32.not_le.mp c1))
        · exact Op.ref h (k := 4) (by decide) (c_X6_counted_lo1 _ _ _ _ _ mc lc h.ix i hi g hg p2 c1) (fun S1 h1 => c_X7_counted_lo1 _ _ _ _ S1 mc lc h1.im i hi g hg p2 (Int32.not_le.mp c1))
    · exact Op.ref h (k := 2) (by decide) (c_X6_counted_w _ _ _ _ _ mc lc h.ix i hi g hg p2 p3 ok2) (fun S1 h1 => c_X7_counted_w _ _ _ _ S1 mc lc h1.im i hi g hg p2 p3 ok2)
  · exact Op.ref h (k := 1) (by decide) (c_X6_counted_b _ _ _ _ _ mc lc h.ix p0 p1 p2 p3 ok) (fun S1 h1 => c_X7_counted_b _ _ _ _ S1 mc lc h1.im p0 p1 p2 p3 ok)
