/-! a sale -/
def s1X (F : Mm) (i j js : Nat) : Mm := wI (wI F (3, i, js) 5 (F.1 (3, i, js) 5 - 1)) (3, i, j) 7 0
def s2X (F : Mm) (i j js : Nat) : Mm := wI (s1X F i j js) (1, i, 0) 8 ((s1X F i j js).1 (1, i, 0) 8 + 1)
def s3X (F : Mm) (i j js q : Nat) : Mm := wI (s2X F i j js) (1, i, 11) q ((s2X F i j js).1 (1, i, 11) q + 1)
def s1M (M : Mm) (a b : Nat) : Mm := wI (wI M (2, 0, 13) b (M.1 (2, 0, 13) b - 1)) (2, 0, 17) a 0
def s2M (M : Mm) (i a b : Nat) : Mm := wI (s1M M a b) (2, 0, 25) i ((s1M M a b).1 (2, 0, 25) i + 1)
def s3M (M : Mm) (i a b q : Nat) : Mm := wI (s2M M i a b) (2, 0, 21) q ((s2M M i a b).1 (2, 0, 21) q + 1)
theorem fcX1_eq (S : Mm) (hv : Nat → Nat) (t i j g h : Nat) : fcX1 S hv t i j g h = s3X (fewM S hv t 16) i j j (g * 24 + h % 24) := rfl
theorem fcX2_eq (S : Mm) (hv : Nat → Nat) (t i j g h : Nat) : fcX2 S hv t i j g h = s3X (fewM S hv t 16) i j (j + 1) (g * 24 + h % 24) := rfl
theorem chf0_eq (S : Mm) (hv : Nat → Nat) (t i j g h : Nat) : t_X7_choose_f0 S hv t i j g h = (some (vi (nI t)), seM (s3M (fyM S hv t) i (8 * i + j) (8 * i + j) (384 * i + 24 * g + h % 24)) i 6) := rfl
theorem chf1_eq (S : Mm) (hv : Nat → Nat) (t i j g h : Nat) : t_X7_choose_f1 S hv t i j g h = (some (vi (nI t)), seM (s3M (fyM S hv t) i (8 * i + j) (8 * i + j + 1) (384 * i + 24 * g + h % 24)) i 6) := rfl
theorem agM.cpy {S T : Mm} {k0 k1 : Ln} {n : Nat} (h : agM S T) (hk : k1.1 ≠ 2) : agM S (cpyI T k0 k1 n) := fun k hk2 => ⟨fun j => by
  show (if k = k1 ∧ j < n then T.1 k0 j else T.1 k j) = _
  rw [if_neg (fun q => hk (by rw [← q.1]; exact hk2))]
  exact (h k hk2).1 j, (h k hk2).2⟩
theorem s3X_M (F : Mm) (i j js q : Nat) : agM F (s3X F i j js q) := (((agM.rf.wI (by show (3 : Nat) ≠ 2; decide)).wI (by show (3 : Nat) ≠ 2; decide)).wI (by show (1 : Nat) ≠ 2; decide)).wI (by show (1 : Nat) ≠ 2; decide)
theorem s3M_X (M : Mm) (i a b q : Nat) : agX M (s3M M i a b q) := (((agX.rf.wI rfl).wI rfl).wI rfl).wI rfl
theorem s3X_o (F : Mm) (i j js q : Nat) {k : Ln} {x : Nat} (h3 : k.1 ≠ 3) (h0 : k ≠ (1, i, 0)) (h11 : k ≠ (1, i, 11)) : (s3X F i j js q).1 k x = F.1 k x := (wI_ne (fun z => h11 z.1)).trans ((wI_ne (fun z => h0 z.1)).trans ((wI_ne (fun z => h3 (by rw [z.1]))).trans (wI_ne (fun z => h3 (by rw [z.1])))))
section SE
variable {T U : Mm} {mc : Nat} {lc : Nat → Nat} {i j js g u : Nat}
theorem RR.sellU (h : RR T U mc lc) (hi : i < mc) (hj : j < lc i) (hjs : js < lc i) (hg : g < 16) (hu : u < 24) (hs : ¬ T.1 (3, i, js) 5 ≤ 0) : RR (s3X T i j js (g * 24 + u)) (s3M U i (8 * i + j) (8 * i + js) (384 * i + 24 * g + u)) mc lc := by
  have h8 := h.l8 hi
  obtain ⟨-, ⟨d, s, d1, d2, d3, d4⟩, -⟩ := h.lb i hi js hjs
  have hs0 : 0 < s := by
    refine Nat.pos_of_ne_zero (fun e => hs ?_)
    rw [d3, e]
    exact Int32.le_refl _
  have e13 : U.1 (2, 0, 13) (8 * i + js) = T.1 (3, i, js) 5 := (h.d _ _ (vd.l5 hi hjs h8)).symm
  have r1 : RR (s1X T i j js) (s1M U (8 * i + j) (8 * i + js)) mc lc := by
    unfold s1X s1M
    rw [e13]
    refine RR.missU (h.stockU hi hjs ⟨d, s - 1, d1, ?_, by omega, d2⟩) hi hj ⟨0, rfl, by decide, fun _ => by decide⟩
    rw [d3]
    exact pk_sub (a := s) (b := 1) hs0
  have r2 : RR (s2X T i j js) (s2M U i (8 * i + j) (8 * i + js)) mc lc := by
    unfold s2X s2M
    rw [show (s1M U (8 * i + j) (8 * i + js)).1 (2, 0, 25) i = (s1X T i j js).1 (1, i, 0) 8 from (r1.d _ _ (vd.m8 hi)).symm]
    exact r1.pair (vd.m8 hi) rfl
  unfold s3X s3M
  have hq : g * 24 + u < 384 := by omega
  rw [show 384 * i + 24 * g + u = 384 * i + (g * 24 + u) by omega, show (s2M U i (8 * i + j) (8 * i + js)).1 (2, 0, 21) (384 * i + (g * 24 + u)) = (s2X T i j js).1 (1, i, 11) (g * 24 + u) from (r2.d _ _ (vd.sal hi hq)).symm]
  exact r2.pair (vd.sal hi hq) rfl
theorem RR.due (h : RR T U mc lc) (hi : i < mc) (hj : j < lc i) (hb : 0 ≤ wsum (T.1 (1, i, 5)) 6 - T.1 (3, i, j) 4) : ∃ t, wsum (T.1 (1, i, 5)) 6 - T.1 (3, i, j) 4 = nI t ∧ t ≤ 20000 := by
  obtain ⟨f, f1, f2, -⟩ := h.nn i hi
  obtain ⟨-, -, ⟨p, p1, p2, p3, -⟩, -⟩ := h.lb i hi j hj
  have e : wsum (T.1 (1, i, 5)) 6 = nI (f 0 * 500 + f 1 * 200 + f 2 * 100 + f 3 * 50 + f 4 * 20 + f 5 * 10) := by
    simp only [wsum]
    rw [f1 0 (by decide), f1 1 (by decide), f1 2 (by decide), f1 3 (by decide), f1 4 (by decide), f1 5 (by decide)]
    show nI 0 + nI (f 0) * nI 500 + nI (f 1) * nI 200 + nI (f 2) * nI 100 + nI (f 3) * nI 50 + nI (f 4) * nI 20 + nI (f 5) * nI 10 = _
    simp only [pk_mul, nI_add, Nat.zero_add]
  unfold sm at f2
  rw [e, p1] at hb ⊢
  by_cases c : p ≤ f 0 * 500 + f 1 * 200 + f 2 * 100 + f 3 * 50 + f 4 * 20 + f 5 * 10
  · exact ⟨_, pk_sub c, by omega⟩
  · exact absurd hb (Int32.not_le.mpr (pk_sneg (by omega) (by omega)))
theorem src1 {S : Mm} {n : Nat} (h : v_src S i j n = 1) : S.1 (3, i, j) 8 = 0 ∧ ¬ S.1 (3, i, j) 5 ≤ 0 := by
  unfold v_src v_closed at h
  by_cases c8 : S.1 (3, i, j) 8 = 0
  · refine ⟨c8, fun c5 => ?_⟩
    rw [if_pos c5] at h
    revert h
    repeat' split
    all_goals (intro h; first | exact absurd h (by decide))
  · rw [if_neg c8, if_neg (by decide)] at h
    exact absurd h (by decide)
theorem src2 {S : Mm} {n : Nat} (h : v_src S i j n = 2) : S.1 (3, i, j) 8 = 0 ∧ S.1 (3, i, j) 5 ≤ 0 ∧ j + 1 < n ∧ ¬ S.1 (3, i, j + 1) 5 ≤ 0 := by
  unfold v_src at h
  by_cases c8 : S.1 (3, i, j) 8 = 0
  · by_cases c : v_closed S i j = 0
    · rw [if_pos c] at h
      by_cases c5 : S.1 (3, i, j) 5 ≤ 0
      · rw [if_pos c5] at h
        by_cases c2 : S.1 (3, i, j) 2 = 3
        · rw [if_pos c2] at h
          by_cases cn : j + 1 < n
          · rw [if_pos cn] at h
            by_cases c0 : S.1 (3, i, j + 1) 0 = S.1 (3, i, j) 0
            · rw [if_pos c0] at h
              by_cases d5 : S.1 (3, i, j + 1) 5 ≤ 0
              · rw [if_pos d5] at h
                exact absurd h (by decide)
              · exact ⟨c8, c5, cn, d5⟩
            · rw [if_neg c0] at h
              exact absurd h (by decide)
          · rw [if_neg cn] at h
            exact absurd h (by decide)
        · rw [if_neg c2] at h
          exact absurd h (by decide)
      · rw [if_neg c5] at h
        exact absurd h (by decide)
    · rw [if_neg c] at h
      exact absurd h (by decide)
  · rw [show v_closed S i j = 1 from if_neg c8, if_neg (by decide)] at h
    exact absurd h (by decide)
/-- both settle alike -/
theorem RR.saleU (h : RR T U mc lc) {F M : Mm} (bF : but fCh T F) (bM : but fFC U M) (hi : i < mc) (hj : j < lc i) (hjs : js < lc i) (hg : g < 16) (hu : u < 24) (hs : ¬ T.1 (3, i, js) 5 ≤ 0) {hv cw : Nat → Nat} (hh : ∀ w, w < 6 → T.1 (1, i, 3) w + T.1 (1, i, 5) w = nI (hv w) ∧ hv w ≤ 1000) (hc : ∀ w, w < 6 → F.1 (0, 0, 7) w = nI (cw w) ∧ cw w ≤ hv w) (hm : ∀ w, w < 6 → M.1 (2, 0, 32) w = nI (cw w)) : RR (cpyI (wI (seX (s3X F i j js (g * 24 + u)) i 6) (1, i, 2) 7 0) (0, 0, 7) (0, 0, 4) 6) (seM (s3M M i (8 * i + j) (8 * i + js) (384 * i + 24 * g + u)) i 6) mc lc := by
  have fr : ∀ a b c q, ¬ (a = 0 ∧ (c = 6 ∨ c = 7)) → F.1 (a, b, c) q = T.1 (a, b, c) q := fun a b c j q => bF.2 _ _ (fun z => by
    rcases z with z | z
    · cases z; exact q ⟨rfl, Or.inl rfl⟩
    · cases z; exact q ⟨rfl, Or.inr rfl⟩)
  refine RR.settleU ((h.scr bF bM).sellU hi hj hjs hg hu (by rw [fr _ _ _ _ (by omega)]; exact hs)) hi (hv := hv) (cw := cw) (fun w hw => ?_) (fun w hw => ?_) (fun w hw => ?_)
  · rw [s3X_o F i j js _ (by show (1 : Nat) ≠ 3; decide) (fun z => by cases z) (fun z => by cases z), s3X_o F i j js _ (by show (1 : Nat) ≠ 3; decide) (fun z => by cases z) (fun z => by cases z), fr _ _ _ _ (by omega), fr _ _ _ _ (by omega)]
    exact hh w hw
  · rw [s3X_o F i j js _ (by show (0 : Nat) ≠ 3; decide) (fun z => by cases z) (fun z => by cases z)]
    exact hc w hw
  · refine (wI_ne (fun z => by cases z.1)).trans ((wI_ne (fun z => by cases z.1)).trans ((wI_ne (fun z => by cases z.1)).trans ((wI_ne (fun z => by cases z.1)).trans (hm w hw))))
end SE
theorem msX_M (S : Mm) (i j : Nat) : agM S (msX S i j) := by
  unfold msX
  split
  · exact (agM.rf.wI (by show (3 : Nat) ≠ 2; decide)).wI (by show (3 : Nat) ≠ 2; decide)
  · exact ((agM.rf.wI (by show (3 : Nat) ≠ 2; decide)).wI (by show (3 : Nat) ≠ 2; decide)).wI (by show (3 : Nat) ≠ 2; decide)
theorem ch7_t (S : Mm) (hv : Nat → Nat) (t i j : Nat) : t_X7_choose_7 S hv t i j = (some (vi (-7)), abM (q4M (fyM S hv t) (8 * i + j) (if (q2M (fyM S hv t) (8 * i + j)).1 (2, 0, 17) (8 * i + j) = 3 then 1 else 0)) i 6) := by
  rw [ch7_eq]
  by_cases c : (q2M (fyM S hv t) (8 * i + j)).1 (2, 0, 17) (8 * i + j) = 3
  · rw [if_pos c, if_pos c]
  · rw [if_neg c, if_neg c]
set_option maxHeartbeats 1000000 in
theorem o_choose (l : Launch) (E : En) (base aw : Nat) {S : Mm} {mc : Nat} {lc : Nat → Nat} (h : RR S S mc lc) (p0 p1 : Int32) : Op l E base aw yX6_choose cX6_choose 7 (some Jvm.ClassFile.FieldType.int) 4 yX7_choose cX7_choose 9 4 [vi p0, vi p1] S := by
  by_cases ok : okL mc lc p0 p1
  · obtain ⟨i, j, hi, hj, rfl, rfl⟩ := ok
    have h8 := h.l8 hi
    obtain ⟨⟨g, g1, g2⟩, -⟩ := h.lb i hi j hj
    obtain ⟨hr, t1, t2, -⟩ := h.hr
    have hw : ∀ S1, RR S S1 mc lc → wsum (fun z => S1.1 (2, 0, 5) (6 * i + z)) 6 - S1.1 (2, 0, 11) (8 * i + j) = wsum (S.1 (1, i, 5)) 6 - S.1 (3, i, j) 4 := fun S1 h1 => by
      have e : wsum (fun z => S1.1 (2, 0, 5) (6 * i + z)) 6 = wsum (S.1 (1, i, 5)) 6 := ws_eq (fun z hz => (h1.d _ _ (vd.inn hi hz)).symm)
      rw [e, show S1.1 (2, 0, 11) (8 * i + j) = S.1 (3, i, j) 4 from (h1.d _ _ (vd.l4 hi hj h8)).symm]
    have k6 : ∀ S1, RR S S1 mc lc → S1.1 (2, 0, 16) (8 * i + j) = S.1 (3, i, j) 6 := fun S1 h1 => (h1.d _ _ (vd.l6 hi hj h8)).symm
    have k5 : ∀ S1, RR S S1 mc lc → S1.1 (2, 0, 13) (8 * i + j) = S.1 (3, i, j) 5 := fun S1 h1 => (h1.d _ _ (vd.l5 hi hj h8)).symm
    rcases src_vals S i j (lc i) with hs | hs | hs
    · exact Op.ref h (k := 3) (by decide) (c_X6_choose_3 l E base aw S mc lc h.ix i hi j hj hs) (fun S1 h1 => c_X7_choose_3 l E base aw S1 mc lc h1.im i hi j hj ((h1.sells hi hj).mpr hs))
    · have hsrc := src1 hs
      have hsM : ∀ S1, RR S S1 mc lc → ¬ v_X7_sells S1 i j = 0 := fun S1 h1 q => absurd (hs.symm.trans ((h1.sells hi hj).mp q)) (by decide)
      by_cases hb : 0 ≤ wsum (S.1 (1, i, 5)) 6 - S.1 (3, i, j) 4
      · obtain ⟨t, hb', ht⟩ := h.due hi hj hb
        have hbM : ∀ S1, RR S S1 mc lc → wsum (fun z => S1.1 (2, 0, 5) (6 * i + z)) 6 - S1.1 (2, 0, 11) (8 * i + j) = nI t := fun S1 h1 => (hw S1 h1).trans hb'
        obtain ⟨hv, hh, hbv⟩ := h.hvE hi
        by_cases hm : t % 10 = 0
        · by_cases hk : fcR hv 6 (t / 10) < 1000
          · obtain ⟨fy1, fy2⟩ := few_y hm hbv hk S
            have hf : ¬ fewV hv t 16 = -9 := by
              rw [fy1]
              exact n9 (by omega)
            by_cases hst : S.1 (3, i, j) 6 ≤ 0
            · have x := c_X6_choose_f1 l E base aw S mc lc h.ix i hi j hj hs t hb' ht hv hh hf hst g g1 g2 hr t2 t1
              rw [fcX1_eq] at x
              refine Op.gen h x ((((few_M S hv t 16).tr (s3X_M _ _ _ _ _)).tr (seX_M _ i 6)).wI (by show (1 : Nat) ≠ 2; decide) |>.cpy (by show (0 : Nat) ≠ 2; decide)) (fun h1 => ((c_X7_choose_f0 l E base aw _ mc lc h1.im i hi j hj (hsM _ h1) t (hbM _ h1) ht hm hv (h1.hvU hi hh) hk ?_ g ?_ g2 hr ?_ t1 ?_).t (chf0_eq _ _ _ _ _ _ _))) ((fFC_X (fyM_but _ hv t)).tr ((s3M_X _ _ _ _ _).tr (seM_X _ i 6))) (fun h1 => h1.saleU (fewM_but S hv t 16) (fyM_but _ hv t) hi hj hj g2 (Nat.mod_lt _ (by decide)) hsrc.2 hh (fun w hw => ⟨fy2 w hw, (cwN_le hv w _).1⟩) (fun w hw => chM_at _ hv (t / 10) 6 w hw))
              · rw [k6 _ h1]
                exact hst
              · exact (h1.d _ _ (vd.l0 hi hj h8)).symm.trans g1
              · exact (h1.d _ _ vd.hour).symm.trans t2
              · rw [k5 _ h1]
                exact hsrc.2
            · refine Op.gen h (c_X6_choose_71 l E base aw S mc lc h.ix i hi j hj hs t hb' ht hv hh hf hst) (((((few_M S hv t 16).tr (msX_M _ i j)).tr (gbX_M _ i 6)).wI (by show (1 : Nat) ≠ 2; decide)).wI (by show (0 : Nat) ≠ 2; decide)) (fun h1 => (c_X7_choose_7 l E base aw _ mc lc h1.im i hi j hj (hsM _ h1) t (hbM _ h1) ht hm hv (h1.hvU hi hh) hk ?_).t (ch7_t _ hv t i j)) ((fFC_X (fyM_but _ hv t)).tr ((((((agX.rf.wI rfl).wI rfl).wI rfl).wI rfl)).tr (abM_X _ i 6))) (fun h1 => (h1.scr (fewM_but S hv t 16) (fyM_but _ hv t)).stuckU hi hj ?_)
              · rw [k6 _ h1]
                exact hst
              · rw [(fewM_but S hv t 16).2 _ _ (fun z => by rcases z with z | z <;> cases z)]
                exact hsrc.1
          · exact Op.gen h (c_X6_choose_61 l E base aw S mc lc h.ix i hi j hj hs t hb' ht hv hh (few_f hm hbv (by omega))) ((few_M S hv t 16).tr agM_rf) (fun h1 => c_X7_choose_6f l E base aw _ mc lc h1.im i hi j hj (hsM _ h1) t (hbM _ h1) ht hm hv (h1.hvU hi hh) (by omega)) ((fFC_X (tbM_but _ hv (t / 10))).tr agX_rf) (fun h1 => (h1.scr (fewM_but S hv t 16) (tbM_but _ hv (t / 10))).ref (by decide))
        · exact Op.gen h (c_X6_choose_61 l E base aw S mc lc h.ix i hi j hj hs t hb' ht hv hh (few_n hm)) ((few_M S hv t 16).tr agM_rf) (fun h1 => c_X7_choose_6n l E base aw _ mc lc h1.im i hi j hj (hsM _ h1) t (hbM _ h1) ht hm) ((fFC_X (czM_but _ 6)).tr agX_rf) (fun h1 => (h1.scr (fewM_but S hv t 16) (czM_but _ 6)).ref (by decide))
      · exact Op.ref h (k := 5) (by decide) (c_X6_choose_51 l E base aw S mc lc h.ix i hi j hj hs hb) (fun S1 h1 => c_X7_choose_5 l E base aw S1 mc lc h1.im i hi j hj (hsM S1 h1) (by rw [hw S1 h1]; exact hb))
    · have hsrc := src2 hs
      have hsM : ∀ S1, RR S S1 mc lc → ¬ v_X7_sells S1 i j = 0 := fun S1 h1 q => absurd (hs.symm.trans ((h1.sells hi hj).mp q)) (by decide)
      by_cases hb : 0 ≤ wsum (S.1 (1, i, 5)) 6 - S.1 (3, i, j) 4
      · obtain ⟨t, hb', ht⟩ := h.due hi hj hb
        have hbM : ∀ S1, RR S S1 mc lc → wsum (fun z => S1.1 (2, 0, 5) (6 * i + z)) 6 - S1.1 (2, 0, 11) (8 * i + j) = nI t := fun S1 h1 => (hw S1 h1).trans hb'
        obtain ⟨hv, hh, hbv⟩ := h.hvE hi
        by_cases hm : t % 10 = 0
        · by_cases hk : fcR hv 6 (t / 10) < 1000
          · obtain ⟨fy1, fy2⟩ := few_y hm hbv hk S
            have hf : ¬ fewV hv t 16 = -9 := by
              rw [fy1]
              exact n9 (by omega)
            by_cases hst : S.1 (3, i, j) 6 ≤ 0
            · have x := c_X6_choose_f2 l E base aw S mc lc h.ix i hi j hj hs t hb' ht hv hh hf hst g g1 g2 hr t2 t1
              rw [fcX2_eq] at x
              refine Op.gen h x ((((few_M S hv t 16).tr (s3X_M _ _ _ _ _)).tr (seX_M _ i 6)).wI (by show (1 : Nat) ≠ 2; decide) |>.cpy (by show (0 : Nat) ≠ 2; decide)) (fun h1 => ((c_X7_choose_f1 l E base aw _ mc lc h1.im i hi j hj (hsM _ h1) t (hbM _ h1) ht hm hv (h1.hvU hi hh) hk ?_ g ?_ g2 hr ?_ t1 ?_ hsrc.2.2.1).t (chf1_eq _ _ _ _ _ _ _))) ((fFC_X (fyM_but _ hv t)).tr ((s3M_X _ _ _ _ _).tr (seM_X _ i 6))) (fun h1 => h1.saleU (fewM_but S hv t 16) (fyM_but _ hv t) hi hj hsrc.2.2.1 g2 (Nat.mod_lt _ (by decide)) hsrc.2.2.2 hh (fun w hw => ⟨fy2 w hw, (cwN_le hv w _).1⟩) (fun w hw => chM_at _ hv (t / 10) 6 w hw))
              · rw [k6 _ h1]
                exact hst
              · exact (h1.d _ _ (vd.l0 hi hj h8)).symm.trans g1
              · exact (h1.d _ _ vd.hour).symm.trans t2
              · rw [k5 _ h1]
                exact hsrc.2.1
            · refine Op.gen h (c_X6_choose_72 l E base aw S mc lc h.ix i hi j hj hs t hb' ht hv hh hf hst) (((((few_M S hv t 16).tr (msX_M _ i j)).tr (gbX_M _ i 6)).wI (by show (1 : Nat) ≠ 2; decide)).wI (by show (0 : Nat) ≠ 2; decide)) (fun h1 => (c_X7_choose_7 l E base aw _ mc lc h1.im i hi j hj (hsM _ h1) t (hbM _ h1) ht hm hv (h1.hvU hi hh) hk ?_).t (ch7_t _ hv t i j)) ((fFC_X (fyM_but _ hv t)).tr ((((((agX.rf.wI rfl).wI rfl).wI rfl).wI rfl)).tr (abM_X _ i 6))) (fun h1 => (h1.scr (fewM_but S hv t 16) (fyM_but _ hv t)).stuckU hi hj ?_)
              · rw [k6 _ h1]
                exact hst
              · rw [(fewM_but S hv t 16).2 _ _ (fun z => by rcases z with z | z <;> cases z)]
                exact hsrc.1
          · exact Op.gen h (c_X6_choose_62 l E base aw S mc lc h.ix i hi j hj hs t hb' ht hv hh (few_f hm hbv (by omega))) ((few_M S hv t 16).tr agM_rf) (fun h1 => c_X7_choose_6f l E base aw _ mc lc h1.im i hi j hj (hsM _ h1) t (hbM _ h1) ht hm hv (h1.hvU hi hh) (by omega)) ((fFC_X (tbM_but _ hv (t / 10))).tr agX_rf) (fun h1 => (h1.scr (fewM_but S hv t 16) (tbM_but _ hv (t / 10))).ref (by decide))
        · exact Op.gen h (c_X6_choose_62 l E base aw S mc lc h.ix i hi j hj hs t hb' ht hv hh (few_n hm)) ((few_M S hv t 16).tr agM_rf) (fun h1 => c_X7_choose_6n l E base aw _ mc lc h1.im i hi j hj (hsM _ h1) t (hbM _ h1) ht hm) ((fFC_X (czM_but _ 6)).tr agX_rf) (fun h1 => (h1.scr (fewM_but S hv t 16) (czM_but _ 6)).ref (by decide))
      · exact Op.ref h (k := 5) (by decide) (c_X6_choose_52 l E base aw S mc lc h.ix i hi j hj hs hb) (fun S1 h1 => c_X7_choose_5 l E base aw S1 mc lc h1.im i hi j hj (hsM S1 h1) (by rw [hw S1 h1]; exact hb))
  · exact Op.ref h (k := 1) (by decide) (c_X6_choose_b l E base aw S mc lc h.ix p0 p1 ok) (fun S1 h1 => c_X7_choose_b l E base aw S1 mc lc h1.im p0 p1 ok)
