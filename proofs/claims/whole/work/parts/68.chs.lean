/-! change and choose -/
theorem vd_ch {mc : Nat} {lc : Nat → Nat} {k : Ln} {j : Nat} (h : vd mc lc k j) : k ≠ (0, 0, 6) ∧ k ≠ (0, 0, 7) ∧ (pt k j).1 ≠ 31 ∧ (pt k j).1 ≠ 32 := by
  induction h using vd.elim <;> exact ⟨by simp, by simp, Nat.ne_of_beq_eq_false rfl, Nat.ne_of_beq_eq_false rfl⟩
section CU
variable {T U T' U' : Mm} {mc : Nat} {lc : Nat → Nat} {i : Nat}
/-- scratch cells -/
theorem RR.scr (h : RR T U mc lc) (bT : but fCh T T') (bU : but fFC U U') : RR T' U' mc lc := by
  have tn : ∀ a b c j, ¬ (a = 0 ∧ (c = 6 ∨ c = 7)) → T'.1 (a, b, c) j = T.1 (a, b, c) j := fun a b c j q => bT.2 _ _ (fun z => by
    rcases z with z | z
    · cases z; exact q ⟨rfl, Or.inl rfl⟩
    · cases z; exact q ⟨rfl, Or.inr rfl⟩)
  have ur : ∀ f x, f ≠ 31 → f ≠ 32 → U'.1 (2, 0, f) x = U.1 (2, 0, f) x := fun f x a b => bU.2 _ _ (fun z => by
    rcases z with z | z
    · exact a (congrArg (fun z : Ln => z.2.2) z)
    · exact b (congrArg (fun z : Ln => z.2.2) z))
  refine h.of bT.1 bU.1 (tn _ _ _ _ (by omega)) (fun i' => tn _ _ _ _ (by omega)) (ur _ _ (by decide) (by decide)) (fun x => ur _ _ (by decide) (by decide)) ?_ (h.hrE (tn _ _ _ _ (by omega)) (fun _ _ => tn _ _ _ _ (by omega))) (h.szE (fun _ => tn _ _ _ _ (by omega))) (h.tbE (fun _ _ => tn _ _ _ _ (by omega))) (h.nnE (fun _ _ => tn _ _ _ _ (by omega)) (fun _ => tn _ _ _ _ (by omega))) (h.lbE (fun _ _ _ _ => tn _ _ _ _ (by omega))) ?_ ?_ ?_ ?_
  · intro k j hv
    obtain ⟨a, b, c, d⟩ := vd_ch hv
    rw [bT.2 _ _ (fun z => by
      rcases z with z | z
      · exact a z
      · exact b z), ur _ _ c d]
    exact h.d k j hv
  · intro i' hi' w hw
    rw [tn _ _ _ _ (by omega), tn _ _ _ _ (by omega), tn _ _ _ _ (by omega), ur _ _ (by decide) (by decide)]
    exact h.wt i' hi' w hw
  · intro i' hi'
    rw [tn _ _ _ _ (by omega), ur _ _ (by decide) (by decide)]
    exact h.pw i' hi'
  · intro i' hi' l hl
    rw [tn _ _ _ _ (by omega), tn _ _ _ _ (by omega), ur _ _ (by decide) (by decide)]
    exact h.kp i' hi' l hl
  · intro f x hz
    rw [ur f x (fun e => by unfold zb at hz; omega) (fun e => by unfold zb at hz; omega)]
    exact h.z f x hz
theorem RR.hvE (h : RR T U mc lc) (hi : i < mc) : ∃ hv : Nat → Nat, (∀ w, w < 6 → T.1 (1, i, 3) w + T.1 (1, i, 5) w = nI (hv w) ∧ hv w ≤ 1000) ∧ cv hv 6 < 1000 := by
  obtain ⟨f, f1, f2, -⟩ := h.nn i hi
  have t : ∀ w, w < 6 → T.1 (1, i, 3) w = nI (T.1 (1, i, 3) w).toNatClampNeg ∧ (T.1 (1, i, 3) w).toNatClampNeg ≤ 50 := fun w hw => by
    obtain ⟨n, n1, n2⟩ := h.tb i hi w hw
    rw [n1, cl n]
    exact ⟨rfl, n2⟩
  have t0 := (t 0 (by decide)).2
  have t1 := (t 1 (by decide)).2
  have t2 := (t 2 (by decide)).2
  have t3 := (t 3 (by decide)).2
  have t4 := (t 4 (by decide)).2
  have t5 := (t 5 (by decide)).2
  unfold sm at f2
  refine ⟨fun w => (T.1 (1, i, 3) w).toNatClampNeg + f w, fun w hw => ⟨?_, ?_⟩, ?_⟩
  · show _ = nI ((T.1 (1, i, 3) w).toNatClampNeg + f w)
    rw [← nI_add, ← (t w hw).1, f1 w hw]
  · have := (t w hw).2
    have : f w ≤ 20 := by rcases (show w = 0 ∨ w = 1 ∨ w = 2 ∨ w = 3 ∨ w = 4 ∨ w = 5 by omega) with rfl | rfl | rfl | rfl | rfl | rfl <;> omega
    show (T.1 (1, i, 3) w).toNatClampNeg + f w ≤ 1000
    omega
  · show 0 + ((T.1 (1, i, 3) 5).toNatClampNeg + f 5) + ((T.1 (1, i, 3) 4).toNatClampNeg + f 4) + ((T.1 (1, i, 3) 3).toNatClampNeg + f 3) + ((T.1 (1, i, 3) 2).toNatClampNeg + f 2) + ((T.1 (1, i, 3) 1).toNatClampNeg + f 1) + ((T.1 (1, i, 3) 0).toNatClampNeg + f 0) < 1000
    omega
theorem RR.hvU (h : RR T U mc lc) (hi : i < mc) {hv : Nat → Nat} (hh : ∀ w, w < 6 → T.1 (1, i, 3) w + T.1 (1, i, 5) w = nI (hv w) ∧ hv w ≤ 1000) : ∀ w, w < 6 → U.1 (2, 0, 3) (6 * i + w) + U.1 (2, 0, 5) (6 * i + w) = nI (hv w) ∧ hv w ≤ 1000 := fun w hw => by
  rw [show U.1 (2, 0, 3) (6 * i + w) = T.1 (1, i, 3) w from (h.d _ _ (vd.tub hi hw)).symm, show U.1 (2, 0, 5) (6 * i + w) = T.1 (1, i, 5) w from (h.d _ _ (vd.inn hi hw)).symm]
  exact hh w hw
theorem few_M (S : Mm) (hv : Nat → Nat) (t k : Nat) : agM S (fewM S hv t k) := agM.bt (fewM_but S hv t k) (fun k j q => by rcases q with q | q <;> rw [q] <;> decide)
theorem fFC_X (h : but fFC U U') : agX U U' := agX.bt h (fun k j q => by rcases q with q | q <;> rw [q])
end CU
set_option maxHeartbeats 400000 in
theorem o_change (l : Launch) (E : En) (base aw : Nat) {S : Mm} {mc : Nat} {lc : Nat → Nat} (h : RR S S mc lc) (p0 p1 : Int32) : Op l E base aw yX6_change cX6_change 4 (some Jvm.ClassFile.FieldType.int) 4 yX7_change cX7_change 4 2 [vi p0, vi p1] S := by
  by_cases ok : okN mc p0
  · obtain ⟨i, hi, rfl⟩ := ok
    by_cases c1 : 0 ≤ p1
    · by_cases c2 : p1 ≤ 20000
      · obtain ⟨t, rfl, -, ht⟩ := i32_rng (a := 0) (b := 20000) c1 c2
        obtain ⟨hv, hh, hb⟩ := h.hvE hi
        have x := c_X6_change l E base aw S mc lc h.ix i hi t ht hv hh
        by_cases hm : t % 10 = 0
        · by_cases hk : fcR hv 6 (t / 10) < 1000
          · rw [(few_y hm hb hk S).1] at x
            exact Op.gen h x (few_M S hv t 16) (fun h1 => c_X7_change_y _ _ _ _ _ mc lc h1.im i hi t ht hm hv (h1.hvU hi hh) hk) (fFC_X (fyM_but _ hv t)) (fun h1 => h1.scr (fewM_but S hv t 16) (fyM_but _ hv t))
          · rw [few_f hm hb (by omega)] at x
            exact Op.gen h x (few_M S hv t 16) (fun h1 => c_X7_change_f _ _ _ _ _ mc lc h1.im i hi t ht hm hv (h1.hvU hi hh) (by omega)) (fFC_X (tbM_but _ hv (t / 10))) (fun h1 => h1.scr (fewM_but S hv t 16) (tbM_but _ hv (t / 10)))
        · rw [few_n hm] at x
          exact Op.gen h x (few_M S hv t 16) (fun h1 => c_X7_change_n _ _ _ _ _ mc lc h1.im i hi t ht hm) (fFC_X (czM_but _ 6)) (fun h1 => h1.scr (fewM_but S hv t 16) (czM_but _ 6))
      · exact Op.ref h (k := 6) (by decide) (c_X6_change_hi _ _ _ _ _ mc lc h.ix i hi p1 c1 c2) (fun S1 h1 => c_X7_change_hi _ _ _ _ S1 mc lc h1.im i hi p1 c1 c2)
    · exact Op.ref h (k := 4) (by decide) (c_X6_change_lo _ _ _ _ _ mc lc h.ix i hi p1 c1) (fun S1 h1 => c_X7_change_lo _ _ _ _ S1 mc lc h1.im i hi p1 c1)
  · exact Op.ref h (k := 1) (by decide) (c_X6_change_b _ _ _ _ _ mc lc h.ix p0 p1 ok) (fun S1 h1 => c_X7_change_b _ _ _ _ S1 mc lc h1.im p0 p1 ok)
/-! a good that does not fall -/
def q1M (M : Mm) (a : Nat) : Mm := wI M (2, 0, 16) a (M.1 (2, 0, 16) a - 1)
def q2M (M : Mm) (a : Nat) : Mm := wI (q1M M a) (2, 0, 17) a ((q1M M a).1 (2, 0, 17) a + 1)
def q3M (M : Mm) (a : Nat) (b : Int32) : Mm := wI (q2M M a) (2, 0, 18) a b
def q4M (M : Mm) (a : Nat) (b : Int32) : Mm := wI (q3M M a b) (2, 0, 0) 27 ((q3M M a b).1 (2, 0, 0) 27 + 1)
theorem ch7_eq (S : Mm) (hv : Nat → Nat) (t i j : Nat) : t_X7_choose_7 S hv t i j = if (q2M (fyM S hv t) (8 * i + j)).1 (2, 0, 17) (8 * i + j) = 3 then (some (vi (-7)), abM (q4M (fyM S hv t) (8 * i + j) 1) i 6) else (some (vi (-7)), abM (q4M (fyM S hv t) (8 * i + j) 0) i 6) := rfl
theorem gbX_comm {X : Mm} {k : Ln} {q : Nat} {v : Int32} (i : Nat) (h7 : k ≠ (1, i, 7)) (h5 : k ≠ (1, i, 5)) : ∀ n, gbX (wI X k q v) i n = wI (gbX X i n) k q v
  | 0 => rfl
  | n + 1 => by
    have ih := gbX_comm (X := X) (q := q) (v := v) i h7 h5 n
    show wI (wI (gbX (wI X k q v) i n) (1, i, 7) n ((gbX (wI X k q v) i n).1 (1, i, 7) n + (gbX (wI X k q v) i n).1 (1, i, 5) n)) (1, i, 5) n 0 = wI (wI (wI (gbX X i n) (1, i, 7) n ((gbX X i n).1 (1, i, 7) n + (gbX X i n).1 (1, i, 5) n)) (1, i, 5) n 0) k q v
    rw [ih, wI_ne (fun z => h7 z.1.symm), wI_ne (fun z => h5 z.1.symm), wI_comm (S := gbX X i n) (fun z => h7 z.1), wI_comm (k := k) (k' := (1, i, 5)) (fun z => h5 z.1)]
section MU
variable {T U : Mm} {mc : Nat} {lc : Nat → Nat} {i j : Nat}
theorem RR.missT (h : RR T U mc lc) (hi : i < mc) (hj : j < lc i) (h0 : T.1 (3, i, j) 8 = 0) : RR (msX T i j) (q3M U (8 * i + j) (if (q2M U (8 * i + j)).1 (2, 0, 17) (8 * i + j) = 3 then 1 else 0)) mc lc := by
  have h8 := h.l8 hi
  obtain ⟨-, -, -, m, m1, m2, m3⟩ := h.lb i hi j hj
  have m4 := m3 h0
  have e16 : U.1 (2, 0, 16) (8 * i + j) = T.1 (3, i, j) 6 := (h.d _ _ (vd.l6 hi hj h8)).symm
  have e17 : U.1 (2, 0, 17) (8 * i + j) = T.1 (3, i, j) 7 := (h.d _ _ (vd.l7 hi hj h8)).symm
  have e18 : U.1 (2, 0, 18) (8 * i + j) = T.1 (3, i, j) 8 := (h.d _ _ (vd.l8 hi hj h8)).symm
  have r1 : RR (wI T (3, i, j) 6 (T.1 (3, i, j) 6 - 1)) (q1M U (8 * i + j)) mc lc := by
    unfold q1M
    rw [e16]
    exact h.pair (vd.l6 hi hj h8) rfl
  have q17 : (q1M U (8 * i + j)).1 (2, 0, 17) (8 * i + j) = T.1 (3, i, j) 7 := (wI_ne (fun z => by cases z.1)).trans e17
  have q18 : (q1M U (8 * i + j)).1 (2, 0, 18) (8 * i + j) = 0 := (wI_ne (fun z => by cases z.1)).trans (e18.trans h0)
  have q17' : (q2M U (8 * i + j)).1 (2, 0, 17) (8 * i + j) = T.1 (3, i, j) 7 + 1 := by
    unfold q2M
    rw [wI_same, q17]
  have s8 : (wI T (3, i, j) 6 (T.1 (3, i, j) 6 - 1)).1 (3, i, j) 8 = 0 := (wI_ne (fun z => by cases z.2)).trans h0
  rw [q17']
  unfold msX q3M
  have en : T.1 (3, i, j) 7 + 1 = nI (m + 1) := by rw [m1]; exact nI_add m 1
  by_cases c : m = 2
  · have c1 : ¬ T.1 (3, i, j) 7 + 1 < 3 := by
      rw [en, c]; decide
    have c2 : T.1 (3, i, j) 7 + 1 = 3 := by
      rw [en, c]; rfl
    rw [if_neg c1, if_pos c2]
    unfold q2M
    rw [q17, wI_comm (k := (3, i, j)) (k' := (3, i, j)) (j := 7) (j' := 8) (by simp), wI_comm (k := (2, 0, 17)) (k' := (2, 0, 18)) (by simp)]
    refine RR.missU (RR.shutU r1 hi hj (v := 1) (fun q => absurd q (by decide))) hi hj ⟨3, c2, by decide, fun q => ?_⟩
    rw [wI_same] at q
    exact absurd q (by decide)
  · have c1 : T.1 (3, i, j) 7 + 1 < 3 := by
      rw [en]
      exact (nI_ltI (a := m + 1) (b := 3) (by omega) (by decide)).mpr (by omega)
    have c2 : ¬ T.1 (3, i, j) 7 + 1 = 3 := by
      rw [en]
      intro q
      have q' : nI (m + 1) = nI 3 := q
      rw [nI_eq (by omega) (by omega)] at q'
      omega
    rw [if_pos c1, if_neg c2, wI_id (k := (2, 0, 18)) (by
      unfold q2M
      rw [wI_ne (fun z => by cases z.1)]
      exact q18)]
    unfold q2M
    rw [q17]
    exact RR.missU r1 hi hj ⟨m + 1, en, by omega, fun _ => by omega⟩
theorem RR.stuckU (h : RR T U mc lc) (hi : i < mc) (hj : j < lc i) (h0 : T.1 (3, i, j) 8 = 0) : RR (wI (wI (gbX (msX T i j) i 6) (1, i, 2) 7 0) (0, 0, 0) 8 ((wI (gbX (msX T i j) i 6) (1, i, 2) 7 0).1 (0, 0, 0) 8 + 1)) (abM (q4M U (8 * i + j) (if (q2M U (8 * i + j)).1 (2, 0, 17) (8 * i + j) = 3 then 1 else 0)) i 6) mc lc := by
  have r := h.missT hi hj h0
  have e27 : (q3M U (8 * i + j) (if (q2M U (8 * i + j)).1 (2, 0, 17) (8 * i + j) = 3 then 1 else 0)).1 (2, 0, 0) 27 = (msX T i j).1 (0, 0, 0) 8 := (r.d _ _ vd.mis).symm
  have e8 : (wI (gbX (msX T i j) i 6) (1, i, 2) 7 0).1 (0, 0, 0) 8 = (msX T i j).1 (0, 0, 0) 8 := (wI_ne (fun z => by cases z.1)).trans (gbX_o _ i 6 _ _ (fun z => by cases z) (fun z => by cases z))
  have r2 := (r.pair (v := (msX T i j).1 (0, 0, 0) 8 + 1) vd.mis rfl).backU hi
  rw [gbX_comm i (fun z => by cases z) (fun z => by cases z), wI_comm (k := (0, 0, 0)) (k' := (1, i, 2)) (fun z => by cases z.1)] at r2
  rw [e8]
  unfold q4M
  rw [e27]
  exact r2
end MU
