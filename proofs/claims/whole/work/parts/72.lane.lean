/-! lane() -/
def lcU (lc : Nat → Nat) (i : Nat) : Nat → Nat := fun x => if x = i then lc i + 1 else lc x
theorem lcU_i (lc : Nat → Nat) (i : Nat) : lcU lc i i = lc i + 1 := if_pos rfl
theorem lcU_n (lc : Nat → Nat) {i x : Nat} (h : x ≠ i) : lcU lc i x = lc x := if_neg h
theorem vd_la {mc : Nat} {lc : Nat → Nat} {i : Nat} (i8 : lc i < 8) {k : Ln} {j : Nat} (h : vd mc (lcU lc i) k j) : vd mc lc k j ∨ k = (3, i, lc i) := by
  have st : ∀ {a b : Nat}, b < lcU lc i a → b < lc a ∨ (a = i ∧ b = lc i) := fun {a b} hb => by
    by_cases e : a = i
    · subst e
      rw [lcU_i] at hb
      by_cases q : b = lc a
      · exact Or.inr ⟨rfl, q⟩
      · exact Or.inl (by omega)
    · rw [lcU_n lc e] at hb
      exact Or.inl hb
  have s8 : ∀ {a : Nat}, lcU lc i a ≤ 8 → lc a ≤ 8 := fun {a} ha => by
    by_cases e : a = i
    · subst e; omega
    · rw [lcU_n lc e] at ha
      exact ha
  induction h using vd.elim with
  | hour => exact Or.inl vd.hour
  | mis => exact Or.inl vd.mis
  | size h => exact Or.inl (vd.size h)
  | ref h => exact Or.inl (vd.ref h)
  | giv h => exact Or.inl (vd.giv h)
  | pie h => exact Or.inl (vd.pie h)
  | m5 h => exact Or.inl (vd.m5 h)
  | m6 h => exact Or.inl (vd.m6 h)
  | m7 h => exact Or.inl (vd.m7 h)
  | m8 h => exact Or.inl (vd.m8 h)
  | m9 h => exact Or.inl (vd.m9 h)
  | tub h hw => exact Or.inl (vd.tub h hw)
  | box h hw => exact Or.inl (vd.box h hw)
  | inn h hw => exact Or.inl (vd.inn h hw)
  | cam h hw => exact Or.inl (vd.cam h hw)
  | sal h hw => exact Or.inl (vd.sal h hw)
  | the h hw => exact Or.inl (vd.the h hw)
  | @l0 a b h hb h8 =>
    rcases st hb with q | q
    · exact Or.inl (vd.l0 h q (s8 h8))
    · right
      rw [q.1, q.2]
  | @l1 a b h hb h8 =>
    rcases st hb with q | q
    · exact Or.inl (vd.l1 h q (s8 h8))
    · right
      rw [q.1, q.2]
  | @l2 a b h hb h8 =>
    rcases st hb with q | q
    · exact Or.inl (vd.l2 h q (s8 h8))
    · right
      rw [q.1, q.2]
  | @l4 a b h hb h8 =>
    rcases st hb with q | q
    · exact Or.inl (vd.l4 h q (s8 h8))
    · right
      rw [q.1, q.2]
  | @l5 a b h hb h8 =>
    rcases st hb with q | q
    · exact Or.inl (vd.l5 h q (s8 h8))
    · right
      rw [q.1, q.2]
  | @l6 a b h hb h8 =>
    rcases st hb with q | q
    · exact Or.inl (vd.l6 h q (s8 h8))
    · right
      rw [q.1, q.2]
  | @l7 a b h hb h8 =>
    rcases st hb with q | q
    · exact Or.inl (vd.l7 h q (s8 h8))
    · right
      rw [q.1, q.2]
  | @l8 a b h hb h8 =>
    rcases st hb with q | q
    · exact Or.inl (vd.l8 h q (s8 h8))
    · right
      rw [q.1, q.2]
  | @l9 a b h hb h8 =>
    rcases st hb with q | q
    · exact Or.inl (vd.l9 h q (s8 h8))
    · right
      rw [q.1, q.2]
theorem vd_up {mc : Nat} {lc : Nat → Nat} {i : Nat} (i8 : lc i < 8) {k : Ln} {j : Nat} (h : vd mc lc k j) : vd mc (lcU lc i) k j := by
  have st : ∀ {a b : Nat}, b < lc a → b < lcU lc i a := fun {a b} hb => by
    by_cases e : a = i
    · subst e
      rw [lcU_i]
      omega
    · rw [lcU_n lc e]
      exact hb
  have s8 : ∀ {a : Nat}, lc a ≤ 8 → lcU lc i a ≤ 8 := fun {a} ha => by
    by_cases e : a = i
    · subst e
      rw [lcU_i]
      omega
    · rw [lcU_n lc e]
      exact ha
  induction h using vd.elim with
  | hour => exact vd.hour
  | mis => exact vd.mis
  | size h => exact vd.size h
  | ref h => exact vd.ref h
  | giv h => exact vd.giv h
  | pie h => exact vd.pie h
  | m5 h => exact vd.m5 h
  | m6 h => exact vd.m6 h
  | m7 h => exact vd.m7 h
  | m8 h => exact vd.m8 h
  | m9 h => exact vd.m9 h
  | tub h hw => exact vd.tub h hw
  | box h hw => exact vd.box h hw
  | inn h hw => exact vd.inn h hw
  | cam h hw => exact vd.cam h hw
  | sal h hw => exact vd.sal h hw
  | the h hw => exact vd.the h hw
  | l0 h hb h8 => exact vd.l0 h (st hb) (s8 h8)
  | l1 h hb h8 => exact vd.l1 h (st hb) (s8 h8)
  | l2 h hb h8 => exact vd.l2 h (st hb) (s8 h8)
  | l4 h hb h8 => exact vd.l4 h (st hb) (s8 h8)
  | l5 h hb h8 => exact vd.l5 h (st hb) (s8 h8)
  | l6 h hb h8 => exact vd.l6 h (st hb) (s8 h8)
  | l7 h hb h8 => exact vd.l7 h (st hb) (s8 h8)
  | l8 h hb h8 => exact vd.l8 h (st hb) (s8 h8)
  | l9 h hb h8 => exact vd.l9 h (st hb) (s8 h8)
def laU (U : Mm) (i a : Nat) (c g p d k q : Int32) : Mm := wI (wI (wI (wI (wI (wI U (2, 0, 2) i c) (2, 0, 10) a g) (2, 0, 11) a p) (2, 0, 12) a d) (2, 0, 14) a k) (2, 0, 15) a q
section LA
variable (S : Mm) (i n : Nat) (g p d k q : Int32)
theorem la_1 {x : Ln} {y : Nat} (h : x ≠ (3, i, n)) (h3 : ¬ (x = (1, i, 0) ∧ y = 3)) : (laR S i n g p d k q).1 x y = S.1 x y := by
  (simp only [laR, laM, wI_1, wI_21, wI_22, wR_1, wR_21, wR_22, nw_1, nw_21, nw_22, h, if_false, false_and]; simp [h3])
theorem la_2 {x : Ln} {y : Nat} (h : x ≠ (3, i, n)) (h3 : ¬ (x = (1, i, 1) ∧ y = n)) : (laR S i n g p d k q).2.1 x y = S.2.1 x y := by
  (simp only [laR, laM, wI_1, wI_21, wI_22, wR_1, wR_21, wR_22, nw_1, nw_21, nw_22, h, if_false, false_and]; simp [h3])
theorem la_3 {x : Ln} (h : x ≠ (3, i, n)) : (laR S i n g p d k q).2.2 x = S.2.2 x := by
  simp only [laR, laM, wI_1, wI_21, wI_22, wR_1, wR_21, wR_22, nw_1, nw_21, nw_22, h, if_false, false_and]
theorem la_n (y : Nat) : (laR S i n g p d k q).1 (3, i, n) y = if y = 0 then g else if y = 1 then d else if y = 2 then k else if y = 3 then q else if y = 4 then p else 0 := by
  by_cases h0 : y = 0
  · subst h0; (simp only [laR, laM, wI_1, wI_21, wI_22, wR_1, wR_21, wR_22, nw_1, nw_21, nw_22]; simp)
  · by_cases h1 : y = 1
    · subst h1; (simp only [laR, laM, wI_1, wI_21, wI_22, wR_1, wR_21, wR_22, nw_1, nw_21, nw_22]; simp)
    · by_cases h2 : y = 2
      · subst h2; (simp only [laR, laM, wI_1, wI_21, wI_22, wR_1, wR_21, wR_22, nw_1, nw_21, nw_22]; simp)
      · by_cases h3 : y = 3
        · subst h3; (simp only [laR, laM, wI_1, wI_21, wI_22, wR_1, wR_21, wR_22, nw_1, nw_21, nw_22]; simp)
        · by_cases h4 : y = 4
          · subst h4; (simp only [laR, laM, wI_1, wI_21, wI_22, wR_1, wR_21, wR_22, nw_1, nw_21, nw_22]; simp)
          · (simp only [laR, laM, wI_1, wI_21, wI_22, wR_1, wR_21, wR_22, nw_1, nw_21, nw_22]; simp [h0, h1, h2, h3, h4])
theorem la_l : (laR S i n g p d k q).2.2 (3, i, n) = true := by
  (simp only [laR, laM, wI_1, wI_21, wI_22, wR_1, wR_21, wR_22, nw_1, nw_21, nw_22]; simp)
theorem la_r : (laR S i n g p d k q).2.1 (1, i, 1) n = some (3, i, n) := by
  (simp only [laR, laM, wI_1, wI_21, wI_22, wR_1, wR_21, wR_22, nw_1, nw_21, nw_22]; simp)
theorem la_c : (laR S i n g p d k q).1 (1, i, 0) 3 = nI (n + 1) := wI_same
theorem la_M : agM S (laR S i n g p d k q) := fun x hx => ⟨fun y => la_1 S i n g p d k q (fun e => by rw [e] at hx; cases hx) (fun e => by rw [e.1] at hx; cases hx), fun y => la_2 S i n g p d k q (fun e => by rw [e] at hx; cases hx) (fun e => by rw [e.1] at hx; cases hx), la_3 S i n g p d k q (fun e => by rw [e] at hx; cases hx)⟩
theorem laU_X (a : Nat) (c : Int32) : agX S (laU S i a c g p d k q) := (((((agX.rf.wI rfl).wI rfl).wI rfl).wI rfl).wI rfl).wI rfl
theorem laU_o {a : Nat} {c : Int32} {f x : Nat} (h : ¬ (f = 2 ∧ x = i)) (h2 : ¬ ((f = 10 ∨ f = 11 ∨ f = 12 ∨ f = 14 ∨ f = 15) ∧ x = a)) : (laU S i a c g p d k q).1 (2, 0, f) x = S.1 (2, 0, f) x := by
  have e : ∀ {f' : Nat}, ((2, 0, f) : Ln) = (2, 0, f') → f = f' := fun z => congrArg (fun z : Ln => z.2.2) z
  exact (wI_ne (fun z => h2 ⟨by have := e z.1; omega, z.2⟩)).trans ((wI_ne (fun z => h2 ⟨by have := e z.1; omega, z.2⟩)).trans ((wI_ne (fun z => h2 ⟨by have := e z.1; omega, z.2⟩)).trans ((wI_ne (fun z => h2 ⟨by have := e z.1; omega, z.2⟩)).trans ((wI_ne (fun z => h2 ⟨by have := e z.1; omega, z.2⟩)).trans (wI_ne (fun z => h ⟨e z.1, z.2⟩))))))
theorem laU_2 (a : Nat) (c : Int32) : (laU S i a c g p d k q).1 (2, 0, 2) i = c := (wI_ne (fun z => by cases z.1)).trans ((wI_ne (fun z => by cases z.1)).trans ((wI_ne (fun z => by cases z.1)).trans ((wI_ne (fun z => by cases z.1)).trans ((wI_ne (fun z => by cases z.1)).trans wI_same))))
theorem laU_10 (a : Nat) (c : Int32) : (laU S i a c g p d k q).1 (2, 0, 10) a = g := (wI_ne (fun z => by cases z.1)).trans ((wI_ne (fun z => by cases z.1)).trans ((wI_ne (fun z => by cases z.1)).trans ((wI_ne (fun z => by cases z.1)).trans wI_same)))
theorem laU_11 (a : Nat) (c : Int32) : (laU S i a c g p d k q).1 (2, 0, 11) a = p := (wI_ne (fun z => by cases z.1)).trans ((wI_ne (fun z => by cases z.1)).trans ((wI_ne (fun z => by cases z.1)).trans wI_same))
theorem laU_12 (a : Nat) (c : Int32) : (laU S i a c g p d k q).1 (2, 0, 12) a = d := (wI_ne (fun z => by cases z.1)).trans ((wI_ne (fun z => by cases z.1)).trans wI_same)
theorem laU_14 (a : Nat) (c : Int32) : (laU S i a c g p d k q).1 (2, 0, 14) a = k := (wI_ne (fun z => by cases z.1)).trans wI_same
theorem laU_15 (a : Nat) (c : Int32) : (laU S i a c g p d k q).1 (2, 0, 15) a = q := wI_same
end LA
section LB2
variable {S U : Mm} {mc : Nat} {lc : Nat → Nat} {i : Nat} {g p d k q q2 : Int32}
theorem IX.la (h : IX S mc lc) (hi : i < mc) (h8 : lc i < 8) : IX (laR S i (lc i) g p d k q) mc (lcU lc i) := by
  have r : ∀ a b c j, a ≠ 3 → ¬ (a = 1 ∧ c = 1 ∧ b = i ∧ j = lc i) → (laR S i (lc i) g p d k q).2.1 (a, b, c) j = S.2.1 (a, b, c) j := fun a b c j q0 q1 => la_2 S i (lc i) g p d k q (fun e => by cases e; exact q0 rfl) (fun e => by have := e.2; cases e.1; exact q1 ⟨rfl, rfl, rfl, this⟩)
  have l : ∀ a b c, a ≠ 3 → (laR S i (lc i) g p d k q).2.2 (a, b, c) = S.2.2 (a, b, c) := fun a b c q0 => la_3 S i (lc i) g p d k q (fun e => by cases e; exact q0 rfl)
  obtain ⟨⟨s1, s2, s3, s4, s5, s6, s7⟩, c1, c2⟩ := h
  refine ⟨⟨fun o ho => by rw [l _ _ _ (by omega)]; exact s1 o ho, ?_, ?_, fun z hz => ?_, fun a ha => ?_, fun a ha => ?_, s7⟩, ?_, fun a ha => ?_⟩
  · rw [r _ _ _ _ (by omega) (by omega), r _ _ _ _ (by omega) (by omega), r _ _ _ _ (by omega) (by omega), r _ _ _ _ (by omega) (by omega), r _ _ _ _ (by omega) (by omega), r _ _ _ _ (by omega) (by omega)]
    exact s2
  · rw [r _ _ _ _ (by omega) (by omega), r _ _ _ _ (by omega) (by omega), r _ _ _ _ (by omega) (by omega), r _ _ _ _ (by omega) (by omega)]
    exact s3
  · rw [l _ _ _ (by omega), r _ _ _ _ (by omega) (by omega)]
    exact s4 z hz
  · rw [r _ _ _ _ (by omega) (by omega)]
    exact s5 a ha
  · obtain ⟨m1, m2, m3, m4, m5, m6, m7⟩ := s6 a ha
    refine ⟨fun o ho => by rw [l _ _ _ (by omega)]; exact m1 o ho, ?_, ?_, ?_, fun j hj => ?_, fun j hj => ?_, ?_⟩
    · rw [r _ _ _ _ (by omega) (by omega), r _ _ _ _ (by omega) (by omega), r _ _ _ _ (by omega) (by omega)]
      exact m2
    · rw [r _ _ _ _ (by omega) (by omega), r _ _ _ _ (by omega) (by omega), r _ _ _ _ (by omega) (by omega), r _ _ _ _ (by omega) (by omega), r _ _ _ _ (by omega) (by omega), r _ _ _ _ (by omega) (by omega), r _ _ _ _ (by omega) (by omega)]
      exact m3
    · rw [r _ _ _ _ (by omega) (by omega), r _ _ _ _ (by omega) (by omega)]
      exact m4
    · by_cases e : a = i
      · subst e
        rw [lcU_i]
        by_cases ej : j = lc a
        · subst ej
          rw [la_r, if_pos (by omega)]
        · rw [r _ _ _ _ (by omega) (by omega), m5 j hj]
          by_cases z : j < lc a
          · rw [if_pos z, if_pos (by omega)]
          · rw [if_neg z, if_neg (by omega)]
      · rw [lcU_n lc e, r _ _ _ _ (by omega) (by omega)]
        exact m5 j hj
    · by_cases e : a = i
      · subst e
        rw [lcU_i] at hj
        by_cases ej : j = lc a
        · subst ej
          exact la_l S a (lc a) g p d k q
        · rw [la_3 S a (lc a) g p d k q (fun z => ej (by cases z; rfl))]
          exact m6 j (by omega)
      · rw [lcU_n lc e] at hj
        rw [la_3 S i (lc i) g p d k q (fun z => e (by cases z; rfl))]
        exact m6 j hj
    · by_cases e : a = i
      · subst e
        rw [lcU_i]
        omega
      · rw [lcU_n lc e]
        exact m7
  · rw [la_1 S i (lc i) g p d k q (fun z => by cases z) (fun z => by cases z.1)]
    exact c1
  · by_cases e : a = i
    · subst e
      rw [la_c, lcU_i]
    · rw [la_1 S i (lc i) g p d k q (fun z => by cases z) (fun z => e (by cases z.1; rfl)), lcU_n lc e]
      exact c2 a ha
theorem RR.la (h : RR S U mc lc) (hi : i < mc) (h8 : lc i < 8) (hg : ∃ n, g = nI n ∧ n < 16) (hd : ∃ n, d = nI n ∧ n ≤ 20) (hp : ∃ n, p = nI n ∧ 10 ≤ n ∧ n ≤ 5000 ∧ n % 10 = 0) (hq : k = 2 → q = q2) : RR (laR S i (lc i) g p d k q) (laU U i (8 * i + lc i) (nI (lc i + 1)) g p d k q2) mc (lcU lc i) := by
  have i6 := h.i6 hi
  have t : ∀ a b c j, a ≠ 3 ∨ b ≠ i ∨ c ≠ lc i → ¬ (a = 1 ∧ c = 0 ∧ b = i ∧ j = 3) → (laR S i (lc i) g p d k q).1 (a, b, c) j = S.1 (a, b, c) j := fun a b c j q0 q1 => la_1 S i (lc i) g p d k q (fun e => by cases e; omega) (fun e => by have := e.2; cases e.1; exact q1 ⟨rfl, rfl, rfl, this⟩)
  have u : ∀ f x, ¬ (f = 2 ∧ x = i) → ¬ ((f = 10 ∨ f = 11 ∨ f = 12 ∨ f = 14 ∨ f = 15) ∧ x = 8 * i + lc i) → (laU U i (8 * i + lc i) (nI (lc i + 1)) g p d k q2).1 (2, 0, f) x = U.1 (2, 0, f) x := fun f x a b => laU_o U i g p d k q2 a b
  have zn : ∀ f, (f = 13 ∨ f = 16 ∨ f = 17 ∨ f = 18 ∨ f = 19) → (laU U i (8 * i + lc i) (nI (lc i + 1)) g p d k q2).1 (2, 0, f) (8 * i + lc i) = 0 := fun f hf => by
    rw [u _ _ (by omega) (by omega)]
    refine h.z f _ ?_
    have e1 : (8 * i + lc i) / 8 = i := by omega
    have e2 : (8 * i + lc i) % 8 = lc i := by omega
    unfold zb
    rw [e1, e2]
    omega
  have nw : ∀ y, (laR S i (lc i) g p d k q).1 (3, i, lc i) y = if y = 0 then g else if y = 1 then d else if y = 2 then k else if y = 3 then q else if y = 4 then p else 0 := la_n S i (lc i) g p d k q
  have l8' : lcU lc i i ≤ 8 := by rw [lcU_i]; omega
  have hn : lc i < lcU lc i i := by rw [lcU_i]; omega
  refine ⟨h.ix.la hi h8, ?_, fun a ha => ?_, fun a ha o => ?_, fun a n hn => ?_, fun x y hv => ?_, h.hrE (t _ _ _ _ (by omega) (by omega)) (fun _ _ => t _ _ _ _ (by omega) (by omega)), h.szE (fun _ => t _ _ _ _ (by omega) (by omega)), h.tbE (fun _ _ => t _ _ _ _ (by omega) (by omega)), h.nnE (fun _ _ => t _ _ _ _ (by omega) (by omega)) (fun _ => t _ _ _ _ (by omega) (by omega)), fun a ha j hj => ?_, fun a ha w hw => ?_, fun a ha => ?_, fun a ha j hj => ?_, fun f x hz => ?_⟩
  · obtain ⟨m1, m2, m3, m4⟩ := h.im
    refine ⟨m1.same rfl, ?_, m3, fun a ha => ?_⟩
    · rw [u _ _ (by omega) (by omega)]
      exact m2
    · by_cases e : a = i
      · subst e
        rw [laU_2, lcU_i]
        exact ⟨rfl, by omega⟩
      · rw [u _ _ (by omega) (by omega), lcU_n lc e]
        exact m4 a ha
  · rw [lcU_n lc (by omega)]
    exact h.lz a ha
  · rw [la_3 S i (lc i) g p d k q (fun z => by cases z)]
    exact h.dm a ha o
  · by_cases e : a = i
    · subst e
      rw [lcU_i] at hn
      rw [la_3 S a (lc a) g p d k q (fun z => by
        have : n = lc a := by cases z; rfl
        omega)]
      exact h.dl a n (by omega)
    · rw [lcU_n lc e] at hn
      rw [la_3 S i (lc i) g p d k q (fun z => e (by cases z; rfl))]
      exact h.dl a n hn
  · by_cases e : x = (3, i, lc i)
    · subst e
      have w := vd_la h8 hv
      have nv : ¬ vd mc lc (3, i, lc i) y := fun z => by have := (vd_li z).2; omega
      rw [nw]
      generalize hz : ((3, i, lc i) : Ln) = z at hv
      have hp' : pt (3, i, lc i) y = pt z y := by rw [hz]
      induction hv using vd.elim with
      | hour => cases hz
      | mis => cases hz
      | size h => cases hz
      | ref h => cases hz
      | giv h => cases hz
      | pie h => cases hz
      | m5 h => cases hz
      | m6 h => cases hz
      | m7 h => cases hz
      | m8 h => cases hz
      | m9 h => cases hz
      | tub h hw => cases hz
      | box h hw => cases hz
      | inn h hw => cases hz
      | cam h hw => cases hz
      | sal h hw => cases hz
      | the h hw => cases hz
      | l0 a b c => cases hz; exact (laU_10 U i g p d k q2 _ _).symm
      | l1 a b c => cases hz; exact (laU_12 U i g p d k q2 _ _).symm
      | l2 a b c => cases hz; exact (laU_14 U i g p d k q2 _ _).symm
      | l4 a b c => cases hz; exact (laU_11 U i g p d k q2 _ _).symm
      | l5 a b c => cases hz; exact (zn 13 (by omega)).symm
      | l6 a b c => cases hz; exact (zn 16 (by omega)).symm
      | l7 a b c => cases hz; exact (zn 17 (by omega)).symm
      | l8 a b c => cases hz; exact (zn 18 (by omega)).symm
      | l9 a b c => cases hz; exact (zn 19 (by omega)).symm
    · have ov := (vd_la h8 hv).resolve_right e
      have kk := vd_k hv
      rw [la_1 S i (lc i) g p d k q e (fun z => kk.2.2.1 (by rw [z.1, z.2]; exact ⟨rfl, rfl, Or.inl rfl⟩)), u _ _ (fun z => (vd_pt hv).1 z.1) (fun z => ?_)]
      · exact h.d x y ov
      · obtain ⟨z1, z2⟩ := z
        have inj : ∀ o f, vd mc (lcU lc i) (3, i, lc i) o → pt (3, i, lc i) o = (f, 8 * i + lc i) → (pt x y).1 = f → False := fun o f hv' hp hf => e (pt_inj hv hv' ((Prod.ext hf z2 : pt x y = (f, 8 * i + lc i)).trans hp.symm)).1
        rcases z1 with z1 | z1 | z1 | z1 | z1
        · exact inj 0 10 (vd.l0 hi hn l8') rfl z1
        · exact inj 4 11 (vd.l4 hi hn l8') rfl z1
        · exact inj 1 12 (vd.l1 hi hn l8') rfl z1
        · exact inj 2 14 (vd.l2 hi hn l8') rfl z1
        · exact (vd_pt hv).2.2.2.1 z1
  · by_cases e : a = i ∧ j = lc i
    · obtain ⟨rfl, rfl⟩ := e
      unfold LB
      rw [nw, nw, nw, nw, nw, nw]
      obtain ⟨g0, ge, g2⟩ := hg
      obtain ⟨d0, de, d2⟩ := hd
      exact ⟨⟨g0, ge, g2⟩, ⟨d0, 0, de, d2, rfl, Nat.zero_le _⟩, hp, ⟨0, rfl, by decide, fun _ => by decide⟩⟩
    · have hj' : j < lc a := by
        by_cases e1 : a = i
        · subst e1
          rw [lcU_i] at hj
          have : j ≠ lc a := fun z => e ⟨rfl, z⟩
          omega
        · rw [lcU_n lc e1] at hj
          exact hj
      exact (h.lb a ha j hj').e (fun z _ => t _ _ _ _ (by
        by_cases e1 : a = i
        · right; right
          intro z
          exact e ⟨e1, z⟩
        · exact Or.inr (Or.inl e1)) (by omega))
  · rw [t _ _ _ _ (by omega) (by omega), t _ _ _ _ (by omega) (by omega), t _ _ _ _ (by omega) (by omega), u _ _ (by omega) (by omega)]
    exact h.wt a ha w hw
  · rw [t _ _ _ _ (by omega) (by omega), u _ _ (by omega) (by omega)]
    exact h.pw a ha
  · by_cases e : a = i ∧ j = lc i
    · obtain ⟨rfl, rfl⟩ := e
      rw [nw, nw, laU_15]
      exact fun z => hq z
    · have hj' : j < lc a ∧ (a ≠ i ∨ j ≠ lc i) := by
        by_cases e1 : a = i
        · subst e1
          rw [lcU_i] at hj
          have : j ≠ lc a := fun z => e ⟨rfl, z⟩
          exact ⟨by omega, Or.inr this⟩
        · rw [lcU_n lc e1] at hj
          exact ⟨hj, Or.inl e1⟩
      have a8 := h.l8 ha
      rw [t _ _ _ _ (Or.inr hj'.2) (by omega), t _ _ _ _ (Or.inr hj'.2) (by omega), u _ _ (by omega) (by omega)]
      exact h.kp a ha j hj'.1
  · have hz' : zb mc lc f x ∧ ¬ (f = 10 ∧ x = 8 * i + lc i) := by
      unfold zb at hz ⊢
      by_cases e : x / 8 = i
      · rw [e, lcU_i] at hz
        rw [e]
        omega
      · rw [lcU_n lc e] at hz
        omega
    rw [u _ _ (by have := hz'.1; unfold zb at this; omega) (by
      have := hz'.1
      unfold zb at this
      omega)]
    exact h.z f x hz'.1
end LB2
theorem t7_lane (S : Mm) (lc : Nat → Nat) (i g : Nat) (p2 p3 p5 : Int32) (k : Nat) : t_X7_lane S lc i g p2 p3 p5 k = if blw p2 = 0 then (if p3 < 1 then (some (vi (-4)), rfM S 4) else (if nI k = 2 ∧ ¬ 0 ≤ p5 then (some (vi (-4)), rfM S 4) else (if 5000 < p2 ∨ 20 < p3 ∨ (nI k = 2 ∧ 48 < p5) ∨ nI (lc i) = 8 then (some (vi (-6)), rfM S 6) else (some (vi ((laU S i (8 * i + lc i) (nI (lc i + 1)) (nI g) p2 p3 (nI k) p5).1 (2, 0, 2) i - 1)), laU S i (8 * i + lc i) (nI (lc i + 1)) (nI g) p2 p3 (nI k) p5)))) else (some (vi (-4)), rfM S 4) := by
  unfold t_X7_lane laU
  by_cases c1 : blw p2 = 0
  · by_cases c2 : p3 < 1
    · simp only [c1, c2, if_true]
    · by_cases c3 : nI k = 2
      · by_cases c4 : 0 ≤ p5
        · by_cases c5 : 5000 < p2
          · simp [c1, c2, c3, c4, c5]
          · by_cases c6 : 20 < p3
            · simp [c1, c2, c3, c4, c5, c6]
            · by_cases c7 : 48 < p5
              · simp [c1, c2, c3, c4, c5, c6, c7]
              · by_cases c8 : nI (lc i) = 8
                · simp [c1, c2, c3, c4, c5, c6, c7, c8]
                · simp [c1, c2, c3, c4, c5, c6, c7, c8]
        · simp [c1, c2, c3, c4]
      · by_cases c5 : 5000 < p2
        · simp [c1, c2, c3, c5]
        · by_cases c6 : 20 < p3
          · simp [c1, c2, c3, c5, c6]
          · by_cases c8 : nI (lc i) = 8
            · simp [c1, c2, c3, c5, c6, c8]
            · simp [c1, c2, c3, c5, c6, c8]
  · simp only [c1, if_false]
theorem t6_lane (S : Mm) (lc : Nat → Nat) (i g : Nat) (p2 p3 p5 : Int32) (k : Nat) : t_X6_lane S lc i g p2 p3 p5 k = if blw p2 = 0 then (if p3 < 1 then (some (vi (-4)), rfX S 4) else (if nI k = 2 ∧ ¬ 0 ≤ p5 then (some (vi (-4)), rfX S 4) else (if 5000 < p2 ∨ 20 < p3 ∨ (nI k = 2 ∧ 48 < p5) ∨ ¬ lc i < 8 then (some (vi (-6)), rfX S 6) else (some (vi (nI (lc i))), laR S i (lc i) (nI g) p2 p3 (nI k) (if nI k = 2 then p5 else 0))))) else (some (vi (-4)), rfX S 4) := by
  unfold t_X6_lane
  by_cases c1 : blw p2 = 0
  · by_cases c2 : p3 < 1
    · simp [c1, c2]
    · by_cases c3 : nI k = 2
      · by_cases c4 : 0 ≤ p5
        · by_cases c5 : 5000 < p2
          · simp [c1, c2, c3, c4, c5]
          · by_cases c6 : 20 < p3
            · simp [c1, c2, c3, c4, c5, c6]
            · by_cases c7 : 48 < p5
              · simp [c1, c2, c3, c4, c5, c6, c7]
              · by_cases c8 : lc i < 8
                · have c8' : ¬ 8 ≤ lc i := by omega
                  simp [c1, c2, c3, c4, c5, c6, c7, c8, c8']
                · have c8' : 8 ≤ lc i := by omega
                  simp [c1, c2, c3, c4, c5, c6, c7, c8, c8']
        · simp [c1, c2, c3, c4]
      · by_cases c5 : 5000 < p2
        · simp [c1, c2, c3, c5]
        · by_cases c6 : 20 < p3
          · simp [c1, c2, c3, c5, c6]
          · by_cases c8 : lc i < 8
            · have c8' : ¬ 8 ≤ lc i := by omega
              simp [c1, c2, c3, c5, c6, c8, c8']
            · have c8' : 8 ≤ lc i := by omega
              simp [c1, c2, c3, c5, c6, c8, c8']
  · simp [c1]
set_option maxHeartbeats 1000000 in
theorem o_lane (l : Launch) (E : En) (base aw : Nat) {S : Mm} {mc : Nat} {lc : Nat → Nat} (h : RR S S mc lc) (p0 p1 p2 p3 p4 p5 : Int32) : Op l E base aw yX6_lane cX6_lane 9 (some Jvm.ClassFile.FieldType.int) 3 yX7_lane cX7_lane 8 2 [vi p0, vi p1, vi p2, vi p3, vi p4, vi p5] S := by
  by_cases ok : okN mc p0 ∧ okN 16 p1
  · obtain ⟨⟨i, hi, rfl⟩, ⟨g, hg, rfl⟩⟩ := ok
    by_cases ok4 : okN 4 p4
    · obtain ⟨k, hk, rfl⟩ := ok4
      have x := c_X6_lane l E base aw S mc lc h.ix i hi g hg p2 p3 p5 k hk (h.dl i)
      have m : ∀ S1, RR S S1 mc lc → Cn l E base aw yX7_lane cX7_lane 8 (some Jvm.ClassFile.FieldType.int) 2 0 0 noF S1 [vr (2, 0, 0), vi (nI i), vi (nI g), vi p2, vi p3, vi (nI k), vi p5] (fun r S' => (r, S') = t_X7_lane S1 lc i g p2 p3 p5 k) := fun S1 h1 => c_X7_lane l E base aw S1 mc lc h1.im i hi g hg p2 p3 p5 k hk
      have hf : ∀ q, frL i (lc i) q = true → q.1 = 1 ∨ q.1 = 3 := fun q hq => by
        have : q = (3, i, lc i) := of_decide_eq_true hq
        rw [this]
        exact Or.inr rfl
      have rf : ∀ (z : Nat) (v : Int32), z < 7 → t_X6_lane S lc i g p2 p3 p5 k = (some (vi v), rfX S z) → (∀ S1, t_X7_lane S1 lc i g p2 p3 p5 k = (some (vi v), rfM S1 z)) → Op l E base aw yX6_lane cX6_lane 9 (some Jvm.ClassFile.FieldType.int) 3 yX7_lane cX7_lane 8 2 [vi (nI i), vi (nI g), vi p2, vi p3, vi (nI k), vi p5] S := fun z v hz e6 e7 => Op.mkf (by decide) (by decide) hf (x.t e6) ((m _ (h.cU agM_rf)).t (e7 _)) rfl (h.cU agM_rf).im.1.1 (((h.cU agM_rf).ref hz).cT agX_rf)
      by_cases c1 : blw p2 = 0
      · by_cases c2 : p3 < 1
        · exact rf 4 (-4) (by decide) (by rw [t6_lane, if_pos c1, if_pos c2]) (fun S1 => by rw [t7_lane, if_pos c1, if_pos c2])
        · by_cases c3 : nI k = 2 ∧ ¬ 0 ≤ p5
          · exact rf 4 (-4) (by decide) (by rw [t6_lane, if_pos c1, if_neg c2, if_pos c3]) (fun S1 => by rw [t7_lane, if_pos c1, if_neg c2, if_pos c3])
          · have l8 := h.l8 hi
            have e8 : nI (lc i) = 8 ↔ ¬ lc i < 8 := by
              have : nI (lc i) = nI 8 ↔ lc i = 8 := nI_eq (by omega) (by decide)
              exact this.trans ⟨fun q => by omega, fun q => by omega⟩
            by_cases c4 : 5000 < p2 ∨ 20 < p3 ∨ (nI k = 2 ∧ 48 < p5) ∨ ¬ lc i < 8
            · exact rf 6 (-6) (by decide) (by rw [t6_lane, if_pos c1, if_neg c2, if_neg c3, if_pos c4]) (fun S1 => by rw [t7_lane, if_pos c1, if_neg c2, if_neg c3, if_pos (by rw [e8]; exact c4)])
            · have c8 : lc i < 8 := Decidable.not_not.mp (fun q => c4 (Or.inr (Or.inr (Or.inr q))))
              have h1 : RR S (laR S i (lc i) (nI g) p2 p3 (nI k) (if nI k = 2 then p5 else 0)) mc lc := h.cU (la_M S i (lc i) (nI g) p2 p3 (nI k) _)
              refine Op.mkf (by decide) (by decide) hf (x.t (by rw [t6_lane, if_pos c1, if_neg c2, if_neg c3, if_neg c4])) ((m _ h1).t (by rw [t7_lane, if_pos c1, if_neg c2, if_neg c3, if_neg (by rw [e8]; exact c4)])) (by rw [laU_2, nI_pred]) h1.im.1.1 ((h1.la hi c8 ⟨g, rfl, hg⟩ ?_ (blw_rng c1 (Int32.not_lt.mp (fun q => c4 (Or.inl q)))) (fun q => if_pos q)).cT (laU_X _ i _ _ _ _ _ _ _))
              obtain ⟨n, rfl, -, hn⟩ := i32_rng (a := 1) (b := 20) (Int32.not_lt.mp c2) (Int32.not_lt.mp (fun q => c4 (Or.inr (Or.inl q))))
              exact ⟨n, rfl, hn⟩
      · exact rf 4 (-4) (by decide) (by rw [t6_lane, if_neg c1]) (fun S1 => by rw [t7_lane, if_neg c1])
    · exact Op.ref h (k := 2) (by decide) (c_X6_lane_k l E base aw S mc lc h.ix i hi g hg p2 p3 p4 p5 ok4) (fun S1 h1 => c_X7_lane_k l E base aw S1 mc lc h1.im i hi g hg p2 p3 p4 p5 ok4)
  · exact Op.ref h (k := 1) (by decide) (c_X6_lane_b l E base aw S mc lc h.ix p0 p1 p2 p3 p4 p5 ok) (fun S1 h1 => c_X7_lane_b l E base aw S1 mc lc h1.im p0 p1 p2 p3 p4 p5 ok)
