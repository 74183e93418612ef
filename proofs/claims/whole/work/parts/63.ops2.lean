/-! the relation under bulk changes -/
section RX
variable {S T U T' U' : Mm} {mc : Nat} {lc : Nat → Nat} {k : Ln} {j : Nat} {v : Int32}
theorem wI_comm {k k' : Ln} {j j' : Nat} {v v' : Int32} (h : ¬ (k = k' ∧ j = j')) : wI (wI S k j v) k' j' v' = wI (wI S k' j' v') k j v := by
  refine Prod.ext (funext fun a => funext fun b => ?_) rfl
  show (if a = k' ∧ b = j' then v' else if a = k ∧ b = j then v else S.1 a b) = (if a = k ∧ b = j then v else if a = k' ∧ b = j' then v' else S.1 a b)
  by_cases h1 : a = k ∧ b = j
  · have h2 : ¬ (a = k' ∧ b = j') := fun q => h ⟨h1.1.symm.trans q.1, h1.2.symm.trans q.2⟩
    simp only [if_pos h1, if_neg h2]
  · simp only [if_neg h1]
theorem wI_id (h : S.1 k j = v) : wI S k j v = S := by
  refine Prod.ext (funext fun a => funext fun b => ?_) rfl
  show (if a = k ∧ b = j then v else S.1 a b) = S.1 a b
  by_cases q : a = k ∧ b = j
  · rw [if_pos q, q.1, q.2, h]
  · rw [if_neg q]
theorem RR.set (h : RR T U mc lc) (A : Ln → Nat → Prop) (hT : ∀ k j, vd mc lc k j → ¬ A k j → T'.1 k j = T.1 k j) (hU : ∀ k j, vd mc lc k j → ¬ A k j → U'.1 (2, 0, (pt k j).1) (pt k j).2 = U.1 (2, 0, (pt k j).1) (pt k j).2) (hA : ∀ k j, vd mc lc k j → A k j → T'.1 k j = U'.1 (2, 0, (pt k j).1) (pt k j).2) : ∀ k j, vd mc lc k j → T'.1 k j = U'.1 (2, 0, (pt k j).1) (pt k j).2 := fun k j hv => by
  by_cases a : A k j
  · exact hA k j hv a
  · rw [hT k j hv a, hU k j hv a]; exact h.d k j hv
theorem RR.of (h : RR T U mc lc) (eT : T'.2 = T.2) (eU : U'.2 = U.2) (c6 : T'.1 (0, 0, 0) 6 = T.1 (0, 0, 0) 6) (c3 : ∀ i, T'.1 (1, i, 0) 3 = T.1 (1, i, 0) 3) (m1 : U'.1 (2, 0, 0) 1 = U.1 (2, 0, 0) 1) (m2 : ∀ i, U'.1 (2, 0, 2) i = U.1 (2, 0, 2) i)
    (d : ∀ k j, vd mc lc k j → T'.1 k j = U'.1 (2, 0, (pt k j).1) (pt k j).2)
    (hr : ∃ h, h ≤ 3000 ∧ T'.1 (0, 0, 0) 7 = nI h ∧ ∀ i, i < mc → ∀ q, q < 384 → ∃ n, T'.1 (1, i, 12) q = nI n ∧ n ≤ h)
    (sz : ∀ g, g < 16 → ∃ s, T'.1 (0, 0, 2) g = nI s ∧ 1 ≤ s ∧ s ≤ 9)
    (tb : ∀ i, i < mc → ∀ w, w < 6 → ∃ n, T'.1 (1, i, 3) w = nI n ∧ n ≤ 50)
    (nn : ∀ i, i < mc → ∃ f, (∀ w, w < 6 → T'.1 (1, i, 5) w = nI (f w)) ∧ sm f ≤ 20 ∧ T'.1 (1, i, 2) 7 = nI (sm f))
    (lb : ∀ i, i < mc → ∀ j, j < lc i → LB T' i j)
    (wt : ∀ i, i < mc → ∀ w, w < 6 → T'.1 (1, i, 7) w + T'.1 (1, i, 8) w + T'.1 (1, i, 9) w = U'.1 (2, 0, 7) (6 * i + w))
    (pw : ∀ i, i < mc → (T'.1 (1, i, 0) 4 = 0 ∧ U'.1 (2, 0, 8) i = 1) ∨ (T'.1 (1, i, 0) 4 = 1 ∧ U'.1 (2, 0, 8) i = 0))
    (kp : ∀ i, i < mc → ∀ j, j < lc i → T'.1 (3, i, j) 2 = 2 → T'.1 (3, i, j) 3 = U'.1 (2, 0, 15) (8 * i + j))
    (z : ∀ f x, zb mc lc f x → U'.1 (2, 0, f) x = 0) : RR T' U' mc lc :=
  ⟨h.ix.same eT c6 c3, h.im.same eU m1 m2, h.lz, by rw [eT]; exact h.dm, by rw [eT]; exact h.dl, d, hr, sz, tb, nn, lb, wt, pw, kp, z⟩
theorem RR.hrE (h : RR T U mc lc) (e1 : T'.1 (0, 0, 0) 7 = T.1 (0, 0, 0) 7) (e2 : ∀ i q, T'.1 (1, i, 12) q = T.1 (1, i, 12) q) : ∃ h, h ≤ 3000 ∧ T'.1 (0, 0, 0) 7 = nI h ∧ ∀ i, i < mc → ∀ q, q < 384 → ∃ n, T'.1 (1, i, 12) q = nI n ∧ n ≤ h := by
  obtain ⟨t, a, b, c⟩ := h.hr
  exact ⟨t, a, e1.trans b, fun i hi q hq => by rw [e2]; exact c i hi q hq⟩
theorem RR.szE (h : RR T U mc lc) (e : ∀ g, T'.1 (0, 0, 2) g = T.1 (0, 0, 2) g) : ∀ g, g < 16 → ∃ s, T'.1 (0, 0, 2) g = nI s ∧ 1 ≤ s ∧ s ≤ 9 := fun g hg => by rw [e]; exact h.sz g hg
theorem RR.tbE (h : RR T U mc lc) (e : ∀ i w, T'.1 (1, i, 3) w = T.1 (1, i, 3) w) : ∀ i, i < mc → ∀ w, w < 6 → ∃ n, T'.1 (1, i, 3) w = nI n ∧ n ≤ 50 := fun i hi w hw => by rw [e]; exact h.tb i hi w hw
theorem RR.nnE (h : RR T U mc lc) (e : ∀ i w, T'.1 (1, i, 5) w = T.1 (1, i, 5) w) (e2 : ∀ i, T'.1 (1, i, 2) 7 = T.1 (1, i, 2) 7) : ∀ i, i < mc → ∃ f, (∀ w, w < 6 → T'.1 (1, i, 5) w = nI (f w)) ∧ sm f ≤ 20 ∧ T'.1 (1, i, 2) 7 = nI (sm f) := fun i hi => by
  obtain ⟨f, a, b, c⟩ := h.nn i hi
  exact ⟨f, fun w hw => by rw [e]; exact a w hw, b, by rw [e2]; exact c⟩
theorem LB.e {i l : Nat} (h : LB T i l) (e : ∀ q, (q = 0 ∨ q = 1 ∨ q = 4 ∨ q = 5 ∨ q = 7 ∨ q = 8) → T'.1 (3, i, l) q = T.1 (3, i, l) q) : LB T' i l := by
  unfold LB
  rw [e 0 (by omega), e 1 (by omega), e 4 (by omega), e 5 (by omega), e 7 (by omega), e 8 (by omega)]
  exact h
theorem RR.lbE (h : RR T U mc lc) (e : ∀ i l q, (q = 0 ∨ q = 1 ∨ q = 4 ∨ q = 5 ∨ q = 7 ∨ q = 8) → T'.1 (3, i, l) q = T.1 (3, i, l) q) : ∀ i, i < mc → ∀ l, l < lc i → LB T' i l := fun i hi l hl => (h.lb i hi l hl).e (e i l)
/-- a partner in a range of six is a cell of that machine -/
theorem pt_rng {i o f : Nat} (hv : vd mc lc k j) (ho : ∀ w, w < 6 → vd mc lc (1, i, o) w) (hp : ∀ w, pt (1, i, o) w = (f, 6 * i + w)) (hk : k ≠ (1, i, o)) : ¬ ((pt k j).1 = f ∧ 6 * i ≤ (pt k j).2 ∧ (pt k j).2 < 6 * i + 6) := by
  intro ⟨a, b, c⟩
  have e : pt k j = pt (1, i, o) ((pt k j).2 - 6 * i) := by
    rw [hp]
    exact Prod.ext a (by show (pt k j).2 = 6 * i + ((pt k j).2 - 6 * i); omega)
  exact hk (pt_inj hv (ho _ (by omega)) e).1
theorem vd_mi {i o w : Nat} (hv : vd mc lc (1, i, o) w) : i < mc ∧ (o = 12 ∨ o = 11 → w < 384) ∧ (o = 3 ∨ o = 4 ∨ o = 5 ∨ o = 6 → w < 6) := by
  generalize hz : ((1, i, o) : Ln) = z at hv
  induction hv using vd.elim <;> first | (cases hz; done) | (cases hz; exact ⟨by assumption, fun _ => by omega, fun _ => by omega⟩)
theorem vd_li {i l q : Nat} (hv : vd mc lc (3, i, l) q) : i < mc ∧ l < lc i := by
  generalize hz : ((3, i, l) : Ln) = z at hv
  induction hv using vd.elim <;> first | (cases hz; done) | (cases hz; exact ⟨by assumption, by assumption⟩)
theorem zb_six {mc : Nat} {lc : Nat → Nat} {i x f : Nat} (hi : i < mc) (h1 : 6 * i ≤ x) (h2 : x < 6 * i + 6) (hf : f = 3 ∨ f = 4 ∨ f = 5 ∨ f = 6 ∨ f = 7) : ¬ zb mc lc f x := by
  unfold zb
  omega
end RX
section BK
variable (S : Mm) (i : Nat)
theorem gbX_u : ∀ n k j, n ≤ j → (gbX S i n).1 k j = S.1 k j
  | 0, _, _, _ => rfl
  | n + 1, k, j, h => (wI_ne (fun q => by have := q.2; omega)).trans ((wI_ne (fun q => by have := q.2; omega)).trans (gbX_u n k j (by omega)))
theorem gbX_o : ∀ n k j, k ≠ (1, i, 7) → k ≠ (1, i, 5) → (gbX S i n).1 k j = S.1 k j
  | 0, _, _, _, _ => rfl
  | n + 1, k, j, a, b => (wI_ne (fun q => b q.1)).trans ((wI_ne (fun q => a q.1)).trans (gbX_o n k j a b))
theorem gbX_7 : ∀ n w, w < n → (gbX S i n).1 (1, i, 7) w = S.1 (1, i, 7) w + S.1 (1, i, 5) w
  | 0, w, h => by omega
  | n + 1, w, h => by
    by_cases e : w = n
    · subst e
      refine (wI_ne (fun q => by cases q.1)).trans (wI_same.trans ?_)
      rw [gbX_u S i w _ _ (Nat.le_refl _), gbX_u S i w _ _ (Nat.le_refl _)]
    · exact (wI_ne (fun q => e q.2)).trans ((wI_ne (fun q => e q.2)).trans (gbX_7 n w (by omega)))
theorem gbX_5 : ∀ n w, w < n → (gbX S i n).1 (1, i, 5) w = 0
  | 0, w, h => by omega
  | n + 1, w, h => by
    by_cases e : w = n
    · subst e
      exact wI_same
    · exact (wI_ne (fun q => e q.2)).trans ((wI_ne (fun q => e q.2)).trans (gbX_5 n w (by omega)))
theorem ebX_u : ∀ n k j, n ≤ j → (ebX S i n).1 k j = S.1 k j
  | 0, _, _, _ => rfl
  | n + 1, k, j, h => (wI_ne (fun q => by have := q.2; omega)).trans ((wI_ne (fun q => by have := q.2; omega)).trans (ebX_u n k j (by omega)))
theorem ebX_o : ∀ n k j, k ≠ (1, i, 9) → k ≠ (1, i, 4) → (ebX S i n).1 k j = S.1 k j
  | 0, _, _, _, _ => rfl
  | n + 1, k, j, a, b => (wI_ne (fun q => b q.1)).trans ((wI_ne (fun q => a q.1)).trans (ebX_o n k j a b))
theorem ebX_9 : ∀ n w, w < n → (ebX S i n).1 (1, i, 9) w = S.1 (1, i, 9) w + S.1 (1, i, 4) w
  | 0, w, h => by omega
  | n + 1, w, h => by
    by_cases e : w = n
    · subst e
      refine (wI_ne (fun q => by cases q.1)).trans (wI_same.trans ?_)
      rw [ebX_u S i w _ _ (Nat.le_refl _), ebX_u S i w _ _ (Nat.le_refl _)]
    · exact (wI_ne (fun q => e q.2)).trans ((wI_ne (fun q => e q.2)).trans (ebX_9 n w (by omega)))
theorem ebX_4 : ∀ n w, w < n → (ebX S i n).1 (1, i, 4) w = 0
  | 0, w, h => by omega
  | n + 1, w, h => by
    by_cases e : w = n
    · subst e
      exact wI_same
    · exact (wI_ne (fun q => e q.2)).trans ((wI_ne (fun q => e q.2)).trans (ebX_4 n w (by omega)))
theorem abM_o : ∀ n k x, ((k ≠ (2, 0, 7) ∧ k ≠ (2, 0, 5)) ∨ x < 6 * i ∨ 6 * i + n ≤ x) → (abM S i n).1 k x = S.1 k x
  | 0, _, _, _ => rfl
  | n + 1, k, x, h => by
    refine (wI_ne (fun q => ?_)).trans ((wI_ne (fun q => ?_)).trans (abM_o n k x ?_))
    · rcases h with h | h
      · exact h.2 q.1
      · have := q.2; omega
    · rcases h with h | h
      · exact h.1 q.1
      · have := q.2; omega
    · rcases h with h | h
      · exact Or.inl h
      · exact Or.inr (by omega)
theorem abM_7 : ∀ n w, w < n → (abM S i n).1 (2, 0, 7) (6 * i + w) = S.1 (2, 0, 7) (6 * i + w) + S.1 (2, 0, 5) (6 * i + w)
  | 0, w, h => by omega
  | n + 1, w, h => by
    by_cases e : w = n
    · subst e
      refine (wI_ne (fun q => by cases q.1)).trans (wI_same.trans ?_)
      rw [abM_o S i w _ _ (Or.inr (Or.inr (Nat.le_refl _))), abM_o S i w _ _ (Or.inr (Or.inr (Nat.le_refl _)))]
    · exact (wI_ne (fun q => e (by have := q.2; omega))).trans ((wI_ne (fun q => e (by have := q.2; omega))).trans (abM_7 n w (by omega)))
theorem abM_5 : ∀ n w, w < n → (abM S i n).1 (2, 0, 5) (6 * i + w) = 0
  | 0, w, h => by omega
  | n + 1, w, h => by
    by_cases e : w = n
    · subst e
      exact wI_same
    · exact (wI_ne (fun q => e (by have := q.2; omega))).trans ((wI_ne (fun q => e (by have := q.2; omega))).trans (abM_5 n w (by omega)))
theorem coM_o : ∀ n k x, ((k ≠ (2, 0, 7) ∧ k ≠ (2, 0, 4)) ∨ x < 6 * i ∨ 6 * i + n ≤ x) → (coM S i n).1 k x = S.1 k x
  | 0, _, _, _ => rfl
  | n + 1, k, x, h => by
    refine (wI_ne (fun q => ?_)).trans ((wI_ne (fun q => ?_)).trans (coM_o n k x ?_))
    · rcases h with h | h
      · exact h.2 q.1
      · have := q.2; omega
    · rcases h with h | h
      · exact h.1 q.1
      · have := q.2; omega
    · rcases h with h | h
      · exact Or.inl h
      · exact Or.inr (by omega)
theorem coM_7 : ∀ n w, w < n → (coM S i n).1 (2, 0, 7) (6 * i + w) = S.1 (2, 0, 7) (6 * i + w) + S.1 (2, 0, 4) (6 * i + w)
  | 0, w, h => by omega
  | n + 1, w, h => by
    by_cases e : w = n
    · subst e
      refine (wI_ne (fun q => by cases q.1)).trans (wI_same.trans ?_)
      rw [coM_o S i w _ _ (Or.inr (Or.inr (Nat.le_refl _))), coM_o S i w _ _ (Or.inr (Or.inr (Nat.le_refl _)))]
    · exact (wI_ne (fun q => e (by have := q.2; omega))).trans ((wI_ne (fun q => e (by have := q.2; omega))).trans (coM_7 n w (by omega)))
theorem coM_4 : ∀ n w, w < n → (coM S i n).1 (2, 0, 4) (6 * i + w) = 0
  | 0, w, h => by omega
  | n + 1, w, h => by
    by_cases e : w = n
    · subst e
      exact wI_same
    · exact (wI_ne (fun q => e (by have := q.2; omega))).trans ((wI_ne (fun q => e (by have := q.2; omega))).trans (coM_4 n w (by omega)))
theorem abM_X : ∀ n, agX S (abM S i n)
  | 0 => agX.rf
  | n + 1 => ((abM_X n).wI rfl).wI rfl
theorem coM_X : ∀ n, agX S (coM S i n)
  | 0 => agX.rf
  | n + 1 => ((coM_X n).wI rfl).wI rfl
theorem gbX_M : ∀ n, agM S (gbX S i n)
  | 0 => agM.rf
  | n + 1 => ((gbX_M n).wI (by show (1 : Nat) ≠ 2; decide)).wI (by show (1 : Nat) ≠ 2; decide)
theorem ebX_M : ∀ n, agM S (ebX S i n)
  | 0 => agM.rf
  | n + 1 => ((ebX_M n).wI (by show (1 : Nat) ≠ 2; decide)).wI (by show (1 : Nat) ≠ 2; decide)
end BK
section BU
variable {T U : Mm} {mc : Nat} {lc : Nat → Nat} {v v' : Int32} {i w : Nat}
theorem RR.backU (h : RR T U mc lc) (hi : i < mc) : RR (wI (gbX T i 6) (1, i, 2) 7 0) (abM U i 6) mc lc := by
  have tr : ∀ k j, k ≠ (1, i, 7) → k ≠ (1, i, 5) → ¬ (k = (1, i, 2) ∧ j = 7) → (wI (gbX T i 6) (1, i, 2) 7 0).1 k j = T.1 k j := fun k j a b c => (wI_ne c).trans (gbX_o T i 6 k j a b)
  have tn : ∀ a b c j, (c ≠ 7 ∧ c ≠ 5 ∧ c ≠ 2) ∨ a ≠ 1 ∨ b ≠ i → (wI (gbX T i 6) (1, i, 2) 7 0).1 (a, b, c) j = T.1 (a, b, c) j := fun a b c j q => tr _ _ (fun e => by cases e; omega) (fun e => by cases e; omega) (fun e => by cases e.1; omega)
  have t5 : ∀ w, w < 6 → (wI (gbX T i 6) (1, i, 2) 7 0).1 (1, i, 5) w = 0 := fun w hw => (wI_ne (fun q => by cases q.1)).trans (gbX_5 T i 6 w hw)
  have t7 : ∀ w, w < 6 → (wI (gbX T i 6) (1, i, 2) 7 0).1 (1, i, 7) w = T.1 (1, i, 7) w + T.1 (1, i, 5) w := fun w hw => (wI_ne (fun q => by cases q.1)).trans (gbX_7 T i 6 w hw)
  have ur : ∀ f x, f ≠ 7 → f ≠ 5 → (abM U i 6).1 (2, 0, f) x = U.1 (2, 0, f) x := fun f x a b => abM_o U i 6 _ _ (Or.inl ⟨fun e => by cases e; exact a rfl, fun e => by cases e; exact b rfl⟩)
  refine h.of (gbX_2 T i 6) (abM_2 U i 6) (tn _ _ _ _ (by omega)) (fun i' => tn _ _ _ _ (by omega)) (ur _ _ (by decide) (by decide)) (fun x => ur _ _ (by decide) (by decide)) ?_ (h.hrE (tn _ _ _ _ (by omega)) (fun _ _ => tn _ _ _ _ (by omega))) (h.szE (fun _ => tn _ _ _ _ (by omega))) (h.tbE (fun _ _ => tn _ _ _ _ (by omega))) ?_ (h.lbE (fun _ _ _ _ => tn _ _ _ _ (by omega))) ?_ ?_ ?_ ?_
  · refine h.set (fun k _ => k = (1, i, 5)) (fun k j hv hk => ?_) (fun k j hv hk => ?_) (fun k j hv hk => ?_)
    · obtain ⟨-, -, -, n4, -⟩ := vd_k hv
      exact tr k j (fun e => n4 (by rw [e]; exact ⟨rfl, Or.inl rfl⟩)) hk (fun e => n4 (by rw [e.1]; exact ⟨rfl, Or.inr (Or.inr (Or.inr rfl))⟩))
    · have := pt_rng hv (o := 5) (f := 5) (fun w hw => vd.inn hi hw) (fun _ => rfl) hk
      have p7 := (vd_pt hv).2.1
      by_cases e : (pt k j).1 = 5
      · exact abM_o U i 6 _ _ (Or.inr (by omega))
      · exact ur _ _ p7 e
    · subst hk
      have hj : j < 6 := (vd_mi hv).2.2 (by omega)
      rw [t5 j hj]
      exact (abM_5 U i 6 j hj).symm
  · intro i' hi'
    by_cases e : i' = i
    · subst e
      exact ⟨fun _ => 0, fun w hw => t5 w hw, by decide, wI_same⟩
    · obtain ⟨f, a, b, c⟩ := h.nn i' hi'
      exact ⟨f, fun w hw => (tn _ _ _ _ (by omega)).trans (a w hw), b, (tn _ _ _ _ (by omega)).trans c⟩
  · intro i' hi' w hw
    have q := h.wt i' hi' w hw
    by_cases e : i' = i
    · subst e
      rw [t7 w hw, tn _ _ _ _ (by omega), tn _ _ _ _ (by omega), abM_7 U i' 6 w hw, ← q]
      have d := h.d _ _ (vd.inn hi hw)
      rw [show U.1 (2, 0, 5) (6 * i' + w) = T.1 (1, i', 5) w from d.symm]
      ac_rfl
    · rw [tn _ _ _ _ (by omega), tn _ _ _ _ (by omega), tn _ _ _ _ (by omega), abM_o U i 6 _ _ (Or.inr (by omega))]
      exact q
  · intro i' hi'
    rw [tn _ _ _ _ (by omega), ur _ _ (by decide) (by decide)]
    exact h.pw i' hi'
  · intro i' hi' l hl
    rw [tn _ _ _ _ (by omega), tn _ _ _ _ (by omega), ur _ _ (by decide) (by decide)]
    exact h.kp i' hi' l hl
  · intro f x hz
    rw [abM_o U i 6 _ _ (by
      by_cases a : f = 7 ∨ f = 5
      · have := fun p q => zb_six (lc := lc) (x := x) (f := f) hi p q (by omega)
        right
        by_cases b : x < 6 * i
        · exact Or.inl b
        · right
          by_cases c : x < 6 * i + 6
          · exact absurd hz (this (by omega) c)
          · omega
      · exact Or.inl ⟨fun e => a (Or.inl (by cases e; rfl)), fun e => a (Or.inr (by cases e; rfl))⟩)]
    exact h.z f x hz
theorem RR.collU (h : RR T U mc lc) (hi : i < mc) : RR (ebX T i 6) (coM U i 6) mc lc := by
  have tn : ∀ a b c j, (c ≠ 9 ∧ c ≠ 4) ∨ a ≠ 1 ∨ b ≠ i → (ebX T i 6).1 (a, b, c) j = T.1 (a, b, c) j := fun a b c j q => ebX_o T i 6 _ _ (fun e => by cases e; omega) (fun e => by cases e; omega)
  have ur : ∀ f x, f ≠ 7 → f ≠ 4 → (coM U i 6).1 (2, 0, f) x = U.1 (2, 0, f) x := fun f x a b => coM_o U i 6 _ _ (Or.inl ⟨fun e => by cases e; exact a rfl, fun e => by cases e; exact b rfl⟩)
  refine h.of (ebX_2 T i 6) (coM_2 U i 6) (tn _ _ _ _ (by omega)) (fun i' => tn _ _ _ _ (by omega)) (ur _ _ (by decide) (by decide)) (fun x => ur _ _ (by decide) (by decide)) ?_ (h.hrE (tn _ _ _ _ (by omega)) (fun _ _ => tn _ _ _ _ (by omega))) (h.szE (fun _ => tn _ _ _ _ (by omega))) (h.tbE (fun _ _ => tn _ _ _ _ (by omega))) (h.nnE (fun _ _ => tn _ _ _ _ (by omega)) (fun _ => tn _ _ _ _ (by omega))) (h.lbE (fun _ _ _ _ => tn _ _ _ _ (by omega))) ?_ ?_ ?_ ?_
  · refine h.set (fun k _ => k = (1, i, 4)) (fun k j hv hk => ?_) (fun k j hv hk => ?_) (fun k j hv hk => ?_)
    · obtain ⟨-, -, -, n4, -⟩ := vd_k hv
      exact ebX_o T i 6 k j (fun e => n4 (by rw [e]; exact ⟨rfl, Or.inr (Or.inr (Or.inl rfl))⟩)) hk
    · have := pt_rng hv (o := 4) (f := 4) (fun w hw => vd.box hi hw) (fun _ => rfl) hk
      have p7 := (vd_pt hv).2.1
      by_cases e : (pt k j).1 = 4
      · exact coM_o U i 6 _ _ (Or.inr (by omega))
      · exact ur _ _ p7 e
    · subst hk
      have hj : j < 6 := (vd_mi hv).2.2 (by omega)
      rw [ebX_4 T i 6 j hj]
      exact (coM_4 U i 6 j hj).symm
  · intro i' hi' w hw
    have q := h.wt i' hi' w hw
    by_cases e : i' = i
    · subst e
      rw [ebX_9 T i' 6 w hw, tn _ _ _ _ (by omega), tn _ _ _ _ (by omega), coM_7 U i' 6 w hw, ← q]
      have d := h.d _ _ (vd.box hi hw)
      rw [show U.1 (2, 0, 4) (6 * i' + w) = T.1 (1, i', 4) w from d.symm]
      ac_rfl
    · rw [tn _ _ _ _ (by omega), tn _ _ _ _ (by omega), tn _ _ _ _ (by omega), coM_o U i 6 _ _ (Or.inr (by omega))]
      exact q
  · intro i' hi'
    rw [tn _ _ _ _ (by omega), ur _ _ (by decide) (by decide)]
    exact h.pw i' hi'
  · intro i' hi' l hl
    rw [tn _ _ _ _ (by omega), tn _ _ _ _ (by omega), ur _ _ (by decide) (by decide)]
    exact h.kp i' hi' l hl
  · intro f x hz
    rw [coM_o U i 6 _ _ (by
      by_cases a : f = 7 ∨ f = 4
      · have := fun p q => zb_six (lc := lc) (x := x) (f := f) hi p q (by omega)
        right
        by_cases b : x < 6 * i
        · exact Or.inl b
        · right
          by_cases c : x < 6 * i + 6
          · exact absurd hz (this (by omega) c)
          · omega
      · exact Or.inl ⟨fun e => a (Or.inl (by cases e; rfl)), fun e => a (Or.inr (by cases e; rfl))⟩)]
    exact h.z f x hz
/-- what is IN and how many coins that is -/
theorem RR.inU (h : RR T U mc lc) (hi : i < mc) (hw : w < 6) (nn : ∃ f, (∀ w', w' < 6 → (wI T (1, i, 5) w v).1 (1, i, 5) w' = nI (f w')) ∧ sm f ≤ 20 ∧ v' = nI (sm f)) : RR (wI (wI T (1, i, 5) w v) (1, i, 2) 7 v') (wI U (2, 0, 5) (6 * i + w) v) mc lc := by
  have tn : ∀ a b c j, (c ≠ 5 ∧ c ≠ 2) ∨ a ≠ 1 ∨ b ≠ i → (wI (wI T (1, i, 5) w v) (1, i, 2) 7 v').1 (a, b, c) j = T.1 (a, b, c) j := fun a b c j q => (wI_ne (fun e => by cases e.1; omega)).trans (wI_ne (fun e => by cases e.1; omega))
  have ur : ∀ f x, f ≠ 5 → (wI U (2, 0, 5) (6 * i + w) v).1 (2, 0, f) x = U.1 (2, 0, f) x := fun f x a => wI_ne (fun e => a (by cases e.1; rfl))
  refine h.of rfl rfl (tn _ _ _ _ (by omega)) (fun i' => tn _ _ _ _ (by omega)) (ur _ _ (by decide)) (fun x => ur _ _ (by decide)) ?_ (h.hrE (tn _ _ _ _ (by omega)) (fun _ _ => tn _ _ _ _ (by omega))) (h.szE (fun _ => tn _ _ _ _ (by omega))) (h.tbE (fun _ _ => tn _ _ _ _ (by omega))) ?_ (h.lbE (fun _ _ _ _ => tn _ _ _ _ (by omega))) ?_ ?_ ?_ ?_
  · intro k j hv
    obtain ⟨-, -, -, n4, -⟩ := vd_k hv
    refine (wI_ne (fun e => n4 (by rw [e.1]; exact ⟨rfl, Or.inr (Or.inr (Or.inr rfl))⟩))).trans ?_
    by_cases e : k = (1, i, 5) ∧ j = w
    · rw [e.1, e.2, wI_same]
      exact wI_same.symm
    · have ne : ¬ (((2, 0, (pt k j).1) : Ln) = (2, 0, 5) ∧ (pt k j).2 = 6 * i + w) := fun q => e (pt_inj hv (vd.inn hi hw) (Prod.ext (congrArg (fun z : Ln => z.2.2) q.1) q.2))
      rw [wI_ne e, wI_ne ne]
      exact h.d k j hv
  · intro i' hi'
    by_cases e : i' = i
    · subst e
      obtain ⟨f, a, b, c⟩ := nn
      exact ⟨f, fun w' hw' => (wI_ne (fun q => by cases q.1)).trans (a w' hw'), b, wI_same.trans c⟩
    · obtain ⟨f, a, b, c⟩ := h.nn i' hi'
      exact ⟨f, fun w hw => (tn _ _ _ _ (by omega)).trans (a w hw), b, (tn _ _ _ _ (by omega)).trans c⟩
  · intro i' hi' w hw
    rw [tn _ _ _ _ (by omega), tn _ _ _ _ (by omega), tn _ _ _ _ (by omega), ur _ _ (by decide)]
    exact h.wt i' hi' w hw
  · intro i' hi'
    rw [tn _ _ _ _ (by omega), ur _ _ (by decide)]
    exact h.pw i' hi'
  · intro i' hi' l hl
    rw [tn _ _ _ _ (by omega), tn _ _ _ _ (by omega), ur _ _ (by decide)]
    exact h.kp i' hi' l hl
  · intro f x hz
    rw [wI_ne (fun q => by
      have a : f = 5 := congrArg (fun z : Ln => z.2.2) q.1
      have b := q.2
      exact zb_six (lc := lc) (x := x) (f := f) hi (by omega) (by omega) (by omega) hz)]
    exact h.z f x hz
theorem RR.powU (h : RR T U mc lc) (hi : i < mc) (hv : (v = 0 ∧ v' = 1) ∨ (v = 1 ∧ v' = 0)) : RR (wI T (1, i, 0) 4 v) (wI U (2, 0, 8) i v') mc lc := by
  have tn : ∀ a b c j, (c ≠ 0 ∨ j ≠ 4) ∨ a ≠ 1 ∨ b ≠ i → (wI T (1, i, 0) 4 v).1 (a, b, c) j = T.1 (a, b, c) j := fun a b c j q => wI_ne (fun e => by have := e.2; cases e.1; omega)
  have ur : ∀ f x, f ≠ 8 ∨ x ≠ i → (wI U (2, 0, 8) i v').1 (2, 0, f) x = U.1 (2, 0, f) x := fun f x a => wI_ne (fun e => by have := e.2; cases e.1; omega)
  refine h.of rfl rfl (tn _ _ _ _ (by omega)) (fun i' => tn _ _ _ _ (by omega)) (ur _ _ (by omega)) (fun x => ur _ _ (by omega)) ?_ (h.hrE (tn _ _ _ _ (by omega)) (fun _ _ => tn _ _ _ _ (by omega))) (h.szE (fun _ => tn _ _ _ _ (by omega))) (h.tbE (fun _ _ => tn _ _ _ _ (by omega))) (h.nnE (fun _ _ => tn _ _ _ _ (by omega)) (fun _ => tn _ _ _ _ (by omega))) (h.lbE (fun _ _ _ _ => tn _ _ _ _ (by omega))) ?_ ?_ ?_ ?_
  · intro k j hv
    obtain ⟨-, -, n3, -, -⟩ := vd_k hv
    rw [wI_ne (fun e => n3 (by rw [e.1, e.2]; exact ⟨rfl, rfl, Or.inr rfl⟩)), ur _ _ (Or.inl (vd_pt hv).2.2.1)]
    exact h.d k j hv
  · intro i' hi' w hw
    rw [tn _ _ _ _ (by omega), tn _ _ _ _ (by omega), tn _ _ _ _ (by omega), ur _ _ (by omega)]
    exact h.wt i' hi' w hw
  · intro i' hi'
    by_cases e : i' = i
    · subst e
      rw [wI_same, wI_same]
      exact hv
    · rw [tn _ _ _ _ (by omega), ur _ _ (by omega)]
      exact h.pw i' hi'
  · intro i' hi' l hl
    rw [tn _ _ _ _ (by omega), tn _ _ _ _ (by omega), ur _ _ (by omega)]
    exact h.kp i' hi' l hl
  · intro f x hz
    rw [ur _ _ (by
      by_cases a : f = 8
      · right
        intro b
        unfold zb at hz
        omega
      · exact Or.inl a)]
    exact h.z f x hz
theorem cs_n {g : Nat → Int32} {f : Nat → Nat} (h : ∀ w, w < 6 → g w = nI (f w)) : csum g 6 = nI (sm f) := by
  simp only [csum]
  rw [h 0 (by decide), h 1 (by decide), h 2 (by decide), h 3 (by decide), h 4 (by decide), h 5 (by decide), show (0 : Int32) = nI 0 from rfl]
  simp only [nI_add]
  unfold sm
  congr 1
  omega
/-- rates -/
theorem RR.rate (h : RR T U mc lc) (hi : i < mc) {g t : Nat} (hg : g < 16) : v_X7_rate U i g t = v_xrate T i g (t % 24) := by
  have hq : g * 24 + t % 24 < 384 := by omega
  have e1 : U.1 (2, 0, 22) (384 * i + 24 * g + t % 24) = T.1 (1, i, 12) (g * 24 + t % 24) := by
    rw [show 384 * i + 24 * g + t % 24 = 384 * i + (g * 24 + t % 24) by omega]
    exact (h.d _ _ (vd.the hi hq)).symm
  have e2 : U.1 (2, 0, 21) (384 * i + 24 * g + t % 24) = T.1 (1, i, 11) (g * 24 + t % 24) := by
    rw [show 384 * i + 24 * g + t % 24 = 384 * i + (g * 24 + t % 24) by omega]
    exact (h.d _ _ (vd.sal hi hq)).symm
  unfold v_X7_rate v_xrate
  rw [e1, e2]
  obtain ⟨hh, h0, -, h1⟩ := h.hr
  obtain ⟨n, e3, h2⟩ := h1 i hi _ hq
  rw [e3]
  by_cases e : n = 0
  · subst e
    rfl
  · rw [if_neg (nI_ne0 (by omega) (by omega)), if_neg (fun q => by
      have q' : nI n ≤ nI 0 := q
      rw [nI_leI (by omega) (by omega)] at q'
      omega)]
theorem RR.fs (h : RR T U mc lc) (hi : i < mc) {g t : Nat} (hg : g < 16) : ∀ n, fsM U i g t n = fsX T i g t n
  | 0 => rfl
  | n + 1 => by
    show fsM U i g t n + v_X7_rate U i g (t + n) = fsX T i g t n + v_xrate T i g ((t + n) % 24)
    rw [RR.fs h hi hg n, h.rate hi hg]
theorem RR.wh (h : RR T U mc lc) (hi : i < mc) {g t : Nat} (hg : g < 16) (all : Int32) : ∀ f c s, whM U i g t all f c s = whX T i g t (1000 * all) f c s
  | 0, _, _ => rfl
  | f + 1, c, s => by
    unfold whM whX
    rw [h.rate hi hg, RR.wh h hi hg all f]
theorem RR.st (h : RR T U mc lc) (hi : i < mc) (g : Int32) : ∀ n, n ≤ lc i → stM U i g n = stX T i g n
  | 0, _ => rfl
  | n + 1, hn => by
    have h8 := h.l8 hi
    have e1 : U.1 (2, 0, 10) (8 * i + n) = T.1 (3, i, n) 0 := (h.d _ _ (vd.l0 hi hn h8)).symm
    have e2 : U.1 (2, 0, 13) (8 * i + n) = T.1 (3, i, n) 5 := (h.d _ _ (vd.l5 hi hn h8)).symm
    unfold stM stX
    rw [e1, e2, RR.st h hi g n (by omega)]
    split
    · rfl
    · exact Int32.add_zero _
theorem RR.gs (h : RR T U mc lc) (hi : i < mc) : ∀ n, n ≤ lc i → gsM U i n = T.1 (1, i, 0) 8 + T.1 (1, i, 0) 7 + T.1 (1, i, 0) 6 + slX T i n
  | 0, _ => by
    have e1 : U.1 (2, 0, 25) i = T.1 (1, i, 0) 8 := (h.d _ _ (vd.m8 hi)).symm
    have e2 : U.1 (2, 0, 24) i = T.1 (1, i, 0) 7 := (h.d _ _ (vd.m7 hi)).symm
    have e3 : U.1 (2, 0, 23) i = T.1 (1, i, 0) 6 := (h.d _ _ (vd.m6 hi)).symm
    unfold gsM slX
    rw [e1, e2, e3]
    exact (Int32.add_zero _).symm
  | n + 1, hn => by
    have h8 := h.l8 hi
    have e2 : U.1 (2, 0, 13) (8 * i + n) = T.1 (3, i, n) 5 := (h.d _ _ (vd.l5 hi hn h8)).symm
    unfold gsM slX
    rw [e2, RR.gs h hi n (by omega)]
    ac_rfl
abbrev ckQ (S : Mm) (i w : Nat) : Prop := S.1 (2, 0, 6) (6 * i + w) = S.1 (2, 0, 3) (6 * i + w) + S.1 (2, 0, 4) (6 * i + w) + S.1 (2, 0, 5) (6 * i + w) + S.1 (2, 0, 7) (6 * i + w)
abbrev ckR (S : Mm) (i w : Nat) : Prop := S.1 (1, i, 6) w = S.1 (1, i, 3) w + S.1 (1, i, 4) w + S.1 (1, i, 5) w + S.1 (1, i, 7) w + S.1 (1, i, 8) w + S.1 (1, i, 9) w
theorem ckM_00 (S : Mm) (i : Nat) : ∀ n, ckM S i 0 n = 0
  | 0 => rfl
  | n + 1 => by unfold ckM; rw [if_pos (ckM_00 S i n)]
theorem ckM_1 (S : Mm) (i : Nat) : ∀ n, (∀ w, w < n → ckQ S i w) → ckM S i 1 n = 1
  | 0, _ => rfl
  | n + 1, h => by
    unfold ckM
    rw [ckM_1 S i n (fun w hw => h w (by omega)), if_neg (by decide), if_pos (h n (by omega))]
theorem ckM_0 (S : Mm) (i : Nat) (b : Int32) : ∀ n w, w < n → ¬ ckQ S i w → ckM S i b n = 0
  | 0, w, h, _ => by omega
  | n + 1, w, h, hq => by
    unfold ckM
    by_cases e : w = n
    · subst e
      rw [if_neg hq]
      split <;> rfl
    · rw [if_pos (ckM_0 S i b n w (by omega) hq)]
theorem ckX_1 (S : Mm) (i : Nat) : ∀ f w, (∀ w', w ≤ w' → w' < w + f → ckR S i w') → ckX S i f w = 1
  | 0, _, _ => rfl
  | f + 1, w, h => by
    unfold ckX
    rw [if_pos (h w (Nat.le_refl _) (by omega)), ckX_1 S i f (w + 1) (fun w' a b => h w' (by omega) (by omega))]
theorem ckX_0 (S : Mm) (i : Nat) : ∀ f w w', w ≤ w' → w' < w + f → ¬ ckR S i w' → ckX S i f w = 0
  | 0, w, w', h1, h2, _ => by omega
  | f + 1, w, w', h1, h2, hq => by
    unfold ckX
    by_cases e : w' = w
    · subst e
      rw [if_neg hq]
    · rw [ckX_0 S i f (w + 1) w' (by omega) (by omega) hq]
      split <;> rfl
theorem RR.ck (h : RR T U mc lc) (hi : i < mc) (hw : w < 6) : ckQ U i w ↔ ckR T i w := by
  unfold ckQ ckR
  rw [← h.wt i hi w hw, show U.1 (2, 0, 6) (6 * i + w) = T.1 (1, i, 6) w from (h.d _ _ (vd.cam hi hw)).symm, show U.1 (2, 0, 3) (6 * i + w) = T.1 (1, i, 3) w from (h.d _ _ (vd.tub hi hw)).symm, show U.1 (2, 0, 4) (6 * i + w) = T.1 (1, i, 4) w from (h.d _ _ (vd.box hi hw)).symm, show U.1 (2, 0, 5) (6 * i + w) = T.1 (1, i, 5) w from (h.d _ _ (vd.inn hi hw)).symm]
  rw [show T.1 (1, i, 3) w + T.1 (1, i, 4) w + T.1 (1, i, 5) w + (T.1 (1, i, 7) w + T.1 (1, i, 8) w + T.1 (1, i, 9) w) = T.1 (1, i, 3) w + T.1 (1, i, 4) w + T.1 (1, i, 5) w + T.1 (1, i, 7) w + T.1 (1, i, 8) w + T.1 (1, i, 9) w by ac_rfl]
theorem RR.chk (h : RR T U mc lc) (hi : i < mc) : v_X7_check U lc i = v_X6_check T lc i := by
  have e : U.1 (2, 0, 26) i = T.1 (1, i, 0) 9 := (h.d _ _ (vd.m9 hi)).symm
  unfold v_X7_check v_X6_check v_goods
  rw [h.gs hi _ (Nat.le_refl _), e, show T.1 (1, i, 0) 8 + T.1 (1, i, 0) 7 + T.1 (1, i, 0) 6 + slX T i (lc i) = T.1 (1, i, 0) 8 + slX T i (lc i) + T.1 (1, i, 0) 7 + T.1 (1, i, 0) 6 by ac_rfl]
  by_cases g : T.1 (1, i, 0) 9 = T.1 (1, i, 0) 8 + slX T i (lc i) + T.1 (1, i, 0) 7 + T.1 (1, i, 0) 6
  · rw [if_pos g.symm, if_pos g, if_neg (by decide)]
    by_cases a : ∀ w, w < 6 → ckQ U i w
    · rw [ckM_1 U i 6 a, ckX_1 T i 6 0 (fun w _ hw => (h.ck hi (by omega)).mp (a w (by omega)))]
      rfl
    · obtain ⟨w, hw, hq⟩ : ∃ w, w < 6 ∧ ¬ ckQ U i w := by
        refine Classical.byContradiction (fun q => a (fun w hw => Classical.byContradiction (fun z => q ⟨w, hw, z⟩)))
      rw [ckM_0 U i 1 6 w hw hq, ckX_0 T i 6 0 w (Nat.zero_le _) (by omega) (fun z => hq ((h.ck hi hw).mpr z))]
      rfl
  · rw [if_neg (fun z => g z.symm), if_neg g, ckM_00]
    rfl
end BU
