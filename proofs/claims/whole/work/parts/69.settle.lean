/-! the settling of a sale -/
section SX
variable (S : Mm) (i : Nat)
theorem seX_u : ∀ n k j, n ≤ j → (seX S i n).1 k j = S.1 k j
  | 0, _, _, _ => rfl
  | n + 1, k, j, h => (wI_ne (fun q => by have := q.2; omega)).trans ((wI_ne (fun q => by have := q.2; omega)).trans ((wI_ne (fun q => by have := q.2; omega)).trans ((wI_ne (fun q => by have := q.2; omega)).trans (seX_u n k j (by omega)))))
theorem seX_o : ∀ n k j, k ≠ (1, i, 3) → k ≠ (1, i, 4) → k ≠ (1, i, 8) → k ≠ (1, i, 5) → (seX S i n).1 k j = S.1 k j
  | 0, _, _, _, _, _, _ => rfl
  | n + 1, k, j, a, b, c, d => (wI_ne (fun q => d q.1)).trans ((wI_ne (fun q => c q.1)).trans ((wI_ne (fun q => b q.1)).trans ((wI_ne (fun q => a q.1)).trans (seX_o n k j a b c d))))
theorem nSx_at (n : Nat) : nSx (seX S i n) i n = nSx S i n := by
  unfold nSx
  rw [seX_u S i n _ _ (Nat.le_refl _), seX_u S i n _ _ (Nat.le_refl _), seX_u S i n _ _ (Nat.le_refl _)]
theorem mnS_at (n : Nat) : mnS (seX S i n) i n = mnS S i n := by
  unfold mnS
  rw [nSx_at]
theorem seX_3 : ∀ n w, w < n → (seX S i n).1 (1, i, 3) w = mnS S i w
  | 0, w, h => by omega
  | n + 1, w, h => by
    by_cases e : w = n
    · subst e
      exact (wI_ne (fun q => by cases q.1)).trans ((wI_ne (fun q => by cases q.1)).trans ((wI_ne (fun q => by cases q.1)).trans (wI_same.trans (mnS_at S i w))))
    · exact (wI_ne (fun q => e q.2)).trans ((wI_ne (fun q => e q.2)).trans ((wI_ne (fun q => e q.2)).trans ((wI_ne (fun q => e q.2)).trans (seX_3 n w (by omega)))))
theorem seX_4 : ∀ n w, w < n → (seX S i n).1 (1, i, 4) w = S.1 (1, i, 4) w + (nSx S i w - mnS S i w)
  | 0, w, h => by omega
  | n + 1, w, h => by
    by_cases e : w = n
    · subst e
      refine (wI_ne (fun q => by cases q.1)).trans ((wI_ne (fun q => by cases q.1)).trans (wI_same.trans ?_))
      rw [nSx_at, mnS_at, seX_u S i w _ _ (Nat.le_refl _)]
    · exact (wI_ne (fun q => e q.2)).trans ((wI_ne (fun q => e q.2)).trans ((wI_ne (fun q => e q.2)).trans ((wI_ne (fun q => e q.2)).trans (seX_4 n w (by omega)))))
theorem seX_8 : ∀ n w, w < n → (seX S i n).1 (1, i, 8) w = S.1 (1, i, 8) w + S.1 (0, 0, 7) w
  | 0, w, h => by omega
  | n + 1, w, h => by
    by_cases e : w = n
    · subst e
      refine (wI_ne (fun q => by cases q.1)).trans (wI_same.trans ?_)
      rw [seX_u S i w _ _ (Nat.le_refl _), seX_u S i w _ _ (Nat.le_refl _)]
    · exact (wI_ne (fun q => e q.2)).trans ((wI_ne (fun q => e q.2)).trans ((wI_ne (fun q => e q.2)).trans ((wI_ne (fun q => e q.2)).trans (seX_8 n w (by omega)))))
theorem seX_5 : ∀ n w, w < n → (seX S i n).1 (1, i, 5) w = 0
  | 0, w, h => by omega
  | n + 1, w, h => by
    by_cases e : w = n
    · subst e
      exact wI_same
    · exact (wI_ne (fun q => e q.2)).trans ((wI_ne (fun q => e q.2)).trans ((wI_ne (fun q => e q.2)).trans ((wI_ne (fun q => e q.2)).trans (seX_5 n w (by omega)))))
theorem seX_M : ∀ n, agM S (seX S i n)
  | 0 => agM.rf
  | n + 1 => ((((seX_M n).wI (by show (1 : Nat) ≠ 2; decide)).wI (by show (1 : Nat) ≠ 2; decide)).wI (by show (1 : Nat) ≠ 2; decide)).wI (by show (1 : Nat) ≠ 2; decide)
theorem seM_o : ∀ n k x, ((k ≠ (2, 0, 3) ∧ k ≠ (2, 0, 4) ∧ k ≠ (2, 0, 5) ∧ k ≠ (2, 0, 7)) ∨ x < 6 * i ∨ 6 * i + n ≤ x) → (k ≠ (2, 0, 28) ∨ n ≤ x) → (seM S i n).1 k x = S.1 k x
  | 0, _, _, _, _ => rfl
  | n + 1, k, x, h, h2 => by
    refine (wI_ne (fun q => ?_)).trans ((wI_ne (fun q => ?_)).trans ((wI_ne (fun q => ?_)).trans ((wI_ne (fun q => ?_)).trans ((wI_ne (fun q => ?_)).trans (seM_o n k x ?_ ?_)))))
    · rcases h with h | h
      · exact h.2.2.2 q.1
      · have := q.2; omega
    · rcases h2 with h2 | h2
      · exact h2 q.1
      · have := q.2; omega
    · rcases h with h | h
      · exact h.2.1 q.1
      · have := q.2; omega
    · rcases h with h | h
      · exact h.1 q.1
      · have := q.2; omega
    · rcases h with h | h
      · exact h.2.2.1 q.1
      · have := q.2; omega
    · rcases h with h | h
      · exact Or.inl h
      · exact Or.inr (by omega)
    · rcases h2 with h2 | h2
      · exact Or.inl h2
      · exact Or.inr (by omega)
theorem nSe_at (n : Nat) : nSe (seM S i n) i n = nSe S i n := by
  unfold nSe
  rw [seM_o S i n _ _ (Or.inr (Or.inr (Nat.le_refl _))) (Or.inl (fun z => by cases z)), seM_o S i n _ _ (Or.inr (Or.inr (Nat.le_refl _))) (Or.inl (fun z => by cases z)), seM_o S i n _ _ (Or.inl ⟨fun z => (by cases z), fun z => (by cases z), fun z => (by cases z), fun z => (by cases z)⟩) (Or.inl (fun z => by cases z))]
theorem seM_at : ∀ n w, w < n → (seM S i n).1 (2, 0, 3) (6 * i + w) = (if nSe S i w ≤ 50 then nSe S i w else 50) ∧ (seM S i n).1 (2, 0, 4) (6 * i + w) = S.1 (2, 0, 4) (6 * i + w) + (if nSe S i w ≤ 50 then 0 else nSe S i w - 50) ∧ (seM S i n).1 (2, 0, 5) (6 * i + w) = 0 ∧ (seM S i n).1 (2, 0, 7) (6 * i + w) = S.1 (2, 0, 7) (6 * i + w) + S.1 (2, 0, 32) w ∧ (seM S i n).1 (2, 0, 28) w = S.1 (2, 0, 32) w
  | 0, w, h => by omega
  | n + 1, w, h => by
    by_cases e : w = n
    · subst e
      have c : (seM S i w).1 (2, 0, 32) w = S.1 (2, 0, 32) w := seM_o S i w _ _ (Or.inl ⟨fun z => (by cases z), fun z => (by cases z), fun z => (by cases z), fun z => (by cases z)⟩) (Or.inl (fun z => by cases z))
      have c4 : (seM S i w).1 (2, 0, 4) (6 * i + w) = S.1 (2, 0, 4) (6 * i + w) := seM_o S i w _ _ (Or.inr (Or.inr (Nat.le_refl _))) (Or.inl (fun z => by cases z))
      have c7 : (seM S i w).1 (2, 0, 7) (6 * i + w) = S.1 (2, 0, 7) (6 * i + w) := seM_o S i w _ _ (Or.inr (Or.inr (Nat.le_refl _))) (Or.inl (fun z => by cases z))
      refine ⟨?_, ?_, ?_, ?_, ?_⟩
      · refine (wI_ne (fun q => by cases q.1)).trans ((wI_ne (fun q => by cases q.1)).trans ((wI_ne (fun q => by cases q.1)).trans (wI_same.trans ?_)))
        rw [nSe_at]
      · refine (wI_ne (fun q => by cases q.1)).trans ((wI_ne (fun q => by cases q.1)).trans (wI_same.trans ?_))
        rw [nSe_at, c4]
      · exact (wI_ne (fun q => by cases q.1)).trans ((wI_ne (fun q => by cases q.1)).trans ((wI_ne (fun q => by cases q.1)).trans ((wI_ne (fun q => by cases q.1)).trans wI_same)))
      · refine wI_same.trans ?_
        rw [c, c7]
      · refine (wI_ne (fun q => by cases q.1)).trans (wI_same.trans c)
    · obtain ⟨a3, a4, a5, a7, a28⟩ := seM_at n w (by omega)
      have st : ∀ f, (wI (wI (wI (wI (wI (seM S i n) (2, 0, 5) (6 * i + n) 0) (2, 0, 3) (6 * i + n) (if nSe (seM S i n) i n ≤ 50 then nSe (seM S i n) i n else 50)) (2, 0, 4) (6 * i + n) ((seM S i n).1 (2, 0, 4) (6 * i + n) + (if nSe (seM S i n) i n ≤ 50 then 0 else nSe (seM S i n) i n - 50))) (2, 0, 28) n ((seM S i n).1 (2, 0, 32) n)) (2, 0, 7) (6 * i + n) ((seM S i n).1 (2, 0, 7) (6 * i + n) + (seM S i n).1 (2, 0, 32) n)).1 (2, 0, f) (6 * i + w) = (seM S i n).1 (2, 0, f) (6 * i + w) ∨ f = 28 := fun f => by
        by_cases q : f = 28
        · exact Or.inr q
        · exact Or.inl ((wI_ne (fun z => e (by have := z.2; omega))).trans ((wI_ne (fun z => q (congrArg (fun z : Ln => z.2.2) z.1))).trans ((wI_ne (fun z => e (by have := z.2; omega))).trans ((wI_ne (fun z => e (by have := z.2; omega))).trans (wI_ne (fun z => e (by have := z.2; omega)))))))
      refine ⟨?_, ?_, ?_, ?_, ?_⟩
      · exact ((st 3).resolve_right (by decide)).trans a3
      · exact ((st 4).resolve_right (by decide)).trans a4
      · exact ((st 5).resolve_right (by decide)).trans a5
      · exact ((st 7).resolve_right (by decide)).trans a7
      · exact (wI_ne (fun z => by cases z.1)).trans ((wI_ne (fun z => e z.2)).trans ((wI_ne (fun z => by cases z.1)).trans ((wI_ne (fun z => by cases z.1)).trans ((wI_ne (fun z => by cases z.1)).trans a28))))
theorem seM_X : ∀ n, agX S (seM S i n)
  | 0 => agX.rf
  | n + 1 => (((((seM_X n).wI rfl).wI rfl).wI rfl).wI rfl).wI rfl
end SX
theorem vd_gv {mc : Nat} {lc : Nat → Nat} {q : Nat} (hv : vd mc lc (0, 0, 4) q) : q < 6 := by
  generalize hz : ((0, 0, 4) : Ln) = z at hv
  induction hv using vd.elim <;> first | (cases hz; done) | assumption
theorem vd_28 {mc : Nat} {lc : Nat → Nat} {k : Ln} {j : Nat} (h : vd mc lc k j) : k ≠ (0, 0, 4) → (pt k j).1 ≠ 28 := by
  induction h using vd.elim <;> first | exact fun _ => Nat.ne_of_beq_eq_false rfl | exact fun q => absurd rfl q
section SU
variable {T U : Mm} {mc : Nat} {lc : Nat → Nat} {i : Nat}
set_option maxHeartbeats 800000 in
theorem RR.settleU (h : RR T U mc lc) (hi : i < mc) {hv cw : Nat → Nat} (hh : ∀ w, w < 6 → T.1 (1, i, 3) w + T.1 (1, i, 5) w = nI (hv w) ∧ hv w ≤ 1000) (hc : ∀ w, w < 6 → T.1 (0, 0, 7) w = nI (cw w) ∧ cw w ≤ hv w) (hu : ∀ w, w < 6 → U.1 (2, 0, 32) w = nI (cw w)) : RR (cpyI (wI (seX T i 6) (1, i, 2) 7 0) (0, 0, 7) (0, 0, 4) 6) (seM U i 6) mc lc := by
  have cp : ∀ k j, ¬ (k = (0, 0, 4) ∧ j < 6) → (cpyI (wI (seX T i 6) (1, i, 2) 7 0) (0, 0, 7) (0, 0, 4) 6).1 k j = (wI (seX T i 6) (1, i, 2) 7 0).1 k j := fun k j q => if_neg q
  have cp4 : ∀ w, w < 6 → (cpyI (wI (seX T i 6) (1, i, 2) 7 0) (0, 0, 7) (0, 0, 4) 6).1 (0, 0, 4) w = nI (cw w) := fun w hw => by
    show (if ((0, 0, 4) : Ln) = (0, 0, 4) ∧ w < 6 then (wI (seX T i 6) (1, i, 2) 7 0).1 (0, 0, 7) w else _) = _
    rw [if_pos ⟨rfl, hw⟩, wI_ne (fun z => by cases z.1), seX_o T i 6 _ _ (fun z => by cases z) (fun z => by cases z) (fun z => by cases z) (fun z => by cases z)]
    exact (hc w hw).1
  have tr : ∀ k j, ¬ (k = (0, 0, 4)) → k ≠ (1, i, 3) → k ≠ (1, i, 4) → k ≠ (1, i, 8) → k ≠ (1, i, 5) → ¬ (k = (1, i, 2) ∧ j = 7) → (cpyI (wI (seX T i 6) (1, i, 2) 7 0) (0, 0, 7) (0, 0, 4) 6).1 k j = T.1 k j := fun k j a b c d e f => (cp k j (fun z => a z.1)).trans ((wI_ne f).trans (seX_o T i 6 k j b c d e))
  have tn : ∀ a b c j, ¬ (a = 0 ∧ c = 4) → ((c ≠ 3 ∧ c ≠ 4 ∧ c ≠ 8 ∧ c ≠ 5 ∧ c ≠ 2) ∨ a ≠ 1 ∨ b ≠ i) → (cpyI (wI (seX T i 6) (1, i, 2) 7 0) (0, 0, 7) (0, 0, 4) 6).1 (a, b, c) j = T.1 (a, b, c) j := fun a b c j q0 q => tr _ _ (fun z => by cases z; omega) (fun z => by cases z; omega) (fun z => by cases z; omega) (fun z => by cases z; omega) (fun z => by cases z; omega) (fun z => by cases z.1; omega)
  have m1 : ∀ c w, c ≠ 2 → (cpyI (wI (seX T i 6) (1, i, 2) 7 0) (0, 0, 7) (0, 0, 4) 6).1 (1, i, c) w = (seX T i 6).1 (1, i, c) w := fun c w hc => (cp _ _ (fun z => by cases z.1)).trans (wI_ne (fun z => by cases z.1; exact hc rfl))
  have ur : ∀ f x, ((f ≠ 3 ∧ f ≠ 4 ∧ f ≠ 5 ∧ f ≠ 7) ∨ x < 6 * i ∨ 6 * i + 6 ≤ x) → (f ≠ 28) → (seM U i 6).1 (2, 0, f) x = U.1 (2, 0, f) x := fun f x a b => seM_o U i 6 _ _ (by
    rcases a with a | a
    · exact Or.inl ⟨fun z => a.1 (congrArg (fun z : Ln => z.2.2) z), fun z => a.2.1 (congrArg (fun z : Ln => z.2.2) z), fun z => a.2.2.1 (congrArg (fun z : Ln => z.2.2) z), fun z => a.2.2.2 (congrArg (fun z : Ln => z.2.2) z)⟩
    · exact Or.inr a) (Or.inl (fun z => b (congrArg (fun z : Ln => z.2.2) z)))
  have eU3 : ∀ w, w < 6 → U.1 (2, 0, 3) (6 * i + w) = T.1 (1, i, 3) w := fun w hw => (h.d _ _ (vd.tub hi hw)).symm
  have eU5 : ∀ w, w < 6 → U.1 (2, 0, 5) (6 * i + w) = T.1 (1, i, 5) w := fun w hw => (h.d _ _ (vd.inn hi hw)).symm
  have eU4 : ∀ w, w < 6 → U.1 (2, 0, 4) (6 * i + w) = T.1 (1, i, 4) w := fun w hw => (h.d _ _ (vd.box hi hw)).symm
  have nx : ∀ w, w < 6 → nSx T i w = nI (hv w - cw w) := fun w hw => by
    unfold nSx
    rw [(hh w hw).1, (hc w hw).1, pk_sub (hc w hw).2]
  have ne : ∀ w, w < 6 → nSe U i w = nI (hv w - cw w) := fun w hw => by
    unfold nSe
    rw [eU3 w hw, eU5 w hw, (hh w hw).1, hu w hw, pk_sub (hc w hw).2]
  have lt : ∀ w, w < 6 → ((nI (hv w - cw w) ≤ 50) ↔ hv w - cw w ≤ 50) := fun w hw => by
    have := (hh w hw).2
    exact nI_leI (a := hv w - cw w) (b := 50) (by omega) (by decide)
  have ms : ∀ w, w < 6 → mnS T i w = nI (if hv w - cw w ≤ 50 then hv w - cw w else 50) := fun w hw => by
    unfold mnS
    rw [nx w hw]
    by_cases q : hv w - cw w ≤ 50
    · rw [if_pos q, if_neg (Int32.not_lt.mpr ((lt w hw).mpr q))]
    · rw [if_neg q, if_pos (Int32.not_le.mp (fun z => q ((lt w hw).mp z)))]
      rfl
  have d3 : ∀ w, w < 6 → (seX T i 6).1 (1, i, 3) w = (seM U i 6).1 (2, 0, 3) (6 * i + w) := fun w hw => by
    rw [seX_3 T i 6 w hw, (seM_at U i 6 w hw).1, ms w hw, ne w hw]
    by_cases q : hv w - cw w ≤ 50
    · rw [if_pos q, if_pos ((lt w hw).mpr q)]
    · rw [if_neg q, if_neg (fun z => q ((lt w hw).mp z))]
      rfl
  have d4 : ∀ w, w < 6 → (seX T i 6).1 (1, i, 4) w = (seM U i 6).1 (2, 0, 4) (6 * i + w) := fun w hw => by
    rw [seX_4 T i 6 w hw, (seM_at U i 6 w hw).2.1, ms w hw, ne w hw, nx w hw, eU4 w hw]
    by_cases q : hv w - cw w ≤ 50
    · rw [if_pos q, if_pos ((lt w hw).mpr q), Int32.sub_self]
    · rw [if_neg q, if_neg (fun z => q ((lt w hw).mp z))]
      rfl
  refine h.of (seX_2 T i 6) (seM_2 U i 6) (tn _ _ _ _ (by omega) (by omega)) (fun i' => tn _ _ _ _ (by omega) (by omega)) (ur _ _ (by omega) (by omega)) (fun x => ur _ _ (by omega) (by omega)) ?_ (h.hrE (tn _ _ _ _ (by omega) (by omega)) (fun _ _ => tn _ _ _ _ (by omega) (by omega))) (h.szE (fun _ => tn _ _ _ _ (by omega) (by omega))) ?_ ?_ (h.lbE (fun _ _ _ _ => tn _ _ _ _ (by omega) (by omega))) ?_ ?_ ?_ ?_
  · refine h.set (fun k _ => k = (1, i, 3) ∨ k = (1, i, 4) ∨ k = (1, i, 5) ∨ k = (0, 0, 4)) (fun k j hv hk => ?_) (fun k j hv hk => ?_) (fun k j hv hk => ?_)
    · obtain ⟨-, -, -, n4, -⟩ := vd_k hv
      exact tr k j (fun z => hk (Or.inr (Or.inr (Or.inr z)))) (fun z => hk (Or.inl z)) (fun z => hk (Or.inr (Or.inl z))) (fun z => n4 (by rw [z]; exact ⟨rfl, Or.inr (Or.inl rfl)⟩)) (fun z => hk (Or.inr (Or.inr (Or.inl z)))) (fun z => n4 (by rw [z.1]; exact ⟨rfl, Or.inr (Or.inr (Or.inr rfl))⟩))
    · have p3 := pt_rng hv (o := 3) (f := 3) (fun w hw => vd.tub hi hw) (fun _ => rfl) (fun z => hk (Or.inl z))
      have p4 := pt_rng hv (o := 4) (f := 4) (fun w hw => vd.box hi hw) (fun _ => rfl) (fun z => hk (Or.inr (Or.inl z)))
      have p5 := pt_rng hv (o := 5) (f := 5) (fun w hw => vd.inn hi hw) (fun _ => rfl) (fun z => hk (Or.inr (Or.inr (Or.inl z))))
      have p7 := (vd_pt hv).2.1
      have p28 := vd_28 hv (fun z => hk (Or.inr (Or.inr (Or.inr z))))
      exact ur _ _ (by omega) p28
    · rcases hk with hk | hk | hk | hk
      · subst hk
        have hj := (vd_mi hv).2.2 (by omega)
        exact (m1 3 j (by decide)).trans (d3 j hj)
      · subst hk
        have hj := (vd_mi hv).2.2 (by omega)
        exact (m1 4 j (by decide)).trans (d4 j hj)
      · subst hk
        have hj := (vd_mi hv).2.2 (by omega)
        exact (m1 5 j (by decide)).trans ((seX_5 T i 6 j hj).trans (seM_at U i 6 j hj).2.2.1.symm)
      · subst hk
        have hj := vd_gv hv
        exact (cp4 j hj).trans ((hu j hj).symm.trans (seM_at U i 6 j hj).2.2.2.2.symm)
  · intro i' hi' w hw
    by_cases e : i' = i
    · subst e
      rw [m1 3 w (by decide), seX_3 T i' 6 w hw, ms w hw]
      exact ⟨_, rfl, by split <;> omega⟩
    · rw [tn _ _ _ _ (by omega) (by omega)]
      exact h.tb i' hi' w hw
  · intro i' hi'
    by_cases e : i' = i
    · subst e
      exact ⟨fun _ => 0, fun w hw => (m1 5 w (by decide)).trans (seX_5 T i' 6 w hw), by decide, (cp _ _ (fun z => by cases z.1)).trans wI_same⟩
    · obtain ⟨f, a, b, c⟩ := h.nn i' hi'
      exact ⟨f, fun w hw => (tn _ _ _ _ (by omega) (by omega)).trans (a w hw), b, (tn _ _ _ _ (by omega) (by omega)).trans c⟩
  · intro i' hi' w hw
    have q := h.wt i' hi' w hw
    by_cases e : i' = i
    · subst e
      rw [tn _ _ _ _ (by omega) (by omega), m1 8 w (by decide), seX_8 T i' 6 w hw, tn _ _ _ _ (by omega) (by omega), (seM_at U i' 6 w hw).2.2.2.1, ← q, hu w hw, (hc w hw).1]
      ac_rfl
    · rw [tn _ _ _ _ (by omega) (by omega), tn _ _ _ _ (by omega) (by omega), tn _ _ _ _ (by omega) (by omega), ur _ _ (by omega) (by omega)]
      exact q
  · intro i' hi'
    rw [tn _ _ _ _ (by omega) (by omega), ur _ _ (by omega) (by omega)]
    exact h.pw i' hi'
  · intro i' hi' l hl
    rw [tn _ _ _ _ (by omega) (by omega), tn _ _ _ _ (by omega) (by omega), ur _ _ (by omega) (by omega)]
    exact h.kp i' hi' l hl
  · intro f x hz
    have z6 := fun p q r => zb_six (lc := lc) (x := x) (f := f) hi p q r hz
    rw [ur f x (by
      by_cases a : f = 3 ∨ f = 4 ∨ f = 5 ∨ f = 7
      · right
        by_cases b : x < 6 * i
        · exact Or.inl b
        · right
          by_cases c : x < 6 * i + 6
          · exact absurd (z6 (by omega) c (by omega)) (fun z => z)
          · omega
      · left; omega) (fun e => by unfold zb at hz; omega)]
    exact h.z f x hz
end SU
