/-! the relation of the two new objects -/
theorem flM_1 (S : Mm) (k : Ln) (v : Int32) (k' : Ln) (j' : Nat) : ∀ n, (flM S k v n).1 k' j' = if k' = k ∧ j' < n then v else S.1 k' j'
  | 0 => by rw [if_neg (fun q => by omega)]; rfl
  | n + 1 => by
    have ih := flM_1 S k v k' j' n
    by_cases e : k' = k ∧ j' = n
    · rw [if_pos ⟨e.1, by omega⟩, e.1, e.2]
      exact wI_same
    · refine (wI_ne e).trans (ih.trans ?_)
      by_cases q : k' = k ∧ j' < n
      · rw [if_pos q, if_pos ⟨q.1, by omega⟩]
      · rw [if_neg q, if_neg (fun z => by
          have : ¬ j' = n := fun y => e ⟨z.1, y⟩
          exact q ⟨z.1, by omega⟩)]
theorem flM_21 (S : Mm) (k : Ln) (v : Int32) (k' : Ln) (j' n : Nat) : (flM S k v n).2.1 k' j' = S.2.1 k' j' := by rw [flM_2]
theorem flM_22 (S : Mm) (k : Ln) (v : Int32) (k' : Ln) (n : Nat) : (flM S k v n).2.2 k' = S.2.2 k' := by rw [flM_2]
theorem gr_1 (S : Mm) (k : Ln) (j : Nat) : (grM S).1 k j = if k = (0, 0, 9) then 0 else if isRw k = true then 0 else S.1 k j := rfl
theorem gr_21 (S : Mm) (k : Ln) (j : Nat) : (grM S).2.1 k j = if k = (0, 0, 9) then (if j < 9 then some (4, 0, j) else none) else if isRw k = true then none else S.2.1 k j := rfl
theorem gr_22 (S : Mm) (k : Ln) : (grM S).2.2 k = if k = (0, 0, 9) then true else if isRw k = true then true else S.2.2 k := rfl
def Z0 : Mm := (fun _ _ => 0, fun _ _ => none, fun _ => false)
def A0 : Mm := shM (nwm Z0 (0, 0, 0))
theorem z_1 (k : Ln) (j : Nat) : Z0.1 k j = 0 := rfl
theorem z_21 (k : Ln) (j : Nat) : Z0.2.1 k j = none := rfl
theorem z_22 (k : Ln) : Z0.2.2 k = false := rfl
theorem a_1 (k : Ln) (j : Nat) : A0.1 k j = if k = (0, 0, 2) ∧ j < 16 then 1 else 0 := by
  simp only [A0, shM, vaM, chgM, wI_1, wR_1, nw_1, flM_1, gr_1, z_1]
  by_cases e : k = (0, 0, 2)
  · subst e
    simp [isRw]
  · simp [e]
theorem a_22 (k : Ln) : A0.2.2 k = ((decide (k.1 = 0) && decide (k.2.1 = 0) && decide (k.2.2 ≤ 10)) || isRw k) := by
  simp only [A0, shM, vaM, chgM, wI_22, wR_22, nw_22, flM_22, gr_22, z_22]
  obtain ⟨a, b, c⟩ := k
  by_cases e : a = 0 ∧ b = 0
  · obtain ⟨rfl, rfl⟩ := e
    by_cases h : c ≤ 10
    · rcases (show c = 0 ∨ c = 1 ∨ c = 2 ∨ c = 3 ∨ c = 4 ∨ c = 5 ∨ c = 6 ∨ c = 7 ∨ c = 8 ∨ c = 9 ∨ c = 10 by omega) with rfl | rfl | rfl | rfl | rfl | rfl | rfl | rfl | rfl | rfl | rfl <;> simp [isRw]
    · have n : ∀ d, d ≤ 10 → ¬ c = d := fun d hd q => h (by omega)
      simp [isRw, h, n 0 (by decide), n 1 (by decide), n 2 (by decide), n 3 (by decide), n 4 (by decide), n 5 (by decide), n 6 (by decide), n 7 (by decide), n 8 (by decide), n 9 (by decide), n 10 (by decide)]
  · have n : ∀ d, ((a, b, c) : Ln) ≠ (0, 0, d) := fun d q => e (by cases q; exact ⟨rfl, rfl⟩)
    have n2 : ¬ (decide (a = 0) && decide (b = 0)) = true := by simpa using e
    simp only [n, if_false]
    by_cases r : isRw (a, b, c) = true
    · simp [r]
    · simp [r]
      intro q1 q2
      exact absurd ⟨q1, q2⟩ e
theorem a_sh : ShX A0 0 (fun _ => 0) := by
  refine ⟨fun o ho => by rw [a_22]; simp [ho], ?_, ?_, fun r hr => ?_, fun i hi => ?_, fun i hi => by omega, by decide⟩
  · refine ⟨?_, ?_, ?_, ?_, ?_, ?_⟩ <;> (simp only [A0, shM, vaM, chgM, wI_21, wR_21, nw_21, flM_21, gr_21, z_21]; simp [isRw])
  · refine ⟨?_, ?_, ?_, ?_⟩ <;> (simp only [A0, shM, vaM, chgM, wI_21, wR_21, nw_21, flM_21, gr_21, z_21]; simp [isRw])
  · refine ⟨by rw [a_22]; simp [isRw, hr], ?_⟩
    simp only [A0, shM, vaM, chgM, wI_21, wR_21, nw_21, flM_21, gr_21, z_21]
    simp [isRw, hr]
  · simp only [A0, shM, vaM, chgM, wI_21, wR_21, nw_21, flM_21, gr_21, z_21]
    simp [isRw]
/-! the model -/
theorem ini_k (S : Mm) {k : Ln} (h : k.1 ≠ 2) : ∀ fs, (∀ j, (ini S fs).1 k j = S.1 k j) ∧ (∀ j, (ini S fs).2.1 k j = S.2.1 k j) ∧ (ini S fs).2.2 k = S.2.2 k
  | [] => ⟨fun _ => rfl, fun _ => rfl, rfl⟩
  | f :: fs => by
    obtain ⟨a, b, c⟩ := ini_k S h fs
    have n : ∀ d, k ≠ (2, 0, d) := fun d e => h (by rw [e])
    refine ⟨fun j => ?_, fun j => ?_, ?_⟩
    · show (wR (nwm (ini S fs) (2, 0, f)) (2, 0, 0) f (some (2, 0, f))).1 k j = _
      rw [wR_1, nw_1, if_neg (n f)]
      exact a j
    · show (wR (nwm (ini S fs) (2, 0, f)) (2, 0, 0) f (some (2, 0, f))).2.1 k j = _
      rw [wR_21, if_neg (fun q => n 0 q.1), nw_21, if_neg (n f)]
      exact b j
    · show (wR (nwm (ini S fs) (2, 0, f)) (2, 0, 0) f (some (2, 0, f))).2.2 k = _
      rw [wR_22, nw_22, if_neg (n f)]
      exact c
theorem ini_0 (S : Mm) {k : Ln} {j : Nat} (h : S.1 k j = 0) : ∀ fs, (ini S fs).1 k j = 0
  | [] => h
  | f :: fs => by
    show (wR (nwm (ini S fs) (2, 0, f)) (2, 0, 0) f (some (2, 0, f))).1 k j = 0
    rw [wR_1, nw_1, ini_0 S h fs]
    split <;> rfl
theorem ini_n (S : Mm) {g j : Nat} : ∀ fs, g ∉ fs → (ini S fs).1 (2, 0, g) j = S.1 (2, 0, g) j
  | [], _ => rfl
  | f :: fs, h => by
    show (wR (nwm (ini S fs) (2, 0, f)) (2, 0, 0) f (some (2, 0, f))).1 (2, 0, g) j = _
    rw [wR_1, nw_1, if_neg (fun q => h (by
      have : g = f := congrArg (fun z : Ln => z.2.2) q
      rw [this]
      exact List.mem_cons_self)), ini_n S fs (fun q => h (List.mem_cons_of_mem _ q))]
theorem ini_r (S : Mm) (j : Nat) : ∀ fs, 0 ∉ fs → (ini S fs).2.1 (2, 0, 0) j = if j ∈ fs then some (2, 0, j) else S.2.1 (2, 0, 0) j
  | [], _ => by rw [if_neg (List.not_mem_nil)]; rfl
  | f :: fs, h => by
    have h0 : f ≠ 0 := fun q => h (by rw [q]; exact List.mem_cons_self)
    have ih := ini_r S j fs (fun q => h (List.mem_cons_of_mem _ q))
    show (wR (nwm (ini S fs) (2, 0, f)) (2, 0, 0) f (some (2, 0, f))).2.1 (2, 0, 0) j = _
    rw [wR_21]
    by_cases e : j = f
    · rw [if_pos ⟨rfl, e⟩, if_pos (by rw [e]; exact List.mem_cons_self), e]
    · rw [if_neg (fun q => e q.2), nw_21, if_neg (fun q => h0 (congrArg (fun z : Ln => z.2.2) q).symm), ih]
      by_cases q : j ∈ fs
      · rw [if_pos q, if_pos (List.mem_cons_of_mem _ q)]
      · rw [if_neg q, if_neg (fun z => by
          rcases List.mem_cons.mp z with z | z
          · exact e z
          · exact q z)]
theorem on_1 (T : Mm) (k : Ln) (j : Nat) : (on16 T).1 k j = if k = (2, 0, 20) ∧ j < 16 then 1 else T.1 k j := by
  simp only [on16, wI_1]
  by_cases e : k = (2, 0, 20)
  · subst e
    by_cases h : j < 16
    · rcases (show j = 0 ∨ j = 1 ∨ j = 2 ∨ j = 3 ∨ j = 4 ∨ j = 5 ∨ j = 6 ∨ j = 7 ∨ j = 8 ∨ j = 9 ∨ j = 10 ∨ j = 11 ∨ j = 12 ∨ j = 13 ∨ j = 14 ∨ j = 15 by omega) with rfl | rfl | rfl | rfl | rfl | rfl | rfl | rfl | rfl | rfl | rfl | rfl | rfl | rfl | rfl | rfl <;> simp
    · have n : ∀ d, d < 16 → ¬ j = d := fun d hd q => h (by omega)
      simp [h, n 0 (by decide), n 1 (by decide), n 2 (by decide), n 3 (by decide), n 4 (by decide), n 5 (by decide), n 6 (by decide), n 7 (by decide), n 8 (by decide), n 9 (by decide), n 10 (by decide), n 11 (by decide), n 12 (by decide), n 13 (by decide), n 14 (by decide), n 15 (by decide)]
  · simp [e]
theorem on_2 (T : Mm) : (on16 T).2 = T.2 := rfl
def B0 : Mm := miM (nwm A0 (2, 0, 0))
theorem b_k {k : Ln} (h : k.1 ≠ 2) : (∀ j, B0.1 k j = A0.1 k j) ∧ (∀ j, B0.2.1 k j = A0.2.1 k j) ∧ B0.2.2 k = A0.2.2 k := by
  have n : ∀ d, k ≠ (2, 0, d) := fun d e => h (by rw [e])
  obtain ⟨a1, a2, a3⟩ := ini_k (mi1 (nwm A0 (2, 0, 0))) h [33, 32, 31, 30, 29, 28, 26, 25, 24, 23, 22, 21]
  obtain ⟨c1, c2, c3⟩ := ini_k (nwm A0 (2, 0, 0)) h [19, 18, 17, 16, 15, 14, 13, 12, 11, 10, 9, 8, 7, 6, 5, 4, 3, 2]
  refine ⟨fun j => (a1 j).trans ?_, fun j => (a2 j).trans ?_, a3.trans ?_⟩
  · unfold mi1
    rw [wR_1, on_1, if_neg (fun q => n 20 q.1), nw_1, if_neg (n 20), c1, nw_1, if_neg (n 0)]
  · unfold mi1
    rw [wR_21, if_neg (fun q => n 0 q.1), on_2, nw_21, if_neg (n 20), c2, nw_21, if_neg (n 0)]
  · unfold mi1
    rw [wR_22, on_2, nw_22, if_neg (n 20), c3, nw_22, if_neg (n 0)]
theorem b_1 (f x : Nat) : B0.1 (2, 0, f) x = if f = 20 ∧ x < 16 then 1 else 0 := by
  have z : (nwm A0 (2, 0, 0)).1 (2, 0, f) x = 0 := by
    have e : A0.1 (2, 0, f) x = 0 := by
      rw [a_1, if_neg (fun q => by cases q.1)]
    rw [nw_1, e]
    split <;> rfl
  have z2 : (nwm (ini (nwm A0 (2, 0, 0)) [19, 18, 17, 16, 15, 14, 13, 12, 11, 10, 9, 8, 7, 6, 5, 4, 3, 2]) (2, 0, 20)).1 (2, 0, f) x = 0 := by
    rw [nw_1, ini_0 _ z]
    split <;> rfl
  have m : (mi1 (nwm A0 (2, 0, 0))).1 (2, 0, f) x = if f = 20 ∧ x < 16 then 1 else 0 := by
    unfold mi1
    rw [wR_1, on_1, z2]
    by_cases e : f = 20 ∧ x < 16
    · rw [if_pos e, if_pos ⟨by rw [e.1], e.2⟩]
    · rw [if_neg e, if_neg (fun q => e ⟨congrArg (fun z : Ln => z.2.2) q.1, q.2⟩)]
  by_cases e : f = 20
  · subst e
    exact (ini_n _ _ (by decide)).trans m
  · have m0 : (mi1 (nwm A0 (2, 0, 0))).1 (2, 0, f) x = 0 := by
      rw [m, if_neg (fun q => e q.1)]
    rw [if_neg (fun q => e q.1)]
    exact ini_0 _ m0 _
theorem b_im : IM B0 0 (fun _ => 0) := by
  refine ⟨⟨?_, fun f hf => ?_⟩, ?_, by decide, fun i hi => ⟨?_, Nat.zero_le 8⟩⟩
  · show (ini (mi1 (nwm A0 (2, 0, 0))) _).2.2 (2, 0, 0) = true
    rw [ini_l, mi1_l, nw_22, if_pos rfl]
    simp
  · have hf' : 2 ≤ f ∧ f ≤ 33 ∧ f ≠ 27 := by
      simp [mArr] at hf
      exact ⟨hf.1.1, hf.1.2, hf.2⟩
    refine ⟨?_, ?_⟩
    · show (ini (mi1 (nwm A0 (2, 0, 0))) _).2.1 (2, 0, 0) f = some (2, 0, f)
      rw [ini_r _ _ _ (by decide)]
      by_cases h : f ∈ [33, 32, 31, 30, 29, 28, 26, 25, 24, 23, 22, 21]
      · rw [if_pos h]
      · rw [if_neg h]
        unfold mi1
        rw [wR_21]
        by_cases e : f = 20
        · rw [if_pos ⟨rfl, e⟩, e]
        · rw [if_neg (fun q => e q.2), on_2, nw_21, if_neg (fun q => by cases q), ini_r _ _ _ (by decide), if_pos]
          simp at h ⊢
          omega
    · show (ini (mi1 (nwm A0 (2, 0, 0))) _).2.2 (2, 0, f) = true
      rw [ini_l, mi1_l]
      rw [Bool.or_eq_true, Bool.or_eq_true, decide_eq_true_eq, decide_eq_true_eq]
      simp
      omega
  · rw [b_1, if_neg (by omega)]
    rfl
  · rw [b_1, if_neg (by omega)]
    rfl
theorem rr_born : RR B0 B0 0 (fun _ => 0) := by
  have t : ∀ a b c j, a ≠ 2 → B0.1 (a, b, c) j = if ((a, b, c) : Ln) = (0, 0, 2) ∧ j < 16 then 1 else 0 := fun a b c j h => ((b_k (k := (a, b, c)) h).1 j).trans (a_1 _ j)
  have l : ∀ a b c, a ≠ 2 → B0.2.2 (a, b, c) = ((decide (a = 0) && decide (b = 0) && decide (c ≤ 10)) || isRw (a, b, c)) := fun a b c h => ((b_k (k := (a, b, c)) h).2.2).trans (a_22 _)
  have r : ∀ a b c j, a ≠ 2 → B0.2.1 (a, b, c) j = A0.2.1 (a, b, c) j := fun a b c j h => (b_k (k := (a, b, c)) h).2.1 j
  refine ⟨⟨?_, ?_, fun i hi => by omega⟩, b_im, fun _ _ => rfl, fun i _ o => ?_, fun i n _ => ?_, fun k j hv => ?_, ⟨0, by decide, ?_, fun i hi => by omega⟩, fun g hg => ⟨1, ?_, by decide, by decide⟩, fun i hi => by omega, fun i hi => by omega, fun i hi => by omega, fun i hi => by omega, fun i hi => by omega, fun i hi => by omega, fun f x hz => ?_⟩
  · obtain ⟨s1, s2, s3, s4, s5, s6, s7⟩ := a_sh
    refine ⟨fun o ho => ?_, ?_, ?_, fun q hq => ?_, fun i hi => ?_, fun i hi => by omega, s7⟩
    · rw [(b_k (k := (0, 0, o)) (by show (0 : Nat) ≠ 2; decide)).2.2]
      exact s1 o ho
    · rw [r _ _ _ _ (by decide), r _ _ _ _ (by decide), r _ _ _ _ (by decide), r _ _ _ _ (by decide), r _ _ _ _ (by decide), r _ _ _ _ (by decide)]
      exact s2
    · rw [r _ _ _ _ (by decide), r _ _ _ _ (by decide), r _ _ _ _ (by decide), r _ _ _ _ (by decide)]
      exact s3
    · rw [(b_k (k := (4, 0, q)) (by show (4 : Nat) ≠ 2; decide)).2.2, r _ _ _ _ (by decide)]
      exact s4 q hq
    · rw [r _ _ _ _ (by decide)]
      exact s5 i hi
  · rw [t _ _ _ _ (by decide), if_neg (fun q => by cases q.1)]
    rfl
  · rw [l _ _ _ (by decide)]
    simp [isRw]
  · rw [l _ _ _ (by decide)]
    simp [isRw]
  · have key : ∀ (a b c j f x : Nat), a ≠ 2 → (((a, b, c) : Ln) = (0, 0, 2) ∧ j < 16 ↔ f = 20 ∧ x < 16) → B0.1 (a, b, c) j = B0.1 (2, 0, f) x := fun a b c j f x h1 h2 => by
      rw [t _ _ _ _ h1, b_1]
      by_cases q : f = 20 ∧ x < 16
      · rw [if_pos q, if_pos (h2.mpr q)]
      · rw [if_neg q, if_neg (fun z => q (h2.mp z))]
    induction hv using vd.elim with
    | hour => exact key 0 0 0 7 0 0 (by decide) ⟨fun q => (by cases q.1), fun q => (by omega)⟩
    | mis => exact key 0 0 0 8 0 27 (by decide) ⟨fun q => (by cases q.1), fun q => (by omega)⟩
    | @size g h => exact key 0 0 2 g 20 g (by decide) ⟨fun q => ⟨rfl, q.2⟩, fun q => ⟨rfl, q.2⟩⟩
    | @ref g h => exact key 0 0 3 g 30 g (by decide) ⟨fun q => (by cases q.1), fun q => (by omega)⟩
    | @giv g h => exact key 0 0 4 g 28 g (by decide) ⟨fun q => (by cases q.1), fun q => (by omega)⟩
    | @pie g h => exact key 0 0 10 g 29 g (by decide) ⟨fun q => (by cases q.1), fun q => (by omega)⟩
    | m5 h => omega
    | m6 h => omega
    | m7 h => omega
    | m8 h => omega
    | m9 h => omega
    | tub h hw => omega
    | box h hw => omega
    | inn h hw => omega
    | cam h hw => omega
    | sal h hw => omega
    | the h hw => omega
    | l0 h _ _ => omega
    | l1 h _ _ => omega
    | l2 h _ _ => omega
    | l4 h _ _ => omega
    | l5 h _ _ => omega
    | l6 h _ _ => omega
    | l7 h _ _ => omega
    | l8 h _ _ => omega
    | l9 h _ _ => omega
  · rw [t _ _ _ _ (by decide), if_neg (fun q => by cases q.1)]
    rfl
  · rw [t _ _ _ _ (by decide), if_pos ⟨rfl, hg⟩]
    rfl
  · rw [b_1, if_neg (fun q => by unfold zb at hz; omega)]
