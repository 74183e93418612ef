/-! an hour of the class -/
def p1X (T : Mm) (i n : Nat) (gd : Nat → Nat) (u : Nat) : Mm := if (ntX T i n gd u n).1 (1, i, 0) 4 = 0 then psX (wI (ntX T i n gd u n) (1, i, 0) 5 ((ntX T i n gd u n).1 (1, i, 0) 5 + 1)) i n else ntX T i n gd u n
def phL (S : Mm) (lc : Nat → Nat) (gdm : Nat → Nat → Nat) (u : Nat) : Nat → Mm
  | 0 => S
  | i + 1 => p1X (phL S lc gdm u i) i (lc i) (gdm i) u
def phX (S : Mm) (mc : Nat) (lc : Nat → Nat) (gdm : Nat → Nat → Nat) (h : Nat) : Mm := phL (wI S (0, 0, 0) 7 (nI (h + 1))) lc gdm (h % 24) mc
def hrX (S : Mm) (mc : Nat) (lc : Nat → Nat) (gdm : Nat → Nat → Nat) (h : Nat) : Nat → Mm
  | 0 => S
  | n + 1 => phX (hrX S mc lc gdm h n) mc lc gdm (h + n)
/-- an hour touches: hoursThere, hoursOff, isSpoiled, the hour -/
def fHr : Ln → Nat → Prop := fun k q => (k.1 = 1 ∧ k.2.2 = 12) ∨ (k.1 = 1 ∧ k.2.2 = 0 ∧ q = 5) ∨ (k.1 = 3 ∧ q = 9) ∨ (k = (0, 0, 0) ∧ q = 7)
theorem p1X_but (T : Mm) (i n : Nat) (gd : Nat → Nat) (u : Nat) : but fHr T (p1X T i n gd u) := by
  have h1 : but fHr T (ntX T i n gd u n) := (ntX_but T i n gd u n).mono (fun k q z => by cases z; exact Or.inl ⟨rfl, rfl⟩)
  unfold p1X
  split
  · exact (h1.wI (Or.inr (Or.inl ⟨rfl, rfl, rfl⟩))).tr ((psX_but _ i n).mono (fun k q z => Or.inr (Or.inr (Or.inl ⟨z.1, z.2.2⟩))))
  · exact h1
theorem phL_but (S : Mm) (lc : Nat → Nat) (gdm : Nat → Nat → Nat) (u : Nat) : ∀ i, but fHr S (phL S lc gdm u i)
  | 0 => but.rf
  | i + 1 => (phL_but S lc gdm u i).tr (p1X_but _ i (lc i) (gdm i) u)
theorem phX_but (S : Mm) (mc : Nat) (lc : Nat → Nat) (gdm : Nat → Nat → Nat) (h : Nat) : but fHr S (phX S mc lc gdm h) := (but.rf.wI (Or.inr (Or.inr (Or.inr ⟨rfl, rfl⟩)))).tr (phL_but _ lc gdm (h % 24) mc)
theorem hrX_but (S : Mm) (mc : Nat) (lc : Nat → Nat) (gdm : Nat → Nat → Nat) (h : Nat) : ∀ n, but fHr S (hrX S mc lc gdm h n)
  | 0 => but.rf
  | n + 1 => (hrX_but S mc lc gdm h n).tr (phX_but _ mc lc gdm (h + n))
theorem IX.same {S T : Mm} {mc : Nat} {lc : Nat → Nat} (h : T.2 = S.2) (h1 : T.1 (0, 0, 0) 6 = S.1 (0, 0, 0) 6) (h2 : ∀ i, T.1 (1, i, 0) 3 = S.1 (1, i, 0) 3) (hI : IX S mc lc) : IX T mc lc := ⟨hI.1.same h, by unfold CtX; rw [h1]; exact ⟨hI.2.1, fun i hi => by rw [h2]; exact hI.2.2 i hi⟩⟩
theorem fHr_6 : ¬ fHr (0, 0, 0) 6 := fun q => by
  rcases q with q | q | q | q
  · cases q.1
  · cases q.1
  · cases q.1
  · cases q.2
theorem fHr_3 (i : Nat) : ¬ fHr (1, i, 0) 3 := fun q => by
  rcases q with q | q | q | q
  · cases q.2
  · cases q.2.2
  · cases q.1
  · cases q.1
theorem fHr_g (i k : Nat) : ¬ fHr (3, i, k) 0 := fun q => by
  rcases q with q | q | q | q
  · cases q.1
  · cases q.1
  · cases q.2
  · cases q.1
theorem but.hrI {S T : Mm} {mc : Nat} {lc : Nat → Nat} (h : but fHr S T) (hI : IX S mc lc) : IX T mc lc := hI.same h.1 (h.2 _ _ fHr_6) (fun i => h.2 _ _ (fHr_3 i))
/-- the goods of the lanes -/
def GdX (S : Mm) (mc : Nat) (lc : Nat → Nat) (gdm : Nat → Nat → Nat) : Prop := ∀ i, i < mc → ∀ k, k < lc i → S.1 (3, i, k) 0 = nI (gdm i k) ∧ gdm i k < 16
theorem but.hrG {S T : Mm} {mc : Nat} {lc : Nat → Nat} {gdm : Nat → Nat → Nat} (h : but fHr S T) (hG : GdX S mc lc gdm) : GdX T mc lc gdm := fun i hi k hk => by rw [h.2 _ _ (fHr_g i k)]; exact hG i hi k hk
theorem phX_h (S : Mm) (mc : Nat) (lc : Nat → Nat) (gdm : Nat → Nat → Nat) (h : Nat) : (phX S mc lc gdm h).1 (0, 0, 0) 7 = nI (h + 1) := by
  have key : ∀ (T : Mm) (u i : Nat), (phL T lc gdm u i).1 (0, 0, 0) 7 = T.1 (0, 0, 0) 7 := by
    intro T u i
    induction i with
    | zero => rfl
    | succ i ih =>
      have e : ∀ (U : Mm) (n : Nat) (gd : Nat → Nat), (p1X U i n gd u).1 (0, 0, 0) 7 = U.1 (0, 0, 0) 7 := fun U n gd => by
        have h1 := (ntX_but U i n gd u n).2 (0, 0, 0) 7 (fun q => by cases q)
        unfold p1X
        split
        · exact ((psX_but _ i n).2 (0, 0, 0) 7 (fun q => by cases q.1)).trans ((wI_ne (fun q => by cases q.1)).trans h1)
        · exact h1
      exact (e _ _ _).trans ih
  exact (key _ _ _).trans wI_same
theorem hrX_h {S : Mm} {mc : Nat} {lc : Nat → Nat} {gdm : Nat → Nat → Nat} {h : Nat} (hh : S.1 (0, 0, 0) 7 = nI h) : ∀ n, (hrX S mc lc gdm h n).1 (0, 0, 0) 7 = nI (h + n)
  | 0 => hh
  | n + 1 => phX_h _ mc lc gdm (h + n)
