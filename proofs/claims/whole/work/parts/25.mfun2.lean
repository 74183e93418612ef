/-! an hour of the model -/
def isM (S : Mm) (i g : Nat) : Nat → Int32
  | 0 => 0
  | k + 1 => if isM S i g k = 0 then (if S.1 (2, 0, 10) (8 * i + k) = nI g then (if v_X7_sells S i k = 0 then 0 else 1) else 0) else 1
def thG (S : Mm) (lc : Nat → Nat) (i u : Nat) : Nat → Mm
  | 0 => S
  | g + 1 => wI (thG S lc i u g) (2, 0, 22) (384 * i + 24 * g + u) ((thG S lc i u g).1 (2, 0, 22) (384 * i + 24 * g + u) + (if isM (thG S lc i u g) i g (lc i) = 0 then 0 else 1))
def thM (S : Mm) (lc : Nat → Nat) (u : Nat) : Nat → Mm
  | 0 => S
  | i + 1 => thG (thM S lc u i) lc i u 16
def pwL (S : Mm) (i : Nat) : Nat → Mm
  | 0 => S
  | j + 1 => if S.1 (2, 0, 8) i = 0 then pwL S i j else if S.1 (2, 0, 14) (8 * i + j) = 2 then (if S.1 (2, 0, 9) i ≤ S.1 (2, 0, 15) (8 * i + j) then pwL S i j else if S.1 (2, 0, 13) (8 * i + j) ≤ 0 then pwL S i j else wI (pwL S i j) (2, 0, 19) (8 * i + j) 1) else pwL S i j
def pw1 (S : Mm) (i : Nat) : Mm := wI S (2, 0, 9) i (S.1 (2, 0, 9) i + (if S.1 (2, 0, 8) i = 0 then 0 else 1))
def pwM (S : Mm) (lc : Nat → Nat) : Nat → Mm
  | 0 => S
  | i + 1 => pwL (pw1 (pwM S lc i) i) i (lc i)
/-- passOne -/
def poM (S : Mm) (mc : Nat) (lc : Nat → Nat) (h : Nat) : Mm := pwM (wI (thM S lc (h % 24) mc) (2, 0, 0) 0 (nI (h + 1))) lc mc
/-- T is S but for the cells of which f holds -/
def but (f : Ln → Nat → Prop) (S T : Mm) : Prop := T.2 = S.2 ∧ ∀ k j, ¬ f k j → T.1 k j = S.1 k j
theorem but.rf {f : Ln → Nat → Prop} {S : Mm} : but f S S := ⟨rfl, fun _ _ _ => rfl⟩
theorem but.tr {f : Ln → Nat → Prop} {S T U : Mm} (h1 : but f S T) (h2 : but f T U) : but f S U := ⟨h2.1.trans h1.1, fun k j h => (h2.2 k j h).trans (h1.2 k j h)⟩
theorem but.wI {f : Ln → Nat → Prop} {S T : Mm} {k : Ln} {j : Nat} {v : Int32} (h1 : but f S T) (h2 : f k j) : but f S (wI T k j v) := ⟨h1.1, fun k' j' h => by
  have : ¬ (k' = k ∧ j' = j) := fun q => h (by rw [q.1, q.2]; exact h2)
  show (if k' = k ∧ j' = j then v else T.1 k' j') = _
  rw [if_neg this]; exact h1.2 k' j' h⟩
theorem but.mono {f g : Ln → Nat → Prop} {S T : Mm} (h : but f S T) (hfg : ∀ k j, f k j → g k j) : but g S T := ⟨h.1, fun k j q => h.2 k j (fun z => q (hfg k j z))⟩
theorem but.IM {f : Ln → Nat → Prop} {S T : Mm} {mc : Nat} {lc : Nat → Nat} (h : but f S T) (h1 : ¬ f (2, 0, 0) 1) (h2 : ∀ i, ¬ f (2, 0, 2) i) (hI : IM S mc lc) : IM T mc lc := hI.same h.1 (h.2 _ _ h1) (fun i => h.2 _ _ (h2 i))
def fTh : Ln → Nat → Prop := fun k _ => k = (2, 0, 22)
theorem thG_but (S : Mm) (lc : Nat → Nat) (i u : Nat) : ∀ g, but fTh S (thG S lc i u g)
  | 0 => but.rf
  | g + 1 => (thG_but S lc i u g).wI rfl
theorem thM_but (S : Mm) (lc : Nat → Nat) (u : Nat) : ∀ i, but fTh S (thM S lc u i)
  | 0 => but.rf
  | i + 1 => (thM_but S lc u i).tr (thG_but _ lc i u 16)
theorem thG_I {S : Mm} {mc : Nat} {lc : Nat → Nat} (i u g : Nat) (hI : IM S mc lc) : IM (thG S lc i u g) mc lc := (thG_but S lc i u g).IM (fun q => by cases q) (fun _ q => by cases q) hI
theorem thM_I {S : Mm} {mc : Nat} {lc : Nat → Nat} (u i : Nat) (hI : IM S mc lc) : IM (thM S lc u i) mc lc := (thM_but S lc u i).IM (fun q => by cases q) (fun _ q => by cases q) hI
def fSp : Ln → Nat → Prop := fun k _ => k = (2, 0, 19)
def fPw : Ln → Nat → Prop := fun k _ => k = (2, 0, 19) ∨ k = (2, 0, 9)
theorem pwL_but (S : Mm) (i : Nat) : ∀ j, but fSp S (pwL S i j)
  | 0 => but.rf
  | j + 1 => by
    unfold pwL
    split
    · exact pwL_but S i j
    · split
      · split
        · exact pwL_but S i j
        · split
          · exact pwL_but S i j
          · exact (pwL_but S i j).wI rfl
      · exact pwL_but S i j
theorem pw1_but (S : Mm) (i : Nat) : but fPw S (pw1 S i) := but.rf.wI (Or.inr rfl)
theorem pwM_but (S : Mm) (lc : Nat → Nat) : ∀ i, but fPw S (pwM S lc i)
  | 0 => but.rf
  | i + 1 => ((pwM_but S lc i).tr (pw1_but _ i)).tr ((pwL_but _ i (lc i)).mono (fun _ _ q => Or.inl q))
theorem pwL_I {S : Mm} {mc : Nat} {lc : Nat → Nat} (i j : Nat) (hI : IM S mc lc) : IM (pwL S i j) mc lc := (pwL_but S i j).IM (fun q => by cases q) (fun _ q => by cases q) hI
theorem pw1_I {S : Mm} {mc : Nat} {lc : Nat → Nat} (i : Nat) (hI : IM S mc lc) : IM (pw1 S i) mc lc := (pw1_but S i).IM (fun q => by rcases q with q | q <;> cases q) (fun _ q => by rcases q with q | q <;> cases q) hI
theorem pwM_I {S : Mm} {mc : Nat} {lc : Nat → Nat} (i : Nat) (hI : IM S mc lc) : IM (pwM S lc i) mc lc := (pwM_but S lc i).IM (fun q => by rcases q with q | q <;> cases q) (fun _ q => by rcases q with q | q <;> cases q) hI
theorem hour_I {S : Mm} {mc : Nat} {lc : Nat → Nat} {v : Int32} (hI : IM S mc lc) : IM (wI S (2, 0, 0) 0 v) mc lc := hI.same rfl rfl (fun _ => rfl)
theorem poM_I {S : Mm} {mc : Nat} {lc : Nat → Nat} (h : Nat) (hI : IM S mc lc) : IM (poM S mc lc h) mc lc := pwM_I mc (hour_I (thM_I _ mc hI))
theorem poM_h (S : Mm) (mc : Nat) (lc : Nat → Nat) (h : Nat) : (poM S mc lc h).1 (2, 0, 0) 0 = nI (h + 1) := ((pwM_but _ lc mc).2 _ _ (fun q => by rcases q with q | q <;> cases q)).trans rfl
/-- n hours -/
def hrM (S : Mm) (mc : Nat) (lc : Nat → Nat) (h : Nat) : Nat → Mm
  | 0 => S
  | n + 1 => poM (hrM S mc lc h n) mc lc (h + n)
theorem hrM_I {S : Mm} {mc : Nat} {lc : Nat → Nat} (h : Nat) (hI : IM S mc lc) : ∀ n, IM (hrM S mc lc h n) mc lc
  | 0 => hI
  | n + 1 => poM_I (h + n) (hrM_I h hI n)
theorem hrM_h {S : Mm} {mc : Nat} {lc : Nat → Nat} {h : Nat} (hh : S.1 (2, 0, 0) 0 = nI h) : ∀ n, (hrM S mc lc h n).1 (2, 0, 0) 0 = nI (h + n)
  | 0 => hh
  | n + 1 => poM_h _ mc lc (h + n)
