/-! what the class's loops do -/
/-- where the good would fall from: 0 nowhere, 1 the lane itself, 2 the next one -/
def v_src (S : Mm) (i j n : Nat) : Int32 := if v_closed S i j = 0 then (if S.1 (3, i, j) 5 ≤ 0 then (if S.1 (3, i, j) 2 = 3 then (if j + 1 < n then (if S.1 (3, i, j + 1) 0 = S.1 (3, i, j) 0 then (if S.1 (3, i, j + 1) 5 ≤ 0 then 0 else (if v_closed S i (j + 1) = 0 then 2 else 0)) else 0) else 0) else 0) else 1) else 0
def stX (S : Mm) (i : Nat) (g : Int32) : Nat → Int32
  | 0 => 0
  | k + 1 => if S.1 (3, i, k) 0 = g then stX S i g k + S.1 (3, i, k) 5 else stX S i g k
def slX (S : Mm) (i : Nat) : Nat → Int32
  | 0 => 0
  | k + 1 => slX S i k + S.1 (3, i, k) 5
def nbX (S : Mm) (i n : Nat) : Nat → Int32
  | 0 => 0
  | k + 1 => if (nbX S i n k >>> (S.1 (3, i, k) 0 &&& 31)) &&& 1 = 0 then (if v_src S i k n = 0 then nbX S i n k else nbX S i n k ||| ((1 : Int32) <<< (S.1 (3, i, k) 0 &&& 31))) else nbX S i n k
def ntX (S : Mm) (i n : Nat) (gd : Nat → Nat) (u : Nat) : Nat → Mm
  | 0 => S
  | k + 1 => if (nbX S i n k >>> (S.1 (3, i, k) 0 &&& 31)) &&& 1 = 0 then (if v_src S i k n = 0 then ntX S i n gd u k else wI (ntX S i n gd u k) (1, i, 12) (gd k * 24 + u) ((ntX S i n gd u k).1 (1, i, 12) (gd k * 24 + u) + 1)) else ntX S i n gd u k
def fDy (i : Nat) : Ln → Nat → Prop := fun k _ => k = (1, i, 12)
theorem ntX_but (S : Mm) (i n : Nat) (gd : Nat → Nat) (u : Nat) : ∀ k, but (fDy i) S (ntX S i n gd u k)
  | 0 => but.rf
  | k + 1 => by
    unfold ntX
    split
    · split
      · exact ntX_but S i n gd u k
      · exact (ntX_but S i n gd u k).wI rfl
    · exact ntX_but S i n gd u k
theorem closed_but {f : Ln → Nat → Prop} {S T : Mm} (h : but f S T) (i j : Nat) (h1 : ∀ q, ¬ f (3, i, j) q) : v_closed T i j = v_closed S i j := by unfold v_closed; rw [h.2 _ _ (h1 _), h.2 _ _ (h1 _)]
theorem src_but {f : Ln → Nat → Prop} {S T : Mm} (h : but f S T) (i j n : Nat) (h1 : ∀ j q, ¬ f (3, i, j) q) : v_src T i j n = v_src S i j n := by
  unfold v_src
  rw [closed_but h i j (h1 j), closed_but h i (j + 1) (h1 (j + 1)), h.2 _ _ (h1 _ _), h.2 _ _ (h1 _ _), h.2 _ _ (h1 _ _), h.2 _ _ (h1 _ _), h.2 _ _ (h1 _ _)]
def spX (S : Mm) (i j : Nat) (p : Int32) : Mm := if S.1 (3, i, j) 2 = 2 then (if S.1 (3, i, j) 5 ≤ 0 then S else (if p ≤ S.1 (3, i, j) 3 then S else wI S (3, i, j) 9 1)) else S
def psX (S : Mm) (i : Nat) : Nat → Mm
  | 0 => S
  | j + 1 => spX (psX S i j) i j (S.1 (1, i, 0) 5)
def fLn (i : Nat) : Ln → Nat → Prop := fun k q => k.1 = 3 ∧ k.2.1 = i ∧ q = 9
theorem spX_but (S : Mm) (i j : Nat) (p : Int32) : but (fLn i) S (spX S i j p) := by
  unfold spX
  split
  · split
    · exact but.rf
    · split
      · exact but.rf
      · exact but.rf.wI ⟨rfl, rfl, rfl⟩
  · exact but.rf
theorem psX_but (S : Mm) (i : Nat) : ∀ j, but (fLn i) S (psX S i j)
  | 0 => but.rf
  | j + 1 => (psX_but S i j).tr (spX_but _ i j _)
def msX (S : Mm) (i j : Nat) : Mm := if S.1 (3, i, j) 7 + 1 < 3 then wI (wI S (3, i, j) 6 (S.1 (3, i, j) 6 - 1)) (3, i, j) 7 (S.1 (3, i, j) 7 + 1) else wI (wI (wI S (3, i, j) 6 (S.1 (3, i, j) 6 - 1)) (3, i, j) 7 (S.1 (3, i, j) 7 + 1)) (3, i, j) 8 1
/-- giveBack's, emptyBox's, settle's loops -/
def gbX (S : Mm) (i : Nat) : Nat → Mm
  | 0 => S
  | w + 1 => wI (wI (gbX S i w) (1, i, 7) w ((gbX S i w).1 (1, i, 7) w + (gbX S i w).1 (1, i, 5) w)) (1, i, 5) w 0
theorem gbX_2 (S : Mm) (i : Nat) : ∀ w, (gbX S i w).2 = S.2
  | 0 => rfl
  | w + 1 => gbX_2 S i w
def ebX (S : Mm) (i : Nat) : Nat → Mm
  | 0 => S
  | w + 1 => wI (wI (ebX S i w) (1, i, 9) w ((ebX S i w).1 (1, i, 9) w + (ebX S i w).1 (1, i, 4) w)) (1, i, 4) w 0
theorem ebX_2 (S : Mm) (i : Nat) : ∀ w, (ebX S i w).2 = S.2
  | 0 => rfl
  | w + 1 => ebX_2 S i w
def nSx (U : Mm) (i w : Nat) : Int32 := U.1 (1, i, 3) w + U.1 (1, i, 5) w - U.1 (0, 0, 7) w
def mnS (U : Mm) (i w : Nat) : Int32 := if 50 < nSx U i w then 50 else nSx U i w
def seX (S : Mm) (i : Nat) : Nat → Mm
  | 0 => S
  | w + 1 => wI (wI (wI (wI (seX S i w) (1, i, 3) w (mnS (seX S i w) i w)) (1, i, 4) w ((seX S i w).1 (1, i, 4) w + (nSx (seX S i w) i w - mnS (seX S i w) i w))) (1, i, 8) w ((seX S i w).1 (1, i, 8) w + (seX S i w).1 (0, 0, 7) w)) (1, i, 5) w 0
theorem seX_2 (S : Mm) (i : Nat) : ∀ w, (seX S i w).2 = S.2
  | 0 => rfl
  | w + 1 => seX_2 S i w
/-- coinsAgree -/
def ckX (S : Mm) (i : Nat) : Nat → Nat → Int32
  | 0, _ => 1
  | f + 1, w => if S.1 (1, i, 6) w = S.1 (1, i, 3) w + S.1 (1, i, 4) w + S.1 (1, i, 5) w + S.1 (1, i, 7) w + S.1 (1, i, 8) w + S.1 (1, i, 9) w then ckX S i f (w + 1) else 0
theorem wI_k {S : Mm} {i o o' j j' : Nat} {v : Int32} (h : o' ≠ o) : (wI S (1, i, o) j v).1 (1, i, o') j' = S.1 (1, i, o') j' := wI_ne (fun q => h (by cases q.1; rfl))
