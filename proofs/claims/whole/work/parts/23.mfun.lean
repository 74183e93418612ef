/-! what the model's loops do -/
theorem ShM.same {S T : Mm} (h : T.2 = S.2) (hM : ShM S) : ShM T := by unfold ShM at *; rw [h]; exact hM
theorem IM.same {S T : Mm} {mc : Nat} {lc : Nat → Nat} (h : T.2 = S.2) (h1 : T.1 (2, 0, 0) 1 = S.1 (2, 0, 0) 1) (h2 : ∀ i, T.1 (2, 0, 2) i = S.1 (2, 0, 2) i) (hI : IM S mc lc) : IM T mc lc :=
  ⟨hI.1.same h, by unfold CtM; rw [h1]; exact ⟨hI.2.1, hI.2.2.1, fun i hi => by rw [h2]; exact hI.2.2.2 i hi⟩⟩
/-- allBack's loop -/
def abM (S : Mm) (i : Nat) : Nat → Mm
  | 0 => S
  | w + 1 => wI (wI (abM S i w) (2, 0, 7) (6 * i + w) ((abM S i w).1 (2, 0, 7) (6 * i + w) + (abM S i w).1 (2, 0, 5) (6 * i + w))) (2, 0, 5) (6 * i + w) 0
theorem abM_2 (S : Mm) (i : Nat) : ∀ w, (abM S i w).2 = S.2
  | 0 => rfl
  | w + 1 => abM_2 S i w
/-- collect's loop -/
def coM (S : Mm) (i : Nat) : Nat → Mm
  | 0 => S
  | w + 1 => wI (wI (coM S i w) (2, 0, 7) (6 * i + w) ((coM S i w).1 (2, 0, 7) (6 * i + w) + (coM S i w).1 (2, 0, 4) (6 * i + w))) (2, 0, 4) (6 * i + w) 0
theorem coM_2 (S : Mm) (i : Nat) : ∀ w, (coM S i w).2 = S.2
  | 0 => rfl
  | w + 1 => coM_2 S i w
/-- check's loops -/
def gsM (S : Mm) (i : Nat) : Nat → Int32
  | 0 => S.1 (2, 0, 25) i + S.1 (2, 0, 24) i + S.1 (2, 0, 23) i
  | j + 1 => gsM S i j + S.1 (2, 0, 13) (8 * i + j)
def ckM (S : Mm) (i : Nat) (b : Int32) : Nat → Int32
  | 0 => b
  | w + 1 => if ckM S i b w = 0 then 0 else if S.1 (2, 0, 6) (6 * i + w) = S.1 (2, 0, 3) (6 * i + w) + S.1 (2, 0, 4) (6 * i + w) + S.1 (2, 0, 5) (6 * i + w) + S.1 (2, 0, 7) (6 * i + w) then 1 else 0
/-- foretell's -/
def fsM (S : Mm) (i g h : Nat) : Nat → Int32
  | 0 => 0
  | k + 1 => fsM S i g h k + v_X7_rate S i g (h + k)
/-- when's -/
def stM (S : Mm) (i : Nat) (g : Int32) : Nat → Int32
  | 0 => 0
  | k + 1 => stM S i g k + (if S.1 (2, 0, 10) (8 * i + k) = g then S.1 (2, 0, 13) (8 * i + k) else 0)
def whM (S : Mm) (i g h : Nat) (all : Int32) : Nat → Nat → Int32 → Int32
  | 0, _, _ => -9
  | f + 1, c, s => if s + v_X7_rate S i g (h + c - 1) < 1000 * all then whM S i g h all f (c + 1) (s + v_X7_rate S i g (h + c - 1)) else nI c
