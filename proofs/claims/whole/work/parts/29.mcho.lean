/-! the model's settling of a sale -/
def nSe (U : Mm) (i w : Nat) : Int32 := U.1 (2, 0, 3) (6 * i + w) + U.1 (2, 0, 5) (6 * i + w) - U.1 (2, 0, 32) w
def seM (S : Mm) (i : Nat) : Nat → Mm
  | 0 => S
  | w + 1 => wI (wI (wI (wI (wI (seM S i w) (2, 0, 5) (6 * i + w) 0) (2, 0, 3) (6 * i + w) (if nSe (seM S i w) i w ≤ 50 then nSe (seM S i w) i w else 50)) (2, 0, 4) (6 * i + w) ((seM S i w).1 (2, 0, 4) (6 * i + w) + (if nSe (seM S i w) i w ≤ 50 then 0 else nSe (seM S i w) i w - 50))) (2, 0, 28) w ((seM S i w).1 (2, 0, 32) w)) (2, 0, 7) (6 * i + w) ((seM S i w).1 (2, 0, 7) (6 * i + w) + (seM S i w).1 (2, 0, 32) w)
theorem seM_2 (S : Mm) (i : Nat) : ∀ w, (seM S i w).2 = S.2
  | 0 => rfl
  | w + 1 => seM_2 S i w
