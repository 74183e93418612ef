/-! the class's change: sixteen ways -/
def wN : Nat → Nat
  | 0 => 500 | 1 => 200 | 2 => 100 | 3 => 50 | 4 => 20 | _ => 10
theorem wths_N (w : Nat) (h : w < 6) : wths w = nI (wN w) := by
  rcases (show w = 0 ∨ w = 1 ∨ w = 2 ∨ w = 3 ∨ w = 4 ∨ w = 5 by omega) with rfl | rfl | rfl | rfl | rfl | rfl <;> rfl
theorem wN_pos (w : Nat) : 0 < wN w := by unfold wN; split <;> decide
theorem wN_le (w : Nat) : wN w ≤ 500 := by unfold wN; split <;> decide
def lsN (ways w : Nat) : Nat := if w < 4 then ways / 2 ^ (3 - w) % 2 else 0
theorem lsN_le (ways w : Nat) : lsN ways w ≤ 1 := by unfold lsN; split <;> omega
theorem ls_eq : ∀ ways, ways < 16 → ∀ w, w < 4 → (nI ways >>> (nI (3 - w) &&& 31)) &&& 1 = nI (lsN ways w) := by decide +kernel
def moN (hv : Nat → Nat) (w left : Nat) : Nat := min (hv w) (left / wN w)
def cowV (hv : Nat → Nat) (ways : Nat) : Nat → Nat → Nat → Nat → Int32
  | 0, _, left, coins => if left = 0 then nI coins else -9
  | f + 1, w, left, coins => if moN hv w left < lsN ways w then -9 else cowV hv ways f (w + 1) (left - (moN hv w left - lsN ways w) * wN w) (coins + (moN hv w left - lsN ways w))
def cowM (hv : Nat → Nat) (ways : Nat) : Nat → Nat → Nat → Mm → Mm
  | 0, _, _, T => T
  | f + 1, w, left, T => if moN hv w left < lsN ways w then T else cowM hv ways f (w + 1) (left - (moN hv w left - lsN ways w) * wN w) (wI T (0, 0, 6) w (nI (moN hv w left - lsN ways w)))
def fTr : Ln → Nat → Prop := fun k _ => k = (0, 0, 6)
def fCh : Ln → Nat → Prop := fun k _ => k = (0, 0, 6) ∨ k = (0, 0, 7)
theorem cowM_but (hv : Nat → Nat) (ways : Nat) : ∀ f w left (S T : Mm), but fTr S T → but fTr S (cowM hv ways f w left T)
  | 0, _, _, _, _, h => h
  | f + 1, w, left, S, T, h => by
    unfold cowM
    split
    · exact h
    · exact cowM_but hv ways f (w + 1) _ S _ (h.wI rfl)
def fewV (hv : Nat → Nat) (sum : Nat) : Nat → Int32
  | 0 => -9
  | k + 1 => if cowV hv k 6 0 sum 0 = -9 then fewV hv sum k else (if fewV hv sum k = -9 then cowV hv k 6 0 sum 0 else (if fewV hv sum k ≤ cowV hv k 6 0 sum 0 then fewV hv sum k else cowV hv k 6 0 sum 0))
def fewM (S : Mm) (hv : Nat → Nat) (sum : Nat) : Nat → Mm
  | 0 => S
  | k + 1 => if cowV hv k 6 0 sum 0 = -9 then cowM hv k 6 0 sum (fewM S hv sum k) else (if fewV hv sum k = -9 then cpyI (cowM hv k 6 0 sum (fewM S hv sum k)) (0, 0, 6) (0, 0, 7) 6 else (if fewV hv sum k ≤ cowV hv k 6 0 sum 0 then cowM hv k 6 0 sum (fewM S hv sum k) else cpyI (cowM hv k 6 0 sum (fewM S hv sum k)) (0, 0, 6) (0, 0, 7) 6))
theorem but.cpy {S T : Mm} (h : but fCh S T) : but fCh S (cpyI T (0, 0, 6) (0, 0, 7) 6) := ⟨h.1, fun k j q => by
  have : ¬ (k = (0, 0, 7) ∧ j < 6) := fun z => q (Or.inr z.1)
  show (if k = (0, 0, 7) ∧ j < 6 then _ else T.1 k j) = _
  rw [if_neg this]; exact h.2 k j q⟩
theorem cow_but' (hv : Nat → Nat) (ways f w left : Nat) (T : Mm) : but fCh T (cowM hv ways f w left T) := (cowM_but hv ways f w left T T but.rf).mono (fun _ _ q => Or.inl q)
theorem fewM_but (S : Mm) (hv : Nat → Nat) (sum : Nat) : ∀ k, but fCh S (fewM S hv sum k)
  | 0 => but.rf
  | k + 1 => by
    have h := (fewM_but S hv sum k).tr (cow_but' hv k 6 0 sum (fewM S hv sum k))
    unfold fewM
    split
    · exact h
    · split
      · exact h.cpy
      · split
        · exact h
        · exact h.cpy
/-- the changer's cells -/
def ChS (S : Mm) : Prop := S.2.2 (0, 0, 5) = true ∧ S.2.2 (0, 0, 6) = true ∧ S.2.2 (0, 0, 7) = true ∧ S.2.1 (0, 0, 5) 0 = some (0, 0, 6) ∧ S.2.1 (0, 0, 5) 1 = some (0, 0, 7)
theorem ChS.same {S T : Mm} (e : T.2 = S.2) (h : ChS S) : ChS T := by unfold ChS at *; rw [e]; exact h
