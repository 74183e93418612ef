/-! the model's change: the table, and what is read out of it -/
def byN : Nat → Nat
  | 0 => 50 | 1 => 20 | 2 => 10 | 3 => 5 | 4 => 2 | _ => 1
theorem byN_pos (w : Nat) : 0 < byN w := by unfold byN; split <;> decide
theorem wths_by (w : Nat) (h : w < 6) : wths w / 10 = nI (byN w) := by
  rcases (show w = 0 ∨ w = 1 ∨ w = 2 ∨ w = 3 ∨ w = 4 ∨ w = 5 by omega) with rfl | rfl | rfl | rfl | rfl | rfl <;> decide
def mnN (Fn : Nat → Nat) (b a : Nat) : Nat → Nat
  | 0 => 1000
  | c + 1 => if c + Fn (a - c * b) < mnN Fn b a c then c + Fn (a - c * b) else mnN Fn b a c
def rowN (Fn : Nat → Nat) (b hv a : Nat) : Nat := mnN Fn b a (min hv (a / b) + 1)
def fcR (hv : Nat → Nat) : Nat → Nat → Nat
  | 0 => fun a => if a = 0 then 0 else 1000
  | r + 1 => fun a => rowN (fcR hv r) (byN (5 - r)) (hv (5 - r)) a
theorem mnN_le (Fn : Nat → Nat) (b a : Nat) : ∀ c, mnN Fn b a c ≤ 1000
  | 0 => Nat.le_refl _
  | c + 1 => by
    have := mnN_le Fn b a c
    unfold mnN
    split <;> omega
theorem mnN_att (Fn : Nat → Nat) (b a : Nat) : ∀ c, mnN Fn b a c < 1000 → ∃ c', c' < c ∧ c' + Fn (a - c' * b) = mnN Fn b a c
  | 0, h => by simp [mnN] at h
  | c + 1, h => by
    unfold mnN at h ⊢
    split at h
    · rename_i h1
      rw [if_pos h1]
      exact ⟨c, by omega, rfl⟩
    · rename_i h1
      rw [if_neg h1]
      obtain ⟨c', h2, h3⟩ := mnN_att Fn b a c h
      exact ⟨c', by omega, h3⟩
theorem mnN_min (Fn : Nat → Nat) (b a : Nat) : ∀ c c', c' < c → mnN Fn b a c ≤ c' + Fn (a - c' * b)
  | 0, c', h => by omega
  | c + 1, c', h => by
    unfold mnN
    by_cases e : c' = c
    · subst e
      split <;> omega
    · have := mnN_min Fn b a c c' (by omega)
      split <;> omega
theorem fcR_le (hv : Nat → Nat) : ∀ r a, fcR hv r a ≤ 1000
  | 0, a => by unfold fcR; split <;> omega
  | r + 1, a => mnN_le _ _ _ _
/-- czM: chosen all 0 -/
def czM (S : Mm) : Nat → Mm
  | 0 => S
  | w + 1 => wI (czM S w) (2, 0, 32) w 0
def fbM (S : Mm) : Nat → Mm
  | 0 => S
  | a + 1 => wI (fbM S a) (2, 0, 31) (12006 + a) (if nI a = 0 then 0 else 1000)
def frM (S : Mm) (w : Nat) (Fn : Nat → Nat) (b hv : Nat) : Nat → Mm
  | 0 => S
  | a + 1 => wI (frM S w Fn b hv a) (2, 0, 31) (2001 * w + a) (nI (rowN Fn b hv a))
def fwM (S : Mm) (hv : Nat → Nat) (tens : Nat) : Nat → Mm
  | 0 => S
  | r + 1 => frM (fwM S hv tens r) (5 - r) (fcR hv r) (byN (5 - r)) (hv (5 - r)) (tens + 1)
def fFC : Ln → Nat → Prop := fun k _ => k = (2, 0, 31) ∨ k = (2, 0, 32)
theorem czM_but (S : Mm) : ∀ w, but fFC S (czM S w)
  | 0 => but.rf
  | w + 1 => (czM_but S w).wI (Or.inr rfl)
theorem fbM_but (S : Mm) : ∀ w, but fFC S (fbM S w)
  | 0 => but.rf
  | w + 1 => (fbM_but S w).wI (Or.inl rfl)
theorem frM_but (S : Mm) (w : Nat) (Fn : Nat → Nat) (b hv : Nat) : ∀ a, but fFC S (frM S w Fn b hv a)
  | 0 => but.rf
  | a + 1 => (frM_but S w Fn b hv a).wI (Or.inl rfl)
theorem fwM_but (S : Mm) (hv : Nat → Nat) (tens : Nat) : ∀ r, but fFC S (fwM S hv tens r)
  | 0 => but.rf
  | r + 1 => (fwM_but S hv tens r).tr (frM_but _ _ _ _ _ _)
theorem wI_same {S : Mm} {k : Ln} {j : Nat} {v : Int32} : (wI S k j v).1 k j = v := by simp [wI]
theorem wI_ne {S : Mm} {k k' : Ln} {j j' : Nat} {v : Int32} (h : ¬ (k' = k ∧ j' = j)) : (wI S k j v).1 k' j' = S.1 k' j' := by
  show (if k' = k ∧ j' = j then v else S.1 k' j') = _
  rw [if_neg h]
theorem czM_at (S : Mm) : ∀ n w, w < n → (czM S n).1 (2, 0, 32) w = 0
  | 0, w, h => by omega
  | n + 1, w, h => by
    by_cases e : w = n
    · subst e; exact wI_same
    · exact (wI_ne (fun q => e q.2)).trans (czM_at S n w (by omega))
theorem fbM_at (S : Mm) : ∀ n a, a < n → n ≤ 2001 → (fbM S n).1 (2, 0, 31) (12006 + a) = nI (if a = 0 then 0 else 1000)
  | 0, a, h, _ => by omega
  | n + 1, a, h, hn => by
    by_cases e : a = n
    · subst e
      refine wI_same.trans ?_
      by_cases e0 : a = 0
      · subst e0; rfl
      · rw [if_neg (nI_ne0 (by omega) (by omega)), if_neg e0]; rfl
    · exact (wI_ne (fun q => e (by have := q.2; omega))).trans (fbM_at S n a (by omega) (by omega))
theorem frM_at (S : Mm) (w : Nat) (Fn : Nat → Nat) (b hv : Nat) : ∀ n a, a < n → (frM S w Fn b hv n).1 (2, 0, 31) (2001 * w + a) = nI (rowN Fn b hv a)
  | 0, a, h => by omega
  | n + 1, a, h => by
    by_cases e : a = n
    · subst e; exact wI_same
    · exact (wI_ne (fun q => e (by have := q.2; omega))).trans (frM_at S w Fn b hv n a (by omega))
theorem frM_up (S : Mm) (w : Nat) (Fn : Nat → Nat) (b hv : Nat) : ∀ n j, (j < 2001 * w ∨ 2001 * w + n ≤ j) → (frM S w Fn b hv n).1 (2, 0, 31) j = S.1 (2, 0, 31) j
  | 0, j, h => rfl
  | n + 1, j, h => (wI_ne (fun q => by have := q.2; omega)).trans (frM_up S w Fn b hv n j (by omega))
theorem frM_ch (S : Mm) (w : Nat) (Fn : Nat → Nat) (b hv : Nat) : ∀ n j, (frM S w Fn b hv n).1 (2, 0, 32) j = S.1 (2, 0, 32) j
  | 0, j => rfl
  | n + 1, j => (wI_ne (fun q => by cases q.1)).trans (frM_ch S w Fn b hv n j)
theorem fwM_ch (S : Mm) (hv : Nat → Nat) (tens : Nat) : ∀ r j, (fwM S hv tens r).1 (2, 0, 32) j = S.1 (2, 0, 32) j
  | 0, j => rfl
  | r + 1, j => (frM_ch _ _ _ _ _ _ j).trans (fwM_ch S hv tens r j)
theorem fbM_ch (S : Mm) : ∀ n j, (fbM S n).1 (2, 0, 32) j = S.1 (2, 0, 32) j
  | 0, j => rfl
  | n + 1, j => (wI_ne (fun q => by cases q.1)).trans (fbM_ch S n j)
/-- the rows that are done -/
theorem fwM_at (S : Mm) (hv : Nat → Nat) {tens : Nat} (ht : tens ≤ 2000) (h0 : ∀ a, a ≤ tens → S.1 (2, 0, 31) (12006 + a) = nI (fcR hv 0 a)) : ∀ r, r ≤ 6 → ∀ r', r' ≤ r → ∀ a, a ≤ tens → (fwM S hv tens r).1 (2, 0, 31) (2001 * (6 - r') + a) = nI (fcR hv r' a)
  | 0, _, r', hr, a, ha => by
    have e : r' = 0 := by omega
    subst e
    exact h0 a ha
  | r + 1, h6, r', hr, a, ha => by
    by_cases e : r' = r + 1
    · subst e
      have := frM_at (fwM S hv tens r) (5 - r) (fcR hv r) (byN (5 - r)) (hv (5 - r)) (tens + 1) a (by omega)
      rw [show 6 - (r + 1) = 5 - r by omega]
      exact this
    · refine (frM_up _ _ _ _ _ _ _ (Or.inr (by omega))).trans (fwM_at S hv ht h0 r (by omega) r' (by omega) a ha)
/-- reading the table -/
def exN (Fn : Nat → Nat) (tot b left : Nat) : Nat → Nat
  | 0 => 0
  | c + 1 => if c + 1 + Fn (left - (c + 1) * b) = tot then c + 1 else exN Fn tot b left c
theorem exN_le (Fn : Nat → Nat) (tot b left : Nat) : ∀ c, exN Fn tot b left c ≤ c
  | 0 => Nat.le_refl _
  | c + 1 => by
    unfold exN
    split
    · exact Nat.le_refl _
    · have := exN_le Fn tot b left c; omega
theorem exN_hit (Fn : Nat → Nat) (tot b left : Nat) : ∀ c, (∃ c', c' ≤ c ∧ c' + Fn (left - c' * b) = tot) → exN Fn tot b left c + Fn (left - exN Fn tot b left c * b) = tot
  | 0, ⟨c', h1, h2⟩ => by
    have e : c' = 0 := by omega
    subst e
    exact h2
  | c + 1, ⟨c', h1, h2⟩ => by
    unfold exN
    split
    · rename_i h; exact h
    · rename_i h
      exact exN_hit Fn tot b left c ⟨c', by
        rcases Nat.lt_or_ge c' (c + 1) with q | q
        · omega
        · have e : c' = c + 1 := by omega
          subst e
          exact absurd h2 h, h2⟩
theorem exN_max (Fn : Nat → Nat) (tot b left : Nat) : ∀ c c', c' ≤ c → c' + Fn (left - c' * b) = tot → c' ≤ exN Fn tot b left c
  | 0, c', h, _ => by omega
  | c + 1, c', h, h2 => by
    unfold exN
    split
    · exact h
    · rename_i h3
      refine exN_max Fn tot b left c c' ?_ h2
      rcases Nat.lt_or_ge c' (c + 1) with q | q
      · omega
      · have e : c' = c + 1 := by omega
        subst e
        exact absurd h2 h3
def cwN (hv : Nat → Nat) (w left : Nat) : Nat := exN (fcR hv (5 - w)) (fcR hv (6 - w) left) (byN w) left (min (hv w) (left / byN w))
def lfN (hv : Nat → Nat) (tens : Nat) : Nat → Nat
  | 0 => tens
  | w + 1 => lfN hv tens w - cwN hv w (lfN hv tens w) * byN w
theorem lfN_le (hv : Nat → Nat) (tens : Nat) : ∀ w, lfN hv tens w ≤ tens
  | 0 => Nat.le_refl _
  | w + 1 => Nat.le_trans (Nat.sub_le _ _) (lfN_le hv tens w)
theorem cwN_le (hv : Nat → Nat) (w left : Nat) : cwN hv w left ≤ hv w ∧ cwN hv w left * byN w ≤ left := by
  have h := exN_le (fcR hv (5 - w)) (fcR hv (6 - w) left) (byN w) left (min (hv w) (left / byN w))
  refine ⟨Nat.le_trans h (Nat.min_le_left _ _), ?_⟩
  have h2 : cwN hv w left ≤ left / byN w := Nat.le_trans h (Nat.min_le_right _ _)
  exact (Nat.le_div_iff_mul_le (byN_pos w)).mp h2
theorem fc_att (hv : Nat → Nat) (w left : Nat) (hw : w < 6) (h : fcR hv (6 - w) left < 1000) : ∃ c', c' ≤ min (hv w) (left / byN w) ∧ c' + fcR hv (5 - w) (left - c' * byN w) = fcR hv (6 - w) left := by
  obtain ⟨r, hr⟩ : ∃ r, 6 - w = r + 1 := ⟨5 - w, by omega⟩
  have hr2 : 5 - w = r := by omega
  have hr3 : 5 - r = w := by omega
  rw [hr] at h ⊢
  rw [hr2]
  have h' : mnN (fcR hv r) (byN (5 - r)) left (min (hv (5 - r)) (left / byN (5 - r)) + 1) < 1000 := h
  obtain ⟨c', h1, h2⟩ := mnN_att _ _ _ _ h'
  rw [hr3] at h1 h2
  refine ⟨c', by omega, ?_⟩
  rw [h2]
  show _ = mnN (fcR hv r) (byN (5 - r)) left (min (hv (5 - r)) (left / byN (5 - r)) + 1)
  rw [hr3]
theorem cwN_hit (hv : Nat → Nat) (w left : Nat) (hw : w < 6) (h : fcR hv (6 - w) left < 1000) : cwN hv w left + fcR hv (5 - w) (left - cwN hv w left * byN w) = fcR hv (6 - w) left :=
  exN_hit _ _ _ _ _ (fc_att hv w left hw h)
theorem lfN_ok (hv : Nat → Nat) (tens : Nat) (h : fcR hv 6 tens < 1000) : ∀ w, w ≤ 6 → fcR hv (6 - w) (lfN hv tens w) < 1000
  | 0, _ => h
  | w + 1, hw => by
    have h1 := lfN_ok hv tens h w (by omega)
    have h2 := cwN_hit hv w (lfN hv tens w) (by omega) h1
    rw [show 6 - (w + 1) = 5 - w by omega]
    show fcR hv (5 - w) (lfN hv tens w - cwN hv w (lfN hv tens w) * byN w) < 1000
    omega
def chM (S : Mm) (hv : Nat → Nat) (tens : Nat) : Nat → Mm
  | 0 => S
  | w + 1 => wI (chM S hv tens w) (2, 0, 32) w (nI (cwN hv w (lfN hv tens w)))
theorem chM_but (S : Mm) (hv : Nat → Nat) (tens : Nat) : ∀ w, but fFC S (chM S hv tens w)
  | 0 => but.rf
  | w + 1 => (chM_but S hv tens w).wI (Or.inr rfl)
theorem chM_tab (S : Mm) (hv : Nat → Nat) (tens : Nat) : ∀ w j, (chM S hv tens w).1 (2, 0, 31) j = S.1 (2, 0, 31) j
  | 0, j => rfl
  | w + 1, j => (wI_ne (fun q => by cases q.1)).trans (chM_tab S hv tens w j)
theorem chM_at (S : Mm) (hv : Nat → Nat) (tens : Nat) : ∀ n w, w < n → (chM S hv tens n).1 (2, 0, 32) w = nI (cwN hv w (lfN hv tens w))
  | 0, w, h => by omega
  | n + 1, w, h => by
    by_cases e : w = n
    · subst e; exact wI_same
    · exact (wI_ne (fun q => e q.2)).trans (chM_at S hv tens n w (by omega))
def wv (r : Nat) : Int32 := if r ≤ 5 then nI (5 - r) else -1
theorem wv_s (r : Nat) (h : r ≤ 5) : nI (5 - r) + (-1) = wv (r + 1) := by
  unfold wv
  by_cases e : r = 5
  · subst e; rfl
  · rw [if_pos (by omega)]
    obtain ⟨m, hm⟩ : ∃ m, 5 - r = m + 1 := ⟨4 - r, by omega⟩
    rw [hm, pk_m1]
    congr 1
    omega
/-- the table's memory when it is full -/
def tbM (S : Mm) (hv : Nat → Nat) (tens : Nat) : Mm := fwM (fbM (czM S 6) (tens + 1)) hv tens 6
theorem tbM_but (S : Mm) (hv : Nat → Nat) (tens : Nat) : but fFC S (tbM S hv tens) := ((czM_but S 6).tr (fbM_but _ _)).tr (fwM_but _ hv tens 6)
theorem tbM_at (S : Mm) (hv : Nat → Nat) {tens : Nat} (ht : tens ≤ 2000) (w : Nat) (hw : w ≤ 6) (a : Nat) (ha : a ≤ tens) : (tbM S hv tens).1 (2, 0, 31) (2001 * w + a) = nI (fcR hv (6 - w) a) := by
  have := fwM_at (fbM (czM S 6) (tens + 1)) hv ht (fun a ha => fbM_at _ (tens + 1) a (by omega) (by omega)) 6 (by omega) (6 - w) (by omega) a ha
  rw [show 6 - (6 - w) = w by omega] at this
  exact this
theorem tbM_ch (S : Mm) (hv : Nat → Nat) (tens w : Nat) (hw : w < 6) : (tbM S hv tens).1 (2, 0, 32) w = 0 := ((fwM_ch _ hv tens 6 w).trans (fbM_ch _ _ w)).trans (czM_at S 6 w hw)
