/-! the class's van -/
def v_space (S : Mm) (i j : Nat) : Int32 := if v_closed S i j = 0 then S.1 (3, i, j) 1 - S.1 (3, i, j) 5 else 0
def v_gain (S : Mm) (i j : Nat) (p : Int32) : Int32 := S.1 (3, i, j) 4 * 256 - p
def xqM (S : Mm) (j : Nat) (Fn : Nat → Nat) (s g mt : Nat) : Nat → Mm
  | 0 => S
  | r + 1 => wI (xqM S j Fn s g mt r) (4, 0, j) r (nI (lrN Fn s g mt r))
def fVn : Ln → Nat → Prop := fun k _ => k.1 = 4 ∨ k = (0, 0, 10)
theorem xqM_but (S : Mm) (j : Nat) (Fn : Nat → Nat) (s g mt : Nat) : ∀ r, but fVn S (xqM S j Fn s g mt r)
  | 0 => but.rf
  | r + 1 => (xqM_but S j Fn s g mt r).wI (Or.inl rfl)
theorem xqM_at (S : Mm) (j : Nat) (Fn : Nat → Nat) (s g mt : Nat) : ∀ n a, a < n → (xqM S j Fn s g mt n).1 (4, 0, j) a = nI (lrN Fn s g mt a)
  | 0, a, h => by omega
  | n + 1, a, h => by
    by_cases e : a = n
    · subst e; exact wI_same
    · exact (wI_ne (fun q => e q.2)).trans (xqM_at S j Fn s g mt n a (by omega))
theorem xqM_up (S : Mm) (j : Nat) (Fn : Nat → Nat) (s g mt : Nat) (j' : Nat) (hj : j' ≠ j) : ∀ n a, (xqM S j Fn s g mt n).1 (4, 0, j') a = S.1 (4, 0, j') a
  | 0, a => rfl
  | n + 1, a => (wI_ne (fun q => hj (by cases q.1; rfl))).trans (xqM_up S j Fn s g mt j' hj n a)
def lfI (r s k : Nat) : Int32 := nI r - nI (k * s)
theorem lfI_0 (r s : Nat) : lfI r s 0 = nI r := by unfold lfI; rw [Nat.zero_mul]; exact Int32.sub_zero _
theorem lfI_s (r s k : Nat) : lfI r s k - nI s = lfI r s (k + 1) := by
  unfold lfI
  rw [Nat.succ_mul, ← nI_add, Int32.sub_eq_add_neg, Int32.sub_eq_add_neg, Int32.sub_eq_add_neg, Int32.neg_add, Int32.sub_eq_add_neg, Int32.add_assoc]
theorem lfI_n {r s k : Nat} (h : k * s ≤ r) : lfI r s k = nI (r - k * s) := pk_sub h
theorem if_max {a b : Nat} (ha : a < 2 ^ 31) (hb : b < 2 ^ 31) : (if nI a < nI b then nI b else nI a) = nI (if b ≤ a then a else b) := by
  by_cases h : b ≤ a
  · rw [if_neg (fun q => by have := (nI_ltI ha hb).mp q; omega), if_pos h]
  · rw [if_pos ((nI_ltI ha hb).mpr (by omega)), if_neg h]
def xdR (mt sz gx : Nat → Nat) (n : Nat) : Nat → Nat → Nat
  | 0 => fun _ => 0
  | k + 1 => fun r => lrN (xdR mt sz gx n k) (sz (n - 1 - k)) (gx (n - 1 - k)) (mt (n - 1 - k)) r
theorem xdR_le {mt sz gx : Nat → Nat} {n : Nat} (hm : ∀ l, l < n → mt l ≤ 20) (hg : ∀ l, l < n → gx l ≤ 2000000) : ∀ k, k ≤ n → ∀ r, xdR mt sz gx n k r ≤ k * 40000000
  | 0, _, r => Nat.le_of_eq (by show 0 = _; simp)
  | k + 1, hk, r => by
    refine mxN_le _ (fun c' hc => ?_)
    have h1 := xdR_le (sz := sz) hm hg k (by omega) (r - c' * sz (n - 1 - k))
    have h2 := hm (n - 1 - k) (by omega)
    have h3 := hg (n - 1 - k) (by omega)
    have h4 : c' * gx (n - 1 - k) ≤ 20 * 2000000 := Nat.mul_le_mul (by have := Nat.min_le_left (mt (n - 1 - k)) (r / sz (n - 1 - k)); omega) h3
    omega
def maN (Fn : Nat → Nat) (tot s g left : Nat) : Nat → Nat
  | 0 => 0
  | k + 1 => if k * g + Fn (left - k * s) = tot then k else maN Fn tot s g left k
theorem maN_ex (Fn : Nat → Nat) (tot s g left : Nat) : ∀ c, maN Fn tot s g left (c + 1) = exL Fn tot s g left c
  | 0 => by
    unfold maN exL
    split <;> rfl
  | c + 1 => by
    have h := maN_ex Fn tot s g left c
    rw [maN, exL]
    by_cases q : (c + 1) * g + Fn (left - (c + 1) * s) = tot
    · rw [if_pos q, if_pos q]
    · rw [if_neg q, if_neg q, h]
theorem maN_le (Fn : Nat → Nat) (tot s g left : Nat) : ∀ c, maN Fn tot s g left (c + 1) ≤ c := fun c => by rw [maN_ex]; exact exL_le _ _ _ _ _ c
/-- what the table is made of -/
def VaH (S : Mm) (gd mt sz gx : Nat → Nat) (i n : Nat) : Prop := (∀ j, j < n → S.1 (3, i, j) 0 = nI (gd j) ∧ gd j < 16) ∧ (∀ j, j < n → v_space S i j = nI (mt j) ∧ mt j ≤ 20) ∧ (∀ j, j < n → S.1 (0, 0, 2) (gd j) = nI (sz j) ∧ 1 ≤ sz j ∧ sz j ≤ 9) ∧ (∀ j, j < n → v_gain S i j (nI (sz j)) = nI (gx j) ∧ gx j ≤ 2000000)
theorem VaH.but {S T : Mm} {gd mt sz gx : Nat → Nat} {i n : Nat} (h : but fVn S T) (hL : VaH S gd mt sz gx i n) : VaH T gd mt sz gx i n := by
  obtain ⟨h1, h2, h3, h4⟩ := hL
  have rd : ∀ j q, T.1 (3, i, j) q = S.1 (3, i, j) q := fun j q => h.2 _ _ (fun z => by rcases z with z | z <;> cases z)
  have e1 : ∀ j, v_closed T i j = v_closed S i j := fun j => by unfold v_closed; rw [rd, rd]
  refine ⟨fun j hj => by rw [rd]; exact h1 j hj, fun j hj => ?_, fun j hj => ?_, fun j hj => ?_⟩
  · have := h2 j hj
    unfold v_space at *
    rw [e1, rd, rd]; exact this
  · rw [h.2 (0, 0, 2) _ (fun z => by rcases z with z | z <;> cases z)]; exact h3 j hj
  · have := h4 j hj
    unfold v_gain at *
    rw [rd]; exact this
def xc (mt sz gx : Nat → Nat) (n j left : Nat) : Nat := maN (xdR mt sz gx n (n - 1 - j)) (xdR mt sz gx n (n - j) left) (sz j) (gx j) left (min (mt j) (left / sz j) + 1)
def xll (mt sz gx : Nat → Nat) (n room : Nat) : Nat → Nat
  | 0 => room
  | j + 1 => xll mt sz gx n room j - xc mt sz gx n j (xll mt sz gx n room j) * sz j
theorem xll_le (mt sz gx : Nat → Nat) (n room : Nat) : ∀ j, xll mt sz gx n room j ≤ room
  | 0 => Nat.le_refl _
  | j + 1 => Nat.le_trans (Nat.sub_le _ _) (xll_le mt sz gx n room j)
theorem xc_le (mt sz gx : Nat → Nat) (n j left : Nat) (hs : 0 < sz j) : xc mt sz gx n j left ≤ mt j ∧ xc mt sz gx n j left * sz j ≤ left := by
  have h := maN_le (xdR mt sz gx n (n - 1 - j)) (xdR mt sz gx n (n - j) left) (sz j) (gx j) left (min (mt j) (left / sz j))
  refine ⟨Nat.le_trans h (Nat.min_le_left _ _), ?_⟩
  exact (Nat.le_div_iff_mul_le hs).mp (Nat.le_trans h (Nat.min_le_right _ _))
def xpM (S : Mm) (mt sz gx : Nat → Nat) (n room : Nat) : Nat → Mm
  | 0 => S
  | j + 1 => wI (xpM S mt sz gx n room j) (0, 0, 10) j (nI (xc mt sz gx n j (xll mt sz gx n room j)))
theorem xpM_but (S : Mm) (mt sz gx : Nat → Nat) (n room : Nat) : ∀ j, but fVn S (xpM S mt sz gx n room j)
  | 0 => but.rf
  | j + 1 => (xpM_but S mt sz gx n room j).wI (Or.inr rfl)
def xvI (S : Mm) (i : Nat) (mt sz gx : Nat → Nat) (n room : Nat) : Nat → Int32
  | 0 => 0
  | j + 1 => xvI S i mt sz gx n room j + nI (xc mt sz gx n j (xll mt sz gx n room j)) * S.1 (3, i, j) 4
def xwM (S : Mm) (mt sz gx : Nat → Nat) (n room : Nat) : Nat → Mm
  | 0 => S
  | k + 1 => xqM (xwM S mt sz gx n room k) (n - 1 - k) (xdR mt sz gx n k) (sz (n - 1 - k)) (gx (n - 1 - k)) (mt (n - 1 - k)) (room + 1)
theorem xwM_but (S : Mm) (mt sz gx : Nat → Nat) (n room : Nat) : ∀ k, but fVn S (xwM S mt sz gx n room k)
  | 0 => but.rf
  | k + 1 => (xwM_but S mt sz gx n room k).tr (xqM_but _ _ _ _ _ _ _)
theorem xwM_at (S : Mm) (mt sz gx : Nat → Nat) (n : Nat) {room : Nat} (h0 : ∀ a, a ≤ room → S.1 (4, 0, n) a = nI 0) : ∀ k, k ≤ n → ∀ k', k' ≤ k → ∀ a, a ≤ room → (xwM S mt sz gx n room k).1 (4, 0, n - k') a = nI (xdR mt sz gx n k' a)
  | 0, _, k', hr, a, ha => by
    have e : k' = 0 := by omega
    subst e
    exact h0 a ha
  | k + 1, hk, k', hr, a, ha => by
    by_cases e : k' = k + 1
    · subst e
      have := xqM_at (xwM S mt sz gx n room k) (n - 1 - k) (xdR mt sz gx n k) (sz (n - 1 - k)) (gx (n - 1 - k)) (mt (n - 1 - k)) (room + 1) a (by omega)
      rw [show n - (k + 1) = n - 1 - k by omega]
      exact this
    · exact (xqM_up _ _ _ _ _ _ _ (by omega) _ _).trans (xwM_at S mt sz gx n h0 k (by omega) k' (by omega) a ha)
def wvn (n k : Nat) : Int32 := if k < n then nI (n - 1 - k) else -1
theorem wvn_0 (n : Nat) : nI n - 1 = wvn n 0 := by
  unfold wvn
  cases n with
  | zero => rfl
  | succ m => rw [if_pos (by omega), nI_pred]; rfl
theorem wvn_s (n k : Nat) (h : k < n) : nI (n - 1 - k) + (-1) = wvn n (k + 1) := by
  unfold wvn
  by_cases e : k + 1 < n
  · rw [if_pos e]
    obtain ⟨m, hm⟩ : ∃ m, n - 1 - k = m + 1 := ⟨n - 2 - k, by omega⟩
    rw [hm, pk_m1]
    congr 1
    omega
  · rw [if_neg e, show n - 1 - k = 0 by omega]; rfl
/-- the table's memory, and the memory behind plan -/
def xtM (S : Mm) (mt sz gx : Nat → Nat) (n room : Nat) : Mm := xwM (flM S (4, 0, n) 0 201) mt sz gx n room n
theorem flM_vn (S : Mm) (n : Nat) (v : Int32) (w : Nat) : but fVn S (flM S (4, 0, n) v w) := (flM_but S (4, 0, n) v w).mono (fun k _ q => by cases q; exact Or.inl rfl)
theorem flM_vp (S : Mm) (v : Int32) (w : Nat) : but fVn S (flM S (0, 0, 10) v w) := (flM_but S (0, 0, 10) v w).mono (fun k _ q => Or.inr q)
theorem xtM_but (S : Mm) (mt sz gx : Nat → Nat) (n room : Nat) : but fVn S (xtM S mt sz gx n room) := (flM_vn S n 0 201).tr (xwM_but _ _ _ _ _ _ _)
theorem xtM_at (S : Mm) (mt sz gx : Nat → Nat) (n : Nat) {room : Nat} (hr : room ≤ 200) (j : Nat) (hj : j ≤ n) (a : Nat) (ha : a ≤ room) : (xtM S mt sz gx n room).1 (4, 0, j) a = nI (xdR mt sz gx n (n - j) a) := by
  have := xwM_at (flM S (4, 0, n) 0 201) mt sz gx n (fun a ha => flM_at S (4, 0, n) 0 201 a (by omega)) n (Nat.le_refl _) (n - j) (by omega) a ha
  rw [show n - (n - j) = j by omega] at this
  exact this
