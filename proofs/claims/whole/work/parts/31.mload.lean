/-! the model's loads: the table, and what is read out of it -/
def mxN (Fn : Nat → Nat) (s g r : Nat) : Nat → Nat
  | 0 => 0
  | c + 1 => if c * g + Fn (r - c * s) ≤ mxN Fn s g r c then mxN Fn s g r c else c * g + Fn (r - c * s)
def lrN (Fn : Nat → Nat) (s g mt r : Nat) : Nat := mxN Fn s g r (min mt (r / s) + 1)
def ldR (mt sz gn : Nat → Nat) : Nat → Nat → Nat
  | 0 => fun _ => 0
  | k + 1 => fun r => lrN (ldR mt sz gn k) (sz (7 - k)) (gn (7 - k)) (mt (7 - k)) r
theorem mxN_le {Fn : Nat → Nat} {s g r B : Nat} : ∀ c, (∀ c', c' < c → c' * g + Fn (r - c' * s) ≤ B) → mxN Fn s g r c ≤ B
  | 0, _ => Nat.zero_le _
  | c + 1, h => by
    have h1 := mxN_le c (fun c' hc => h c' (by omega))
    have h2 := h c (by omega)
    unfold mxN
    split
    · exact h1
    · exact h2
theorem mxN_ge (Fn : Nat → Nat) (s g r : Nat) : ∀ c c', c' < c → c' * g + Fn (r - c' * s) ≤ mxN Fn s g r c
  | 0, c', h => by omega
  | c + 1, c', h => by
    unfold mxN
    by_cases e : c' = c
    · subst e
      split
      · rename_i q; exact q
      · exact Nat.le_refl _
    · have := mxN_ge Fn s g r c c' (by omega)
      split
      · exact this
      · rename_i q; omega
theorem mxN_att (Fn : Nat → Nat) (s g r : Nat) : ∀ c, ∃ c', c' ≤ c ∧ c' * g + Fn (r - c' * s) = mxN Fn s g r (c + 1)
  | 0 => by
    refine ⟨0, Nat.le_refl _, ?_⟩
    unfold mxN
    split
    · rename_i q
      exact Nat.le_antisymm q (Nat.zero_le _)
    · rfl
  | c + 1 => by
    obtain ⟨c', h1, h2⟩ := mxN_att Fn s g r c
    unfold mxN
    split
    · exact ⟨c', by omega, h2⟩
    · exact ⟨c + 1, Nat.le_refl _, rfl⟩
theorem ldR_le {mt sz gn : Nat → Nat} (hm : ∀ l, l < 8 → mt l ≤ 20) (hg : ∀ l, l < 8 → gn l ≤ 5000000) : ∀ k, k ≤ 8 → ∀ r, ldR mt sz gn k r ≤ k * 100000000
  | 0, _, r => Nat.le_of_eq (by show 0 = _; simp)
  | k + 1, hk, r => by
    refine mxN_le _ (fun c' hc => ?_)
    have h1 := ldR_le (sz := sz) hm hg k (by omega) (r - c' * sz (7 - k))
    have h2 := hm (7 - k) (by omega)
    have h3 := hg (7 - k) (by omega)
    have h4 : c' * gn (7 - k) ≤ 20 * 5000000 := Nat.mul_le_mul (by have := Nat.min_le_left (mt (7 - k)) (r / sz (7 - k)); omega) h3
    omega
def lzM (S : Mm) : Nat → Mm
  | 0 => S
  | r + 1 => wI (lzM S r) (2, 0, 33) (1608 + r) 0
def lqM (S : Mm) (l : Nat) (Fn : Nat → Nat) (s g mt : Nat) : Nat → Mm
  | 0 => S
  | r + 1 => wI (lqM S l Fn s g mt r) (2, 0, 33) (201 * l + r) (nI (lrN Fn s g mt r))
def lwM (S : Mm) (mt sz gn : Nat → Nat) (room : Nat) : Nat → Mm
  | 0 => S
  | k + 1 => lqM (lwM S mt sz gn room k) (7 - k) (ldR mt sz gn k) (sz (7 - k)) (gn (7 - k)) (mt (7 - k)) (room + 1)
def fLd : Ln → Nat → Prop := fun k _ => k = (2, 0, 33) ∨ k = (2, 0, 29)
theorem lzM_but (S : Mm) : ∀ w, but fLd S (lzM S w)
  | 0 => but.rf
  | w + 1 => (lzM_but S w).wI (Or.inl rfl)
theorem lqM_but (S : Mm) (l : Nat) (Fn : Nat → Nat) (s g mt : Nat) : ∀ a, but fLd S (lqM S l Fn s g mt a)
  | 0 => but.rf
  | a + 1 => (lqM_but S l Fn s g mt a).wI (Or.inl rfl)
theorem lwM_but (S : Mm) (mt sz gn : Nat → Nat) (room : Nat) : ∀ r, but fLd S (lwM S mt sz gn room r)
  | 0 => but.rf
  | r + 1 => (lwM_but S mt sz gn room r).tr (lqM_but _ _ _ _ _ _ _)
theorem lzM_at (S : Mm) : ∀ n a, a < n → (lzM S n).1 (2, 0, 33) (1608 + a) = 0
  | 0, a, h => by omega
  | n + 1, a, h => by
    by_cases e : a = n
    · subst e; exact wI_same
    · exact (wI_ne (fun q => e (by have := q.2; omega))).trans (lzM_at S n a (by omega))
theorem lqM_at (S : Mm) (l : Nat) (Fn : Nat → Nat) (s g mt : Nat) : ∀ n a, a < n → (lqM S l Fn s g mt n).1 (2, 0, 33) (201 * l + a) = nI (lrN Fn s g mt a)
  | 0, a, h => by omega
  | n + 1, a, h => by
    by_cases e : a = n
    · subst e; exact wI_same
    · exact (wI_ne (fun q => e (by have := q.2; omega))).trans (lqM_at S l Fn s g mt n a (by omega))
theorem lqM_up (S : Mm) (l : Nat) (Fn : Nat → Nat) (s g mt : Nat) : ∀ n j, (j < 201 * l ∨ 201 * l + n ≤ j) → (lqM S l Fn s g mt n).1 (2, 0, 33) j = S.1 (2, 0, 33) j
  | 0, j, h => rfl
  | n + 1, j, h => (wI_ne (fun q => by have := q.2; omega)).trans (lqM_up S l Fn s g mt n j (by omega))
theorem lwM_at (S : Mm) (mt sz gn : Nat → Nat) {room : Nat} (ht : room ≤ 200) (h0 : ∀ a, a ≤ room → S.1 (2, 0, 33) (1608 + a) = nI (ldR mt sz gn 0 a)) : ∀ r, r ≤ 8 → ∀ r', r' ≤ r → ∀ a, a ≤ room → (lwM S mt sz gn room r).1 (2, 0, 33) (201 * (8 - r') + a) = nI (ldR mt sz gn r' a)
  | 0, _, r', hr, a, ha => by
    have e : r' = 0 := by omega
    subst e
    exact h0 a ha
  | r + 1, h6, r', hr, a, ha => by
    by_cases e : r' = r + 1
    · subst e
      have := lqM_at (lwM S mt sz gn room r) (7 - r) (ldR mt sz gn r) (sz (7 - r)) (gn (7 - r)) (mt (7 - r)) (room + 1) a (by omega)
      rw [show 8 - (r + 1) = 7 - r by omega]
      exact this
    · refine (lqM_up _ _ _ _ _ _ _ _ (Or.inr (by omega))).trans (lwM_at S mt sz gn ht h0 r (by omega) r' (by omega) a ha)
def exL (Fn : Nat → Nat) (tot s g left : Nat) : Nat → Nat
  | 0 => 0
  | c + 1 => if (c + 1) * g + Fn (left - (c + 1) * s) = tot then c + 1 else exL Fn tot s g left c
theorem exL_le (Fn : Nat → Nat) (tot s g left : Nat) : ∀ c, exL Fn tot s g left c ≤ c
  | 0 => Nat.le_refl _
  | c + 1 => by
    unfold exL
    split
    · exact Nat.le_refl _
    · have := exL_le Fn tot s g left c; omega
theorem exL_hit (Fn : Nat → Nat) (tot s g left : Nat) : ∀ c, (∃ c', c' ≤ c ∧ c' * g + Fn (left - c' * s) = tot) → exL Fn tot s g left c * g + Fn (left - exL Fn tot s g left c * s) = tot
  | 0, ⟨c', h1, h2⟩ => by
    have e : c' = 0 := by omega
    subst e
    exact h2
  | c + 1, ⟨c', h1, h2⟩ => by
    unfold exL
    split
    · rename_i h; exact h
    · rename_i h
      refine exL_hit Fn tot s g left c ⟨c', ?_, h2⟩
      by_cases e : c' = c + 1
      · subst e; exact absurd h2 h
      · omega
theorem exL_max (Fn : Nat → Nat) (tot s g left : Nat) : ∀ c c', c' ≤ c → c' * g + Fn (left - c' * s) = tot → c' ≤ exL Fn tot s g left c
  | 0, c', h, _ => by omega
  | c + 1, c', h, h2 => by
    unfold exL
    split
    · exact h
    · rename_i h3
      refine exL_max Fn tot s g left c c' ?_ h2
      by_cases e : c' = c + 1
      · subst e; exact absurd h2 h3
      · omega
def clN (mt sz gn : Nat → Nat) (l left : Nat) : Nat := exL (ldR mt sz gn (7 - l)) (ldR mt sz gn (8 - l) left) (sz l) (gn l) left (min (mt l) (left / sz l))
def llN (mt sz gn : Nat → Nat) (room : Nat) : Nat → Nat
  | 0 => room
  | l + 1 => llN mt sz gn room l - clN mt sz gn l (llN mt sz gn room l) * sz l
theorem llN_le (mt sz gn : Nat → Nat) (room : Nat) : ∀ l, llN mt sz gn room l ≤ room
  | 0 => Nat.le_refl _
  | l + 1 => Nat.le_trans (Nat.sub_le _ _) (llN_le mt sz gn room l)
theorem clN_le (mt sz gn : Nat → Nat) (l left : Nat) (hs : 0 < sz l) : clN mt sz gn l left ≤ mt l ∧ clN mt sz gn l left * sz l ≤ left := by
  have h := exL_le (ldR mt sz gn (7 - l)) (ldR mt sz gn (8 - l) left) (sz l) (gn l) left (min (mt l) (left / sz l))
  refine ⟨Nat.le_trans h (Nat.min_le_left _ _), ?_⟩
  have h2 : clN mt sz gn l left ≤ left / sz l := Nat.le_trans h (Nat.min_le_right _ _)
  exact (Nat.le_div_iff_mul_le hs).mp h2
theorem ld_att (mt sz gn : Nat → Nat) (l left : Nat) (hl : l < 8) : ∃ c', c' ≤ min (mt l) (left / sz l) ∧ c' * gn l + ldR mt sz gn (7 - l) (left - c' * sz l) = ldR mt sz gn (8 - l) left := by
  obtain ⟨r, hr⟩ : ∃ r, 8 - l = r + 1 := ⟨7 - l, by omega⟩
  have hr2 : 7 - l = r := by omega
  have hr3 : 7 - r = l := by omega
  rw [hr, hr2]
  obtain ⟨c', h1, h2⟩ := mxN_att (ldR mt sz gn r) (sz (7 - r)) (gn (7 - r)) left (min (mt (7 - r)) (left / sz (7 - r)))
  rw [hr3] at h1 h2
  refine ⟨c', h1, ?_⟩
  rw [h2]
  show _ = mxN (ldR mt sz gn r) (sz (7 - r)) (gn (7 - r)) left (min (mt (7 - r)) (left / sz (7 - r)) + 1)
  rw [hr3]
def lcM (S : Mm) (mt sz gn : Nat → Nat) (room : Nat) : Nat → Mm
  | 0 => S
  | l + 1 => wI (lcM S mt sz gn room l) (2, 0, 29) l (nI (clN mt sz gn l (llN mt sz gn room l)))
theorem lcM_but (S : Mm) (mt sz gn : Nat → Nat) (room : Nat) : ∀ w, but fLd S (lcM S mt sz gn room w)
  | 0 => but.rf
  | w + 1 => (lcM_but S mt sz gn room w).wI (Or.inr rfl)
theorem lcM_tab (S : Mm) (mt sz gn : Nat → Nat) (room : Nat) : ∀ w j, (lcM S mt sz gn room w).1 (2, 0, 33) j = S.1 (2, 0, 33) j
  | 0, j => rfl
  | w + 1, j => (wI_ne (fun q => by cases q.1)).trans (lcM_tab S mt sz gn room w j)
theorem lcM_at (S : Mm) (mt sz gn : Nat → Nat) (room : Nat) : ∀ n w, w < n → (lcM S mt sz gn room n).1 (2, 0, 29) w = nI (clN mt sz gn w (llN mt sz gn room w))
  | 0, w, h => by omega
  | n + 1, w, h => by
    by_cases e : w = n
    · subst e; exact wI_same
    · exact (wI_ne (fun q => e q.2)).trans (lcM_at S mt sz gn room n w (by omega))
/-- the worth of what is loaded, of the first l lanes -/
def lvI (S : Mm) (i : Nat) (mt sz gn : Nat → Nat) (room : Nat) : Nat → Int32
  | 0 => 0
  | l + 1 => lvI S i mt sz gn room l + nI (clN mt sz gn l (llN mt sz gn room l)) * S.1 (2, 0, 11) (8 * i + l)
def wv8 (r : Nat) : Int32 := if r ≤ 7 then nI (7 - r) else -1
theorem wv8_s (r : Nat) (h : r ≤ 7) : nI (7 - r) + (-1) = wv8 (r + 1) := by
  unfold wv8
  by_cases e : r = 7
  · subst e; rfl
  · rw [if_pos (by omega)]
    obtain ⟨m, hm⟩ : ∃ m, 7 - r = m + 1 := ⟨6 - r, by omega⟩
    rw [hm, pk_m1]
    congr 1
    omega
def ltM (S : Mm) (mt sz gn : Nat → Nat) (room : Nat) : Mm := lwM (lzM S (room + 1)) mt sz gn room 8
theorem ltM_but (S : Mm) (mt sz gn : Nat → Nat) (room : Nat) : but fLd S (ltM S mt sz gn room) := (lzM_but S _).tr (lwM_but _ _ _ _ _ _)
theorem ltM_at (S : Mm) (mt sz gn : Nat → Nat) {room : Nat} (ht : room ≤ 200) (w : Nat) (hw : w ≤ 8) (a : Nat) (ha : a ≤ room) : (ltM S mt sz gn room).1 (2, 0, 33) (201 * w + a) = nI (ldR mt sz gn (8 - w) a) := by
  have := lwM_at (lzM S (room + 1)) mt sz gn ht (fun a ha => lzM_at _ (room + 1) a (by omega)) 8 (by omega) (8 - w) (by omega) a ha
  rw [show 8 - (8 - w) = w by omega] at this
  exact this
/-- what the table is made of -/
def LdH (S : Mm) (gd : Nat → Nat) (mt sz gn : Nat → Nat) (i : Nat) : Prop := (∀ a, a < 48 → S.1 (2, 0, 10) a = nI (gd a) ∧ gd a < 16) ∧ (∀ l, l < 8 → v_X7_mayTake S i l = nI (mt l) ∧ mt l ≤ 20) ∧ (∀ l, l < 8 → v_X7_sizeAt S gd i l = nI (sz l) ∧ 1 ≤ sz l ∧ sz l ≤ 9) ∧ (∀ l, l < 8 → gn l ≤ 5000000 ∧ ∀ c, c ≤ mt l → v_X7_worthAt S gd i l (nI c) = nI (c * gn l))
theorem fLd_no {k : Ln} {j : Nat} (h1 : k ≠ (2, 0, 33)) (h2 : k ≠ (2, 0, 29)) : ¬ fLd k j := fun q => q.elim h1 h2
theorem LdH.but {S T : Mm} {gd mt sz gn : Nat → Nat} {i : Nat} (h : but fLd S T) (hL : LdH S gd mt sz gn i) : LdH T gd mt sz gn i := by
  obtain ⟨h1, h2, h3, h4⟩ := hL
  have rd : ∀ f j, f ≠ 33 → f ≠ 29 → T.1 (2, 0, f) j = S.1 (2, 0, f) j := fun f j a b => h.2 _ _ (fLd_no (fun q => by cases q; exact a rfl) (fun q => by cases q; exact b rfl))
  have e1 : ∀ l, v_X7_mayTake T i l = v_X7_mayTake S i l := fun l => by unfold v_X7_mayTake; rw [rd 2 _ (by decide) (by decide), rd 18 _ (by decide) (by decide), rd 19 _ (by decide) (by decide), rd 12 _ (by decide) (by decide), rd 13 _ (by decide) (by decide)]
  have e2 : ∀ l, v_X7_sizeAt T gd i l = v_X7_sizeAt S gd i l := fun l => by unfold v_X7_sizeAt; rw [rd 20 _ (by decide) (by decide)]
  have e3 : ∀ l c, v_X7_worthAt T gd i l c = v_X7_worthAt S gd i l c := fun l c => by unfold v_X7_worthAt; rw [rd 11 _ (by decide) (by decide), e2]
  exact ⟨fun a ha => by rw [rd 10 _ (by decide) (by decide)]; exact h1 a ha, fun l hl => by rw [e1]; exact h2 l hl, fun l hl => by rw [e2]; exact h3 l hl, fun l hl => ⟨(h4 l hl).1, fun c hc => by rw [e3]; exact (h4 l hl).2 c hc⟩⟩
theorem IM.ld {S T : Mm} {mc : Nat} {lc : Nat → Nat} (h : but fLd S T) (hI : IM S mc lc) : IM T mc lc := h.IM (fun q => by rcases q with q | q <;> cases q) (fun _ q => by rcases q with q | q <;> cases q) hI
