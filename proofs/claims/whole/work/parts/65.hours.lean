/-! bits -/
def bt (x : Int32) (i : Nat) : Bool := x.toBitVec.getLsbD i
theorem b_ext {x y : Int32} (h : ∀ i, i < 32 → bt x i = bt y i) : x = y := Int32.toBitVec_inj.mp (BitVec.eq_of_getLsbD_eq (fun i hi => h i hi))
theorem b_or (x y : Int32) (i : Nat) : bt (x ||| y) i = (bt x i || bt y i) := by unfold bt; rw [Int32.toBitVec_or, BitVec.getLsbD_or]
theorem b_and (x y : Int32) (i : Nat) : bt (x &&& y) i = (bt x i && bt y i) := by unfold bt; rw [Int32.toBitVec_and, BitVec.getLsbD_and]
theorem b_0 (i : Nat) : bt 0 i = false := BitVec.getLsbD_zero
theorem b_one : ∀ i, i < 32 → bt 1 i = decide (i = 0) := by decide +kernel
theorem b_sh1 : ∀ l, l < 16 → ∀ i, i < 16 → bt ((1 : Int32) <<< (nI l &&& 31)) i = decide (i = l) := by decide +kernel
theorem s_l : ∀ n, n < 32 → ((nI n &&& 31).toBitVec.smod 32).toNat = n := by decide +kernel
theorem b_sshr (n : Nat) (hn : n < 32) (x : Int32) {i : Nat} (hi : i < 32) : bt (x >>> (nI n &&& 31)) i = if n + i < 32 then bt x (n + i) else bt x 31 := by
  unfold bt
  rw [Int32.toBitVec_shiftRight]
  show (x.toBitVec.sshiftRight ((nI n &&& 31).toBitVec.smod 32).toNat).getLsbD i = _
  rw [s_l n hn, BitVec.getLsbD_sshiftRight, BitVec.msb_eq_getLsbD_last]
  simp [hi]
theorem b_test (x : Int32) {l : Nat} (hl : l < 16) : (x >>> (nI l &&& 31)) &&& 1 = 0 ↔ bt x l = false := by
  constructor
  · intro h
    have h0 : bt ((x >>> (nI l &&& 31)) &&& 1) 0 = false := by rw [h]; exact b_0 0
    rw [b_and, b_sshr l (by omega) x (by decide), if_pos (by omega), b_one 0 (by decide)] at h0
    simpa using h0
  · intro h
    refine b_ext (fun i hi => ?_)
    rw [b_and, b_one i hi, b_0]
    by_cases e : i = 0
    · subst e
      rw [b_sshr l (by omega) x (by decide), if_pos (by omega)]
      simp [h]
    · simp [e]
/-! an hour of the class, cell by cell -/
section HX
variable (T : Mm) (i n : Nat) (gd : Nat → Nat) (u : Nat)
theorem nb_bt (hg : ∀ k, k < n → T.1 (3, i, k) 0 = nI (gd k) ∧ gd k < 16) : ∀ k, k ≤ n → ∀ g, g < 16 → (bt (nbX T i n k) g = true ↔ ∃ k', k' < k ∧ gd k' = g ∧ ¬ v_src T i k' n = 0)
  | 0, _, g, _ => by
    show bt 0 g = true ↔ _
    rw [b_0]
    exact ⟨fun h => (by cases h), fun ⟨k', h, _⟩ => (by omega)⟩
  | k + 1, hk, g, hg16 => by
    have ih := nb_bt hg k (by omega)
    obtain ⟨e, e16⟩ := hg k (by omega)
    have t := b_test (nbX T i n k) e16
    unfold nbX
    rw [e]
    by_cases c : (nbX T i n k >>> (nI (gd k) &&& 31)) &&& 1 = 0
    · rw [if_pos c]
      by_cases s : v_src T i k n = 0
      · rw [if_pos s, ih g hg16]
        exact ⟨fun ⟨k', a, b⟩ => ⟨k', by omega, b⟩, fun ⟨k', a, b, b2⟩ => ⟨k', by
          by_cases q : k' = k
          · subst q; exact absurd s b2
          · omega, b, b2⟩⟩
      · rw [if_neg s, b_or, b_sh1 (gd k) e16 g hg16]
        constructor
        · intro h
          rw [Bool.or_eq_true] at h
          rcases h with h | h
          · obtain ⟨k', a, b⟩ := (ih g hg16).mp h
            exact ⟨k', by omega, b⟩
          · exact ⟨k, by omega, (of_decide_eq_true h).symm, s⟩
        · intro ⟨k', a, b, b2⟩
          rw [Bool.or_eq_true]
          by_cases q : k' = k
          · subst q
            exact Or.inr (decide_eq_true b.symm)
          · exact Or.inl ((ih g hg16).mpr ⟨k', by omega, b, b2⟩)
    · rw [if_neg c, ih g hg16]
      refine ⟨fun ⟨k', a, b⟩ => ⟨k', by omega, b⟩, fun ⟨k', a, b, b2⟩ => ?_⟩
      by_cases q : k' = k
      · subst q
        have c2 : bt (nbX T i n k') (gd k') = true := by
          cases z : bt (nbX T i n k') (gd k') with
          | true => rfl
          | false => exact absurd (t.mpr z) c
        obtain ⟨k2, a2, b3, b4⟩ := (ih _ e16).mp c2
        exact ⟨k2, a2, b3.trans b, b4⟩
      · exact ⟨k', by omega, b, b2⟩
theorem ntX_o : ∀ k q, (∀ g, q ≠ g * 24 + u) → (ntX T i n gd u k).1 (1, i, 12) q = T.1 (1, i, 12) q
  | 0, _, _ => rfl
  | k + 1, q, h => by
    unfold ntX
    split
    · split
      · exact ntX_o k q h
      · exact (wI_ne (fun z => h _ z.2)).trans (ntX_o k q h)
    · exact ntX_o k q h
theorem ntX_at (hg : ∀ k, k < n → T.1 (3, i, k) 0 = nI (gd k) ∧ gd k < 16) : ∀ k, k ≤ n → ∀ g, g < 16 → ((∃ k', k' < k ∧ gd k' = g ∧ ¬ v_src T i k' n = 0) → (ntX T i n gd u k).1 (1, i, 12) (g * 24 + u) = T.1 (1, i, 12) (g * 24 + u) + 1) ∧ ((¬ ∃ k', k' < k ∧ gd k' = g ∧ ¬ v_src T i k' n = 0) → (ntX T i n gd u k).1 (1, i, 12) (g * 24 + u) = T.1 (1, i, 12) (g * 24 + u))
  | 0, _, g, _ => ⟨fun ⟨k', h, _⟩ => by omega, fun _ => rfl⟩
  | k + 1, hk, g, hg16 => by
    obtain ⟨ih1, ih0⟩ := ntX_at hg k (by omega) g hg16
    obtain ⟨e, e16⟩ := hg k (by omega)
    have t := b_test (nbX T i n k) e16
    have b := nb_bt T i n gd hg k (by omega) (gd k) e16
    unfold ntX
    rw [e]
    by_cases c : (nbX T i n k >>> (nI (gd k) &&& 31)) &&& 1 = 0
    · have nb : ¬ ∃ k', k' < k ∧ gd k' = gd k ∧ ¬ v_src T i k' n = 0 := fun z => by
        have z1 := b.mpr z
        rw [t.mp c] at z1
        cases z1
      rw [if_pos c]
      by_cases s : v_src T i k n = 0
      · rw [if_pos s]
        refine ⟨fun ⟨k', a, b, b2⟩ => ih1 ⟨k', ?_, b, b2⟩, fun q => ih0 (fun ⟨k', a, b⟩ => q ⟨k', by omega, b⟩)⟩
        by_cases q : k' = k
        · subst q; exact absurd s b2
        · omega
      · rw [if_neg s]
        by_cases eg : gd k = g
        · refine ⟨fun _ => ?_, fun q => absurd ⟨k, by omega, eg, s⟩ q⟩
          rw [eg]
          refine wI_same.trans ?_
          rw [ih0 (fun z => nb (by rw [eg]; exact z))]
        · have w : ∀ v, (wI (ntX T i n gd u k) (1, i, 12) (gd k * 24 + u) v).1 (1, i, 12) (g * 24 + u) = (ntX T i n gd u k).1 (1, i, 12) (g * 24 + u) := fun v => wI_ne (fun z => eg (by have := z.2; omega))
          rw [w]
          refine ⟨fun ⟨k', a, b1, b2⟩ => ih1 ⟨k', ?_, b1, b2⟩, fun q => ih0 (fun ⟨k', a, b⟩ => q ⟨k', by omega, b⟩)⟩
          by_cases q : k' = k
          · rw [q] at b1; exact absurd b1 eg
          · omega
    · have sb : bt (nbX T i n k) (gd k) = true := by
        cases z : bt (nbX T i n k) (gd k) with
        | true => rfl
        | false => exact absurd (t.mpr z) c
      rw [if_neg c]
      refine ⟨fun ⟨k', a, b0, b2⟩ => ih1 ?_, fun q => ih0 (fun ⟨k', a, b⟩ => q ⟨k', by omega, b⟩)⟩
      by_cases q : k' = k
      · subst q
        obtain ⟨k2, a2, b3, b4⟩ := b.mp sb
        exact ⟨k2, a2, b3.trans b0, b4⟩
      · exact ⟨k', by omega, b0, b2⟩
def spW (S : Mm) (i j : Nat) (p : Int32) : Int32 := if S.1 (3, i, j) 2 = 2 then (if S.1 (3, i, j) 5 ≤ 0 then S.1 (3, i, j) 9 else (if p ≤ S.1 (3, i, j) 3 then S.1 (3, i, j) 9 else 1)) else S.1 (3, i, j) 9
theorem spX_9 (S : Mm) (i j : Nat) (p : Int32) : (spX S i j p).1 (3, i, j) 9 = spW S i j p := by
  unfold spX spW
  split
  · split
    · rfl
    · split
      · rfl
      · exact wI_same
  · rfl
theorem spX_o (S : Mm) (i j : Nat) (p : Int32) {k : Ln} {q : Nat} (h : ¬ (k = (3, i, j) ∧ q = 9)) : (spX S i j p).1 k q = S.1 k q := by
  unfold spX
  split
  · split
    · rfl
    · split
      · rfl
      · exact wI_ne h
  · rfl
theorem psX_o (S : Mm) (i : Nat) : ∀ n k q, (∀ j, j < n → ¬ (k = (3, i, j) ∧ q = 9)) → (psX S i n).1 k q = S.1 k q
  | 0, _, _, _ => rfl
  | n + 1, k, q, h => (spX_o _ i n _ (h n (by omega))).trans (psX_o S i n k q (fun j hj => h j (by omega)))
theorem psX_9 (S : Mm) (i : Nat) : ∀ n j, j < n → (psX S i n).1 (3, i, j) 9 = spW S i j (S.1 (1, i, 0) 5)
  | 0, j, h => by omega
  | n + 1, j, h => by
    by_cases e : j = n
    · subst e
      have r : ∀ q, (psX S i j).1 (3, i, j) q = S.1 (3, i, j) q := fun q => psX_o S i j _ _ (fun j' hj' z => by
        have : j = j' := by have := z.1; cases this; rfl
        omega)
      refine (spX_9 _ i j _).trans ?_
      unfold spW
      rw [r, r, r, r]
    · exact (spX_o _ i n _ (fun z => e (by have := z.1; cases this; rfl))).trans (psX_9 S i n j (by omega))
theorem p1X_4 : (ntX T i n gd u n).1 (1, i, 0) 4 = T.1 (1, i, 0) 4 := (ntX_but T i n gd u n).2 _ _ (fun q => by cases q)
theorem p1X_12 (q : Nat) : (p1X T i n gd u).1 (1, i, 12) q = (ntX T i n gd u n).1 (1, i, 12) q := by
  unfold p1X
  split
  · exact (psX_o _ i n _ _ (fun j _ z => by cases z.1)).trans (wI_ne (fun z => by cases z.1))
  · rfl
theorem p1X_5 : (p1X T i n gd u).1 (1, i, 0) 5 = if T.1 (1, i, 0) 4 = 0 then T.1 (1, i, 0) 5 + 1 else T.1 (1, i, 0) 5 := by
  have e5 : (ntX T i n gd u n).1 (1, i, 0) 5 = T.1 (1, i, 0) 5 := (ntX_but T i n gd u n).2 _ _ (fun q => by cases q)
  unfold p1X
  rw [p1X_4]
  split
  · refine (psX_o _ i n _ _ (fun j _ z => by cases z.1)).trans (wI_same.trans ?_)
    rw [e5]
  · exact e5
theorem p1X_9 {j : Nat} (hj : j < n) : (p1X T i n gd u).1 (3, i, j) 9 = if T.1 (1, i, 0) 4 = 0 then spW T i j (T.1 (1, i, 0) 5 + 1) else T.1 (3, i, j) 9 := by
  have e5 : (ntX T i n gd u n).1 (1, i, 0) 5 = T.1 (1, i, 0) 5 := (ntX_but T i n gd u n).2 _ _ (fun q => by cases q)
  have r : ∀ q, (ntX T i n gd u n).1 (3, i, j) q = T.1 (3, i, j) q := fun q => (ntX_but T i n gd u n).2 _ _ (fun q => by cases q)
  unfold p1X
  rw [p1X_4]
  split
  · refine (psX_9 _ i n j hj).trans ?_
    have w : ∀ q v, (wI (ntX T i n gd u n) (1, i, 0) 5 v).1 (3, i, j) q = T.1 (3, i, j) q := fun q v => (wI_ne (fun z => by cases z.1)).trans (r q)
    unfold spW
    rw [w, w, w, w, wI_same, e5]
  · exact r 9
theorem p1X_o {k : Ln} {q : Nat} (h1 : k ≠ (1, i, 12)) (h2 : ¬ (k = (1, i, 0) ∧ q = 5)) (h3 : ¬ (k.1 = 3 ∧ k.2.1 = i ∧ q = 9)) : (p1X T i n gd u).1 k q = T.1 k q := by
  have a : (ntX T i n gd u n).1 k q = T.1 k q := (ntX_but T i n gd u n).2 _ _ h1
  unfold p1X
  split
  · exact (psX_o _ i n _ _ (fun j _ z => h3 (by rw [z.1]; exact ⟨rfl, rfl, z.2⟩))).trans ((wI_ne h2).trans a)
  · exact a
end HX
section HL
variable (S : Mm) (lc : Nat → Nat) (gdm : Nat → Nat → Nat) (u : Nat)
theorem phL_o : ∀ m k q, (∀ i, i < m → k.2.1 ≠ i ∨ (k.1 ≠ 1 ∧ k.1 ≠ 3)) → (phL S lc gdm u m).1 k q = S.1 k q
  | 0, _, _, _ => rfl
  | m + 1, k, q, h => by
    have hm := h m (by omega)
    refine (p1X_o _ m _ _ u (fun e => ?_) (fun e => ?_) (fun e => ?_)).trans (phL_o m k q (fun i hi => h i (by omega)))
    · rw [e] at hm; rcases hm with z | z
      · exact z rfl
      · exact z.1 rfl
    · rw [e.1] at hm; rcases hm with z | z
      · exact z rfl
      · exact z.1 rfl
    · rcases hm with z | z
      · exact z e.2.1
      · exact z.2 e.1
theorem phL_at : ∀ m i, i < m → ∀ k q, k.2.1 = i → (phL S lc gdm u m).1 k q = (p1X (phL S lc gdm u i) i (lc i) (gdm i) u).1 k q
  | 0, i, h, _, _, _ => by omega
  | m + 1, i, h, k, q, hk => by
    by_cases e : i = m
    · subst e; rfl
    · refine (p1X_o _ m _ _ u (fun z => ?_) (fun z => ?_) (fun z => ?_)).trans (phL_at m i (by omega) k q hk)
      · rw [z] at hk; exact e hk.symm
      · rw [z.1] at hk; exact e hk.symm
      · exact e (hk.symm.trans z.2.1)
end HL
/-! an hour of the model, cell by cell -/
section HM
theorem sells_but {f : Ln → Nat → Prop} {S T : Mm} (h : but f S T) (hf : ∀ g x, (g = 2 ∨ g = 10 ∨ g = 13 ∨ g = 14 ∨ g = 18 ∨ g = 19) → ¬ f (2, 0, g) x) (i j : Nat) : v_X7_sells T i j = v_X7_sells S i j := by
  have e2 : ∀ x, T.1 (2, 0, 2) x = S.1 (2, 0, 2) x := fun x => h.2 _ _ (hf _ x (by omega))
  have e10 : ∀ x, T.1 (2, 0, 10) x = S.1 (2, 0, 10) x := fun x => h.2 _ _ (hf _ x (by omega))
  have e13 : ∀ x, T.1 (2, 0, 13) x = S.1 (2, 0, 13) x := fun x => h.2 _ _ (hf _ x (by omega))
  have e14 : ∀ x, T.1 (2, 0, 14) x = S.1 (2, 0, 14) x := fun x => h.2 _ _ (hf _ x (by omega))
  have e18 : ∀ x, T.1 (2, 0, 18) x = S.1 (2, 0, 18) x := fun x => h.2 _ _ (hf _ x (by omega))
  have e19 : ∀ x, T.1 (2, 0, 19) x = S.1 (2, 0, 19) x := fun x => h.2 _ _ (hf _ x (by omega))
  unfold v_X7_sells v_X7_nextServes
  simp only [e2, e10, e13, e14, e18, e19]
theorem isM_but {S T : Mm} (h : but fTh S T) (i g : Nat) : ∀ k, isM T i g k = isM S i g k
  | 0 => rfl
  | k + 1 => by
    unfold isM
    rw [isM_but h i g k, sells_but h (fun g x hg => by
      intro q
      have q2 : g = 22 := congrArg (fun z : Ln => z.2.2) q
      omega) i k, h.2 (2, 0, 10) _ (fun q => by cases q)]
theorem isM_iff (S : Mm) (i g : Nat) : ∀ k, isM S i g k = 0 ↔ ¬ ∃ k', k' < k ∧ S.1 (2, 0, 10) (8 * i + k') = nI g ∧ ¬ v_X7_sells S i k' = 0
  | 0 => ⟨fun _ ⟨k', h, _⟩ => by omega, fun _ => rfl⟩
  | k + 1 => by
    have ih := isM_iff S i g k
    unfold isM
    by_cases c : isM S i g k = 0
    · rw [if_pos c]
      have nc := ih.mp c
      by_cases d : S.1 (2, 0, 10) (8 * i + k) = nI g
      · rw [if_pos d]
        by_cases s : v_X7_sells S i k = 0
        · rw [if_pos s]
          refine ⟨fun _ ⟨k', a, b, b2⟩ => nc ⟨k', ?_, b, b2⟩, fun _ => rfl⟩
          by_cases q : k' = k
          · subst q; exact absurd s b2
          · omega
        · rw [if_neg s]
          exact ⟨fun h => absurd h (by decide), fun h => absurd ⟨k, by omega, d, s⟩ h⟩
      · rw [if_neg d]
        refine ⟨fun _ ⟨k', a, b, b2⟩ => nc ⟨k', ?_, b, b2⟩, fun _ => rfl⟩
        by_cases q : k' = k
        · subst q; exact absurd b d
        · omega
    · rw [if_neg c]
      refine ⟨fun h => absurd h (by decide), fun h => absurd (ih.mpr (fun ⟨k', a, b⟩ => h ⟨k', by omega, b⟩)) c⟩
theorem thG_o (S : Mm) (lc : Nat → Nat) (i u : Nat) : ∀ n x, (∀ g, g < n → x ≠ 384 * i + 24 * g + u) → (thG S lc i u n).1 (2, 0, 22) x = S.1 (2, 0, 22) x
  | 0, _, _ => rfl
  | n + 1, x, h => (wI_ne (fun q => h n (by omega) q.2)).trans (thG_o S lc i u n x (fun g hg => h g (by omega)))
theorem thG_at (S : Mm) (lc : Nat → Nat) (i u : Nat) : ∀ n g, g < n → (thG S lc i u n).1 (2, 0, 22) (384 * i + 24 * g + u) = S.1 (2, 0, 22) (384 * i + 24 * g + u) + (if isM S i g (lc i) = 0 then 0 else 1)
  | 0, g, h => by omega
  | n + 1, g, h => by
    by_cases e : g = n
    · subst e
      refine wI_same.trans ?_
      rw [isM_but (thG_but S lc i u g), thG_o S lc i u g _ (fun g' hg' => by omega)]
    · exact (wI_ne (fun q => e (by have := q.2; omega))).trans (thG_at S lc i u n g (by omega))
theorem thM_o (S : Mm) (lc : Nat → Nat) (u : Nat) : ∀ m x, (∀ i g, i < m → g < 16 → x ≠ 384 * i + 24 * g + u) → (thM S lc u m).1 (2, 0, 22) x = S.1 (2, 0, 22) x
  | 0, _, _ => rfl
  | m + 1, x, h => (thG_o _ lc m u 16 x (fun g hg => h m g (by omega) hg)).trans (thM_o S lc u m x (fun i g hi hg => h i g (by omega) hg))
theorem thM_at (S : Mm) (lc : Nat → Nat) {u : Nat} (hu : u < 24) : ∀ m i g, i < m → g < 16 → (thM S lc u m).1 (2, 0, 22) (384 * i + 24 * g + u) = S.1 (2, 0, 22) (384 * i + 24 * g + u) + (if isM S i g (lc i) = 0 then 0 else 1)
  | 0, i, g, h, _ => by omega
  | m + 1, i, g, h, hg => by
    by_cases e : i = m
    · subst e
      refine (thG_at _ lc i u 16 g hg).trans ?_
      rw [isM_but (thM_but S lc u i), thM_o S lc u i _ (fun i' g' hi' hg' => by omega)]
    · exact (thG_o _ lc m u 16 _ (fun g' hg' => by omega)).trans (thM_at S lc hu m i g (by omega) hg)
def spV (S : Mm) (i j : Nat) (p : Int32) : Int32 := if S.1 (2, 0, 8) i = 0 then S.1 (2, 0, 19) (8 * i + j) else if S.1 (2, 0, 14) (8 * i + j) = 2 then (if p ≤ S.1 (2, 0, 15) (8 * i + j) then S.1 (2, 0, 19) (8 * i + j) else if S.1 (2, 0, 13) (8 * i + j) ≤ 0 then S.1 (2, 0, 19) (8 * i + j) else 1) else S.1 (2, 0, 19) (8 * i + j)
theorem pwL_o (S : Mm) (i : Nat) : ∀ n x, (x < 8 * i ∨ 8 * i + n ≤ x) → (pwL S i n).1 (2, 0, 19) x = S.1 (2, 0, 19) x
  | 0, _, _ => rfl
  | n + 1, x, h => by
    have ih := pwL_o S i n x (by omega)
    unfold pwL
    split
    · exact ih
    · split
      · split
        · exact ih
        · split
          · exact ih
          · exact (wI_ne (fun q => by have := q.2; omega)).trans ih
      · exact ih
theorem pwL_19 (S : Mm) (i : Nat) : ∀ n j, j < n → (pwL S i n).1 (2, 0, 19) (8 * i + j) = spV S i j (S.1 (2, 0, 9) i)
  | 0, j, h => by omega
  | n + 1, j, h => by
    by_cases e : j = n
    · subst e
      have ih := pwL_o S i j (8 * i + j) (by omega)
      unfold pwL spV
      split
      · exact ih
      · split
        · split
          · exact ih
          · split
            · exact ih
            · exact wI_same
        · exact ih
    · have ih := pwL_19 S i n j (by omega)
      unfold pwL
      split
      · exact ih
      · split
        · split
          · exact ih
          · split
            · exact ih
            · exact (wI_ne (fun q => e (by have := q.2; omega))).trans ih
        · exact ih
theorem pwL_9 (S : Mm) (i n x : Nat) : (pwL S i n).1 (2, 0, 9) x = S.1 (2, 0, 9) x := (pwL_but S i n).2 _ _ (fun q => by cases q)
theorem pwM_9o (S : Mm) (lc : Nat → Nat) : ∀ m i, m ≤ i → (pwM S lc m).1 (2, 0, 9) i = S.1 (2, 0, 9) i
  | 0, _, _ => rfl
  | m + 1, i, h => (pwL_9 _ m _ i).trans ((wI_ne (fun q => by have := q.2; omega)).trans (pwM_9o S lc m i (by omega)))
theorem pwM_f (S : Mm) (lc : Nat → Nat) (m : Nat) {f : Nat} (h1 : f ≠ 19) (h2 : f ≠ 9) (x : Nat) : (pwM S lc m).1 (2, 0, f) x = S.1 (2, 0, f) x := (pwM_but S lc m).2 _ _ (fun q => by
  rcases q with q | q
  · exact h1 (congrArg (fun z : Ln => z.2.2) q)
  · exact h2 (congrArg (fun z : Ln => z.2.2) q))
theorem pwM_9 (S : Mm) (lc : Nat → Nat) : ∀ m i, i < m → (pwM S lc m).1 (2, 0, 9) i = S.1 (2, 0, 9) i + (if S.1 (2, 0, 8) i = 0 then 0 else 1)
  | 0, i, h => by omega
  | m + 1, i, h => by
    refine (pwL_9 _ m _ i).trans ?_
    by_cases e : i = m
    · subst e
      refine wI_same.trans ?_
      rw [pwM_9o S lc i i (Nat.le_refl _), pwM_f S lc i (by decide) (by decide)]
    · exact (wI_ne (fun q => e q.2)).trans (pwM_9 S lc m i (by omega))
theorem pwM_19o (S : Mm) (lc : Nat → Nat) : ∀ m x, (∀ i, i < m → x < 8 * i ∨ 8 * i + lc i ≤ x) → (pwM S lc m).1 (2, 0, 19) x = S.1 (2, 0, 19) x
  | 0, _, _ => rfl
  | m + 1, x, h => (pwL_o _ m _ x (h m (by omega))).trans ((wI_ne (fun q => by cases q.1)).trans (pwM_19o S lc m x (fun i hi => h i (by omega))))
theorem pwM_19 (S : Mm) (lc : Nat → Nat) (h8 : ∀ i, lc i ≤ 8) : ∀ m i j, i < m → j < lc i → (pwM S lc m).1 (2, 0, 19) (8 * i + j) = spV S i j (S.1 (2, 0, 9) i + (if S.1 (2, 0, 8) i = 0 then 0 else 1))
  | 0, i, j, h, _ => by omega
  | m + 1, i, j, h, hj => by
    have hi8 := h8 i
    by_cases e : i = m
    · subst e
      refine (pwL_19 _ i _ j hj).trans ?_
      have r : ∀ f x, f ≠ 19 → f ≠ 9 → (pw1 (pwM S lc i) i).1 (2, 0, f) x = S.1 (2, 0, f) x := fun f x a b => (wI_ne (fun q => b (congrArg (fun z : Ln => z.2.2) q.1))).trans (pwM_f S lc i a b x)
      have r9 : (pw1 (pwM S lc i) i).1 (2, 0, 9) i = S.1 (2, 0, 9) i + (if S.1 (2, 0, 8) i = 0 then 0 else 1) := by
        refine wI_same.trans ?_
        rw [pwM_9o S lc i i (Nat.le_refl _), pwM_f S lc i (by decide) (by decide)]
      have r19 : (pw1 (pwM S lc i) i).1 (2, 0, 19) (8 * i + j) = S.1 (2, 0, 19) (8 * i + j) := (wI_ne (fun q => by cases q.1)).trans (pwM_19o S lc i _ (fun i' hi' => by have := h8 i'; omega))
      rw [r9]
      unfold spV
      rw [r 8 _ (by decide) (by decide), r 14 _ (by decide) (by decide), r 15 _ (by decide) (by decide), r 13 _ (by decide) (by decide), r19]
    · refine (pwL_o _ m _ _ (by omega)).trans ((wI_ne (fun q => by cases q.1)).trans (pwM_19 S lc h8 m i j (by omega) hj))
end HM
theorem vd_hr {mc : Nat} {lc : Nat → Nat} {k : Ln} {j : Nat} (h : vd mc lc k j) : ¬ fHr k j → (pt k j).1 ≠ 22 ∧ (pt k j).1 ≠ 9 ∧ (pt k j).1 ≠ 19 ∧ ((pt k j).1 = 0 → (pt k j).2 ≠ 0) := by
  induction h using vd.elim <;> intro hf <;> first
    | exact absurd (Or.inl ⟨rfl, rfl⟩) hf
    | exact absurd (Or.inr (Or.inl ⟨rfl, rfl, rfl⟩)) hf
    | exact absurd (Or.inr (Or.inr (Or.inl ⟨rfl, rfl⟩))) hf
    | exact absurd (Or.inr (Or.inr (Or.inr ⟨rfl, rfl⟩))) hf
    | exact ⟨Nat.ne_of_beq_eq_false rfl, Nat.ne_of_beq_eq_false rfl, Nat.ne_of_beq_eq_false rfl, by first | exact fun _ => Nat.ne_of_beq_eq_false rfl | exact fun q => absurd q (Nat.ne_of_beq_eq_false rfl)⟩
section HR
variable {T U : Mm} {mc : Nat} {lc : Nat → Nat} {gdm : Nat → Nat → Nat} {t : Nat}
theorem RR.hourU (h : RR T U mc lc) (hG : GdX T mc lc gdm) (ht : T.1 (0, 0, 0) 7 = nI t) (ht0 : t < 3000) : RR (phX T mc lc gdm t) (poM U mc lc t) mc lc := by
  have h6 : mc ≤ 6 := h.ix.1.m6
  have h8 : ∀ i, lc i ≤ 8 := fun i => by
    by_cases e : i < mc
    · exact h.l8 e
    · rw [h.lz i (by omega)]; decide
  have bT := phX_but T mc lc gdm t
  have eT : ∀ k j, ¬ fHr k j → (phX T mc lc gdm t).1 k j = T.1 k j := bT.2
  have tn : ∀ a b c j, ¬ (a = 1 ∧ c = 12) → ¬ (a = 1 ∧ c = 0 ∧ j = 5) → ¬ (a = 3 ∧ j = 9) → ¬ (a = 0 ∧ c = 0 ∧ j = 7) → (phX T mc lc gdm t).1 (a, b, c) j = T.1 (a, b, c) j := fun a b c j q1 q2 q3 q4 => eT _ _ (fun q => by
    rcases q with q | q | q | q
    · exact q1 q
    · exact q2 q
    · exact q3 q
    · exact q4 ⟨congrArg (fun z : Ln => z.1) q.1, congrArg (fun z : Ln => z.2.2) q.1, q.2⟩)
  have hT : (phX T mc lc gdm t).1 (0, 0, 0) 7 = nI (t + 1) := phX_h T mc lc gdm t
  have hU : (poM U mc lc t).1 (2, 0, 0) 0 = nI (t + 1) := poM_h U mc lc t
  have uf : ∀ f x, f ≠ 22 → f ≠ 9 → f ≠ 19 → (f = 0 → x ≠ 0) → (poM U mc lc t).1 (2, 0, f) x = U.1 (2, 0, f) x := fun f x a b c d => (pwM_f _ lc mc c b x).trans ((wI_ne (fun q => by
      have q1 : f = 0 := congrArg (fun z : Ln => z.2.2) q.1
      exact d q1 q.2)).trans ((thM_but U lc (t % 24) mc).2 _ _ (fun q => a (congrArg (fun z : Ln => z.2.2) q))))
  have u2 : (poM U mc lc t).2 = U.2 := (pwM_but _ lc mc).1.trans (thM_but U lc (t % 24) mc).1
  -- machine by machine
  have T0 : ∀ i k q, (k.1 = 1 ∨ k.1 = 3) → k.2.1 = i → (phL (wI T (0, 0, 0) 7 (nI (t + 1))) lc gdm (t % 24) i).1 k q = T.1 k q := fun i k q hk hki => (phL_o _ lc gdm _ i k q (fun i' hi' => Or.inl (by omega))).trans (wI_ne (fun z => by rw [z.1] at hk; rcases hk with hk | hk <;> cases hk))
  have e12 : ∀ i, i < mc → ∀ q, (phX T mc lc gdm t).1 (1, i, 12) q = (ntX (phL (wI T (0, 0, 0) 7 (nI (t + 1))) lc gdm (t % 24) i) i (lc i) (gdm i) (t % 24) (lc i)).1 (1, i, 12) q := fun i hi q => (phL_at _ lc gdm _ mc i hi (1, i, 12) q rfl).trans (p1X_12 _ _ _ _ _ q)
  have e5 : ∀ i, i < mc → (phX T mc lc gdm t).1 (1, i, 0) 5 = if T.1 (1, i, 0) 4 = 0 then T.1 (1, i, 0) 5 + 1 else T.1 (1, i, 0) 5 := fun i hi => by
    refine ((phL_at _ lc gdm _ mc i hi (1, i, 0) 5 rfl).trans (p1X_5 _ _ _ _ _)).trans ?_
    rw [T0 i _ _ (Or.inl rfl) rfl, T0 i _ _ (Or.inl rfl) rfl]
  have e9 : ∀ i, i < mc → ∀ j, j < lc i → (phX T mc lc gdm t).1 (3, i, j) 9 = if T.1 (1, i, 0) 4 = 0 then spW T i j (T.1 (1, i, 0) 5 + 1) else T.1 (3, i, j) 9 := fun i hi j hj => by
    refine ((phL_at _ lc gdm _ mc i hi (3, i, j) 9 rfl).trans (p1X_9 _ _ _ _ _ hj)).trans ?_
    unfold spW
    simp only [T0 i (1, i, 0) _ (Or.inl rfl) rfl, T0 i (3, i, j) _ (Or.inr rfl) rfl]
  have bi : ∀ i, but (fun k _ => ¬ (k.1 = 3 ∧ k.2.1 = i)) T (phL (wI T (0, 0, 0) 7 (nI (t + 1))) lc gdm (t % 24) i) := fun i => ⟨(phL_but _ lc gdm _ i).1, fun k q hk => T0 i k q (Or.inr (Decidable.not_not.mp hk).1) (Decidable.not_not.mp hk).2⟩
  have src : ∀ i j n, v_src (phL (wI T (0, 0, 0) 7 (nI (t + 1))) lc gdm (t % 24) i) i j n = v_src T i j n := fun i j n => src_but (bi i) i j n (fun j q z => z ⟨rfl, rfl⟩)
  have gd : ∀ i, i < mc → ∀ k, k < lc i → (phL (wI T (0, 0, 0) 7 (nI (t + 1))) lc gdm (t % 24) i).1 (3, i, k) 0 = nI (gdm i k) ∧ gdm i k < 16 := fun i hi k hk => by
    rw [T0 i _ _ (Or.inr rfl) rfl]
    exact hG i hi k hk
  have ex : ∀ i, i < mc → ∀ g, g < 16 → ((∃ k', k' < lc i ∧ gdm i k' = g ∧ ¬ v_src (phL (wI T (0, 0, 0) 7 (nI (t + 1))) lc gdm (t % 24) i) i k' (lc i) = 0) ↔ ∃ k', k' < lc i ∧ U.1 (2, 0, 10) (8 * i + k') = nI g ∧ ¬ v_X7_sells U i k' = 0) := fun i hi g hg => by
    have one : ∀ k', k' < lc i → ((gdm i k' = g ∧ ¬ v_src (phL (wI T (0, 0, 0) 7 (nI (t + 1))) lc gdm (t % 24) i) i k' (lc i) = 0) ↔ (U.1 (2, 0, 10) (8 * i + k') = nI g ∧ ¬ v_X7_sells U i k' = 0)) := fun k' hk' => by
      obtain ⟨a, b⟩ := hG i hi k' hk'
      rw [src, show U.1 (2, 0, 10) (8 * i + k') = nI (gdm i k') from (h.d _ _ (vd.l0 hi hk' (h8 i))).symm.trans a, nI_eq (by omega) (by omega), h.sells hi hk']
    exact ⟨fun ⟨k', a, b⟩ => ⟨k', a, (one k' a).mp b⟩, fun ⟨k', a, b⟩ => ⟨k', a, (one k' a).mpr b⟩⟩
  have u22 : ∀ i, i < mc → ∀ g, g < 16 → (poM U mc lc t).1 (2, 0, 22) (384 * i + 24 * g + t % 24) = U.1 (2, 0, 22) (384 * i + 24 * g + t % 24) + (if isM U i g (lc i) = 0 then 0 else 1) := fun i hi g hg => (pwM_f _ lc mc (by decide) (by decide) _).trans ((wI_ne (fun q => by cases q.1)).trans (thM_at U lc (Nat.mod_lt _ (by decide)) mc i g hi hg))
  have u22o : ∀ x, (∀ i g, i < mc → g < 16 → x ≠ 384 * i + 24 * g + t % 24) → (poM U mc lc t).1 (2, 0, 22) x = U.1 (2, 0, 22) x := fun x hx => (pwM_f _ lc mc (by decide) (by decide) _).trans ((wI_ne (fun q => by cases q.1)).trans (thM_o U lc (t % 24) mc x hx))
  -- hours there: both sides
  have th : ∀ i, i < mc → ∀ q, q < 384 → (phX T mc lc gdm t).1 (1, i, 12) q = (poM U mc lc t).1 (2, 0, 22) (384 * i + q) ∧ ((phX T mc lc gdm t).1 (1, i, 12) q = T.1 (1, i, 12) q ∨ (phX T mc lc gdm t).1 (1, i, 12) q = T.1 (1, i, 12) q + 1) := fun i hi q hq => by
    have d := h.d _ _ (vd.the hi hq)
    have d' : U.1 (2, 0, 22) (384 * i + q) = T.1 (1, i, 12) q := d.symm
    rw [e12 i hi q]
    by_cases c : q % 24 = t % 24
    · obtain ⟨g, hg, e⟩ : ∃ g, g < 16 ∧ q = g * 24 + t % 24 := ⟨q / 24, by omega, by omega⟩
      obtain ⟨n1, n0⟩ := ntX_at (phL (wI T (0, 0, 0) 7 (nI (t + 1))) lc gdm (t % 24) i) i (lc i) (gdm i) (t % 24) (gd i hi) (lc i) (Nat.le_refl _) g hg
      have x1 : 384 * i + q = 384 * i + 24 * g + t % 24 := by omega
      have w := u22 i hi g hg
      rw [← x1, d'] at w
      rw [w]
      rw [T0 i (1, i, 12) _ (Or.inl rfl) rfl, ← e] at n1 n0
      by_cases z : ∃ k', k' < lc i ∧ U.1 (2, 0, 10) (8 * i + k') = nI g ∧ ¬ v_X7_sells U i k' = 0
      · rw [if_neg (fun y => (isM_iff U i g (lc i)).mp y z), n1 ((ex i hi g hg).mpr z)]
        exact ⟨rfl, Or.inr rfl⟩
      · rw [if_pos ((isM_iff U i g (lc i)).mpr z), n0 (fun y => z ((ex i hi g hg).mp y)), Int32.add_zero]
        exact ⟨rfl, Or.inl rfl⟩
    · rw [ntX_o _ _ _ _ _ _ q (fun g z => c (by have := Nat.mod_lt t (show 24 > 0 by decide); omega)), T0 i (1, i, 12) _ (Or.inl rfl) rfl, u22o _ (fun i' g hi' hg => by have := Nat.mod_lt t (show 24 > 0 by decide); omega), d']
      exact ⟨rfl, Or.inl rfl⟩
  have Uw : ∀ f x, f ≠ 22 → (f = 0 → x ≠ 0) → (wI (thM U lc (t % 24) mc) (2, 0, 0) 0 (nI (t + 1))).1 (2, 0, f) x = U.1 (2, 0, f) x := fun f x a d => (wI_ne (fun q => d (congrArg (fun z : Ln => z.2.2) q.1) q.2)).trans ((thM_but U lc (t % 24) mc).2 _ _ (fun q => a (congrArg (fun z : Ln => z.2.2) q)))
  have p9 : ∀ i, i < mc → (phX T mc lc gdm t).1 (1, i, 0) 5 = (poM U mc lc t).1 (2, 0, 9) i := fun i hi => by
    have w : (poM U mc lc t).1 (2, 0, 9) i = _ := pwM_9 _ lc mc i hi
    rw [w, e5 i hi, Uw 9 i (by decide) (by omega), Uw 8 i (by decide) (by omega), show U.1 (2, 0, 9) i = T.1 (1, i, 0) 5 from (h.d _ _ (vd.m5 hi)).symm]
    rcases h.pw i hi with ⟨a, b⟩ | ⟨a, b⟩
    · rw [a, b]; rfl
    · rw [a, b]; exact (Int32.add_zero _).symm
  have p19 : ∀ i, i < mc → ∀ j, j < lc i → (phX T mc lc gdm t).1 (3, i, j) 9 = (poM U mc lc t).1 (2, 0, 19) (8 * i + j) := fun i hi j hj => by
    have w : (poM U mc lc t).1 (2, 0, 19) (8 * i + j) = _ := pwM_19 _ lc h8 mc i j hi hj
    rw [w, e9 i hi j hj]
    unfold spV spW
    rw [Uw 9 i (by decide) (by omega), Uw 8 i (by decide) (by omega), Uw 14 _ (by decide) (by omega), Uw 15 _ (by decide) (by omega), Uw 13 _ (by decide) (by omega), Uw 19 _ (by decide) (by omega), show U.1 (2, 0, 9) i = T.1 (1, i, 0) 5 from (h.d _ _ (vd.m5 hi)).symm, show U.1 (2, 0, 14) (8 * i + j) = T.1 (3, i, j) 2 from (h.d _ _ (vd.l2 hi hj (h8 i))).symm, show U.1 (2, 0, 13) (8 * i + j) = T.1 (3, i, j) 5 from (h.d _ _ (vd.l5 hi hj (h8 i))).symm, show U.1 (2, 0, 19) (8 * i + j) = T.1 (3, i, j) 9 from (h.d _ _ (vd.l9 hi hj (h8 i))).symm]
    rcases h.pw i hi with ⟨a, b⟩ | ⟨a, b⟩
    · have n1 : ¬ (1 : Int32) = 0 := by decide
      rw [a, b]
      simp only [if_true, if_neg n1]
      by_cases c : T.1 (3, i, j) 2 = 2
      · rw [if_pos c, if_pos c, h.kp i hi j hj c]
        by_cases c5 : T.1 (3, i, j) 5 ≤ 0
        · rw [if_pos c5, if_pos c5]
          split <;> rfl
        · rw [if_neg c5, if_neg c5]
      · rw [if_neg c, if_neg c]
    · have n1 : ¬ (1 : Int32) = 0 := by decide
      rw [a, b]
      simp only [if_true, if_neg n1]
  refine h.of bT.1 u2 (tn _ _ _ _ (by omega) (by omega) (by omega) (by omega)) (fun i => tn _ _ _ _ (by omega) (by omega) (by omega) (by omega)) (uf _ _ (by decide) (by decide) (by decide) (by decide)) (fun i => uf _ _ (by decide) (by decide) (by decide) (by omega)) ?_ ?_ (h.szE (fun g => tn _ _ _ _ (by omega) (by omega) (by omega) (by omega))) (h.tbE (fun _ _ => tn _ _ _ _ (by omega) (by omega) (by omega) (by omega))) (h.nnE (fun _ _ => tn _ _ _ _ (by omega) (by omega) (by omega) (by omega)) (fun _ => tn _ _ _ _ (by omega) (by omega) (by omega) (by omega))) (h.lbE (fun i l q hq => tn _ _ _ _ (by omega) (by omega) (by omega) (by omega))) ?_ ?_ ?_ ?_
  · refine h.set fHr (fun k j hv hk => eT k j hk) (fun k j hv hk => ?_) (fun k j hv hk => ?_)
    · obtain ⟨a, b, c, d⟩ := vd_hr hv hk
      exact uf _ _ a b c d
    · obtain ⟨a, b, c⟩ := k
      rcases hk with hk | hk | hk | hk
      · obtain ⟨k1, k2⟩ := hk
        have k1 : a = 1 := k1
        have k2 : c = 12 := k2
        subst k1; subst k2
        have hm := vd_mi hv
        exact (th b hm.1 j (hm.2.1 (by omega))).1
      · obtain ⟨k1, k2, k3⟩ := hk
        have k1 : a = 1 := k1
        have k2 : c = 0 := k2
        subst k1; subst k2; subst k3
        exact p9 b (vd_mi hv).1
      · obtain ⟨k1, k3⟩ := hk
        have k1 : a = 3 := k1
        subst k1; subst k3
        exact p19 b (vd_li hv).1 c (vd_li hv).2
      · obtain ⟨k1, k3⟩ := hk
        cases k1
        subst k3
        exact hT.trans hU.symm
  · obtain ⟨t', a, b, c⟩ := h.hr
    have et : t' = t := (nI_eq (by omega) (by omega)).mp (b.symm.trans ht)
    refine ⟨t + 1, by omega, hT, fun i hi q hq => ?_⟩
    obtain ⟨n, n1, n2⟩ := c i hi q hq
    rcases (th i hi q hq).2 with e | e
    · exact ⟨n, e.trans n1, by omega⟩
    · exact ⟨n + 1, by rw [e, n1]; exact nI_add n 1, by omega⟩
  · intro i hi w hw
    rw [tn _ _ _ _ (by omega) (by omega) (by omega) (by omega), tn _ _ _ _ (by omega) (by omega) (by omega) (by omega), tn _ _ _ _ (by omega) (by omega) (by omega) (by omega), uf _ _ (by decide) (by decide) (by decide) (by omega)]
    exact h.wt i hi w hw
  · intro i hi
    rw [tn _ _ _ _ (by omega) (by omega) (by omega) (by omega), uf _ _ (by decide) (by decide) (by decide) (by omega)]
    exact h.pw i hi
  · intro i hi l hl
    rw [tn _ _ _ _ (by omega) (by omega) (by omega) (by omega), tn _ _ _ _ (by omega) (by omega) (by omega) (by omega), uf _ _ (by decide) (by decide) (by decide) (by omega)]
    exact h.kp i hi l hl
  · intro f x hz
    have hz0 := h.z f x hz
    by_cases f22 : f = 22
    · subst f22
      rw [u22o x (fun i g hi hg => by
        have := Nat.mod_lt t (show 24 > 0 by decide)
        unfold zb at hz
        omega)]
      exact hz0
    · by_cases f9 : f = 9
      · subst f9
        have hx : mc ≤ x := by
          unfold zb at hz
          omega
        exact (pwM_9o _ lc mc x hx).trans ((Uw 9 x (by decide) (by omega)).trans hz0)
      · by_cases f19 : f = 19
        · subst f19
          have hx : lc (x / 8) ≤ x % 8 := by
            unfold zb at hz
            omega
          refine (pwM_19o _ lc mc x (fun i hi => ?_)).trans ((Uw 19 x (by decide) (by omega)).trans hz0)
          have := h8 i
          by_cases e : x / 8 = i
          · rw [e] at hx
            omega
          · omega
        · rw [uf f x f22 f9 f19 (fun e => by
            unfold zb at hz
            omega)]
          exact hz0
theorem RR.hoursU (h : RR T U mc lc) (hG : GdX T mc lc gdm) (ht : T.1 (0, 0, 0) 7 = nI t) : ∀ n, t + n ≤ 3000 → RR (hrX T mc lc gdm t n) (hrM U mc lc t n) mc lc
  | 0, _ => h
  | n + 1, hn => (RR.hoursU h hG ht n (by omega)).hourU ((hrX_but T mc lc gdm t n).hrG hG) (hrX_h ht n) (by omega)
theorem hrX_M (S : Mm) (mc : Nat) (lc : Nat → Nat) (gdm : Nat → Nat → Nat) (t n : Nat) : agM S (hrX S mc lc gdm t n) := agM.bt (hrX_but S mc lc gdm t n) (fun k j q => by
  rcases q with q | q | q | q
  · rw [q.1]; decide
  · rw [q.1]; decide
  · rw [q.1]; decide
  · rw [q.1]; decide)
theorem poM_X (S : Mm) (mc : Nat) (lc : Nat → Nat) (t : Nat) : agX S (poM S mc lc t) := ((agX.bt (thM_but S lc (t % 24) mc) (fun k j q => by rw [q])).wI rfl).tr (agX.bt (pwM_but _ lc mc) (fun k j q => by rcases q with q | q <;> rw [q]))
theorem hrM_X (S : Mm) (mc : Nat) (lc : Nat → Nat) (t : Nat) : ∀ n, agX S (hrM S mc lc t n)
  | 0 => agX.rf
  | n + 1 => (hrM_X S mc lc t n).tr (poM_X _ mc lc (t + n))
end HR
set_option maxHeartbeats 400000 in
theorem o_hours (l : Launch) (E : En) (base aw : Nat) {S : Mm} {mc : Nat} {lc : Nat → Nat} (h : RR S S mc lc) (p0 : Int32) : Op l E base aw yX6_hours cX6_hours 3 (some Jvm.ClassFile.FieldType.int) 4 yX7_hours cX7_hours 3 4 [vi p0] S := by
  obtain ⟨t, t1, t2, -⟩ := h.hr
  have ht : ∀ S1, RR S S1 mc lc → S1.1 (2, 0, 0) 0 = nI t := fun S1 h1 => (h1.d _ _ vd.hour).symm.trans t2
  by_cases c1 : 1 ≤ p0
  · by_cases c2 : p0 ≤ nI (3000 - t)
    · obtain ⟨n, rfl, n1, n2⟩ := i32_rng (a := 1) (b := 3000 - t) c1 c2 (by decide) (by omega)
      have hG : GdX S mc lc (fun i k => (S.1 (3, i, k) 0).toNatClampNeg) := fun i hi k hk => by
        obtain ⟨⟨g, g1, g2⟩, -⟩ := h.lb i hi k hk
        show S.1 (3, i, k) 0 = nI (S.1 (3, i, k) 0).toNatClampNeg ∧ (S.1 (3, i, k) 0).toNatClampNeg < 16
        rw [g1, cl g]
        exact ⟨rfl, g2⟩
      exact Op.gen h (c_X6_hours _ _ _ _ _ mc lc h.ix _ hG t t2 t1 n n1 (by omega)) (hrX_M _ _ _ _ _ _) (fun h1 => c_X7_hours _ _ _ _ _ mc lc h1.im t (ht _ h1) t1 n n1 (by omega)) (hrM_X _ _ _ _ _) (fun h1 => h1.hoursU hG t2 n (by omega))
    · exact Op.ref h (k := 6) (by decide) (c_X6_hours_hi _ _ _ _ _ mc lc h.ix t t2 t1 p0 c1 c2) (fun S1 h1 => c_X7_hours_hi _ _ _ _ S1 mc lc h1.im t (ht _ h1) t1 p0 c1 c2)
  · exact Op.ref h (k := 4) (by decide) (c_X6_hours_lo _ _ _ _ _ mc lc h.ix p0 c1) (fun S1 h1 => c_X7_hours_lo _ _ _ _ S1 mc lc h1.im t (ht _ h1) t1 p0 c1)
