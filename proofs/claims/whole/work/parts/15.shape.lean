/-! THE MODEL'S CELLS: the object (2,0,0); the array of its field f is (2,0,f) -/
def mArr (f : Nat) : Bool := decide (2 ≤ f) && decide (f ≤ 33) && decide (f ≠ 27)
def ShM (S : Mm) : Prop := S.2.2 (2, 0, 0) = true ∧ ∀ f, mArr f = true → S.2.1 (2, 0, 0) f = some (2, 0, f) ∧ S.2.2 (2, 0, f) = true
/-- with mc machines, of lc i lanes each -/
def CtM (S : Mm) (mc : Nat) (lc : Nat → Nat) : Prop := S.1 (2, 0, 0) 1 = nI mc ∧ mc ≤ 6 ∧ ∀ i, i < 6 → S.1 (2, 0, 2) i = nI (lc i) ∧ lc i ≤ 8
def IM (S : Mm) (mc : Nat) (lc : Nat → Nat) : Prop := ShM S ∧ CtM S mc lc
/-- a refusal of the model -/
def rfM (S : Mm) (k : Nat) : Mm := wI S (2, 0, 30) k (S.1 (2, 0, 30) k + 1)
def okN (n : Nat) (x : Int32) : Prop := ∃ i, i < n ∧ x = nI i
theorem okN_no {n : Nat} {x : Int32} (hn : n < 2 ^ 31) (h : ¬ okN n x) : x < 0 ∨ nI n ≤ x := by
  rcases pk_ix x hn with a | a | a
  · exact Or.inl a
  · exact Or.inr a
  · exact absurd a h
theorem i32_le_t {x y : Int32} : x ≤ y ↔ x.toInt ≤ y.toInt := Int32.le_iff_toInt_le
theorem i32_lt_t {x y : Int32} : x < y ↔ x.toInt < y.toInt := Int32.lt_iff_toInt_lt
theorem in_t {i n : Nat} (hi : i < n) (hn : n < 2 ^ 31) : (0 : Int32) ≤ nI i ∧ nI i ≤ nI n - 1 := by
  obtain ⟨m, rfl⟩ : ∃ m, n = m + 1 := ⟨n - 1, by omega⟩
  rw [nI_pred]
  exact ⟨nI_pos' (by omega), nI_le (by omega) (by omega)⟩
theorem in_f {x : Int32} {n : Nat} (hn : n < 2 ^ 31) (h : ¬ okN n x) : ¬ ((0 : Int32) ≤ x ∧ x ≤ nI n - 1) := by
  intro ⟨h1, h2⟩
  rcases okN_no hn h with a | a
  · exact Int32.not_lt.mpr h1 a
  · cases n with
    | zero =>
      have e : nI 0 - 1 = -1 := by decide
      rw [e] at h2
      have := Int32.le_trans h1 h2
      exact absurd this (by decide)
    | succ m =>
      rw [nI_pred] at h2
      have := Int32.le_trans a h2
      rw [nI_leI (by omega) (by omega)] at this
      omega
theorem okW_t {i n : Nat} (hi : i ≤ n) (hn : n < 2 ^ 31) : (0 : Int32) ≤ nI i ∧ nI i ≤ nI n := ⟨nI_pos' (by omega), nI_le hi hn⟩
theorem okW_f {x : Int32} {n : Nat} (hn : n + 1 < 2 ^ 31) (h : ¬ okN (n + 1) x) : ¬ ((0 : Int32) ≤ x ∧ x ≤ nI n) := by
  have := in_f hn h
  rw [nI_pred] at this
  exact this
/-- products and sums of small numbers -/
theorem mulN (c i : Nat) : nI c * nI i = nI (c * i) := pk_mul c i
theorem ix8 (i j : Nat) : (8 : Int32) * nI i + nI j = nI (8 * i + j) := by
  show nI 8 * nI i + nI j = _
  rw [pk_mul, nI_add]
theorem ix6 (i j : Nat) : (6 : Int32) * nI i + nI j = nI (6 * i + j) := by
  show nI 6 * nI i + nI j = _
  rw [pk_mul, nI_add]
theorem cl (n : Nat) (h : n < 2 ^ 31 := by omega) : (nI n).toNatClampNeg = n := nI_clamp h
theorem vin {x : Int32} {n N : Nat} (e : x = nI n) (h : n < N) (hN : N < 2 ^ 31 := by decide) : vp_in x N := by rw [e]; exact vp_in_nI h hN
section GN
variable {X : Xt} {Y : Yt} {cc : ByteArray} {nL : Nat} {own : String} {cells slots : Nat} {S : Mm} {pc : Nat} {L : List (Nat × AV)} {st : List AV}
theorem g_ialdN (C : Cx X Y cc nL own) {k : Ln} {n i : Nat} (hk : kd k = (1, n)) (hlv : S.2.2 k = true) (hi : i < n) (hn : n < 2 ^ 31) (hd : decode cc pc = .ok (.iaload, 1)) (kk : G X Y cells slots S (pc + 1) L (vi (S.1 k i) :: st)) : G X Y cells slots S pc L (vi (nI i) :: vr k :: st) :=
  g_iald C hk hlv (vp_in_nI hi hn) hd (by rw [cl i]; exact kk)
theorem g_baldN (C : Cx X Y cc nL own) {k : Ln} {n i : Nat} (hk : kd k = (2, n)) (hlv : S.2.2 k = true) (hi : i < n) (hn : n < 2 ^ 31) (hd : decode cc pc = .ok (.baload, 1)) (kk : G X Y cells slots S (pc + 1) L (vi (S.1 k i) :: st)) : G X Y cells slots S pc L (vi (nI i) :: vr k :: st) :=
  g_bald C hk hlv (vp_in_nI hi hn) hd (by rw [cl i]; exact kk)
theorem g_iastN (C : Cx X Y cc nL own) {k : Ln} {n i : Nat} {x : Int32} (hk : kd k = (1, n)) (hlv : S.2.2 k = true) (hi : i < n) (hn : n < 2 ^ 31) (hd : decode cc pc = .ok (.iastore, 1)) (kk : G X Y cells slots (wI S k i x) (pc + 1) L st) : G X Y cells slots S pc L (vi x :: vi (nI i) :: vr k :: st) :=
  g_iast C hk hlv (vp_in_nI hi hn) hd (by rw [cl i]; exact kk)
theorem g_bastN (C : Cx X Y cc nL own) {k : Ln} {n i : Nat} {x : Int32} (hk : kd k = (2, n)) (hlv : S.2.2 k = true) (hi : i < n) (hn : n < 2 ^ 31) (hz : x = 0 ∨ x = 1) (hd : decode cc pc = .ok (.bastore, 1)) (kk : G X Y cells slots (wI S k i x) (pc + 1) L st) : G X Y cells slots S pc L (vi x :: vi (nI i) :: vr k :: st) :=
  g_bast C hk hlv (vp_in_nI hi hn) hz hd (by rw [cl i]; exact kk)
theorem g_aaldN (C : Cx X Y cc nL own) {k : Ln} {t n i : Nat} (hk : kd k = (t, n)) (ht : t = 3 ∨ t = 4 ∨ t = 5) (hlv : S.2.2 k = true) (hi : i < n) (hn : n < 2 ^ 31) {o : Option Ln} (ho : S.2.1 k i = o) (hd : decode cc pc = .ok (.aaload, 1)) (kk : G X Y cells slots S (pc + 1) L (.inr o :: st)) : G X Y cells slots S pc L (vi (nI i) :: vr k :: st) :=
  g_aald C hk ht hlv (vp_in_nI hi hn) (by rw [cl i]; exact ho) hd kk
theorem g_wldN (C : Cx X Y cc nL own) {i : Nat} (hi : i < 6) (hd : decode cc pc = .ok (.iaload, 1)) (kk : G X Y cells slots S (pc + 1) L (vi (wths i) :: st)) : G X Y cells slots S pc L (vi (nI i) :: vr wK :: st) :=
  g_wld C (vp_in_nI hi (by decide)) hd (by rw [cl i]; exact kk)
end GN
section GE
variable {X : Xt} {Y : Yt} {cells slots : Nat} {S : Mm} {pc : Nat} {L : List (Nat × AV)} {st : List AV}
theorem g_eqix2 {x : Int32} (y : Int32) (e : x = y) (k : G X Y cells slots S pc L (vi y :: st)) : G X Y cells slots S pc L (vi x :: st) := e ▸ k
theorem g_eqix3 {x : Int32} {v : AV} (y : Int32) (e : x = y) (k : G X Y cells slots S pc L (v :: vi y :: st)) : G X Y cells slots S pc L (v :: vi x :: st) := e ▸ k
end GE
