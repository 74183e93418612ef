/-! loads: weights 256 against 1000 -/
section LD
variable {mt sz p gn gx : Nat → Nat} {n : Nat}
/-- the two tables at once: worth and room -/
theorem mx_two {F1 F2 : Nat → Nat} {s q r m : Nat} (hs : 1 ≤ s) (hq : s ≤ q) (hr : r ≤ 200) (hF : ∀ r', r' ≤ 200 → ∃ P U, U ≤ r' ∧ U ≤ P ∧ F1 r' = 1000 * P - U ∧ F2 r' = 256 * P - U) : ∀ c, c ≤ min m (r / s) + 1 → ∃ P U, U ≤ r ∧ U ≤ P ∧ mxN F1 s (1000 * q - s) r c = 1000 * P - U ∧ mxN F2 s (256 * q - s) r c = 256 * P - U
  | 0, _ => ⟨0, 0, Nat.zero_le _, Nat.le_refl _, rfl, rfl⟩
  | c + 1, hc => by
    obtain ⟨P, U, a1, a2, a3, a4⟩ := mx_two (m := m) hs hq hr hF c (by omega)
    have hcs : c * s ≤ r := (Nat.le_div_iff_mul_le hs).mp (by omega)
    obtain ⟨P', U', b1, b2, b3, b4⟩ := hF (r - c * s) (by omega)
    have e1 : c * (1000 * q - s) + F1 (r - c * s) = 1000 * (c * q + P') - (c * s + U') := by
      have h1 : c * (1000 * q - s) = 1000 * (c * q) - c * s := by rw [Nat.mul_sub, Nat.mul_left_comm]
      have h2 : c * s ≤ c * q := Nat.mul_le_mul_left c hq
      rw [b3, h1]
      omega
    have e2 : c * (256 * q - s) + F2 (r - c * s) = 256 * (c * q + P') - (c * s + U') := by
      have h1 : c * (256 * q - s) = 256 * (c * q) - c * s := by rw [Nat.mul_sub, Nat.mul_left_comm]
      have h2 : c * s ≤ c * q := Nat.mul_le_mul_left c hq
      rw [b4, h1]
      omega
    have h2 : c * s ≤ c * q := Nat.mul_le_mul_left c hq
    unfold mxN
    rw [e1, e2, a3, a4]
    by_cases z : 1000 * (c * q + P') - (c * s + U') ≤ 1000 * P - U
    · rw [if_pos z, if_pos (show 256 * (c * q + P') - (c * s + U') ≤ 256 * P - U by omega)]
      exact ⟨P, U, a1, a2, rfl, rfl⟩
    · rw [if_neg z, if_neg (show ¬ 256 * (c * q + P') - (c * s + U') ≤ 256 * P - U by omega)]
      exact ⟨c * q + P', c * s + U', by omega, by omega, rfl, rfl⟩
/-- what the tables of both are made of -/
def LdE (mt sz p gn gx : Nat → Nat) (n : Nat) : Prop := n ≤ 8 ∧ (∀ l, l < n → 1 ≤ sz l ∧ sz l ≤ p l ∧ gn l = 1000 * p l - sz l ∧ gx l = 256 * p l - sz l) ∧ (∀ l, n ≤ l → mt l = 0)
theorem ld_zero (h : LdE mt sz p gn gx n) : ∀ k, k ≤ 8 - n → ∀ r, ldR mt sz gn k r = 0
  | 0, _, r => rfl
  | k + 1, hk, r => by
    have e := h.2.2 (7 - k) (by omega)
    show mxN (ldR mt sz gn k) (sz (7 - k)) (gn (7 - k)) r (min (mt (7 - k)) (r / sz (7 - k)) + 1) = 0
    rw [e, Nat.zero_min]
    show (if 0 * gn (7 - k) + ldR mt sz gn k (r - 0 * sz (7 - k)) ≤ 0 then 0 else 0 * gn (7 - k) + ldR mt sz gn k (r - 0 * sz (7 - k))) = 0
    rw [ld_zero h k (by omega), Nat.zero_mul]
    rfl
theorem ld_two (h : LdE mt sz p gn gx n) : ∀ k, k ≤ n → ∀ r, r ≤ 200 → ∃ P U, U ≤ r ∧ U ≤ P ∧ ldR mt sz gn (8 - n + k) r = 1000 * P - U ∧ xdR mt sz gx n k r = 256 * P - U
  | 0, _, r, _ => ⟨0, 0, Nat.zero_le _, Nat.le_refl _, ld_zero h _ (Nat.le_refl _) r, rfl⟩
  | k + 1, hk, r, hr => by
    have h8 := h.1
    have e7 : 7 - (8 - n + k) = n - 1 - k := by omega
    obtain ⟨a, b, c, d⟩ := h.2.1 (n - 1 - k) (by omega)
    have t := mx_two (m := mt (n - 1 - k)) a b hr (fun r' hr' => ld_two h k (by omega) r' hr') _ (Nat.le_refl _)
    rw [← c, ← d] at t
    show ∃ P U, U ≤ r ∧ U ≤ P ∧ mxN (ldR mt sz gn (8 - n + k)) (sz (7 - (8 - n + k))) (gn (7 - (8 - n + k))) r (min (mt (7 - (8 - n + k))) (r / sz (7 - (8 - n + k))) + 1) = 1000 * P - U ∧ mxN (xdR mt sz gx n k) (sz (n - 1 - k)) (gx (n - 1 - k)) r (min (mt (n - 1 - k)) (r / sz (n - 1 - k)) + 1) = 256 * P - U
    rw [e7]
    exact t
theorem exL_two {F1 F2 : Nat → Nat} {t1 t2 s g1 g2 left : Nat} : ∀ c, (∀ c', c' ≤ c → (c' * g1 + F1 (left - c' * s) = t1 ↔ c' * g2 + F2 (left - c' * s) = t2)) → exL F1 t1 s g1 left c = exL F2 t2 s g2 left c
  | 0, _ => rfl
  | c + 1, h => by
    unfold exL
    have h1 := h (c + 1) (Nat.le_refl _)
    have ih := exL_two c (fun c' hc => h c' (by omega))
    by_cases z : (c + 1) * g1 + F1 (left - (c + 1) * s) = t1
    · rw [if_pos z, if_pos (h1.mp z)]
    · rw [if_neg z, if_neg (fun y => z (h1.mpr y)), ih]
theorem cl_xc (h : LdE mt sz p gn gx n) {l left : Nat} (hl : l < n) (hleft : left ≤ 200) : clN mt sz gn l left = xc mt sz gx n l left := by
  have h8 := h.1
  obtain ⟨a, b, c, d⟩ := h.2.1 l hl
  unfold clN xc
  rw [maN_ex, show 7 - l = 8 - n + (n - 1 - l) by omega, show 8 - l = 8 - n + (n - l) by omega]
  refine exL_two _ (fun k hk => ?_)
  obtain ⟨P, U, a1, a2, a3, a4⟩ := ld_two h (n - l) (by omega) left hleft
  have hcs : k * sz l ≤ left := (Nat.le_div_iff_mul_le a).mp (by omega)
  obtain ⟨P', U', b1, b2, b3, b4⟩ := ld_two h (n - 1 - l) (by omega) (left - k * sz l) (by omega)
  have h1 : k * (1000 * p l - sz l) = 1000 * (k * p l) - k * sz l := by rw [Nat.mul_sub, Nat.mul_left_comm]
  have h3 : k * (256 * p l - sz l) = 256 * (k * p l) - k * sz l := by rw [Nat.mul_sub, Nat.mul_left_comm]
  have h2 : k * sz l ≤ k * p l := Nat.mul_le_mul_left k b
  rw [a3, a4, b3, b4, c, d, h1, h3]
  omega
theorem ll_x (h : LdE mt sz p gn gx n) {room : Nat} (hr : room ≤ 200) : ∀ l, l ≤ n → llN mt sz gn room l = xll mt sz gx n room l
  | 0, _ => rfl
  | l + 1, hl => by
    have ih := ll_x h hr l (by omega)
    show llN mt sz gn room l - clN mt sz gn l (llN mt sz gn room l) * sz l = xll mt sz gx n room l - xc mt sz gx n l (xll mt sz gx n room l) * sz l
    rw [ih, cl_xc h (by omega) (Nat.le_trans (xll_le _ _ _ _ _ l) hr)]
theorem cl_0 (h : LdE mt sz p gn gx n) {l left : Nat} (hl : n ≤ l) : clN mt sz gn l left = 0 := by
  unfold clN
  rw [h.2.2 l hl, Nat.zero_min]
  rfl
end LD
theorem xpM_at (S : Mm) (mt sz gx : Nat → Nat) (n room : Nat) : ∀ j q, (q < j → (xpM S mt sz gx n room j).1 (0, 0, 10) q = nI (xc mt sz gx n q (xll mt sz gx n room q))) ∧ (j ≤ q → (xpM S mt sz gx n room j).1 (0, 0, 10) q = S.1 (0, 0, 10) q)
  | 0, q => ⟨fun h => by omega, fun _ => rfl⟩
  | j + 1, q => by
    obtain ⟨a, b⟩ := xpM_at S mt sz gx n room j q
    refine ⟨fun h => ?_, fun h => (wI_ne (fun z => by have := z.2; omega)).trans (b (by omega))⟩
    by_cases e : q = j
    · subst e; exact wI_same
    · exact (wI_ne (fun z => e z.2)).trans (a (by omega))
theorem vd_vn {mc : Nat} {lc : Nat → Nat} {k : Ln} {j : Nat} (h : vd mc lc k j) : k.1 ≠ 4 ∧ (pt k j).1 ≠ 33 ∧ (k ≠ (0, 0, 10) → (pt k j).1 ≠ 29) := by
  induction h using vd.elim <;> exact ⟨Nat.ne_of_beq_eq_false rfl, Nat.ne_of_beq_eq_false rfl, by first | exact fun _ => Nat.ne_of_beq_eq_false rfl | exact fun q => absurd rfl q⟩
theorem vd_pi {mc : Nat} {lc : Nat → Nat} {q : Nat} (hv : vd mc lc (0, 0, 10) q) : q < 8 := by
  generalize hz : ((0, 0, 10) : Ln) = z at hv
  induction hv using vd.elim <;> first | (cases hz; done) | assumption
section LU
variable {T U T' U' : Mm} {mc : Nat} {lc : Nat → Nat} {i : Nat}
theorem RR.loadU (h : RR T U mc lc) (bT : but fVn T T') (bU : but fLd U U') (e : ∀ q, q < 8 → T'.1 (0, 0, 10) q = U'.1 (2, 0, 29) q) : RR T' U' mc lc := by
  have tn : ∀ a b c j, a ≠ 4 → ¬ (a = 0 ∧ c = 10) → T'.1 (a, b, c) j = T.1 (a, b, c) j := fun a b c j q1 q2 => bT.2 _ _ (fun z => by
    rcases z with z | z
    · exact q1 z
    · cases z; exact q2 ⟨rfl, rfl⟩)
  have ur : ∀ f x, f ≠ 33 → f ≠ 29 → U'.1 (2, 0, f) x = U.1 (2, 0, f) x := fun f x a b => bU.2 _ _ (fLd_no (fun z => a (congrArg (fun z : Ln => z.2.2) z)) (fun z => b (congrArg (fun z : Ln => z.2.2) z)))
  refine h.of bT.1 bU.1 (tn _ _ _ _ (by omega) (by omega)) (fun i' => tn _ _ _ _ (by omega) (by omega)) (ur _ _ (by decide) (by decide)) (fun x => ur _ _ (by decide) (by decide)) ?_ (h.hrE (tn _ _ _ _ (by omega) (by omega)) (fun _ _ => tn _ _ _ _ (by omega) (by omega))) (h.szE (fun _ => tn _ _ _ _ (by omega) (by omega))) (h.tbE (fun _ _ => tn _ _ _ _ (by omega) (by omega))) (h.nnE (fun _ _ => tn _ _ _ _ (by omega) (by omega)) (fun _ => tn _ _ _ _ (by omega) (by omega))) (h.lbE (fun _ _ _ _ => tn _ _ _ _ (by omega) (by omega))) ?_ ?_ ?_ ?_
  · refine h.set (fun k _ => k = (0, 0, 10)) (fun k j hv hk => ?_) (fun k j hv hk => ?_) (fun k j hv hk => ?_)
    · exact bT.2 _ _ (fun z => by
        rcases z with z | z
        · exact (vd_vn hv).1 z
        · exact hk z)
    · exact ur _ _ (vd_vn hv).2.1 ((vd_vn hv).2.2 hk)
    · subst hk
      exact e j (vd_pi hv)
  · intro i' hi' w hw
    rw [tn _ _ _ _ (by omega) (by omega), tn _ _ _ _ (by omega) (by omega), tn _ _ _ _ (by omega) (by omega), ur _ _ (by decide) (by decide)]
    exact h.wt i' hi' w hw
  · intro i' hi'
    rw [tn _ _ _ _ (by omega) (by omega), ur _ _ (by decide) (by decide)]
    exact h.pw i' hi'
  · intro i' hi' l hl
    rw [tn _ _ _ _ (by omega) (by omega), tn _ _ _ _ (by omega) (by omega), ur _ _ (by decide) (by decide)]
    exact h.kp i' hi' l hl
  · intro f x hz
    rw [ur f x (fun e => by unfold zb at hz; omega) (fun e => by unfold zb at hz; omega)]
    exact h.z f x hz
end LU
/-- numbers of a machine's lanes, as both read them -/
def gdU (U : Mm) (a : Nat) : Nat := (U.1 (2, 0, 10) a).toNatClampNeg
def szU (U : Mm) (i l : Nat) : Nat := (U.1 (2, 0, 20) (gdU U (8 * i + l))).toNatClampNeg
def mtT (T : Mm) (lc : Nat → Nat) (i l : Nat) : Nat := if l < lc i then (v_space T i l).toNatClampNeg else 0
def prT (T : Mm) (lc : Nat → Nat) (i l : Nat) : Nat := if l < lc i then (T.1 (3, i, l) 4).toNatClampNeg else 0
def gnT (T U : Mm) (lc : Nat → Nat) (i l : Nat) : Nat := 1000 * prT T lc i l - szU U i l
def gxT (T U : Mm) (lc : Nat → Nat) (i l : Nat) : Nat := 256 * prT T lc i l - szU U i l
section LN
variable {T U : Mm} {mc : Nat} {lc : Nat → Nat} {i l : Nat}
theorem RR.lc8 (h : RR T U mc lc) (i : Nat) : lc i ≤ 8 := by
  by_cases e : i < mc
  · exact h.l8 e
  · rw [h.lz i (by omega)]; decide
theorem RR.gd48 (h : RR T U mc lc) {a : Nat} (ha : a < 48) : U.1 (2, 0, 10) a = nI (gdU U a) ∧ gdU U a < 16 := by
  unfold gdU
  by_cases c : a / 8 < mc ∧ a % 8 < lc (a / 8)
  · obtain ⟨⟨g, g1, g2⟩, -⟩ := h.lb _ c.1 _ c.2
    have e : U.1 (2, 0, 10) a = nI g := by
      have d : T.1 (3, a / 8, a % 8) 0 = U.1 (2, 0, 10) (8 * (a / 8) + a % 8) := h.d _ _ (vd.l0 c.1 c.2 (h.lc8 _))
      rw [show 8 * (a / 8) + a % 8 = a by omega] at d
      exact d.symm.trans g1
    rw [e, cl g]
    exact ⟨rfl, g2⟩
  · have e : U.1 (2, 0, 10) a = 0 := h.z 10 a (by
      have z : ¬ a / 8 < mc → lc (a / 8) = 0 := fun q => h.lz _ (by omega)
      unfold zb
      by_cases q : a / 8 < mc
      · omega
      · have := z q
        omega)
    rw [e]
    exact ⟨rfl, by decide⟩
theorem RR.gdL (h : RR T U mc lc) (hi : i < mc) (hl : l < lc i) : T.1 (3, i, l) 0 = nI (gdU U (8 * i + l)) ∧ gdU U (8 * i + l) < 16 := by
  have := h.lc8 i
  have := h.i6 hi
  have e := h.gd48 (a := 8 * i + l) (by omega)
  exact ⟨(h.d _ _ (vd.l0 hi hl (h.lc8 i))).trans e.1, e.2⟩
theorem RR.szL (h : RR T U mc lc) (hi : i < mc) (hl : l < 8) : U.1 (2, 0, 20) (gdU U (8 * i + l)) = nI (szU U i l) ∧ 1 ≤ szU U i l ∧ szU U i l ≤ 9 := by
  have := h.i6 hi
  have e := h.gd48 (a := 8 * i + l) (by omega)
  obtain ⟨s, s1, s2, s3⟩ := h.sz _ e.2
  have d : T.1 (0, 0, 2) (gdU U (8 * i + l)) = U.1 (2, 0, 20) (gdU U (8 * i + l)) := h.d _ _ (vd.size e.2)
  unfold szU
  rw [← d, s1, cl s]
  exact ⟨rfl, s2, s3⟩
theorem RR.mtL (h : RR T U mc lc) (hi : i < mc) (hl : l < lc i) : v_space T i l = nI (mtT T lc i l) ∧ mtT T lc i l ≤ 20 := by
  obtain ⟨-, ⟨d, s, d1, d2, d3, d4⟩, -⟩ := h.lb i hi l hl
  unfold mtT
  rw [if_pos hl]
  unfold v_space
  split
  · rw [d1, d3, pk_sub d4, cl (d - s)]
    exact ⟨rfl, by omega⟩
  · exact ⟨rfl, by decide⟩
theorem RR.prL (h : RR T U mc lc) (hi : i < mc) (hl : l < lc i) : T.1 (3, i, l) 4 = nI (prT T lc i l) ∧ 10 ≤ prT T lc i l ∧ prT T lc i l ≤ 5000 := by
  obtain ⟨-, -, ⟨p, p1, p2, p3, -⟩, -⟩ := h.lb i hi l hl
  unfold prT
  rw [if_pos hl, p1, cl p]
  exact ⟨rfl, p2, p3⟩
theorem RR.ldE (h : RR T U mc lc) (hi : i < mc) : LdE (mtT T lc i) (szU U i) (prT T lc i) (gnT T U lc i) (gxT T U lc i) (lc i) := by
  refine ⟨h.lc8 i, fun l hl => ?_, fun l hl => if_neg (by omega)⟩
  have := h.lc8 i
  have a := h.szL hi (l := l) (by omega)
  have b := h.prL hi hl
  exact ⟨a.2.1, by omega, rfl, rfl⟩
theorem RR.vaH (h : RR T U mc lc) (hi : i < mc) : VaH T (fun j => gdU U (8 * i + j)) (mtT T lc i) (szU U i) (gxT T U lc i) i (lc i) := by
  have l8 := h.lc8 i
  refine ⟨fun j hj => h.gdL hi hj, fun j hj => h.mtL hi hj, fun j hj => ?_, fun j hj => ?_⟩
  · have a := h.szL hi (l := j) (by omega)
    have e := h.gdL hi hj
    exact ⟨(h.d _ _ (vd.size e.2)).trans a.1, a.2⟩
  · have a := h.szL hi (l := j) (by omega)
    have b := h.prL hi hj
    unfold v_gain gxT
    rw [b.1, show (256 : Int32) = nI 256 from rfl, pk_mul, pk_sub (by omega), Nat.mul_comm]
    exact ⟨rfl, by omega⟩
theorem RR.ldH (h : RR T U mc lc) (hi : i < mc) : LdH U (gdU U) (mtT T lc i) (szU U i) (gnT T U lc i) i := by
  have l8 := h.lc8 i
  have i6 := h.i6 hi
  have e2 : U.1 (2, 0, 2) i = nI (lc i) := (h.im.2.2.2 i i6).1
  refine ⟨fun a ha => h.gd48 ha, fun l hl => ?_, fun l hl => h.szL hi hl, fun l hl => ?_⟩
  · by_cases c : l < lc i
    · have m := h.mtL hi c
      refine ⟨?_, m.2⟩
      rw [← m.1]
      unfold v_X7_mayTake v_space v_closed
      rw [e2, if_neg (fun q => by rw [nI_leI (by omega) (by omega)] at q; omega), show U.1 (2, 0, 18) (8 * i + l) = T.1 (3, i, l) 8 from (h.d _ _ (vd.l8 hi c l8)).symm, show U.1 (2, 0, 19) (8 * i + l) = T.1 (3, i, l) 9 from (h.d _ _ (vd.l9 hi c l8)).symm, show U.1 (2, 0, 12) (8 * i + l) = T.1 (3, i, l) 1 from (h.d _ _ (vd.l1 hi c l8)).symm, show U.1 (2, 0, 13) (8 * i + l) = T.1 (3, i, l) 5 from (h.d _ _ (vd.l5 hi c l8)).symm]
      by_cases c8 : T.1 (3, i, l) 8 = 0
      · by_cases c9 : T.1 (3, i, l) 9 = 0
        · rw [if_pos c8, if_pos c8, if_pos c9, if_pos c9, if_pos rfl]
        · rw [if_pos c8, if_pos c8, if_neg c9, if_neg c9, if_neg (by decide)]
      · rw [if_neg c8, if_neg c8, if_neg (by decide)]
    · have e0 : mtT T lc i l = 0 := if_neg c
      unfold v_X7_mayTake
      rw [e2, if_pos ((nI_leI (by omega) (by omega)).mpr (by omega)), e0]
      exact ⟨rfl, by decide⟩
  · have a := h.szL hi hl
    by_cases c : l < lc i
    · have b := h.prL hi c
      refine ⟨by unfold gnT; omega, fun k hk => ?_⟩
      unfold v_X7_worthAt v_X7_sizeAt
      rw [show U.1 (2, 0, 11) (8 * i + l) = nI (prT T lc i l) from (h.d _ _ (vd.l4 hi c l8)).symm.trans b.1, a.1, show (1000 : Int32) = nI 1000 from rfl, pk_mul, pk_sub (by omega), pk_mul]
      rfl
    · have e0 : mtT T lc i l = 0 := if_neg c
      have e1 : prT T lc i l = 0 := if_neg c
      refine ⟨by unfold gnT; rw [e1]; omega, fun k hk => ?_⟩
      have ek : k = 0 := by omega
      subst ek
      unfold v_X7_worthAt
      rw [Nat.zero_mul]
      exact Int32.zero_mul
end LN
theorem lv_lo {U T : Mm} {mt sz p gn gx : Nat → Nat} {n i room : Nat} (h : LdE mt sz p gn gx n) (hr : room ≤ 200) (e : ∀ j, j < n → U.1 (2, 0, 11) (8 * i + j) = T.1 (3, i, j) 4) : ∀ l, l ≤ n → lvI U i mt sz gn room l = xvI T i mt sz gx n room l
  | 0, _ => rfl
  | l + 1, hl => by
    show lvI U i mt sz gn room l + nI (clN mt sz gn l (llN mt sz gn room l)) * U.1 (2, 0, 11) (8 * i + l) = xvI T i mt sz gx n room l + nI (xc mt sz gx n l (xll mt sz gx n room l)) * T.1 (3, i, l) 4
    rw [lv_lo h hr e l (by omega), e l (by omega), ll_x h hr l (by omega), cl_xc h (by omega) (Nat.le_trans (xll_le _ _ _ _ _ l) hr)]
theorem lv_hi {U : Mm} {mt sz p gn gx : Nat → Nat} {n i room : Nat} (h : LdE mt sz p gn gx n) : ∀ d, lvI U i mt sz gn room (n + d) = lvI U i mt sz gn room n
  | 0 => rfl
  | d + 1 => by
    show lvI U i mt sz gn room (n + d) + nI (clN mt sz gn (n + d) (llN mt sz gn room (n + d))) * U.1 (2, 0, 11) (8 * i + (n + d)) = _
    rw [lv_hi h d, cl_0 h (by omega), show nI 0 = 0 from rfl, Int32.zero_mul, Int32.add_zero]
set_option maxHeartbeats 400000 in
theorem o_load (l : Launch) (E : En) (base aw : Nat) {S : Mm} {mc : Nat} {lc : Nat → Nat} (h : RR S S mc lc) (p0 p1 : Int32) : Op l E base aw yX6_load cX6_load 4 (some Jvm.ClassFile.FieldType.int) 5 yX7_load cX7_load 8 3 [vi p0, vi p1] S := by
  by_cases ok : okN mc p0
  · obtain ⟨i, hi, rfl⟩ := ok
    by_cases c1 : 0 ≤ p1
    · by_cases c2 : p1 ≤ 200
      · obtain ⟨room, rfl, -, hr⟩ := i32_rng (a := 0) (b := 200) c1 c2
        have l8 := h.lc8 i
        have hE := h.ldE hi
        have bX : but fVn S (xpM (flM (xtM S (mtT S lc i) (szU S i) (gxT S S lc i) (lc i) room) (0, 0, 10) 0 8) (mtT S lc i) (szU S i) (gxT S S lc i) (lc i) room (lc i)) := ((xtM_but _ _ _ _ _ _).tr (flM_vp _ 0 8)).tr (xpM_but _ _ _ _ _ _ _)
        have x := c_X6_load l E base aw S mc lc h.ix i hi room hr _ _ _ _ (h.vaH hi)
        have bF : but fVn S (flM (xtM S (mtT S lc i) (szU S i) (gxT S S lc i) (lc i) room) (0, 0, 10) 0 8) := (xtM_but _ _ _ _ _ _).tr (flM_vp _ 0 8)
        have pc : ∀ q, q < 8 → (q < lc i → (xpM (flM (xtM S (mtT S lc i) (szU S i) (gxT S S lc i) (lc i) room) (0, 0, 10) 0 8) (mtT S lc i) (szU S i) (gxT S S lc i) (lc i) room (lc i)).1 (0, 0, 10) q = nI (xc (mtT S lc i) (szU S i) (gxT S S lc i) (lc i) q (xll (mtT S lc i) (szU S i) (gxT S S lc i) (lc i) room q))) ∧ (lc i ≤ q → (xpM (flM (xtM S (mtT S lc i) (szU S i) (gxT S S lc i) (lc i) room) (0, 0, 10) 0 8) (mtT S lc i) (szU S i) (gxT S S lc i) (lc i) room (lc i)).1 (0, 0, 10) q = 0) := fun q hq => by
          have a := xpM_at (flM (xtM S (mtT S lc i) (szU S i) (gxT S S lc i) (lc i) room) (0, 0, 10) 0 8) (mtT S lc i) (szU S i) (gxT S S lc i) (lc i) room (lc i) q
          exact ⟨a.1, fun z => (a.2 z).trans (flM_at _ _ _ 8 q hq)⟩
        generalize xpM (flM (xtM S (mtT S lc i) (szU S i) (gxT S S lc i) (lc i) room) (0, 0, 10) 0 8) (mtT S lc i) (szU S i) (gxT S S lc i) (lc i) room (lc i) = S1 at x bX pc
        have ag : agM S S1 := agM.bt bX (fun k j q => by
          rcases q with q | q
          · rw [q]; decide
          · rw [q]; decide)
        have ez : szU S1 i = szU S i := funext (fun q => by
          have a : ∀ a, gdU S1 a = gdU S a := fun a => by
            unfold gdU
            rw [(ag (2, 0, 10) rfl).1]
          unfold szU
          rw [a, (ag (2, 0, 20) rfl).1])
        have eg : gnT S S1 lc i = gnT S S lc i := funext (fun q => by
          unfold gnT
          rw [ez])
        have bU : but fLd S1 (lcM (ltM S1 (mtT S lc i) (szU S i) (gnT S S lc i) room) (mtT S lc i) (szU S i) (gnT S S lc i) room 8) := (ltM_but _ _ _ _ room).tr (lcM_but _ _ _ _ room 8)
        refine Op.gen h (S2 := lcM (ltM S1 (mtT S lc i) (szU S i) (gnT S S lc i) room) (mtT S lc i) (szU S i) (gnT S S lc i) room 8) x ag (fun h1 => ?_) (agX.bt bU (fun k j q => by rcases q with q | q <;> rw [q])) (fun h1 => ?_)
        · have hL := h1.ldH hi
          rw [ez, eg] at hL
          have m := c_X7_load l E base aw S1 mc lc h1.im i hi room hr _ _ _ _ hL
          have ev : lvI (ltM S1 (mtT S lc i) (szU S i) (gnT S S lc i) room) i (mtT S lc i) (szU S i) (gnT S S lc i) room 8 = xvI (flM (xtM S (mtT S lc i) (szU S i) (gxT S S lc i) (lc i) room) (0, 0, 10) 0 8) i (mtT S lc i) (szU S i) (gxT S S lc i) (lc i) room (lc i) := by
            have a := lv_hi (U := ltM S1 (mtT S lc i) (szU S i) (gnT S S lc i) room) (i := i) (room := room) hE (8 - lc i)
            rw [show lc i + (8 - lc i) = 8 by omega] at a
            rw [a]
            refine lv_lo hE hr (fun j hj => ?_) _ (Nat.le_refl _)
            rw [(ltM_but S1 _ _ _ room).2 _ _ (fLd_no (fun z => by cases z) (fun z => by cases z)), bF.2 (3, i, j) 4 (fun z => by rcases z with z | z <;> cases z)]
            exact (h1.d _ _ (vd.l4 hi hj l8)).symm
          rw [ev] at m
          exact m
        · refine h1.loadU bX bU (fun q hq => ?_)
          rw [lcM_at _ _ _ _ room 8 q hq]
          by_cases c : q < lc i
          · rw [(pc q hq).1 c, ll_x hE hr q (by omega), cl_xc hE c (Nat.le_trans (xll_le _ _ _ _ _ q) hr)]
          · rw [(pc q hq).2 (by omega), cl_0 hE (by omega)]
            rfl
      · exact Op.ref h (k := 6) (by decide) (c_X6_load_hi _ _ _ _ _ mc lc h.ix i hi p1 c1 c2) (fun S1 h1 => c_X7_load_hi _ _ _ _ S1 mc lc h1.im i hi p1 c1 c2)
    · exact Op.ref h (k := 4) (by decide) (c_X6_load_lo _ _ _ _ _ mc lc h.ix i hi p1 c1) (fun S1 h1 => c_X7_load_lo _ _ _ _ S1 mc lc h1.im i hi p1 c1)
  · exact Op.ref h (k := 1) (by decide) (c_X6_load_b _ _ _ _ _ mc lc h.ix p0 p1 ok) (fun S1 h1 => c_X7_load_b _ _ _ _ S1 mc lc h1.im p0 p1 ok)
