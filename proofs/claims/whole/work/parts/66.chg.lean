/-! the fewest coins: sixteen ways against the table -/
def sv (c : Nat → Nat) : Nat → Nat
  | 0 => 0
  | r + 1 => sv c r + c (5 - r) * byN (5 - r)
def cv (c : Nat → Nat) : Nat → Nat
  | 0 => 0
  | r + 1 => cv c r + c (5 - r)
theorem sv_congr {c d : Nat → Nat} : ∀ r, (∀ q, q < r → c (5 - q) = d (5 - q)) → sv c r = sv d r
  | 0, _ => rfl
  | r + 1, h => by
    show sv c r + c (5 - r) * byN (5 - r) = sv d r + d (5 - r) * byN (5 - r)
    rw [sv_congr r (fun q hq => h q (by omega)), h r (by omega)]
theorem cv_congr {c d : Nat → Nat} : ∀ r, (∀ q, q < r → c (5 - q) = d (5 - q)) → cv c r = cv d r
  | 0, _ => rfl
  | r + 1, h => by
    show cv c r + c (5 - r) = cv d r + d (5 - r)
    rw [cv_congr r (fun q hq => h q (by omega)), h r (by omega)]
theorem cv_mono {c d : Nat → Nat} (h : ∀ w, w < 6 → c w ≤ d w) : ∀ r, cv c r ≤ cv d r
  | 0 => Nat.le_refl _
  | r + 1 => Nat.add_le_add (cv_mono h r) (h (5 - r) (by omega))
theorem sv_sub {c s : Nat → Nat} (h : ∀ w, s w ≤ c w) : ∀ r, sv (fun w => c w - s w) r + sv s r = sv c r
  | 0 => rfl
  | r + 1 => by
    have ih := sv_sub h r
    have e : (c (5 - r) - s (5 - r)) * byN (5 - r) + s (5 - r) * byN (5 - r) = c (5 - r) * byN (5 - r) := by
      rw [← Nat.add_mul, Nat.sub_add_cancel (h _)]
    show sv (fun w => c w - s w) r + (c (5 - r) - s (5 - r)) * byN (5 - r) + (sv s r + s (5 - r) * byN (5 - r)) = sv c r + c (5 - r) * byN (5 - r)
    omega
theorem cv_sub {c s : Nat → Nat} (h : ∀ w, s w ≤ c w) : ∀ r, cv (fun w => c w - s w) r + cv s r = cv c r
  | 0 => rfl
  | r + 1 => by
    have ih := cv_sub h r
    have := h (5 - r)
    show cv (fun w => c w - s w) r + (c (5 - r) - s (5 - r)) + (cv s r + s (5 - r)) = cv c r + c (5 - r)
    omega
/-- any way is no better than the table -/
theorem fc_min (hv c : Nat → Nat) (h : ∀ w, w < 6 → c w ≤ hv w) : ∀ r, fcR hv r (sv c r) ≤ cv c r
  | 0 => by show (if 0 = 0 then 0 else 1000) ≤ 0; rw [if_pos rfl]; exact Nat.le_refl _
  | r + 1 => by
    have ih := fc_min hv c h r
    have h1 : c (5 - r) < min (hv (5 - r)) (sv c (r + 1) / byN (5 - r)) + 1 := by
      have a := h (5 - r) (by omega)
      have b : c (5 - r) ≤ sv c (r + 1) / byN (5 - r) := (Nat.le_div_iff_mul_le (byN_pos _)).mpr (by
        show _ ≤ sv c r + c (5 - r) * byN (5 - r)
        omega)
      omega
    have h2 := mnN_min (fcR hv r) (byN (5 - r)) (sv c (r + 1)) _ _ h1
    have e : sv c (r + 1) - c (5 - r) * byN (5 - r) = sv c r := by
      show sv c r + c (5 - r) * byN (5 - r) - _ = _
      omega
    rw [e] at h2
    show mnN (fcR hv r) (byN (5 - r)) (sv c (r + 1)) (min (hv (5 - r)) (sv c (r + 1) / byN (5 - r)) + 1) ≤ cv c r + c (5 - r)
    omega
/-- the table's numbers are those of ways -/
theorem fc_way (hv : Nat → Nat) : ∀ r, r ≤ 6 → ∀ a, fcR hv r a < 1000 → ∃ c : Nat → Nat, (∀ w, w < 6 → c w ≤ hv w) ∧ sv c r = a ∧ cv c r = fcR hv r a
  | 0, _, a, h => by
    by_cases e : a = 0
    · subst e
      exact ⟨fun _ => 0, fun _ _ => Nat.zero_le _, rfl, rfl⟩
    · have h' : (if a = 0 then 0 else 1000) < 1000 := h
      rw [if_neg e] at h'
      omega
  | r + 1, hr, a, h => by
    have h' : mnN (fcR hv r) (byN (5 - r)) a (min (hv (5 - r)) (a / byN (5 - r)) + 1) < 1000 := h
    obtain ⟨d, h1, h2⟩ := mnN_att _ _ _ _ h'
    obtain ⟨c, c1, c2, c3⟩ := fc_way hv r (by omega) (a - d * byN (5 - r)) (by omega)
    have hd : d * byN (5 - r) ≤ a := (Nat.le_div_iff_mul_le (byN_pos _)).mp (by omega)
    have ne : ∀ q, q < r → (fun w => if w = 5 - r then d else c w) (5 - q) = c (5 - q) := fun q hq => if_neg (by omega)
    have e0 : (fun w => if w = 5 - r then d else c w) (5 - r) = d := if_pos rfl
    refine ⟨fun w => if w = 5 - r then d else c w, fun w hw => ?_, ?_, ?_⟩
    · show (if w = 5 - r then d else c w) ≤ hv w
      by_cases e : w = 5 - r
      · rw [if_pos e, e]; omega
      · rw [if_neg e]; exact c1 w hw
    · show sv (fun w => if w = 5 - r then d else c w) r + (fun w => if w = 5 - r then d else c w) (5 - r) * byN (5 - r) = a
      rw [sv_congr r ne, e0, c2]
      omega
    · show cv (fun w => if w = 5 - r then d else c w) r + (fun w => if w = 5 - r then d else c w) (5 - r) = mnN (fcR hv r) (byN (5 - r)) a (min (hv (5 - r)) (a / byN (5 - r)) + 1)
      rw [cv_congr r ne, e0, c3, ← h2]
      omega
/-! parts of a heap of smaller coins -/
theorem sub5 (x y : Nat) (h : 9 ≤ 2 * x + y) : ∃ x' y', x' ≤ x ∧ y' ≤ y ∧ (2 * x' + y' = 5 ∨ 2 * x' + y' = 10) := by
  by_cases hy : y = 0
  · exact ⟨5, 0, by omega, by omega, by omega⟩
  · by_cases hx : 2 ≤ x
    · exact ⟨2, 1, hx, by omega, by omega⟩
    · exact ⟨x, 5 - 2 * x, Nat.le_refl _, by omega, by omega⟩
theorem sub10 (z x y : Nat) (h : 20 ≤ 5 * z + 2 * x + y) : ∃ z' x' y', z' ≤ z ∧ x' ≤ x ∧ y' ≤ y ∧ 5 * z' + 2 * x' + y' = 10 := by
  by_cases hz : 2 ≤ z
  · exact ⟨2, 0, 0, hz, by omega, by omega, by omega⟩
  · obtain ⟨x1, y1, a, b, c⟩ := sub5 x y (by omega)
    rcases c with c | c
    · by_cases hz1 : z = 1
      · exact ⟨1, x1, y1, by omega, a, b, by omega⟩
      · obtain ⟨x2, y2, a2, b2, c2⟩ := sub5 (x - x1) (y - y1) (by omega)
        rcases c2 with c2 | c2
        · exact ⟨0, x1 + x2, y1 + y2, by omega, by omega, by omega, by omega⟩
        · exact ⟨0, x2, y2, by omega, by omega, by omega, by omega⟩
    · exact ⟨0, x1, y1, by omega, a, b, by omega⟩
theorem subT (u z x y : Nat) (h : 20 ≤ 10 * u + 5 * z + 2 * x + y) : ∃ u' z' x' y', u' ≤ u ∧ z' ≤ z ∧ x' ≤ x ∧ y' ≤ y ∧ 10 * u' + 5 * z' + 2 * x' + y' = 10 := by
  by_cases hu : 1 ≤ u
  · exact ⟨1, 0, 0, 0, hu, by omega, by omega, by omega, by omega⟩
  · obtain ⟨z', x', y', a, b, c, d⟩ := sub10 z x y (by omega)
    exact ⟨0, z', x', y', by omega, a, b, c, by omega⟩
theorem subN : ∀ (a u z x y : Nat), 10 * a + 10 ≤ 10 * u + 5 * z + 2 * x + y → ∃ u' z' x' y', u' ≤ u ∧ z' ≤ z ∧ x' ≤ x ∧ y' ≤ y ∧ 10 * u' + 5 * z' + 2 * x' + y' = 10 * a
  | 0, u, z, x, y, _ => ⟨0, 0, 0, 0, by omega, by omega, by omega, by omega, by omega⟩
  | a + 1, u, z, x, y, h => by
    obtain ⟨u1, z1, x1, y1, a1, b1, c1, d1, e1⟩ := subT u z x y (by omega)
    obtain ⟨u2, z2, x2, y2, a2, b2, c2, d2, e2⟩ := subN a (u - u1) (z - z1) (x - x1) (y - y1) (by omega)
    exact ⟨u1 + u2, z1 + z2, x1 + x2, y1 + y2, by omega, by omega, by omega, by omega, by omega⟩
theorem sub50 (v u z x y : Nat) (h : 100 ≤ 20 * v + 10 * u + 5 * z + 2 * x + y) : ∃ v' u' z' x' y', v' ≤ v ∧ u' ≤ u ∧ z' ≤ z ∧ x' ≤ x ∧ y' ≤ y ∧ (20 * v' + 10 * u' + 5 * z' + 2 * x' + y' = 50 ∨ 20 * v' + 10 * u' + 5 * z' + 2 * x' + y' = 100) := by
  by_cases hv : 5 ≤ v
  · exact ⟨5, 0, 0, 0, 0, hv, by omega, by omega, by omega, by omega, by omega⟩
  · obtain ⟨v', a', a1, b1, c1⟩ := sub5 v ((10 * u + 5 * z + 2 * x + y) / 10 - 1) (by omega)
    obtain ⟨u', z', x', y', a2, b2, c2, d2, e2⟩ := subN a' u z x y (by omega)
    exact ⟨v', u', z', x', y', a1, a2, b2, c2, d2, by omega⟩
def vec (v u z x y : Nat) : Nat → Nat
  | 1 => v | 2 => u | 3 => z | 4 => x | 5 => y | _ => 0
theorem sv_1 (c : Nat → Nat) : sv c 1 = c 5 := by show 0 + c 5 * 1 = _; omega
theorem sv_2 (c : Nat → Nat) : sv c 2 = 2 * c 4 + c 5 := by show 0 + c 5 * 1 + c 4 * 2 = _; omega
theorem sv_3 (c : Nat → Nat) : sv c 3 = 5 * c 3 + 2 * c 4 + c 5 := by show 0 + c 5 * 1 + c 4 * 2 + c 3 * 5 = _; omega
theorem sv_4 (c : Nat → Nat) : sv c 4 = 10 * c 2 + 5 * c 3 + 2 * c 4 + c 5 := by show 0 + c 5 * 1 + c 4 * 2 + c 3 * 5 + c 2 * 10 = _; omega
theorem sv_5 (c : Nat → Nat) : sv c 5 = 20 * c 1 + 10 * c 2 + 5 * c 3 + 2 * c 4 + c 5 := by show 0 + c 5 * 1 + c 4 * 2 + c 3 * 5 + c 2 * 10 + c 1 * 20 = _; omega
theorem cv_2 (c : Nat → Nat) : cv c 2 = c 4 + c 5 := by show 0 + c 5 + c 4 = _; omega
theorem cv_3 (c : Nat → Nat) : cv c 3 = c 3 + c 4 + c 5 := by show 0 + c 5 + c 4 + c 3 = _; omega
theorem cv_4 (c : Nat → Nat) : cv c 4 = c 2 + c 3 + c 4 + c 5 := by show 0 + c 5 + c 4 + c 3 + c 2 = _; omega
theorem cv_5 (c : Nat → Nat) : cv c 5 = c 1 + c 2 + c 3 + c 4 + c 5 := by show 0 + c 5 + c 4 + c 3 + c 2 + c 1 = _; omega
theorem vec_le {c : Nat → Nat} {v u z x y : Nat} (h1 : v ≤ c 1) (h2 : u ≤ c 2) (h3 : z ≤ c 3) (h4 : x ≤ c 4) (h5 : y ≤ c 5) : ∀ w, vec v u z x y w ≤ c w := fun w => by
  unfold vec
  split
  · exact h1
  · exact h2
  · exact h3
  · exact h4
  · exact h5
  · exact Nat.zero_le _
/-- smaller coins worth two of one hold a part worth one or two of it, in more coins -/
theorem part (c : Nat → Nat) (r : Nat) (hr : 2 ≤ r) (hr5 : r ≤ 5) (h : 2 * byN (5 - r) ≤ sv c r) : ∃ s : Nat → Nat, (∀ w, s w ≤ c w) ∧ ((sv s r = byN (5 - r) ∧ 2 ≤ cv s r) ∨ (sv s r = 2 * byN (5 - r) ∧ 3 ≤ cv s r)) := by
  rcases (show r = 2 ∨ r = 3 ∨ r = 4 ∨ r = 5 by omega) with rfl | rfl | rfl | rfl
  · have h : 2 * 5 ≤ sv c 2 := h
    rw [sv_2] at h
    obtain ⟨x, y, a, b, d⟩ := sub5 (c 4) (c 5) (by omega)
    refine ⟨vec 0 0 0 x y, vec_le (Nat.zero_le _) (Nat.zero_le _) (Nat.zero_le _) a b, ?_⟩
    rw [sv_2, cv_2]
    show (2 * x + y = 5 ∧ 2 ≤ x + y) ∨ (2 * x + y = 2 * 5 ∧ 3 ≤ x + y)
    omega
  · have h : 2 * 10 ≤ sv c 3 := h
    rw [sv_3] at h
    obtain ⟨z, x, y, a, b, d, e⟩ := sub10 (c 3) (c 4) (c 5) (by omega)
    refine ⟨vec 0 0 z x y, vec_le (Nat.zero_le _) (Nat.zero_le _) a b d, Or.inl ?_⟩
    rw [sv_3, cv_3]
    show 5 * z + 2 * x + y = 10 ∧ 2 ≤ z + x + y
    omega
  · have h : 2 * 20 ≤ sv c 4 := h
    rw [sv_4] at h
    obtain ⟨u, z, x, y, a, b, d, d2, e⟩ := subN 2 (c 2) (c 3) (c 4) (c 5) (by omega)
    refine ⟨vec 0 u z x y, vec_le (Nat.zero_le _) a b d d2, Or.inl ?_⟩
    rw [sv_4, cv_4]
    show 10 * u + 5 * z + 2 * x + y = 20 ∧ 2 ≤ u + z + x + y
    omega
  · have h : 2 * 50 ≤ sv c 5 := h
    rw [sv_5] at h
    obtain ⟨v, u, z, x, y, a0, a, b, d, d2, e⟩ := sub50 (c 1) (c 2) (c 3) (c 4) (c 5) (by omega)
    refine ⟨vec v u z x y, vec_le a0 a b d d2, ?_⟩
    rw [sv_5, cv_5]
    show (20 * v + 10 * u + 5 * z + 2 * x + y = 50 ∧ 2 ≤ v + u + z + x + y) ∨ (20 * v + 10 * u + 5 * z + 2 * x + y = 2 * 50 ∧ 3 ≤ v + u + z + x + y)
    omega
/-- two less than could be taken is never best -/
theorem exch (hv : Nat → Nat) (r : Nat) (hr : 2 ≤ r) (hr5 : r ≤ 5) (a d : Nat) (hd : (d + 2) * byN (5 - r) ≤ a) (h : fcR hv r (a - d * byN (5 - r)) < 1000) : ∃ e, (e = 1 ∨ e = 2) ∧ d + e + fcR hv r (a - (d + e) * byN (5 - r)) < d + fcR hv r (a - d * byN (5 - r)) := by
  obtain ⟨c, c1, c2, c3⟩ := fc_way hv r (by omega) _ h
  have hb : (d + 2) * byN (5 - r) = d * byN (5 - r) + 2 * byN (5 - r) := Nat.add_mul _ _ _
  have hb1 : (d + 1) * byN (5 - r) = d * byN (5 - r) + 1 * byN (5 - r) := Nat.add_mul _ _ _
  obtain ⟨s, s1, s2⟩ := part c r hr hr5 (by omega)
  have e1 := sv_sub s1 r
  have e2 := cv_sub s1 r
  have m := fc_min hv (fun w => c w - s w) (fun w hw => Nat.le_trans (Nat.sub_le _ _) (c1 w hw)) r
  rcases s2 with ⟨s2, s3⟩ | ⟨s2, s3⟩
  · refine ⟨1, Or.inl rfl, ?_⟩
    have q : a - (d + 1) * byN (5 - r) = sv (fun w => c w - s w) r := by omega
    rw [q, ← c3]
    omega
  · refine ⟨2, Or.inr rfl, ?_⟩
    have q : a - (d + 2) * byN (5 - r) = sv (fun w => c w - s w) r := by omega
    rw [q, ← c3]
    omega
def mT (hv : Nat → Nat) (w a : Nat) : Nat := min (hv w) (a / byN w)
theorem mT_mul (hv : Nat → Nat) (w a : Nat) {d : Nat} (h : d ≤ mT hv w a) : d * byN w ≤ a := (Nat.le_div_iff_mul_le (byN_pos w)).mp (Nat.le_trans h (Nat.min_le_right _ _))
theorem fc_le1 (hv : Nat → Nat) (w a d : Nat) (hw : w < 6) (h : d ≤ mT hv w a) : fcR hv (6 - w) a ≤ d + fcR hv (5 - w) (a - d * byN w) := by
  obtain ⟨r, hr⟩ : ∃ r, 6 - w = r + 1 := ⟨5 - w, by omega⟩
  have hr2 : 5 - w = r := by omega
  have hr3 : w = 5 - r := by omega
  rw [hr, hr2]
  subst hr3
  exact mnN_min (fcR hv r) (byN (5 - r)) a _ d (Nat.lt_succ_of_le h)
/-- the best number is the most, or one less; of 20 and 10 the most -/
theorem near (hv : Nat → Nat) (w a d : Nat) (hw : w < 6) (hd : d ≤ mT hv w a) (hk : fcR hv (6 - w) a < 1000) (h : d + fcR hv (5 - w) (a - d * byN w) = fcR hv (6 - w) a) : mT hv w a ≤ d + 1 ∧ (4 ≤ w → mT hv w a = d) := by
  by_cases h4 : w < 4
  · refine ⟨?_, fun q => by omega⟩
    refine Classical.byContradiction (fun z => ?_)
    have e5 : 5 - (5 - w) = w := by omega
    have hm := mT_mul hv w a (d := d + 2) (by omega)
    obtain ⟨e, he, hlt⟩ := exch hv (5 - w) (by omega) (by omega) a d (by rw [e5]; exact hm) (by rw [e5]; omega)
    rw [e5] at hlt
    have := fc_le1 hv w a (d + e) hw (by omega)
    omega
  · have key : mT hv w a = d := by
      refine Classical.byContradiction (fun z => ?_)
      rcases (show w = 4 ∨ w = 5 by omega) with rfl | rfl
      · have hm := mT_mul hv 4 a (d := d + 1) (by omega)
        have hm : (d + 1) * 2 ≤ a := hm
        have hF : fcR hv 1 (a - d * 2) < 1000 := by
          have h : d + fcR hv 1 (a - d * 2) = fcR hv 2 a := h
          have hk : fcR hv 2 a < 1000 := hk
          omega
        obtain ⟨c, c1, c2, c3⟩ := fc_way hv 1 (by decide) _ hF
        rw [sv_1] at c2
        have m := fc_min hv (vec 0 0 0 0 (c 5 - 2)) (fun w hw => Nat.le_trans (vec_le (c := c) (Nat.zero_le _) (Nat.zero_le _) (Nat.zero_le _) (Nat.zero_le _) (Nat.sub_le _ _) w) (c1 w hw)) 1
        rw [sv_1] at m
        have m : fcR hv 1 (c 5 - 2) ≤ 0 + (c 5 - 2) := m
        have c3 : 0 + c 5 = fcR hv 1 (a - d * 2) := c3
        have l : fcR hv 2 a ≤ d + 1 + fcR hv 1 (a - (d + 1) * 2) := fc_le1 hv 4 a (d + 1) (by decide) (by omega)
        have h : d + fcR hv 1 (a - d * 2) = fcR hv 2 a := h
        rw [show a - (d + 1) * 2 = c 5 - 2 by omega] at l
        omega
      · have h : d + fcR hv 0 (a - d * 1) = fcR hv 1 a := h
        have hk : fcR hv 1 a < 1000 := hk
        have hm := mT_mul hv 5 a (d := d + 1) (by omega)
        have hm : (d + 1) * 1 ≤ a := hm
        have hF : fcR hv 0 (a - d * 1) = 1000 := if_neg (by omega)
        omega
    exact ⟨by omega, fun _ => key⟩
/-! the class's ways, in tens -/
theorem wN_by : ∀ w, wN w = 10 * byN w
  | 0 => rfl
  | 1 => rfl
  | 2 => rfl
  | 3 => rfl
  | 4 => rfl
  | _ + 5 => rfl
theorem moN_T (hv : Nat → Nat) (w a : Nat) : moN hv w (10 * a) = mT hv w a := by
  unfold moN mT
  rw [wN_by, Nat.mul_div_mul_left _ _ (by decide)]
def gT (hv : Nat → Nat) (ways : Nat) : Nat → Nat → Nat → Option Nat
  | 0, _, a => if a = 0 then some 0 else none
  | f + 1, w, a => if mT hv w a < lsN ways w then none else (gT hv ways f (w + 1) (a - (mT hv w a - lsN ways w) * byN w)).map (fun n => n + (mT hv w a - lsN ways w))
theorem tens_sub (a x w : Nat) : 10 * a - x * wN w = 10 * (a - x * byN w) := by
  rw [wN_by, Nat.mul_sub, Nat.mul_left_comm]
theorem cow_n (hv : Nat → Nat) (ways : Nat) : ∀ f w a coins, gT hv ways f w a = none → cowV hv ways f w (10 * a) coins = -9
  | 0, w, a, coins, h => by
    have h' : (if a = 0 then some 0 else none) = none := h
    show (if 10 * a = 0 then nI coins else -9) = -9
    by_cases e : a = 0
    · rw [if_pos e] at h'; cases h'
    · rw [if_neg (by omega)]
  | f + 1, w, a, coins, h => by
    unfold gT at h
    unfold cowV
    rw [moN_T]
    by_cases c : mT hv w a < lsN ways w
    · rw [if_pos c]
    · rw [if_neg c] at h ⊢
      rw [tens_sub]
      exact cow_n hv ways f (w + 1) _ _ (Option.map_eq_none_iff.mp h)
theorem cow_s (hv : Nat → Nat) (ways : Nat) : ∀ f w a coins n, gT hv ways f w a = some n → cowV hv ways f w (10 * a) coins = nI (coins + n)
  | 0, w, a, coins, n, h => by
    have h' : (if a = 0 then some 0 else none) = some n := h
    show (if 10 * a = 0 then nI coins else -9) = _
    by_cases e : a = 0
    · rw [if_pos e] at h'
      cases h'
      rw [if_pos (by omega), Nat.add_zero]
    · rw [if_neg e] at h'; cases h'
  | f + 1, w, a, coins, n, h => by
    unfold gT at h
    unfold cowV
    rw [moN_T]
    by_cases c : mT hv w a < lsN ways w
    · rw [if_pos c] at h; cases h
    · rw [if_neg c] at h ⊢
      rw [tens_sub]
      obtain ⟨m, h1, h2⟩ := Option.map_eq_some_iff.mp h
      rw [cow_s hv ways f (w + 1) _ _ m h1, ← h2]
      congr 1
      omega
/-- what is left, and what is taken -/
def aT (hv : Nat → Nat) (ways tens : Nat) : Nat → Nat
  | 0 => tens
  | w + 1 => aT hv ways tens w - (mT hv w (aT hv ways tens w) - lsN ways w) * byN w
def dT (hv : Nat → Nat) (ways tens w : Nat) : Nat := mT hv w (aT hv ways tens w) - lsN ways w
theorem aT_s (hv : Nat → Nat) (ways tens w : Nat) : aT hv ways tens (w + 1) + dT hv ways tens w * byN w = aT hv ways tens w := by
  have := mT_mul hv w (aT hv ways tens w) (d := dT hv ways tens w) (Nat.sub_le _ _)
  show aT hv ways tens w - dT hv ways tens w * byN w + _ = _
  omega
theorem dT_le (hv : Nat → Nat) (ways tens w : Nat) : dT hv ways tens w ≤ hv w := Nat.le_trans (Nat.sub_le _ _) (Nat.min_le_left _ _)
theorem gT_of (hv : Nat → Nat) (ways tens : Nat) : ∀ f w, w + f = 6 → ∀ n, gT hv ways f w (aT hv ways tens w) = some n → aT hv ways tens w = sv (dT hv ways tens) f ∧ n = cv (dT hv ways tens) f
  | 0, w, hw, n, h => by
    have h' : (if aT hv ways tens w = 0 then some 0 else none) = some n := h
    by_cases e : aT hv ways tens w = 0
    · rw [if_pos e] at h'
      cases h'
      exact ⟨e, rfl⟩
    · rw [if_neg e] at h'; cases h'
  | f + 1, w, hw, n, h => by
    unfold gT at h
    by_cases c : mT hv w (aT hv ways tens w) < lsN ways w
    · rw [if_pos c] at h; cases h
    · rw [if_neg c] at h
      obtain ⟨m, h1, h2⟩ := Option.map_eq_some_iff.mp h
      obtain ⟨i1, i2⟩ := gT_of hv ways tens f (w + 1) (by omega) m h1
      have e5 : 5 - f = w := by omega
      have e6 := aT_s hv ways tens w
      show _ = sv (dT hv ways tens) f + dT hv ways tens (5 - f) * byN (5 - f) ∧ n = cv (dT hv ways tens) f + dT hv ways tens (5 - f)
      rw [e5, ← i1, ← i2, ← h2]
      exact ⟨by omega, rfl⟩
theorem gT_to (hv : Nat → Nat) (ways tens : Nat) (hl : ∀ w, w < 6 → lsN ways w ≤ mT hv w (aT hv ways tens w)) (h0 : aT hv ways tens 6 = 0) : ∀ f w, w + f = 6 → gT hv ways f w (aT hv ways tens w) = some (cv (dT hv ways tens) f)
  | 0, w, hw => by
    have e : w = 6 := by omega
    subst e
    show (if aT hv ways tens 6 = 0 then some 0 else none) = some 0
    rw [if_pos h0]
  | f + 1, w, hw => by
    have e5 : 5 - f = w := by omega
    unfold gT
    rw [if_neg (by have := hl w (by omega); omega)]
    have ih := gT_to hv ways tens hl h0 f (w + 1) (by omega)
    have ih : gT hv ways f (w + 1) (aT hv ways tens w - (mT hv w (aT hv ways tens w) - lsN ways w) * byN w) = some (cv (dT hv ways tens) f) := ih
    rw [ih]
    show some (cv (dT hv ways tens) f + dT hv ways tens w) = some (cv (dT hv ways tens) f + dT hv ways tens (5 - f))
    rw [e5]
/-- a way by the fewest coins is so from each WORTH on -/
theorem opt_all (hv : Nat → Nat) (ways tens : Nat) (h : aT hv ways tens 0 = sv (dT hv ways tens) 6) (hc : cv (dT hv ways tens) 6 = fcR hv 6 tens) : ∀ w, w ≤ 6 → aT hv ways tens w = sv (dT hv ways tens) (6 - w) ∧ cv (dT hv ways tens) (6 - w) = fcR hv (6 - w) (aT hv ways tens w)
  | 0, _ => ⟨h, hc⟩
  | w + 1, hw => by
    obtain ⟨a, b⟩ := opt_all hv ways tens h hc w (by omega)
    obtain ⟨r, hr⟩ : ∃ r, 6 - w = r + 1 := ⟨5 - w, by omega⟩
    have hr1 : 6 - (w + 1) = r := by omega
    have hr2 : 5 - r = w := by omega
    rw [hr] at a b
    rw [hr1]
    have a : aT hv ways tens w = sv (dT hv ways tens) r + dT hv ways tens (5 - r) * byN (5 - r) := a
    have b : cv (dT hv ways tens) r + dT hv ways tens (5 - r) = fcR hv (r + 1) (aT hv ways tens w) := b
    rw [hr2] at a b
    have e := aT_s hv ways tens w
    have e1 : aT hv ways tens (w + 1) = sv (dT hv ways tens) r := by omega
    have m := fc_min hv (dT hv ways tens) (fun w _ => dT_le hv ways tens w) r
    have l := fc_le1 hv w (aT hv ways tens w) (dT hv ways tens w) (by omega) (Nat.sub_le _ _)
    rw [hr, show 5 - w = r by omega, show aT hv ways tens w - dT hv ways tens w * byN w = sv (dT hv ways tens) r by omega] at l
    refine ⟨e1, ?_⟩
    rw [e1]
    omega
theorem opt_w (hv : Nat → Nat) (ways tens : Nat) (h : aT hv ways tens 0 = sv (dT hv ways tens) 6) (hc : cv (dT hv ways tens) 6 = fcR hv 6 tens) (w : Nat) (hw : w < 6) : dT hv ways tens w + fcR hv (5 - w) (aT hv ways tens w - dT hv ways tens w * byN w) = fcR hv (6 - w) (aT hv ways tens w) := by
  obtain ⟨-, b⟩ := opt_all hv ways tens h hc w (by omega)
  obtain ⟨-, b'⟩ := opt_all hv ways tens h hc (w + 1) (by omega)
  obtain ⟨r, hr⟩ : ∃ r, 6 - w = r + 1 := ⟨5 - w, by omega⟩
  have hr2 : 5 - r = w := by omega
  rw [show 6 - (w + 1) = 5 - w by omega] at b'
  rw [hr] at b
  have b : cv (dT hv ways tens) r + dT hv ways tens (5 - r) = fcR hv (r + 1) (aT hv ways tens w) := b
  rw [hr2] at b
  rw [hr, ← b, show 5 - w = r by omega]
  rw [show 5 - w = r by omega] at b'
  have : fcR hv r (aT hv ways tens w - dT hv ways tens w * byN w) = fcR hv r (aT hv ways tens (w + 1)) := rfl
  rw [this, ← b']
  omega
/-- the way of the table -/
def bK (hv : Nat → Nat) (tens w : Nat) : Nat := mT hv w (lfN hv tens w) - cwN hv w (lfN hv tens w)
def wayK (hv : Nat → Nat) (tens : Nat) : Nat := 8 * bK hv tens 0 + 4 * bK hv tens 1 + 2 * bK hv tens 2 + bK hv tens 3
section WK
variable (hv : Nat → Nat) (tens : Nat) (hk : fcR hv 6 tens < 1000)
theorem bK_le (w : Nat) (hw : w < 6) (hk : fcR hv 6 tens < 1000) : bK hv tens w ≤ 1 ∧ (4 ≤ w → bK hv tens w = 0) ∧ cwN hv w (lfN hv tens w) ≤ mT hv w (lfN hv tens w) := by
  have h1 := lfN_ok hv tens hk w (by omega)
  have h2 : cwN hv w (lfN hv tens w) ≤ mT hv w (lfN hv tens w) := exN_le _ _ _ _ _
  have h3 := near hv w (lfN hv tens w) _ hw h2 h1 (cwN_hit hv w _ hw h1)
  unfold bK
  exact ⟨by omega, fun q => by have := h3.2 q; omega, h2⟩
theorem wayK_lt (hk : fcR hv 6 tens < 1000) : wayK hv tens < 16 := by
  have h0 := (bK_le hv tens 0 (by decide) hk).1
  have h1 := (bK_le hv tens 1 (by decide) hk).1
  have h2 := (bK_le hv tens 2 (by decide) hk).1
  have h3 := (bK_le hv tens 3 (by decide) hk).1
  unfold wayK
  omega
theorem wayK_ls (hk : fcR hv 6 tens < 1000) (w : Nat) (hw : w < 6) : lsN (wayK hv tens) w = bK hv tens w := by
  have h0 := (bK_le hv tens 0 (by decide) hk).1
  have h1 := (bK_le hv tens 1 (by decide) hk).1
  have h2 := (bK_le hv tens 2 (by decide) hk).1
  have h3 := (bK_le hv tens 3 (by decide) hk).1
  unfold lsN wayK
  rcases (show w = 0 ∨ w = 1 ∨ w = 2 ∨ w = 3 ∨ (4 ≤ w) by omega) with rfl | rfl | rfl | rfl | h4
  · rw [if_pos (by decide)]
    show _ / 8 % 2 = _
    omega
  · rw [if_pos (by decide)]
    show _ / 4 % 2 = _
    omega
  · rw [if_pos (by decide)]
    show _ / 2 % 2 = _
    omega
  · rw [if_pos (by decide)]
    show _ / 1 % 2 = _
    omega
  · rw [if_neg (by omega), (bK_le hv tens w hw hk).2.1 h4]
theorem wayK_a (hk : fcR hv 6 tens < 1000) : ∀ w, w ≤ 6 → aT hv (wayK hv tens) tens w = lfN hv tens w
  | 0, _ => rfl
  | w + 1, hw => by
    have ih := wayK_a hk w (by omega)
    have b := bK_le hv tens w (by omega) hk
    show aT hv (wayK hv tens) tens w - (mT hv w (aT hv (wayK hv tens) tens w) - lsN (wayK hv tens) w) * byN w = lfN hv tens w - cwN hv w (lfN hv tens w) * byN w
    rw [ih, wayK_ls hv tens hk w (by omega), show mT hv w (lfN hv tens w) - bK hv tens w = cwN hv w (lfN hv tens w) by unfold bK; omega]
theorem wayK_d (hk : fcR hv 6 tens < 1000) (w : Nat) (hw : w < 6) : dT hv (wayK hv tens) tens w = cwN hv w (lfN hv tens w) := by
  have b := bK_le hv tens w hw hk
  unfold dT
  rw [wayK_a hv tens hk w (by omega), wayK_ls hv tens hk w hw]
  unfold bK
  omega
theorem wayK_6 (hk : fcR hv 6 tens < 1000) : lfN hv tens 6 = 0 := by
  have h := lfN_ok hv tens hk 6 (Nat.le_refl _)
  have h : (if lfN hv tens 6 = 0 then 0 else 1000) < 1000 := h
  by_cases e : lfN hv tens 6 = 0
  · exact e
  · rw [if_neg e] at h; omega
theorem wayK_cv (hk : fcR hv 6 tens < 1000) : ∀ r, r ≤ 6 → cv (dT hv (wayK hv tens) tens) r = fcR hv r (lfN hv tens (6 - r))
  | 0, _ => by
    show 0 = (if lfN hv tens 6 = 0 then 0 else 1000)
    rw [if_pos (wayK_6 hv tens hk)]
  | r + 1, hr => by
    have ih := wayK_cv hk r (by omega)
    have h1 := lfN_ok hv tens hk (5 - r) (by omega)
    have h2 := cwN_hit hv (5 - r) (lfN hv tens (5 - r)) (by omega) h1
    have e : lfN hv tens (6 - r) = lfN hv tens (5 - r) - cwN hv (5 - r) (lfN hv tens (5 - r)) * byN (5 - r) := by
      rw [show 6 - r = (5 - r) + 1 by omega]
      rfl
    rw [show 6 - (r + 1) = 5 - r by omega]
    rw [show 6 - (5 - r) = r + 1 by omega, show 5 - (5 - r) = r by omega, ← e] at h2
    show cv (dT hv (wayK hv tens) tens) r + dT hv (wayK hv tens) tens (5 - r) = _
    rw [ih, wayK_d hv tens hk (5 - r) (by omega), ← h2]
    omega
theorem wayK_g (hk : fcR hv 6 tens < 1000) : gT hv (wayK hv tens) 6 0 tens = some (fcR hv 6 tens) := by
  have h := gT_to hv (wayK hv tens) tens (fun w hw => by
    have b := bK_le hv tens w hw hk
    rw [wayK_ls hv tens hk w hw, wayK_a hv tens hk w (by omega)]
    unfold bK
    omega) ((wayK_a hv tens hk 6 (Nat.le_refl _)).trans (wayK_6 hv tens hk)) 6 0 rfl
  rw [wayK_cv hv tens hk 6 (Nat.le_refl _)] at h
  exact h
theorem ls_diff : ∀ k, k < 16 → ∀ K, K < 16 → k < K → ∃ w, w < 4 ∧ (∀ v, v < w → lsN k v = lsN K v) ∧ lsN k w = 0 ∧ lsN K w = 1 := by decide +kernel
/-- an earlier way has more coins, or is none -/
theorem way_lt (hk : fcR hv 6 tens < 1000) (k : Nat) (hlt : k < wayK hv tens) (n : Nat) (h : gT hv k 6 0 tens = some n) : fcR hv 6 tens < n := by
  obtain ⟨g1, g2⟩ := gT_of hv k tens 6 0 rfl n h
  have m := fc_min hv (dT hv k tens) (fun w _ => dT_le hv k tens w) 6
  have g1' : tens = sv (dT hv k tens) 6 := g1
  rw [← g1', ← g2] at m
  refine Classical.byContradiction (fun z => ?_)
  have hc : cv (dT hv k tens) 6 = fcR hv 6 tens := by omega
  obtain ⟨w, w4, w1, w2, w3⟩ := ls_diff k (Nat.lt_trans hlt (wayK_lt hv tens hk)) _ (wayK_lt hv tens hk) hlt
  have pre : ∀ v, v ≤ w → aT hv k tens v = aT hv (wayK hv tens) tens v := by
    intro v
    induction v with
    | zero => intro _; rfl
    | succ v ih =>
      intro hv'
      have ih := ih (by omega)
      show aT hv k tens v - (mT hv v (aT hv k tens v) - lsN k v) * byN v = aT hv (wayK hv tens) tens v - (mT hv v (aT hv (wayK hv tens) tens v) - lsN (wayK hv tens) v) * byN v
      rw [ih, w1 v (by omega)]
  have o := opt_w hv k tens g1 hc w (by omega)
  have ea := (pre w (Nat.le_refl _)).trans (wayK_a hv tens hk w (by omega))
  have ed : dT hv k tens w = mT hv w (lfN hv tens w) := by
    unfold dT
    rw [ea, w2]
    rfl
  rw [ea, ed] at o
  have mx := exN_max (fcR hv (5 - w)) (fcR hv (6 - w) (lfN hv tens w)) (byN w) (lfN hv tens w) (min (hv w) (lfN hv tens w / byN w)) (mT hv w (lfN hv tens w)) (Nat.le_refl _) o
  have mx : mT hv w (lfN hv tens w) ≤ cwN hv w (lfN hv tens w) := mx
  have e3 := wayK_ls hv tens hk w (by omega)
  rw [w3] at e3
  unfold bK at e3
  omega
theorem way_ge (k n : Nat) (h : gT hv k 6 0 tens = some n) : fcR hv 6 tens ≤ n ∧ n ≤ cv hv 6 := by
  obtain ⟨g1, g2⟩ := gT_of hv k tens 6 0 rfl n h
  have m := fc_min hv (dT hv k tens) (fun w _ => dT_le hv k tens w) 6
  have g1' : tens = sv (dT hv k tens) 6 := g1
  rw [← g1', ← g2] at m
  exact ⟨m, by rw [g2]; exact cv_mono (fun w _ => dT_le hv k tens w) 6⟩
end WK
theorem n9 {n : Nat} (h : n < 2 ^ 31) : ¬ nI n = -9 := fun e => by
  have := nI_pos' h
  rw [e] at this
  exact absurd this (by decide)
theorem few_none {hv : Nat → Nat} {t : Nat} (h : ∀ k, cowV hv k 6 0 t 0 = -9) : ∀ k, fewV hv t k = -9
  | 0 => rfl
  | k + 1 => by
    unfold fewV
    rw [if_pos (h k)]
    exact few_none h k
theorem cow_odd (hv : Nat → Nat) (ways : Nat) : ∀ f w left coins, left % 10 ≠ 0 → cowV hv ways f w left coins = -9
  | 0, w, left, coins, h => by
    show (if left = 0 then nI coins else -9) = -9
    rw [if_neg (fun e => h (by rw [e]))]
  | f + 1, w, left, coins, h => by
    unfold cowV
    split
    · rfl
    · refine cow_odd hv ways f (w + 1) _ _ ?_
      have h1 : (moN hv w left - lsN ways w) * wN w ≤ left := (Nat.le_div_iff_mul_le (wN_pos w)).mp (Nat.le_trans (Nat.sub_le _ _) (Nat.min_le_right _ _))
      have h2 : (moN hv w left - lsN ways w) * wN w = 10 * ((moN hv w left - lsN ways w) * byN w) := by rw [wN_by, Nat.mul_left_comm]
      omega
theorem few_n {hv : Nat → Nat} {t : Nat} (h : t % 10 ≠ 0) : fewV hv t 16 = -9 := few_none (fun k => cow_odd hv k 6 0 t 0 h) 16
theorem few_f {hv : Nat → Nat} {t : Nat} (h : t % 10 = 0) (hb : cv hv 6 < 1000) (hk : 1000 ≤ fcR hv 6 (t / 10)) : fewV hv t 16 = -9 := by
  refine few_none (fun k => ?_) 16
  have e : t = 10 * (t / 10) := by omega
  cases hg : gT hv k 6 0 (t / 10) with
  | none =>
    have := cow_n hv k 6 0 (t / 10) 0 hg
    rw [← e] at this
    exact this
  | some n =>
    have := way_ge hv (t / 10) k n hg
    omega
theorem cowM_7 (hv : Nat → Nat) (ways f w left : Nat) (T : Mm) (q : Nat) : (cowM hv ways f w left T).1 (0, 0, 7) q = T.1 (0, 0, 7) q := (cowM_but hv ways f w left T T but.rf).2 _ _ (fun z => by cases z)
theorem cowM_at (hv : Nat → Nat) (ways tens : Nat) (hl : ∀ w, w < 6 → lsN ways w ≤ mT hv w (aT hv ways tens w)) : ∀ f w, w + f = 6 → ∀ (T : Mm) (q : Nat), (w ≤ q → q < 6 → (cowM hv ways f w (10 * aT hv ways tens w) T).1 (0, 0, 6) q = nI (dT hv ways tens q)) ∧ (q < w → (cowM hv ways f w (10 * aT hv ways tens w) T).1 (0, 0, 6) q = T.1 (0, 0, 6) q)
  | 0, w, hw, T, q => ⟨fun a b => by omega, fun _ => rfl⟩
  | f + 1, w, hw, T, q => by
    unfold cowM
    rw [moN_T, if_neg (by have := hl w (by omega); omega), tens_sub]
    obtain ⟨i1, i2⟩ := cowM_at hv ways tens hl f (w + 1) (by omega) (wI T (0, 0, 6) w (nI (mT hv w (aT hv ways tens w) - lsN ways w))) q
    refine ⟨fun a b => ?_, fun a => ?_⟩
    · by_cases e : q = w
      · subst e
        exact (i2 (by omega)).trans wI_same
      · exact i1 (by omega) b
    · exact (i2 (by omega)).trans (wI_ne (fun z => by have := z.2; omega))
theorem few_y {hv : Nat → Nat} {t : Nat} (h : t % 10 = 0) (hb : cv hv 6 < 1000) (hk : fcR hv 6 (t / 10) < 1000) (S : Mm) : fewV hv t 16 = nI (fcR hv 6 (t / 10)) ∧ ∀ w, w < 6 → (fewM S hv t 16).1 (0, 0, 7) w = nI (cwN hv w (lfN hv (t / 10) w)) := by
  have e : t = 10 * (t / 10) := by omega
  have cn : ∀ k, gT hv k 6 0 (t / 10) = none → cowV hv k 6 0 t 0 = -9 := fun k hg => by
    have := cow_n hv k 6 0 (t / 10) 0 hg
    rw [← e] at this
    exact this
  have cs : ∀ k n, gT hv k 6 0 (t / 10) = some n → cowV hv k 6 0 t 0 = nI n := fun k n hg => by
    have := cow_s hv k 6 0 (t / 10) 0 n hg
    rw [← e, Nat.zero_add] at this
    exact this
  have hK := wayK_lt hv (t / 10) hk
  have before : ∀ k, k ≤ wayK hv (t / 10) → fewV hv t k = -9 ∨ ∃ n, fcR hv 6 (t / 10) < n ∧ n < 1000 ∧ fewV hv t k = nI n := by
    intro k
    induction k with
    | zero => intro _; exact Or.inl rfl
    | succ k ih =>
      intro hkk
      have ih := ih (by omega)
      unfold fewV
      cases hg : gT hv k 6 0 (t / 10) with
      | none =>
        rw [if_pos (cn k hg)]
        exact ih
      | some n =>
        have l := way_lt hv (t / 10) hk k (by omega) n hg
        have l2 := (way_ge hv (t / 10) k n hg).2
        rw [cs k n hg, if_neg (n9 (by omega))]
        split
        · exact Or.inr ⟨n, l, by omega, rfl⟩
        · split
          · exact ih
          · exact Or.inr ⟨n, l, by omega, rfl⟩
  have hgK := wayK_g hv (t / 10) hk
  have behind : ∀ d, fewV hv t (wayK hv (t / 10) + 1 + d) = nI (fcR hv 6 (t / 10)) ∧ ∀ w, w < 6 → (fewM S hv t (wayK hv (t / 10) + 1 + d)).1 (0, 0, 7) w = nI (cwN hv w (lfN hv (t / 10) w)) := by
    intro d
    induction d with
    | zero =>
      have cK := cs _ _ hgK
      have tr : ∀ w, w < 6 → (cpyI (cowM hv (wayK hv (t / 10)) 6 0 t (fewM S hv t (wayK hv (t / 10)))) (0, 0, 6) (0, 0, 7) 6).1 (0, 0, 7) w = nI (cwN hv w (lfN hv (t / 10) w)) := fun w hw => by
        have q := (cowM_at hv (wayK hv (t / 10)) (t / 10) (fun w hw => by
          have b := bK_le hv (t / 10) w hw hk
          rw [wayK_ls hv (t / 10) hk w hw, wayK_a hv (t / 10) hk w (by omega)]
          unfold bK
          omega) 6 0 rfl (fewM S hv t (wayK hv (t / 10))) w).1 (Nat.zero_le _) hw
        rw [wayK_d hv (t / 10) hk w hw] at q
        have q : (cowM hv (wayK hv (t / 10)) 6 0 (10 * (t / 10)) (fewM S hv t (wayK hv (t / 10)))).1 (0, 0, 6) w = _ := q
        rw [← e] at q
        show (if ((0, 0, 7) : Ln) = (0, 0, 7) ∧ w < 6 then _ else _) = _
        rw [if_pos ⟨rfl, hw⟩]
        exact q
      rw [Nat.add_zero]
      unfold fewV fewM
      rw [cK, if_neg (n9 (by omega)), if_neg (n9 (by omega))]
      rcases before _ (Nat.le_refl _) with b | ⟨n, n1, n2, b⟩
      · rw [if_pos b, if_pos b]
        exact ⟨rfl, tr⟩
      · have c1 : ¬ fewV hv t (wayK hv (t / 10)) = -9 := by rw [b]; exact n9 (by omega)
        have c2 : ¬ fewV hv t (wayK hv (t / 10)) ≤ nI (fcR hv 6 (t / 10)) := by
          rw [b, nI_leI (by omega) (by omega)]
          omega
        rw [if_neg c1, if_neg c1, if_neg c2, if_neg c2]
        exact ⟨rfl, tr⟩
    | succ d ih =>
      obtain ⟨i1, i2⟩ := ih
      rw [← Nat.add_assoc]
      have kp : ∀ w, w < 6 → (cowM hv (wayK hv (t / 10) + 1 + d) 6 0 t (fewM S hv t (wayK hv (t / 10) + 1 + d))).1 (0, 0, 7) w = nI (cwN hv w (lfN hv (t / 10) w)) := fun w hw => (cowM_7 _ _ _ _ _ _ w).trans (i2 w hw)
      unfold fewV fewM
      cases hg : gT hv (wayK hv (t / 10) + 1 + d) 6 0 (t / 10) with
      | none =>
        rw [cn _ hg, if_pos rfl, if_pos rfl]
        exact ⟨i1, kp⟩
      | some n =>
        have l := way_ge hv (t / 10) _ n hg
        have c1 : ¬ fewV hv t (wayK hv (t / 10) + 1 + d) = -9 := by rw [i1]; exact n9 (by omega)
        have c2 : fewV hv t (wayK hv (t / 10) + 1 + d) ≤ nI n := by
          rw [i1, nI_leI (by omega) (by omega)]
          exact l.1
        rw [cs _ n hg, if_neg (n9 (by omega)), if_neg (n9 (by omega)), if_neg c1, if_neg c1, if_pos c2, if_pos c2]
        exact ⟨i1, kp⟩
  have := behind (16 - (wayK hv (t / 10) + 1))
  rw [show wayK hv (t / 10) + 1 + (16 - (wayK hv (t / 10) + 1)) = 16 by omega] at this
  exact this
