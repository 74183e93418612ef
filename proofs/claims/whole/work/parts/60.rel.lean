/-! THE RELATION of class and model: T is read at the class's cells, U at the model's -/
def pt (k : Ln) (j : Nat) : Nat × Nat := match k.1 with
  | 0 => (match k.2.2 with
    | 0 => (0, if j = 7 then 0 else 27)
    | 2 => (20, j) | 3 => (30, j) | 4 => (28, j) | _ => (29, j))
  | 1 => (match k.2.2 with
    | 0 => ((match j with | 5 => 9 | 6 => 23 | 7 => 24 | 8 => 25 | _ => 26), k.2.1)
    | 3 => (3, 6 * k.2.1 + j) | 4 => (4, 6 * k.2.1 + j) | 5 => (5, 6 * k.2.1 + j) | 6 => (6, 6 * k.2.1 + j) | 11 => (21, 384 * k.2.1 + j) | _ => (22, 384 * k.2.1 + j))
  | _ => ((match j with | 0 => 10 | 1 => 12 | 2 => 14 | 4 => 11 | 5 => 13 | 6 => 16 | 7 => 17 | 8 => 18 | _ => 19), 8 * k.2.1 + k.2.2)
def qt (f x : Nat) : Ln × Nat := match f with
  | 0 => ((0, 0, 0), if x = 0 then 7 else 8) | 20 => ((0, 0, 2), x) | 30 => ((0, 0, 3), x) | 28 => ((0, 0, 4), x) | 29 => ((0, 0, 10), x)
  | 9 => ((1, x, 0), 5) | 23 => ((1, x, 0), 6) | 24 => ((1, x, 0), 7) | 25 => ((1, x, 0), 8) | 26 => ((1, x, 0), 9)
  | 3 => ((1, x / 6, 3), x % 6) | 4 => ((1, x / 6, 4), x % 6) | 5 => ((1, x / 6, 5), x % 6) | 6 => ((1, x / 6, 6), x % 6) | 21 => ((1, x / 384, 11), x % 384) | 22 => ((1, x / 384, 12), x % 384)
  | 10 => ((3, x / 8, x % 8), 0) | 12 => ((3, x / 8, x % 8), 1) | 14 => ((3, x / 8, x % 8), 2) | 11 => ((3, x / 8, x % 8), 4) | 13 => ((3, x / 8, x % 8), 5) | 16 => ((3, x / 8, x % 8), 6) | 17 => ((3, x / 8, x % 8), 7) | 18 => ((3, x / 8, x % 8), 8) | _ => ((3, x / 8, x % 8), 9)
/-- the class's cells that have a partner -/
def vd (mc : Nat) (lc : Nat → Nat) (k : Ln) (q0 : Nat) : Prop := (k = (0, 0, 0) ∧ q0 = 7) ∨ (k = (0, 0, 0) ∧ q0 = 8) ∨ (∃ g : Nat, k = (0, 0, 2) ∧ q0 = g ∧ g < 16) ∨ (∃ g : Nat, k = (0, 0, 3) ∧ q0 = g ∧ g < 7) ∨ (∃ g : Nat, k = (0, 0, 4) ∧ q0 = g ∧ g < 6) ∨ (∃ g : Nat, k = (0, 0, 10) ∧ q0 = g ∧ g < 8) ∨ (∃ i : Nat, k = (1, i, 0) ∧ q0 = 5 ∧ i < mc) ∨ (∃ i : Nat, k = (1, i, 0) ∧ q0 = 6 ∧ i < mc) ∨ (∃ i : Nat, k = (1, i, 0) ∧ q0 = 7 ∧ i < mc) ∨ (∃ i : Nat, k = (1, i, 0) ∧ q0 = 8 ∧ i < mc) ∨ (∃ i : Nat, k = (1, i, 0) ∧ q0 = 9 ∧ i < mc) ∨ (∃ i w : Nat, k = (1, i, 3) ∧ q0 = w ∧ i < mc ∧ w < 6) ∨ (∃ i w : Nat, k = (1, i, 4) ∧ q0 = w ∧ i < mc ∧ w < 6) ∨ (∃ i w : Nat, k = (1, i, 5) ∧ q0 = w ∧ i < mc ∧ w < 6) ∨ (∃ i w : Nat, k = (1, i, 6) ∧ q0 = w ∧ i < mc ∧ w < 6) ∨ (∃ i q : Nat, k = (1, i, 11) ∧ q0 = q ∧ i < mc ∧ q < 384) ∨ (∃ i q : Nat, k = (1, i, 12) ∧ q0 = q ∧ i < mc ∧ q < 384) ∨ (∃ i j : Nat, k = (3, i, j) ∧ q0 = 0 ∧ i < mc ∧ j < lc i ∧ lc i ≤ 8) ∨ (∃ i j : Nat, k = (3, i, j) ∧ q0 = 1 ∧ i < mc ∧ j < lc i ∧ lc i ≤ 8) ∨ (∃ i j : Nat, k = (3, i, j) ∧ q0 = 2 ∧ i < mc ∧ j < lc i ∧ lc i ≤ 8) ∨ (∃ i j : Nat, k = (3, i, j) ∧ q0 = 4 ∧ i < mc ∧ j < lc i ∧ lc i ≤ 8) ∨ (∃ i j : Nat, k = (3, i, j) ∧ q0 = 5 ∧ i < mc ∧ j < lc i ∧ lc i ≤ 8) ∨ (∃ i j : Nat, k = (3, i, j) ∧ q0 = 6 ∧ i < mc ∧ j < lc i ∧ lc i ≤ 8) ∨ (∃ i j : Nat, k = (3, i, j) ∧ q0 = 7 ∧ i < mc ∧ j < lc i ∧ lc i ≤ 8) ∨ (∃ i j : Nat, k = (3, i, j) ∧ q0 = 8 ∧ i < mc ∧ j < lc i ∧ lc i ≤ 8) ∨ (∃ i j : Nat, k = (3, i, j) ∧ q0 = 9 ∧ i < mc ∧ j < lc i ∧ lc i ≤ 8)
theorem vd.hour {mc : Nat} {lc : Nat → Nat} : vd mc lc (0, 0, 0) 7 := Or.inl ⟨rfl, rfl⟩
theorem vd.mis {mc : Nat} {lc : Nat → Nat} : vd mc lc (0, 0, 0) 8 := Or.inr (Or.inl ⟨rfl, rfl⟩)
theorem vd.size {mc : Nat} {lc : Nat → Nat} {g : Nat} (h : g < 16) : vd mc lc (0, 0, 2) g := Or.inr (Or.inr (Or.inl ⟨g, rfl, rfl, h⟩))
theorem vd.ref {mc : Nat} {lc : Nat → Nat} {g : Nat} (h : g < 7) : vd mc lc (0, 0, 3) g := Or.inr (Or.inr (Or.inr (Or.inl ⟨g, rfl, rfl, h⟩)))
theorem vd.giv {mc : Nat} {lc : Nat → Nat} {g : Nat} (h : g < 6) : vd mc lc (0, 0, 4) g := Or.inr (Or.inr (Or.inr (Or.inr (Or.inl ⟨g, rfl, rfl, h⟩))))
theorem vd.pie {mc : Nat} {lc : Nat → Nat} {g : Nat} (h : g < 8) : vd mc lc (0, 0, 10) g := Or.inr (Or.inr (Or.inr (Or.inr (Or.inr (Or.inl ⟨g, rfl, rfl, h⟩)))))
theorem vd.m5 {mc : Nat} {lc : Nat → Nat} {i : Nat} (h : i < mc) : vd mc lc (1, i, 0) 5 := Or.inr (Or.inr (Or.inr (Or.inr (Or.inr (Or.inr (Or.inl ⟨i, rfl, rfl, h⟩))))))
theorem vd.m6 {mc : Nat} {lc : Nat → Nat} {i : Nat} (h : i < mc) : vd mc lc (1, i, 0) 6 := Or.inr (Or.inr (Or.inr (Or.inr (Or.inr (Or.inr (Or.inr (Or.inl ⟨i, rfl, rfl, h⟩)))))))
theorem vd.m7 {mc : Nat} {lc : Nat → Nat} {i : Nat} (h : i < mc) : vd mc lc (1, i, 0) 7 := Or.inr (Or.inr (Or.inr (Or.inr (Or.inr (Or.inr (Or.inr (Or.inr (Or.inl ⟨i, rfl, rfl, h⟩))))))))
theorem vd.m8 {mc : Nat} {lc : Nat → Nat} {i : Nat} (h : i < mc) : vd mc lc (1, i, 0) 8 := Or.inr (Or.inr (Or.inr (Or.inr (Or.inr (Or.inr (Or.inr (Or.inr (Or.inr (Or.inl ⟨i, rfl, rfl, h⟩)))))))))
theorem vd.m9 {mc : Nat} {lc : Nat → Nat} {i : Nat} (h : i < mc) : vd mc lc (1, i, 0) 9 := Or.inr (Or.inr (Or.inr (Or.inr (Or.inr (Or.inr (Or.inr (Or.inr (Or.inr (Or.inr (Or.inl ⟨i, rfl, rfl, h⟩))))))))))
theorem vd.tub {mc : Nat} {lc : Nat → Nat} {i w : Nat} (h : i < mc) (hw : w < 6) : vd mc lc (1, i, 3) w := Or.inr (Or.inr (Or.inr (Or.inr (Or.inr (Or.inr (Or.inr (Or.inr (Or.inr (Or.inr (Or.inr (Or.inl ⟨i, w, rfl, rfl, h, hw⟩)))))))))))
theorem vd.box {mc : Nat} {lc : Nat → Nat} {i w : Nat} (h : i < mc) (hw : w < 6) : vd mc lc (1, i, 4) w := Or.inr (Or.inr (Or.inr (Or.inr (Or.inr (Or.inr (Or.inr (Or.inr (Or.inr (Or.inr (Or.inr (Or.inr (Or.inl ⟨i, w, rfl, rfl, h, hw⟩))))))))))))
theorem vd.inn {mc : Nat} {lc : Nat → Nat} {i w : Nat} (h : i < mc) (hw : w < 6) : vd mc lc (1, i, 5) w := Or.inr (Or.inr (Or.inr (Or.inr (Or.inr (Or.inr (Or.inr (Or.inr (Or.inr (Or.inr (Or.inr (Or.inr (Or.inr (Or.inl ⟨i, w, rfl, rfl, h, hw⟩)))))))))))))
theorem vd.cam {mc : Nat} {lc : Nat → Nat} {i w : Nat} (h : i < mc) (hw : w < 6) : vd mc lc (1, i, 6) w := Or.inr (Or.inr (Or.inr (Or.inr (Or.inr (Or.inr (Or.inr (Or.inr (Or.inr (Or.inr (Or.inr (Or.inr (Or.inr (Or.inr (Or.inl ⟨i, w, rfl, rfl, h, hw⟩))))))))))))))
theorem vd.sal {mc : Nat} {lc : Nat → Nat} {i q : Nat} (h : i < mc) (hq : q < 384) : vd mc lc (1, i, 11) q := Or.inr (Or.inr (Or.inr (Or.inr (Or.inr (Or.inr (Or.inr (Or.inr (Or.inr (Or.inr (Or.inr (Or.inr (Or.inr (Or.inr (Or.inr (Or.inl ⟨i, q, rfl, rfl, h, hq⟩)))))))))))))))
theorem vd.the {mc : Nat} {lc : Nat → Nat} {i q : Nat} (h : i < mc) (hq : q < 384) : vd mc lc (1, i, 12) q := Or.inr (Or.inr (Or.inr (Or.inr (Or.inr (Or.inr (Or.inr (Or.inr (Or.inr (Or.inr (Or.inr (Or.inr (Or.inr (Or.inr (Or.inr (Or.inr (Or.inl ⟨i, q, rfl, rfl, h, hq⟩))))))))))))))))
theorem vd.l0 {mc : Nat} {lc : Nat → Nat} {i j : Nat} (h : i < mc) (hj : j < lc i) (h8 : lc i ≤ 8) : vd mc lc (3, i, j) 0 := Or.inr (Or.inr (Or.inr (Or.inr (Or.inr (Or.inr (Or.inr (Or.inr (Or.inr (Or.inr (Or.inr (Or.inr (Or.inr (Or.inr (Or.inr (Or.inr (Or.inr (Or.inl ⟨i, j, rfl, rfl, h, hj, h8⟩)))))))))))))))))
theorem vd.l1 {mc : Nat} {lc : Nat → Nat} {i j : Nat} (h : i < mc) (hj : j < lc i) (h8 : lc i ≤ 8) : vd mc lc (3, i, j) 1 := Or.inr (Or.inr (Or.inr (Or.inr (Or.inr (Or.inr (Or.inr (Or.inr (Or.inr (Or.inr (Or.inr (Or.inr (Or.inr (Or.inr (Or.inr (Or.inr (Or.inr (Or.inr (Or.inl ⟨i, j, rfl, rfl, h, hj, h8⟩))))))))))))))))))
theorem vd.l2 {mc : Nat} {lc : Nat → Nat} {i j : Nat} (h : i < mc) (hj : j < lc i) (h8 : lc i ≤ 8) : vd mc lc (3, i, j) 2 := Or.inr (Or.inr (Or.inr (Or.inr (Or.inr (Or.inr (Or.inr (Or.inr (Or.inr (Or.inr (Or.inr (Or.inr (Or.inr (Or.inr (Or.inr (Or.inr (Or.inr (Or.inr (Or.inr (Or.inl ⟨i, j, rfl, rfl, h, hj, h8⟩)))))))))))))))))))
theorem vd.l4 {mc : Nat} {lc : Nat → Nat} {i j : Nat} (h : i < mc) (hj : j < lc i) (h8 : lc i ≤ 8) : vd mc lc (3, i, j) 4 := Or.inr (Or.inr (Or.inr (Or.inr (Or.inr (Or.inr (Or.inr (Or.inr (Or.inr (Or.inr (Or.inr (Or.inr (Or.inr (Or.inr (Or.inr (Or.inr (Or.inr (Or.inr (Or.inr (Or.inr (Or.inl ⟨i, j, rfl, rfl, h, hj, h8⟩))))))))))))))))))))
theorem vd.l5 {mc : Nat} {lc : Nat → Nat} {i j : Nat} (h : i < mc) (hj : j < lc i) (h8 : lc i ≤ 8) : vd mc lc (3, i, j) 5 := Or.inr (Or.inr (Or.inr (Or.inr (Or.inr (Or.inr (Or.inr (Or.inr (Or.inr (Or.inr (Or.inr (Or.inr (Or.inr (Or.inr (Or.inr (Or.inr (Or.inr (Or.inr (Or.inr (Or.inr (Or.inr (Or.inl ⟨i, j, rfl, rfl, h, hj, h8⟩)))))))))))))))))))))
theorem vd.l6 {mc : Nat} {lc : Nat → Nat} {i j : Nat} (h : i < mc) (hj : j < lc i) (h8 : lc i ≤ 8) : vd mc lc (3, i, j) 6 := Or.inr (Or.inr (Or.inr (Or.inr (Or.inr (Or.inr (Or.inr (Or.inr (Or.inr (Or.inr (Or.inr (Or.inr (Or.inr (Or.inr (Or.inr (Or.inr (Or.inr (Or.inr (Or.inr (Or.inr (Or.inr (Or.inr (Or.inl ⟨i, j, rfl, rfl, h, hj, h8⟩))))))))))))))))))))))
theorem vd.l7 {mc : Nat} {lc : Nat → Nat} {i j : Nat} (h : i < mc) (hj : j < lc i) (h8 : lc i ≤ 8) : vd mc lc (3, i, j) 7 := Or.inr (Or.inr (Or.inr (Or.inr (Or.inr (Or.inr (Or.inr (Or.inr (Or.inr (Or.inr (Or.inr (Or.inr (Or.inr (Or.inr (Or.inr (Or.inr (Or.inr (Or.inr (Or.inr (Or.inr (Or.inr (Or.inr (Or.inr (Or.inl ⟨i, j, rfl, rfl, h, hj, h8⟩)))))))))))))))))))))))
theorem vd.l8 {mc : Nat} {lc : Nat → Nat} {i j : Nat} (h : i < mc) (hj : j < lc i) (h8 : lc i ≤ 8) : vd mc lc (3, i, j) 8 := Or.inr (Or.inr (Or.inr (Or.inr (Or.inr (Or.inr (Or.inr (Or.inr (Or.inr (Or.inr (Or.inr (Or.inr (Or.inr (Or.inr (Or.inr (Or.inr (Or.inr (Or.inr (Or.inr (Or.inr (Or.inr (Or.inr (Or.inr (Or.inr (Or.inl ⟨i, j, rfl, rfl, h, hj, h8⟩))))))))))))))))))))))))
theorem vd.l9 {mc : Nat} {lc : Nat → Nat} {i j : Nat} (h : i < mc) (hj : j < lc i) (h8 : lc i ≤ 8) : vd mc lc (3, i, j) 9 := Or.inr (Or.inr (Or.inr (Or.inr (Or.inr (Or.inr (Or.inr (Or.inr (Or.inr (Or.inr (Or.inr (Or.inr (Or.inr (Or.inr (Or.inr (Or.inr (Or.inr (Or.inr (Or.inr (Or.inr (Or.inr (Or.inr (Or.inr (Or.inr (Or.inr (⟨i, j, rfl, rfl, h, hj, h8⟩)))))))))))))))))))))))))
theorem vd.elim {mc : Nat} {lc : Nat → Nat} {motive : (k : Ln) → (j : Nat) → vd mc lc k j → Prop} (hour : motive (0, 0, 0) 7 vd.hour) (mis : motive (0, 0, 0) 8 vd.mis) (size : ∀ {g : Nat} (h : g < 16), motive (0, 0, 2) g (vd.size h)) (ref : ∀ {g : Nat} (h : g < 7), motive (0, 0, 3) g (vd.ref h)) (giv : ∀ {g : Nat} (h : g < 6), motive (0, 0, 4) g (vd.giv h)) (pie : ∀ {g : Nat} (h : g < 8), motive (0, 0, 10) g (vd.pie h)) (m5 : ∀ {i : Nat} (h : i < mc), motive (1, i, 0) 5 (vd.m5 h)) (m6 : ∀ {i : Nat} (h : i < mc), motive (1, i, 0) 6 (vd.m6 h)) (m7 : ∀ {i : Nat} (h : i < mc), motive (1, i, 0) 7 (vd.m7 h)) (m8 : ∀ {i : Nat} (h : i < mc), motive (1, i, 0) 8 (vd.m8 h)) (m9 : ∀ {i : Nat} (h : i < mc), motive (1, i, 0) 9 (vd.m9 h)) (tub : ∀ {i w : Nat} (h : i < mc) (hw : w < 6), motive (1, i, 3) w (vd.tub h hw)) (box : ∀ {i w : Nat} (h : i < mc) (hw : w < 6), motive (1, i, 4) w (vd.box h hw)) (inn : ∀ {i w : Nat} (h : i < mc) (hw : w < 6), motive (1, i, 5) w (vd.inn h hw)) (cam : ∀ {i w : Nat} (h : i < mc) (hw : w < 6), motive (1, i, 6) w (vd.cam h hw)) (sal : ∀ {i q : Nat} (h : i < mc) (hq : q < 384), motive (1, i, 11) q (vd.sal h hq)) (the : ∀ {i q : Nat} (h : i < mc) (hq : q < 384), motive (1, i, 12) q (vd.the h hq)) (l0 : ∀ {i j : Nat} (h : i < mc) (hj : j < lc i) (h8 : lc i ≤ 8), motive (3, i, j) 0 (vd.l0 h hj h8)) (l1 : ∀ {i j : Nat} (h : i < mc) (hj : j < lc i) (h8 : lc i ≤ 8), motive (3, i, j) 1 (vd.l1 h hj h8)) (l2 : ∀ {i j : Nat} (h : i < mc) (hj : j < lc i) (h8 : lc i ≤ 8), motive (3, i, j) 2 (vd.l2 h hj h8)) (l4 : ∀ {i j : Nat} (h : i < mc) (hj : j < lc i) (h8 : lc i ≤ 8), motive (3, i, j) 4 (vd.l4 h hj h8)) (l5 : ∀ {i j : Nat} (h : i < mc) (hj : j < lc i) (h8 : lc i ≤ 8), motive (3, i, j) 5 (vd.l5 h hj h8)) (l6 : ∀ {i j : Nat} (h : i < mc) (hj : j < lc i) (h8 : lc i ≤ 8), motive (3, i, j) 6 (vd.l6 h hj h8)) (l7 : ∀ {i j : Nat} (h : i < mc) (hj : j < lc i) (h8 : lc i ≤ 8), motive (3, i, j) 7 (vd.l7 h hj h8)) (l8 : ∀ {i j : Nat} (h : i < mc) (hj : j < lc i) (h8 : lc i ≤ 8), motive (3, i, j) 8 (vd.l8 h hj h8)) (l9 : ∀ {i j : Nat} (h : i < mc) (hj : j < lc i) (h8 : lc i ≤ 8), motive (3, i, j) 9 (vd.l9 h hj h8)) {k : Ln} {j : Nat} (t : vd mc lc k j) : motive k j t := by
  rcases t with ⟨rfl, rfl⟩ | ⟨rfl, rfl⟩ | ⟨a0, rfl, rfl, b0⟩ | ⟨a0, rfl, rfl, b0⟩ | ⟨a0, rfl, rfl, b0⟩ | ⟨a0, rfl, rfl, b0⟩ | ⟨a0, rfl, rfl, b0⟩ | ⟨a0, rfl, rfl, b0⟩ | ⟨a0, rfl, rfl, b0⟩ | ⟨a0, rfl, rfl, b0⟩ | ⟨a0, rfl, rfl, b0⟩ | ⟨a0, a1, rfl, rfl, b0, b1⟩ | ⟨a0, a1, rfl, rfl, b0, b1⟩ | ⟨a0, a1, rfl, rfl, b0, b1⟩ | ⟨a0, a1, rfl, rfl, b0, b1⟩ | ⟨a0, a1, rfl, rfl, b0, b1⟩ | ⟨a0, a1, rfl, rfl, b0, b1⟩ | ⟨a0, a1, rfl, rfl, b0, b1, b2⟩ | ⟨a0, a1, rfl, rfl, b0, b1, b2⟩ | ⟨a0, a1, rfl, rfl, b0, b1, b2⟩ | ⟨a0, a1, rfl, rfl, b0, b1, b2⟩ | ⟨a0, a1, rfl, rfl, b0, b1, b2⟩ | ⟨a0, a1, rfl, rfl, b0, b1, b2⟩ | ⟨a0, a1, rfl, rfl, b0, b1, b2⟩ | ⟨a0, a1, rfl, rfl, b0, b1, b2⟩ | ⟨a0, a1, rfl, rfl, b0, b1, b2⟩
  · exact hour
  · exact mis
  · exact size b0
  · exact ref b0
  · exact giv b0
  · exact pie b0
  · exact m5 b0
  · exact m6 b0
  · exact m7 b0
  · exact m8 b0
  · exact m9 b0
  · exact tub b0 b1
  · exact box b0 b1
  · exact inn b0 b1
  · exact cam b0 b1
  · exact sal b0 b1
  · exact the b0 b1
  · exact l0 b0 b1 b2
  · exact l1 b0 b1 b2
  · exact l2 b0 b1 b2
  · exact l4 b0 b1 b2
  · exact l5 b0 b1 b2
  · exact l6 b0 b1 b2
  · exact l7 b0 b1 b2
  · exact l8 b0 b1 b2
  · exact l9 b0 b1 b2
theorem qt_pt {mc : Nat} {lc : Nat → Nat} {k : Ln} {j : Nat} (h : vd mc lc k j) : qt (pt k j).1 (pt k j).2 = (k, j) := by
  induction h using vd.elim with
  | hour => rfl
  | mis => rfl
  | size h => rfl
  | ref h => rfl
  | giv h => rfl
  | pie h => rfl
  | m5 h => rfl
  | m6 h => rfl
  | m7 h => rfl
  | m8 h => rfl
  | m9 h => rfl
  | @tub i w h hw => show ((1, (6 * i + w) / 6, 3), (6 * i + w) % 6) = _; rw [show (6 * i + w) / 6 = i by omega, show (6 * i + w) % 6 = w by omega]
  | @box i w h hw => show ((1, (6 * i + w) / 6, 4), (6 * i + w) % 6) = _; rw [show (6 * i + w) / 6 = i by omega, show (6 * i + w) % 6 = w by omega]
  | @inn i w h hw => show ((1, (6 * i + w) / 6, 5), (6 * i + w) % 6) = _; rw [show (6 * i + w) / 6 = i by omega, show (6 * i + w) % 6 = w by omega]
  | @cam i w h hw => show ((1, (6 * i + w) / 6, 6), (6 * i + w) % 6) = _; rw [show (6 * i + w) / 6 = i by omega, show (6 * i + w) % 6 = w by omega]
  | @sal i q h hq => show ((1, (384 * i + q) / 384, 11), (384 * i + q) % 384) = _; rw [show (384 * i + q) / 384 = i by omega, show (384 * i + q) % 384 = q by omega]
  | @the i q h hq => show ((1, (384 * i + q) / 384, 12), (384 * i + q) % 384) = _; rw [show (384 * i + q) / 384 = i by omega, show (384 * i + q) % 384 = q by omega]
  | @l0 i j h hj h8 => show ((3, (8 * i + j) / 8, (8 * i + j) % 8), 0) = _; rw [show (8 * i + j) / 8 = i by omega, show (8 * i + j) % 8 = j by omega]
  | @l1 i j h hj h8 => show ((3, (8 * i + j) / 8, (8 * i + j) % 8), 1) = _; rw [show (8 * i + j) / 8 = i by omega, show (8 * i + j) % 8 = j by omega]
  | @l2 i j h hj h8 => show ((3, (8 * i + j) / 8, (8 * i + j) % 8), 2) = _; rw [show (8 * i + j) / 8 = i by omega, show (8 * i + j) % 8 = j by omega]
  | @l4 i j h hj h8 => show ((3, (8 * i + j) / 8, (8 * i + j) % 8), 4) = _; rw [show (8 * i + j) / 8 = i by omega, show (8 * i + j) % 8 = j by omega]
  | @l5 i j h hj h8 => show ((3, (8 * i + j) / 8, (8 * i + j) % 8), 5) = _; rw [show (8 * i + j) / 8 = i by omega, show (8 * i + j) % 8 = j by omega]
  | @l6 i j h hj h8 => show ((3, (8 * i + j) / 8, (8 * i + j) % 8), 6) = _; rw [show (8 * i + j) / 8 = i by omega, show (8 * i + j) % 8 = j by omega]
  | @l7 i j h hj h8 => show ((3, (8 * i + j) / 8, (8 * i + j) % 8), 7) = _; rw [show (8 * i + j) / 8 = i by omega, show (8 * i + j) % 8 = j by omega]
  | @l8 i j h hj h8 => show ((3, (8 * i + j) / 8, (8 * i + j) % 8), 8) = _; rw [show (8 * i + j) / 8 = i by omega, show (8 * i + j) % 8 = j by omega]
  | @l9 i j h hj h8 => show ((3, (8 * i + j) / 8, (8 * i + j) % 8), 9) = _; rw [show (8 * i + j) / 8 = i by omega, show (8 * i + j) % 8 = j by omega]
theorem pt_inj {mc : Nat} {lc : Nat → Nat} {k k' : Ln} {j j' : Nat} (h : vd mc lc k j) (h' : vd mc lc k' j') (e : pt k j = pt k' j') : k = k' ∧ j = j' := by
  have a := qt_pt h
  rw [e, qt_pt h'] at a
  cases a
  exact ⟨rfl, rfl⟩
/-- the model's cells that nobody has used yet -/
def zb (mc : Nat) (lc : Nat → Nat) (f x : Nat) : Prop := ((f = 8 ∨ f = 9 ∨ f = 23 ∨ f = 24 ∨ f = 25 ∨ f = 26) ∧ mc ≤ x ∧ x < 6) ∨ ((f = 3 ∨ f = 4 ∨ f = 5 ∨ f = 6 ∨ f = 7) ∧ 6 * mc ≤ x ∧ x < 36) ∨ ((f = 21 ∨ f = 22) ∧ 384 * mc ≤ x ∧ x < 2304) ∨ ((f = 10 ∨ f = 13 ∨ f = 16 ∨ f = 17 ∨ f = 18 ∨ f = 19) ∧ x < 48 ∧ lc (x / 8) ≤ x % 8)
theorem vd_zb {mc : Nat} {lc : Nat → Nat} {k : Ln} {j : Nat} (h : vd mc lc k j) : ¬ zb mc lc (pt k j).1 (pt k j).2 := by
  intro z
  have lane : ∀ {i j f : Nat}, j < lc i → lc i ≤ 8 → zb mc lc f (8 * i + j) → (f = 10 ∨ f = 12 ∨ f = 14 ∨ f = 11 ∨ f = 13 ∨ f = 16 ∨ f = 17 ∨ f = 18 ∨ f = 19) → False := fun {i j f} hj h8 z hf => by
    rcases z with z | z | z | z
    · omega
    · omega
    · omega
    · rw [show (8 * i + j) / 8 = i by omega, show (8 * i + j) % 8 = j by omega] at z
      omega
  induction h using vd.elim with
  | hour => have z : zb mc lc 0 0 := z; unfold zb at z; omega
  | mis => have z : zb mc lc 0 27 := z; unfold zb at z; omega
  | @size g h => have z : zb mc lc 20 g := z; unfold zb at z; omega
  | @ref g h => have z : zb mc lc 30 g := z; unfold zb at z; omega
  | @giv g h => have z : zb mc lc 28 g := z; unfold zb at z; omega
  | @pie g h => have z : zb mc lc 29 g := z; unfold zb at z; omega
  | @m5 i h => have z : zb mc lc 9 i := z; unfold zb at z; omega
  | @m6 i h => have z : zb mc lc 23 i := z; unfold zb at z; omega
  | @m7 i h => have z : zb mc lc 24 i := z; unfold zb at z; omega
  | @m8 i h => have z : zb mc lc 25 i := z; unfold zb at z; omega
  | @m9 i h => have z : zb mc lc 26 i := z; unfold zb at z; omega
  | @tub i w h hw => have z : zb mc lc 3 (6 * i + w) := z; unfold zb at z; omega
  | @box i w h hw => have z : zb mc lc 4 (6 * i + w) := z; unfold zb at z; omega
  | @inn i w h hw => have z : zb mc lc 5 (6 * i + w) := z; unfold zb at z; omega
  | @cam i w h hw => have z : zb mc lc 6 (6 * i + w) := z; unfold zb at z; omega
  | @sal i q h hq => have z : zb mc lc 21 (384 * i + q) := z; unfold zb at z; omega
  | @the i q h hq => have z : zb mc lc 22 (384 * i + q) := z; unfold zb at z; omega
  | @l0 i j h hj h8 => exact lane (f := 10) hj h8 z (by decide)
  | @l1 i j h hj h8 => exact lane (f := 12) hj h8 z (by decide)
  | @l2 i j h hj h8 => exact lane (f := 14) hj h8 z (by decide)
  | @l4 i j h hj h8 => exact lane (f := 11) hj h8 z (by decide)
  | @l5 i j h hj h8 => exact lane (f := 13) hj h8 z (by decide)
  | @l6 i j h hj h8 => exact lane (f := 16) hj h8 z (by decide)
  | @l7 i j h hj h8 => exact lane (f := 17) hj h8 z (by decide)
  | @l8 i j h hj h8 => exact lane (f := 18) hj h8 z (by decide)
  | @l9 i j h hj h8 => exact lane (f := 19) hj h8 z (by decide)
/-- a partner is none of: the counts, went, off, keep -/
theorem vd_pt {mc : Nat} {lc : Nat → Nat} {k : Ln} {j : Nat} (h : vd mc lc k j) : (pt k j).1 ≠ 2 ∧ (pt k j).1 ≠ 7 ∧ (pt k j).1 ≠ 8 ∧ (pt k j).1 ≠ 15 ∧ ((pt k j).1 = 0 → (pt k j).2 ≠ 1) := by
  induction h using vd.elim <;> exact ⟨Nat.ne_of_beq_eq_false rfl, Nat.ne_of_beq_eq_false rfl, Nat.ne_of_beq_eq_false rfl, Nat.ne_of_beq_eq_false rfl, by first | exact fun _ => Nat.ne_of_beq_eq_false rfl | exact fun q => absurd q (Nat.ne_of_beq_eq_false rfl)⟩
theorem vd_k {mc : Nat} {lc : Nat → Nat} {k : Ln} {j : Nat} (h : vd mc lc k j) : k.1 ≠ 2 ∧ ¬ (k = (0, 0, 0) ∧ j = 6) ∧ ¬ (k.1 = 1 ∧ k.2.2 = 0 ∧ (j = 3 ∨ j = 4)) ∧ ¬ (k.1 = 1 ∧ (k.2.2 = 7 ∨ k.2.2 = 8 ∨ k.2.2 = 9 ∨ k.2.2 = 2)) ∧ ¬ (k.1 = 3 ∧ j = 3) := by
  induction h using vd.elim <;> exact ⟨by simp, by simp, by simp, by simp, by simp⟩
def sm (f : Nat → Nat) : Nat := f 0 + f 1 + f 2 + f 3 + f 4 + f 5
def LB (T : Mm) (i j : Nat) : Prop := (∃ g, T.1 (3, i, j) 0 = nI g ∧ g < 16) ∧ (∃ d s, T.1 (3, i, j) 1 = nI d ∧ d ≤ 20 ∧ T.1 (3, i, j) 5 = nI s ∧ s ≤ d) ∧ (∃ p, T.1 (3, i, j) 4 = nI p ∧ 10 ≤ p ∧ p ≤ 5000 ∧ p % 10 = 0) ∧ (∃ m, T.1 (3, i, j) 7 = nI m ∧ m ≤ 3 ∧ (T.1 (3, i, j) 8 = 0 → m ≤ 2))
def RR (T U : Mm) (mc : Nat) (lc : Nat → Nat) : Prop := (IX T mc lc) ∧ (IM U mc lc) ∧ (∀ i, mc ≤ i → lc i = 0) ∧ (∀ i, mc ≤ i → ∀ o, T.2.2 (1, i, o) = false) ∧ (∀ i n, lc i ≤ n → T.2.2 (3, i, n) = false) ∧ (∀ k j, vd mc lc k j → T.1 k j = U.1 (2, 0, (pt k j).1) (pt k j).2) ∧ (∃ h, h ≤ 3000 ∧ T.1 (0, 0, 0) 7 = nI h ∧ ∀ i, i < mc → ∀ q, q < 384 → ∃ n, T.1 (1, i, 12) q = nI n ∧ n ≤ h) ∧ (∀ g, g < 16 → ∃ s, T.1 (0, 0, 2) g = nI s ∧ 1 ≤ s ∧ s ≤ 9) ∧ (∀ i, i < mc → ∀ w, w < 6 → ∃ n, T.1 (1, i, 3) w = nI n ∧ n ≤ 50) ∧ (∀ i, i < mc → ∃ f, (∀ w, w < 6 → T.1 (1, i, 5) w = nI (f w)) ∧ sm f ≤ 20 ∧ T.1 (1, i, 2) 7 = nI (sm f)) ∧ (∀ i, i < mc → ∀ j, j < lc i → LB T i j) ∧ (∀ i, i < mc → ∀ w, w < 6 → T.1 (1, i, 7) w + T.1 (1, i, 8) w + T.1 (1, i, 9) w = U.1 (2, 0, 7) (6 * i + w)) ∧ (∀ i, i < mc → (T.1 (1, i, 0) 4 = 0 ∧ U.1 (2, 0, 8) i = 1) ∨ (T.1 (1, i, 0) 4 = 1 ∧ U.1 (2, 0, 8) i = 0)) ∧ (∀ i, i < mc → ∀ j, j < lc i → T.1 (3, i, j) 2 = 2 → T.1 (3, i, j) 3 = U.1 (2, 0, 15) (8 * i + j)) ∧ (∀ f x, zb mc lc f x → U.1 (2, 0, f) x = 0)
theorem RR.ix {T U : Mm} {mc : Nat} {lc : Nat → Nat} (h : RR T U mc lc) : IX T mc lc := h.1
theorem RR.im {T U : Mm} {mc : Nat} {lc : Nat → Nat} (h : RR T U mc lc) : IM U mc lc := h.2.1
theorem RR.lz {T U : Mm} {mc : Nat} {lc : Nat → Nat} (h : RR T U mc lc) : ∀ i, mc ≤ i → lc i = 0 := h.2.2.1
theorem RR.dm {T U : Mm} {mc : Nat} {lc : Nat → Nat} (h : RR T U mc lc) : ∀ i, mc ≤ i → ∀ o, T.2.2 (1, i, o) = false := h.2.2.2.1
theorem RR.dl {T U : Mm} {mc : Nat} {lc : Nat → Nat} (h : RR T U mc lc) : ∀ i n, lc i ≤ n → T.2.2 (3, i, n) = false := h.2.2.2.2.1
theorem RR.d {T U : Mm} {mc : Nat} {lc : Nat → Nat} (h : RR T U mc lc) : ∀ k j, vd mc lc k j → T.1 k j = U.1 (2, 0, (pt k j).1) (pt k j).2 := h.2.2.2.2.2.1
theorem RR.hr {T U : Mm} {mc : Nat} {lc : Nat → Nat} (h : RR T U mc lc) : ∃ h, h ≤ 3000 ∧ T.1 (0, 0, 0) 7 = nI h ∧ ∀ i, i < mc → ∀ q, q < 384 → ∃ n, T.1 (1, i, 12) q = nI n ∧ n ≤ h := h.2.2.2.2.2.2.1
theorem RR.sz {T U : Mm} {mc : Nat} {lc : Nat → Nat} (h : RR T U mc lc) : ∀ g, g < 16 → ∃ s, T.1 (0, 0, 2) g = nI s ∧ 1 ≤ s ∧ s ≤ 9 := h.2.2.2.2.2.2.2.1
theorem RR.tb {T U : Mm} {mc : Nat} {lc : Nat → Nat} (h : RR T U mc lc) : ∀ i, i < mc → ∀ w, w < 6 → ∃ n, T.1 (1, i, 3) w = nI n ∧ n ≤ 50 := h.2.2.2.2.2.2.2.2.1
theorem RR.nn {T U : Mm} {mc : Nat} {lc : Nat → Nat} (h : RR T U mc lc) : ∀ i, i < mc → ∃ f, (∀ w, w < 6 → T.1 (1, i, 5) w = nI (f w)) ∧ sm f ≤ 20 ∧ T.1 (1, i, 2) 7 = nI (sm f) := h.2.2.2.2.2.2.2.2.2.1
theorem RR.lb {T U : Mm} {mc : Nat} {lc : Nat → Nat} (h : RR T U mc lc) : ∀ i, i < mc → ∀ j, j < lc i → LB T i j := h.2.2.2.2.2.2.2.2.2.2.1
theorem RR.wt {T U : Mm} {mc : Nat} {lc : Nat → Nat} (h : RR T U mc lc) : ∀ i, i < mc → ∀ w, w < 6 → T.1 (1, i, 7) w + T.1 (1, i, 8) w + T.1 (1, i, 9) w = U.1 (2, 0, 7) (6 * i + w) := h.2.2.2.2.2.2.2.2.2.2.2.1
theorem RR.pw {T U : Mm} {mc : Nat} {lc : Nat → Nat} (h : RR T U mc lc) : ∀ i, i < mc → (T.1 (1, i, 0) 4 = 0 ∧ U.1 (2, 0, 8) i = 1) ∨ (T.1 (1, i, 0) 4 = 1 ∧ U.1 (2, 0, 8) i = 0) := h.2.2.2.2.2.2.2.2.2.2.2.2.1
theorem RR.kp {T U : Mm} {mc : Nat} {lc : Nat → Nat} (h : RR T U mc lc) : ∀ i, i < mc → ∀ j, j < lc i → T.1 (3, i, j) 2 = 2 → T.1 (3, i, j) 3 = U.1 (2, 0, 15) (8 * i + j) := h.2.2.2.2.2.2.2.2.2.2.2.2.2.1
theorem RR.z {T U : Mm} {mc : Nat} {lc : Nat → Nat} (h : RR T U mc lc) : ∀ f x, zb mc lc f x → U.1 (2, 0, f) x = 0 := h.2.2.2.2.2.2.2.2.2.2.2.2.2.2
section RRS
variable {S T U T' U' : Mm} {mc : Nat} {lc : Nat → Nat} {k : Ln} {j : Nat} {v : Int32}
theorem wI_kn {k' : Ln} {j' : Nat} (h : k' ≠ k) : (wI T k j v).1 k' j' = T.1 k' j' := wI_ne (fun q => h q.1)
/-- both partners get the same -/
theorem RR.upd (h : RR T U mc lc) (hv : vd mc lc k j) (hk2 : ¬ (k.1 = 3 ∧ j = 2))
    (hr : ∃ h, h ≤ 3000 ∧ (wI T k j v).1 (0, 0, 0) 7 = nI h ∧ ∀ i, i < mc → ∀ q, q < 384 → ∃ n, (wI T k j v).1 (1, i, 12) q = nI n ∧ n ≤ h)
    (sz : ∀ g, g < 16 → ∃ s, (wI T k j v).1 (0, 0, 2) g = nI s ∧ 1 ≤ s ∧ s ≤ 9)
    (tb : ∀ i, i < mc → ∀ w, w < 6 → ∃ n, (wI T k j v).1 (1, i, 3) w = nI n ∧ n ≤ 50)
    (nn : ∀ i, i < mc → ∃ f, (∀ w, w < 6 → (wI T k j v).1 (1, i, 5) w = nI (f w)) ∧ sm f ≤ 20 ∧ (wI T k j v).1 (1, i, 2) 7 = nI (sm f))
    (lb : ∀ i, i < mc → ∀ l, l < lc i → LB (wI T k j v) i l) : RR (wI T k j v) (wI U (2, 0, (pt k j).1) (pt k j).2 v) mc lc := by
  obtain ⟨n2, n6, n34, nw, n3⟩ := vd_k hv
  obtain ⟨p2, p7, p8, p15, p01⟩ := vd_pt hv
  have um : ∀ {f x : Nat}, f ≠ (pt k j).1 → (wI U (2, 0, (pt k j).1) (pt k j).2 v).1 (2, 0, f) x = U.1 (2, 0, f) x := fun hf => wI_ne (fun q => hf (congrArg (fun z : Ln => z.2.2) q.1))
  refine ⟨IX.same (S := T) rfl (wI_ne (fun q => n6 ⟨q.1.symm, q.2.symm⟩)) (fun i => wI_ne (fun q => n34 (by rw [← q.1, ← q.2]; exact ⟨rfl, rfl, Or.inl rfl⟩))) h.ix, IM.same (S := U) rfl (wI_ne (fun q => p01 (congrArg (fun z : Ln => z.2.2) q.1).symm q.2.symm)) (fun i => um (Ne.symm p2)) h.im, h.lz, h.dm, h.dl, fun k' j' hv' => ?_, hr, sz, tb, nn, lb, fun i hi w hw => ?_, fun i hi => ?_, fun i hi l hl => ?_, fun f x hz => ?_⟩
  · by_cases e : k' = k ∧ j' = j
    · obtain ⟨rfl, rfl⟩ := e
      rw [wI_same, wI_same]
    · rw [wI_ne e, wI_ne (fun q => e (pt_inj hv' hv (Prod.ext (congrArg (fun z : Ln => z.2.2) q.1) q.2)))]
      exact h.d k' j' hv'
  · have e : ∀ o, (o = 7 ∨ o = 8 ∨ o = 9) → (wI T k j v).1 (1, i, o) w = T.1 (1, i, o) w := fun o ho => wI_kn (fun q => nw (by rw [← q]; exact ⟨rfl, by show o = 7 ∨ o = 8 ∨ o = 9 ∨ o = 2; omega⟩))
    rw [e 7 (by omega), e 8 (by omega), e 9 (by omega), um (Ne.symm p7)]
    exact h.wt i hi w hw
  · have e : (wI T k j v).1 (1, i, 0) 4 = T.1 (1, i, 0) 4 := wI_ne (fun q => n34 (by rw [← q.1, ← q.2]; exact ⟨rfl, rfl, Or.inr rfl⟩))
    rw [e, um (Ne.symm p8)]
    exact h.pw i hi
  · have e2 : (wI T k j v).1 (3, i, l) 2 = T.1 (3, i, l) 2 := wI_ne (fun q => hk2 (by rw [← q.1, ← q.2]; exact ⟨rfl, rfl⟩))
    have e3 : (wI T k j v).1 (3, i, l) 3 = T.1 (3, i, l) 3 := wI_ne (fun q => n3 (by rw [← q.1, ← q.2]; exact ⟨rfl, rfl⟩))
    rw [e2, e3, um (Ne.symm p15)]
    exact h.kp i hi l hl
  · rw [wI_ne (fun q => vd_zb hv (by
      have e1 : f = (pt k j).1 := congrArg (fun z : Ln => z.2.2) q.1
      rw [← q.2, ← e1]; exact hz))]
    exact h.z f x hz
theorem LB.fr {i l : Nat} (h : LB T i l) (hk : k ≠ (3, i, l) ∨ (j = 2 ∨ j = 3 ∨ j = 6 ∨ j = 9)) : LB (wI T k j v) i l := by
  have e : ∀ q, (q = 0 ∨ q = 1 ∨ q = 4 ∨ q = 5 ∨ q = 7 ∨ q = 8) → (wI T k j v).1 (3, i, l) q = T.1 (3, i, l) q := fun q hq => wI_ne (fun z => by
    rcases hk with hk | hk
    · exact hk z.1.symm
    · omega)
  unfold LB
  rw [e 0 (by omega), e 1 (by omega), e 4 (by omega), e 5 (by omega), e 7 (by omega), e 8 (by omega)]
  exact h
theorem RR.hrF (h : RR T U mc lc) (h1 : ¬ (k = (0, 0, 0) ∧ j = 7)) (h2 : ¬ (k.1 = 1 ∧ k.2.2 = 12)) : ∃ h, h ≤ 3000 ∧ (wI T k j v).1 (0, 0, 0) 7 = nI h ∧ ∀ i, i < mc → ∀ q, q < 384 → ∃ n, (wI T k j v).1 (1, i, 12) q = nI n ∧ n ≤ h := by
  obtain ⟨t, a, b, c⟩ := h.hr
  refine ⟨t, a, (wI_ne (fun q => h1 ⟨q.1.symm, q.2.symm⟩)).trans b, fun i hi q hq => ?_⟩
  rw [wI_kn (fun z => h2 (by rw [← z]; exact ⟨rfl, rfl⟩))]
  exact c i hi q hq
theorem RR.szF (h : RR T U mc lc) (h1 : k ≠ (0, 0, 2)) : ∀ g, g < 16 → ∃ s, (wI T k j v).1 (0, 0, 2) g = nI s ∧ 1 ≤ s ∧ s ≤ 9 := fun g hg => by rw [wI_kn (Ne.symm h1)]; exact h.sz g hg
theorem RR.tbF (h : RR T U mc lc) (h1 : ¬ (k.1 = 1 ∧ k.2.2 = 3)) : ∀ i, i < mc → ∀ w, w < 6 → ∃ n, (wI T k j v).1 (1, i, 3) w = nI n ∧ n ≤ 50 := fun i hi w hw => by rw [wI_kn (fun z => h1 (by rw [← z]; exact ⟨rfl, rfl⟩))]; exact h.tb i hi w hw
theorem RR.nnF (h : RR T U mc lc) (h1 : ¬ (k.1 = 1 ∧ (k.2.2 = 5 ∨ k.2.2 = 2))) : ∀ i, i < mc → ∃ f, (∀ w, w < 6 → (wI T k j v).1 (1, i, 5) w = nI (f w)) ∧ sm f ≤ 20 ∧ (wI T k j v).1 (1, i, 2) 7 = nI (sm f) := fun i hi => by
  obtain ⟨f, a, b, c⟩ := h.nn i hi
  exact ⟨f, fun w hw => (wI_kn (fun z => h1 (by rw [← z]; exact ⟨rfl, Or.inl rfl⟩))).trans (a w hw), b, (wI_kn (fun z => h1 (by rw [← z]; exact ⟨rfl, Or.inr rfl⟩))).trans c⟩
theorem RR.lbF (h : RR T U mc lc) (h1 : k.1 = 3 → (j = 2 ∨ j = 3 ∨ j = 6 ∨ j = 9)) : ∀ i, i < mc → ∀ l, l < lc i → LB (wI T k j v) i l := fun i hi l hl => (h.lb i hi l hl).fr (by
  by_cases e : k = (3, i, l)
  · exact Or.inr (h1 (by rw [e]))
  · exact Or.inl e)
/-- cells without bounds -/
def frc (k : Ln) (j : Nat) : Bool := match k.1 with
  | 0 => (match k.2.2 with | 0 => decide (j = 8) | 3 => true | 4 => true | 10 => true | _ => false)
  | 1 => (match k.2.2 with | 0 => decide (5 ≤ j) | 4 => true | 6 => true | 11 => true | _ => false)
  | 3 => decide (j = 6) || decide (j = 9)
  | _ => false
theorem RR.pair (h : RR T U mc lc) (hv : vd mc lc k j) (hf : frc k j = true) : RR (wI T k j v) (wI U (2, 0, (pt k j).1) (pt k j).2 v) mc lc := by
  have hk : ¬ (k.1 = 3 ∧ j = 2) ∧ ¬ (k = (0, 0, 0) ∧ j = 7) ∧ ¬ (k.1 = 1 ∧ k.2.2 = 12) ∧ k ≠ (0, 0, 2) ∧ ¬ (k.1 = 1 ∧ k.2.2 = 3) ∧ ¬ (k.1 = 1 ∧ (k.2.2 = 5 ∨ k.2.2 = 2)) ∧ (k.1 = 3 → (j = 2 ∨ j = 3 ∨ j = 6 ∨ j = 9)) := by
    induction hv using vd.elim <;> first | exact absurd hf (by decide) | (simp [frc] at hf ⊢)
  exact h.upd hv hk.1 (h.hrF hk.2.1 hk.2.2.1) (h.szF hk.2.2.2.1) (h.tbF hk.2.2.2.2.1) (h.nnF hk.2.2.2.2.2.1) (h.lbF hk.2.2.2.2.2.2)
end RRS
