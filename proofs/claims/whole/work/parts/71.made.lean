/-! machine() and lane() -/
theorem wI_1 (S : Mm) (k : Ln) (j : Nat) (v : Int32) (k' : Ln) (j' : Nat) : (wI S k j v).1 k' j' = if k' = k ∧ j' = j then v else S.1 k' j' := rfl
theorem wI_21 (S : Mm) (k : Ln) (j : Nat) (v : Int32) (k' : Ln) (j' : Nat) : (wI S k j v).2.1 k' j' = S.2.1 k' j' := rfl
theorem wI_22 (S : Mm) (k : Ln) (j : Nat) (v : Int32) (k' : Ln) : (wI S k j v).2.2 k' = S.2.2 k' := rfl
theorem wR_1 (S : Mm) (k : Ln) (j : Nat) (r : Option Ln) (k' : Ln) (j' : Nat) : (wR S k j r).1 k' j' = S.1 k' j' := rfl
theorem wR_21 (S : Mm) (k : Ln) (j : Nat) (r : Option Ln) (k' : Ln) (j' : Nat) : (wR S k j r).2.1 k' j' = if k' = k ∧ j' = j then r else S.2.1 k' j' := rfl
theorem wR_22 (S : Mm) (k : Ln) (j : Nat) (r : Option Ln) (k' : Ln) : (wR S k j r).2.2 k' = S.2.2 k' := rfl
theorem nw_1 (S : Mm) (k : Ln) (k' : Ln) (j' : Nat) : (nwm S k).1 k' j' = if k' = k then 0 else S.1 k' j' := rfl
theorem nw_21 (S : Mm) (k : Ln) (k' : Ln) (j' : Nat) : (nwm S k).2.1 k' j' = if k' = k then none else S.2.1 k' j' := rfl
theorem nw_22 (S : Mm) (k : Ln) (k' : Ln) : (nwm S k).2.2 k' = if k' = k then true else S.2.2 k' := rfl
section NM
variable (S : Mm) (mc : Nat)
theorem nm_1 {k : Ln} {j : Nat} (h : ∀ o, k ≠ (1, mc, o)) (h6 : ¬ (k = (0, 0, 0) ∧ j = 6)) : (nmM S mc).1 k j = S.1 k j := by
  simp only [nmM, macM, tilM, diM, wI_1, wI_21, wI_22, wR_1, wR_21, wR_22, nw_1, nw_21, nw_22, h, h6, if_false, false_and]
theorem nm_2 {k : Ln} {j : Nat} (h : ∀ o, k ≠ (1, mc, o)) (h1 : ¬ (k = (0, 0, 1) ∧ j = mc)) : (nmM S mc).2.1 k j = S.2.1 k j := by
  simp only [nmM, macM, tilM, diM, wI_1, wI_21, wI_22, wR_1, wR_21, wR_22, nw_1, nw_21, nw_22, h, h1, if_false, false_and]
theorem nm_3 {k : Ln} (h : ∀ o, k ≠ (1, mc, o)) : (nmM S mc).2.2 k = S.2.2 k := by
  simp only [nmM, macM, tilM, diM, wI_1, wI_21, wI_22, wR_1, wR_21, wR_22, nw_1, nw_21, nw_22, h, if_false, false_and]
theorem nm_6 : (nmM S mc).1 (0, 0, 0) 6 = nI (mc + 1) := wI_same
theorem nm_m : (nmM S mc).2.1 (0, 0, 1) mc = some (1, mc, 0) := by
  (simp only [nmM, wI_1, wI_21, wI_22, wR_1, wR_21, wR_22, nw_1, nw_21, nw_22]; simp)
theorem nm_n {o : Nat} (ho : o ≤ 12) (j : Nat) : (nmM S mc).1 (1, mc, o) j = if o = 0 ∧ j = 4 then 1 else 0 := by
  rcases (show o = 0 ∨ o = 1 ∨ o = 2 ∨ o = 3 ∨ o = 4 ∨ o = 5 ∨ o = 6 ∨ o = 7 ∨ o = 8 ∨ o = 9 ∨ o = 10 ∨ o = 11 ∨ o = 12 by omega) with rfl | rfl | rfl | rfl | rfl | rfl | rfl | rfl | rfl | rfl | rfl | rfl | rfl <;> (simp only [nmM, macM, tilM, diM, wI_1, wI_21, wI_22, wR_1, wR_21, wR_22, nw_1, nw_21, nw_22]; simp)
theorem nm_l {o : Nat} (ho : o ≤ 12) : (nmM S mc).2.2 (1, mc, o) = true := by
  rcases (show o = 0 ∨ o = 1 ∨ o = 2 ∨ o = 3 ∨ o = 4 ∨ o = 5 ∨ o = 6 ∨ o = 7 ∨ o = 8 ∨ o = 9 ∨ o = 10 ∨ o = 11 ∨ o = 12 by omega) with rfl | rfl | rfl | rfl | rfl | rfl | rfl | rfl | rfl | rfl | rfl | rfl | rfl <;> (simp only [nmM, macM, tilM, diM, wI_1, wI_21, wI_22, wR_1, wR_21, wR_22, nw_1, nw_21, nw_22]; simp)
theorem nm_sh : MSh (nmM S mc) mc 0 := by
  refine ⟨fun o ho => nm_l S mc ho, ?_, ?_, ?_, fun j hj => ?_, fun j hj => by omega, by decide⟩
  · refine ⟨?_, ?_, ?_⟩ <;> (simp only [nmM, macM, tilM, diM, wI_1, wI_21, wI_22, wR_1, wR_21, wR_22, nw_1, nw_21, nw_22]; simp)
  · refine ⟨?_, ?_, ?_, ?_, ?_, ?_, ?_⟩ <;> (simp only [nmM, macM, tilM, diM, wI_1, wI_21, wI_22, wR_1, wR_21, wR_22, nw_1, nw_21, nw_22]; simp)
  · refine ⟨?_, ?_⟩ <;> (simp only [nmM, macM, tilM, diM, wI_1, wI_21, wI_22, wR_1, wR_21, wR_22, nw_1, nw_21, nw_22]; simp)
  · (simp only [nmM, macM, tilM, diM, wI_1, wI_21, wI_22, wR_1, wR_21, wR_22, nw_1, nw_21, nw_22]; simp)
theorem nm_M : agM S (nmM S mc) := fun k hk => by
  have h : ∀ o, k ≠ (1, mc, o) := fun o e => by rw [e] at hk; cases hk
  exact ⟨fun j => nm_1 S mc h (fun q => by rw [q.1] at hk; cases hk), fun j => nm_2 S mc h (fun q => by rw [q.1] at hk; cases hk), nm_3 S mc h⟩
end NM
theorem MSh.ag {S T : Mm} {i n : Nat} (h : MSh S i n) (e : ∀ k : Ln, (k.1 = 1 ∨ k.1 = 3) → k.2.1 = i → (∀ j, T.2.1 k j = S.2.1 k j) ∧ T.2.2 k = S.2.2 k) : MSh T i n := by
  have r : ∀ o j, T.2.1 (1, i, o) j = S.2.1 (1, i, o) j := fun o j => (e (1, i, o) (Or.inl rfl) rfl).1 j
  have l : ∀ o, T.2.2 (1, i, o) = S.2.2 (1, i, o) := fun o => (e (1, i, o) (Or.inl rfl) rfl).2
  have l3 : ∀ o, T.2.2 (3, i, o) = S.2.2 (3, i, o) := fun o => (e (3, i, o) (Or.inr rfl) rfl).2
  unfold MSh at *
  simp only [r, l, l3]
  exact h
theorem vd_nm {mc : Nat} {lc : Nat → Nat} {k : Ln} {j : Nat} (h : vd (mc + 1) lc k j) : vd mc lc k j ∨ (k.1 = 1 ∧ k.2.1 = mc ∧ k.2.2 ≤ 12 ∧ ¬ (k.2.2 = 0 ∧ j = 4)) ∨ (k.1 = 3 ∧ k.2.1 = mc ∧ k.2.2 < lc mc) := by
  induction h using vd.elim with
  | hour => exact Or.inl vd.hour
  | mis => exact Or.inl vd.mis
  | size h => exact Or.inl (vd.size h)
  | ref h => exact Or.inl (vd.ref h)
  | giv h => exact Or.inl (vd.giv h)
  | pie h => exact Or.inl (vd.pie h)
  | @m5 i h =>
    by_cases e : i < mc
    · exact Or.inl (vd.m5 e)
    · exact Or.inr (Or.inl ⟨rfl, by show i = mc; omega, Nat.le_of_ble_eq_true rfl, fun q => absurd q.2 (by decide)⟩)
  | @m6 i h =>
    by_cases e : i < mc
    · exact Or.inl (vd.m6 e)
    · exact Or.inr (Or.inl ⟨rfl, by show i = mc; omega, Nat.le_of_ble_eq_true rfl, fun q => absurd q.2 (by decide)⟩)
  | @m7 i h =>
    by_cases e : i < mc
    · exact Or.inl (vd.m7 e)
    · exact Or.inr (Or.inl ⟨rfl, by show i = mc; omega, Nat.le_of_ble_eq_true rfl, fun q => absurd q.2 (by decide)⟩)
  | @m8 i h =>
    by_cases e : i < mc
    · exact Or.inl (vd.m8 e)
    · exact Or.inr (Or.inl ⟨rfl, by show i = mc; omega, Nat.le_of_ble_eq_true rfl, fun q => absurd q.2 (by decide)⟩)
  | @m9 i h =>
    by_cases e : i < mc
    · exact Or.inl (vd.m9 e)
    · exact Or.inr (Or.inl ⟨rfl, by show i = mc; omega, Nat.le_of_ble_eq_true rfl, fun q => absurd q.2 (by decide)⟩)
  | @tub i w h hw =>
    by_cases e : i < mc
    · exact Or.inl (vd.tub e hw)
    · exact Or.inr (Or.inl ⟨rfl, by show i = mc; omega, Nat.le_of_ble_eq_true rfl, fun q => absurd q.1 (Nat.ne_of_beq_eq_false rfl)⟩)
  | @box i w h hw =>
    by_cases e : i < mc
    · exact Or.inl (vd.box e hw)
    · exact Or.inr (Or.inl ⟨rfl, by show i = mc; omega, Nat.le_of_ble_eq_true rfl, fun q => absurd q.1 (Nat.ne_of_beq_eq_false rfl)⟩)
  | @inn i w h hw =>
    by_cases e : i < mc
    · exact Or.inl (vd.inn e hw)
    · exact Or.inr (Or.inl ⟨rfl, by show i = mc; omega, Nat.le_of_ble_eq_true rfl, fun q => absurd q.1 (Nat.ne_of_beq_eq_false rfl)⟩)
  | @cam i w h hw =>
    by_cases e : i < mc
    · exact Or.inl (vd.cam e hw)
    · exact Or.inr (Or.inl ⟨rfl, by show i = mc; omega, Nat.le_of_ble_eq_true rfl, fun q => absurd q.1 (Nat.ne_of_beq_eq_false rfl)⟩)
  | @sal i w h hw =>
    by_cases e : i < mc
    · exact Or.inl (vd.sal e hw)
    · exact Or.inr (Or.inl ⟨rfl, by show i = mc; omega, Nat.le_of_ble_eq_true rfl, fun q => absurd q.1 (Nat.ne_of_beq_eq_false rfl)⟩)
  | @the i w h hw =>
    by_cases e : i < mc
    · exact Or.inl (vd.the e hw)
    · exact Or.inr (Or.inl ⟨rfl, by show i = mc; omega, Nat.le_of_ble_eq_true rfl, fun q => absurd q.1 (Nat.ne_of_beq_eq_false rfl)⟩)
  | @l0 i j h hj h8 =>
    by_cases e : i < mc
    · exact Or.inl (vd.l0 e hj h8)
    · have e' : i = mc := by omega
      subst e'
      exact Or.inr (Or.inr ⟨rfl, rfl, hj⟩)
  | @l1 i j h hj h8 =>
    by_cases e : i < mc
    · exact Or.inl (vd.l1 e hj h8)
    · have e' : i = mc := by omega
      subst e'
      exact Or.inr (Or.inr ⟨rfl, rfl, hj⟩)
  | @l2 i j h hj h8 =>
    by_cases e : i < mc
    · exact Or.inl (vd.l2 e hj h8)
    · have e' : i = mc := by omega
      subst e'
      exact Or.inr (Or.inr ⟨rfl, rfl, hj⟩)
  | @l4 i j h hj h8 =>
    by_cases e : i < mc
    · exact Or.inl (vd.l4 e hj h8)
    · have e' : i = mc := by omega
      subst e'
      exact Or.inr (Or.inr ⟨rfl, rfl, hj⟩)
  | @l5 i j h hj h8 =>
    by_cases e : i < mc
    · exact Or.inl (vd.l5 e hj h8)
    · have e' : i = mc := by omega
      subst e'
      exact Or.inr (Or.inr ⟨rfl, rfl, hj⟩)
  | @l6 i j h hj h8 =>
    by_cases e : i < mc
    · exact Or.inl (vd.l6 e hj h8)
    · have e' : i = mc := by omega
      subst e'
      exact Or.inr (Or.inr ⟨rfl, rfl, hj⟩)
  | @l7 i j h hj h8 =>
    by_cases e : i < mc
    · exact Or.inl (vd.l7 e hj h8)
    · have e' : i = mc := by omega
      subst e'
      exact Or.inr (Or.inr ⟨rfl, rfl, hj⟩)
  | @l8 i j h hj h8 =>
    by_cases e : i < mc
    · exact Or.inl (vd.l8 e hj h8)
    · have e' : i = mc := by omega
      subst e'
      exact Or.inr (Or.inr ⟨rfl, rfl, hj⟩)
  | @l9 i j h hj h8 =>
    by_cases e : i < mc
    · exact Or.inl (vd.l9 e hj h8)
    · have e' : i = mc := by omega
      subst e'
      exact Or.inr (Or.inr ⟨rfl, rfl, hj⟩)
/-- a new machine's partners are as they were made -/
theorem vd_nz {mc : Nat} {lc : Nat → Nat} {k : Ln} {j : Nat} (h : vd (mc + 1) lc k j) (h6 : mc < 6) (hk : k.1 = 1) (hm : k.2.1 = mc) : zb mc lc (pt k j).1 (pt k j).2 := by
  induction h using vd.elim with
  | hour => cases hk
  | mis => cases hk
  | size h => cases hk
  | ref h => cases hk
  | giv h => cases hk
  | pie h => cases hk
  | @m5 i h => have hm : i = mc := hm; show zb mc lc 9 i; unfold zb; omega
  | @m6 i h => have hm : i = mc := hm; show zb mc lc 23 i; unfold zb; omega
  | @m7 i h => have hm : i = mc := hm; show zb mc lc 24 i; unfold zb; omega
  | @m8 i h => have hm : i = mc := hm; show zb mc lc 25 i; unfold zb; omega
  | @m9 i h => have hm : i = mc := hm; show zb mc lc 26 i; unfold zb; omega
  | @tub i w h hw => have hm : i = mc := hm; show zb mc lc 3 (6 * i + w); unfold zb; omega
  | @box i w h hw => have hm : i = mc := hm; show zb mc lc 4 (6 * i + w); unfold zb; omega
  | @inn i w h hw => have hm : i = mc := hm; show zb mc lc 5 (6 * i + w); unfold zb; omega
  | @cam i w h hw => have hm : i = mc := hm; show zb mc lc 6 (6 * i + w); unfold zb; omega
  | @sal i q h hq => have hm : i = mc := hm; show zb mc lc 21 (384 * i + q); unfold zb; omega
  | @the i q h hq => have hm : i = mc := hm; show zb mc lc 22 (384 * i + q); unfold zb; omega
  | l0 h hj h8 => cases hk
  | l1 h hj h8 => cases hk
  | l2 h hj h8 => cases hk
  | l4 h hj h8 => cases hk
  | l5 h hj h8 => cases hk
  | l6 h hj h8 => cases hk
  | l7 h hj h8 => cases hk
  | l8 h hj h8 => cases hk
  | l9 h hj h8 => cases hk
section MK
variable {S U : Mm} {mc : Nat} {lc : Nat → Nat}
theorem IX.nm (h : IX S mc lc) (h6 : mc < 6) (h0 : lc mc = 0) : IX (nmM S mc) (mc + 1) lc := by
  have r : ∀ a b c j, a ≠ 1 ∨ b ≠ mc → ¬ (a = 0 ∧ c = 1 ∧ j = mc) → (nmM S mc).2.1 (a, b, c) j = S.2.1 (a, b, c) j := fun a b c j q q1 => nm_2 S mc (fun o e => by cases e; omega) (fun e => by have := e.2; cases e.1; omega)
  have l : ∀ a b c, a ≠ 1 ∨ b ≠ mc → (nmM S mc).2.2 (a, b, c) = S.2.2 (a, b, c) := fun a b c q => nm_3 S mc (fun o e => by cases e; omega)
  obtain ⟨⟨s1, s2, s3, s4, s5, s6, s7⟩, c1, c2⟩ := h
  refine ⟨⟨fun o ho => by rw [l _ _ _ (by omega)]; exact s1 o ho, ?_, ?_, fun q hq => ?_, fun i hi => ?_, fun i hi => ?_, by omega⟩, nm_6 S mc, fun i hi => ?_⟩
  · rw [r _ _ _ _ (by omega) (by omega), r _ _ _ _ (by omega) (by omega), r _ _ _ _ (by omega) (by omega), r _ _ _ _ (by omega) (by omega), r _ _ _ _ (by omega) (by omega), r _ _ _ _ (by omega) (by omega)]
    exact s2
  · rw [r _ _ _ _ (by omega) (by omega), r _ _ _ _ (by omega) (by omega), r _ _ _ _ (by omega) (by omega), r _ _ _ _ (by omega) (by omega)]
    exact s3
  · rw [l _ _ _ (by omega), r _ _ _ _ (by omega) (by omega)]
    exact s4 q hq
  · by_cases e : i = mc
    · subst e
      rw [nm_m, if_pos (by omega)]
    · rw [r _ _ _ _ (by omega) (by omega), s5 i hi]
      by_cases q : i < mc
      · rw [if_pos q, if_pos (by omega)]
      · rw [if_neg q, if_neg (by omega)]
  · by_cases e : i = mc
    · subst e
      rw [h0]
      exact nm_sh S i
    · refine (s6 i (by omega)).ag (fun k hk hki => ⟨fun j => nm_2 S mc (fun o z => ?_) (fun z => ?_), nm_3 S mc (fun o z => ?_)⟩)
      · rw [z] at hki; exact e hki.symm
      · rw [z.1] at hk; rcases hk with hk | hk <;> cases hk
      · rw [z] at hki; exact e hki.symm
  · by_cases e : i = mc
    · subst e
      rw [nm_n S i (by decide), if_neg (by omega), h0]
      rfl
    · rw [nm_1 S mc (fun o z => by cases z; exact e rfl) (fun z => by cases z.1)]
      exact c2 i (by omega)
theorem RR.nm (h : RR S U mc lc) (h6 : mc < 6) : RR (nmM S mc) (wI U (2, 0, 0) 1 (nI (mc + 1))) (mc + 1) lc := by
  have h0 : lc mc = 0 := h.lz mc (Nat.le_refl _)
  have t : ∀ a b c j, a ≠ 1 ∨ b ≠ mc → ¬ (a = 0 ∧ c = 0 ∧ j = 6) → (nmM S mc).1 (a, b, c) j = S.1 (a, b, c) j := fun a b c j q q1 => nm_1 S mc (fun o e => by cases e; omega) (fun e => by have := e.2; cases e.1; omega)
  have u : ∀ f x, f ≠ 0 ∨ x ≠ 1 → (wI U (2, 0, 0) 1 (nI (mc + 1))).1 (2, 0, f) x = U.1 (2, 0, f) x := fun f x q => wI_ne (fun e => by have := e.2; cases e.1; omega)
  have zz : ∀ f x, zb mc lc f x → U.1 (2, 0, f) x = 0 := h.z
  refine ⟨h.ix.nm h6 h0, ?_, fun i hi => h.lz i (by omega), fun i hi o => ?_, fun i n hn => ?_, fun k j hv => ?_, ?_, ?_, ?_, ?_, ?_, ?_, ?_, ?_, ?_⟩
  · obtain ⟨m1, m2, m3, m4⟩ := h.im
    exact ⟨m1.same rfl, wI_same, by omega, fun i hi => by rw [u _ _ (by omega)]; exact m4 i hi⟩
  · rw [nm_3 S mc (fun o' e => by cases e; omega)]
    exact h.dm i (by omega) o
  · rw [nm_3 S mc (fun o' e => by cases e)]
    exact h.dl i n hn
  · have p := vd_pt hv
    rw [u _ _ (by
      by_cases q : (pt k j).1 = 0
      · exact Or.inr (p.2.2.2.2 q)
      · exact Or.inl q)]
    rcases vd_nm hv with ov | ⟨k1, k2, k3, k4⟩ | ⟨k1, k2, k3⟩
    · rw [nm_1 S mc (fun o e => by rw [e] at ov; have := (vd_mi ov).1; omega) (fun e => (vd_k hv).2.1 e)]
      exact h.d k j ov
    · rw [zz _ _ (vd_nz hv h6 k1 k2)]
      obtain ⟨a, b, c⟩ := k
      have k1 : a = 1 := k1
      have k2 : b = mc := k2
      subst k1; subst k2
      rw [nm_n S b k3, if_neg k4]
    · omega
  · obtain ⟨t0, a, b, c⟩ := h.hr
    refine ⟨t0, a, (t _ _ _ _ (by omega) (by omega)).trans b, fun i hi q hq => ?_⟩
    by_cases e : i = mc
    · subst e
      exact ⟨0, by rw [nm_n S i (by decide), if_neg (by omega)]; rfl, Nat.zero_le _⟩
    · rw [t _ _ _ _ (by omega) (by omega)]
      exact c i (by omega) q hq
  · intro g hg
    rw [t _ _ _ _ (by omega) (by omega)]
    exact h.sz g hg
  · intro i hi w hw
    by_cases e : i = mc
    · subst e
      exact ⟨0, by rw [nm_n S i (by decide), if_neg (by omega)]; rfl, Nat.zero_le _⟩
    · rw [t _ _ _ _ (by omega) (by omega)]
      exact h.tb i (by omega) w hw
  · intro i hi
    by_cases e : i = mc
    · subst e
      exact ⟨fun _ => 0, fun w hw => by rw [nm_n S i (by decide), if_neg (by omega)]; rfl, by decide, by rw [nm_n S i (by decide), if_neg (by omega)]; rfl⟩
    · obtain ⟨f, a, b, c⟩ := h.nn i (by omega)
      exact ⟨f, fun w hw => by rw [t _ _ _ _ (by omega) (by omega)]; exact a w hw, b, by rw [t _ _ _ _ (by omega) (by omega)]; exact c⟩
  · intro i hi j hj
    have e : i ≠ mc := fun e => by subst e; omega
    exact (h.lb i (by omega) j hj).e (fun q _ => t _ _ _ _ (by omega) (by omega))
  · intro i hi w hw
    rw [u _ _ (by omega)]
    by_cases e : i = mc
    · subst e
      rw [nm_n S i (by decide), nm_n S i (by decide), nm_n S i (by decide), if_neg (by omega), if_neg (by omega), if_neg (by omega), zz 7 _ (by unfold zb; omega)]
      rfl
    · rw [t _ _ _ _ (by omega) (by omega), t _ _ _ _ (by omega) (by omega), t _ _ _ _ (by omega) (by omega)]
      exact h.wt i (by omega) w hw
  · intro i hi
    rw [u _ _ (by omega)]
    by_cases e : i = mc
    · subst e
      rw [nm_n S i (by decide), if_pos ⟨rfl, rfl⟩, zz 8 i (by unfold zb; omega)]
      exact Or.inr ⟨rfl, rfl⟩
    · rw [t _ _ _ _ (by omega) (by omega)]
      exact h.pw i (by omega)
  · intro i hi j hj
    have e : i ≠ mc := fun e => by subst e; omega
    rw [t _ _ _ _ (by omega) (by omega), t _ _ _ _ (by omega) (by omega), u _ _ (by omega)]
    exact h.kp i (by omega) j hj
  · intro f x hz
    rw [u _ _ (by unfold zb at hz; omega)]
    exact zz f x (by unfold zb at hz ⊢; omega)
end MK
theorem Op.mkf {l : Launch} {E : En} {base aw : Nat} {yx : MethodName} {bx : ByteArray} {nx : Nat} {ret : Option FieldType} {dx : Nat} {ym : MethodName} {bm : ByteArray} {nm dm : Nat} {as : List AV} {S S1 S2 : Mm} {mc : Nat} {lc : Nat → Nat} {v v' : Int32} {mcx msx : Nat} {frx : Ln → Bool} (hm : mcx ≤ 13) (hs : msx ≤ 838) (hf : ∀ k, frx k = true → k.1 = 1 ∨ k.1 = 3) (x : Cn l E base aw yx bx nx ret dx mcx msx frx S (vr (0, 0, 0) :: as) (fun r S' => r = some (vi v) ∧ S' = S1)) (m : Cn l E base aw ym bm nm ret dm 0 0 noF S1 (vr (2, 0, 0) :: as) (fun r S' => r = some (vi v') ∧ S' = S2)) (e : v' = v) (hl : S1.2.2 (2, 0, 0) = true) (hr : RR S2 S2 mc lc) : Op l E base aw yx bx nx ret dx ym bm nm dm as S := by
  subst e
  exact ⟨v', S1, S2, mcx, msx, frx, mc, lc, hm, hs, hf, hl, x, m, hr⟩
set_option maxHeartbeats 400000 in
theorem o_machine (l : Launch) (E : En) (base aw : Nat) {S : Mm} {mc : Nat} {lc : Nat → Nat} (h : RR S S mc lc) : Op l E base aw yX6_machine cX6_machine 1 (some Jvm.ClassFile.FieldType.int) 3 yX7_machine cX7_machine 1 1 [] S := by
  have hm : ∀ S1, RR S S1 mc lc → S1.1 (2, 0, 0) 1 = nI mc := fun S1 h1 => h1.im.2.1
  have m6 := h.ix.1.m6
  by_cases c : mc = 6
  · exact Op.ref h (k := 6) (v := -6) (by decide) (c_X6_machine_f l E base aw S mc lc h.ix c) (fun S1 h1 => (c_X7_machine l E base aw S1 mc lc h1.im).t (by
      have e := hm S1 h1
      rw [c] at e
      simp only [t_X7_machine]
      rw [if_pos (show S1.1 (2, 0, 0) 1 = 6 from e)]))
  · have h1 : RR S (nmM S mc) mc lc := h.cU (nm_M S mc)
    refine Op.mkf (Nat.le_refl _) (Nat.le_refl _) (fun k hk => ?_) (c_X6_machine l E base aw S mc lc h.ix (by omega) (fun o _ => h.dm mc (Nat.le_refl _) o)) ((c_X7_machine l E base aw _ mc lc h1.im).t (v := nI mc) (S1 := wI (nmM S mc) (2, 0, 0) 1 (nI (mc + 1))) ?_) rfl h1.im.1.1 ((h1.nm (by omega)).cT (agX.rf.wI rfl))
    · unfold frN at hk
      simp at hk
      exact Or.inl hk.1.1
    · have e := hm _ h1
      simp only [t_X7_machine]
      rw [if_neg (fun q => by
        rw [e] at q
        have q' : nI mc = nI 6 := q
        rw [nI_eq (by omega) (by omega)] at q'
        exact c q'), wI_same, e, nI_1, nI_pred]
