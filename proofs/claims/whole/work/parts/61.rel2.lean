/-! congruence; a pair of calls -/
def agM (S T : Mm) : Prop := ∀ k, k.1 = 2 → (∀ j, T.1 k j = S.1 k j) ∧ (∀ j, T.2.1 k j = S.2.1 k j) ∧ T.2.2 k = S.2.2 k
def agX (S T : Mm) : Prop := T.2 = S.2 ∧ ∀ k j, k.1 ≠ 2 → T.1 k j = S.1 k j
section AG
variable {S T T' U U' : Mm} {mc : Nat} {lc : Nat → Nat} {k : Ln} {j : Nat} {v : Int32} {f : Ln → Nat → Prop}
theorem agM.rf : agM S S := fun _ _ => ⟨fun _ => rfl, fun _ => rfl, rfl⟩
theorem agM.wI (h : agM S T) (hk : k.1 ≠ 2) : agM S (wI T k j v) := fun k' h' => ⟨fun j' => (wI_kn (fun q => hk (by rw [← q]; exact h'))).trans ((h k' h').1 j'), (h k' h').2.1, (h k' h').2.2⟩
theorem agM.tr (h : agM S T) (h2 : agM T U) : agM S U := fun k hk => ⟨fun j => ((h2 k hk).1 j).trans ((h k hk).1 j), fun j => ((h2 k hk).2.1 j).trans ((h k hk).2.1 j), ((h2 k hk).2.2).trans ((h k hk).2.2)⟩
theorem agM.bt (h : but f S T) (hf : ∀ k j, f k j → k.1 ≠ 2) : agM S T := fun k hk => ⟨fun j => h.2 k j (fun q => hf k j q hk), fun j => by rw [h.1], by rw [h.1]⟩
theorem agX.rf : agX S S := ⟨rfl, fun _ _ _ => rfl⟩
theorem agX.wI (h : agX S T) (hk : k.1 = 2) : agX S (wI T k j v) := ⟨h.1, fun k' j' h' => (wI_kn (fun q => h' (by rw [q]; exact hk))).trans (h.2 k' j' h')⟩
theorem agX.tr (h : agX S T) (h2 : agX T U) : agX S U := ⟨h2.1.trans h.1, fun k j hk => (h2.2 k j hk).trans (h.2 k j hk)⟩
theorem agX.bt (h : but f S T) (hf : ∀ k j, f k j → k.1 = 2) : agX S T := ⟨h.1, fun k j hk => h.2 k j (fun q => hk (hf k j q))⟩
theorem RR.cT (h : RR T U mc lc) (e : agX T T') : RR T' U mc lc := by
  have r : ∀ a b c j, a ≠ 2 → T'.1 (a, b, c) j = T.1 (a, b, c) j := fun a b c j ha => e.2 _ _ ha
  refine ⟨h.ix.same e.1 (r _ _ _ _ (by decide)) (fun i => r _ _ _ _ (by decide)), h.im, h.lz, by rw [e.1]; exact h.dm, by rw [e.1]; exact h.dl, fun k j hv => (e.2 k j (vd_k hv).1).trans (h.d k j hv), ?_, ?_, ?_, ?_, ?_, ?_, ?_, ?_, h.z⟩
  · obtain ⟨t, a, b, c⟩ := h.hr
    exact ⟨t, a, (r _ _ _ _ (by decide)).trans b, fun i hi q hq => by rw [r _ _ _ _ (by decide)]; exact c i hi q hq⟩
  · exact fun g hg => by rw [r _ _ _ _ (by decide)]; exact h.sz g hg
  · exact fun i hi w hw => by rw [r _ _ _ _ (by decide)]; exact h.tb i hi w hw
  · exact fun i hi => by
      obtain ⟨f, a, b, c⟩ := h.nn i hi
      exact ⟨f, fun w hw => (r _ _ _ _ (by decide)).trans (a w hw), b, (r _ _ _ _ (by decide)).trans c⟩
  · exact fun i hi j hj => by
      have := h.lb i hi j hj
      unfold LB at *
      simp only [r 3 i j _ (by decide)]
      exact this
  · exact fun i hi w hw => by rw [r _ _ _ _ (by decide), r _ _ _ _ (by decide), r _ _ _ _ (by decide)]; exact h.wt i hi w hw
  · exact fun i hi => by rw [r _ _ _ _ (by decide)]; exact h.pw i hi
  · exact fun i hi j hj => by rw [r _ _ _ _ (by decide), r _ _ _ _ (by decide)]; exact h.kp i hi j hj
theorem IM.ag (h : IM U mc lc) (e : agM U U') : IM U' mc lc := by
  obtain ⟨⟨h1, h2⟩, h3, h4, h5⟩ := h
  refine ⟨⟨by rw [(e _ rfl).2.2]; exact h1, fun f hf => ⟨by rw [(e _ rfl).2.1]; exact (h2 f hf).1, by rw [(e _ rfl).2.2]; exact (h2 f hf).2⟩⟩, by rw [(e _ rfl).1]; exact h3, h4, fun i hi => by rw [(e _ rfl).1]; exact h5 i hi⟩
theorem RR.cU (h : RR T U mc lc) (e : agM U U') : RR T U' mc lc := by
  have r : ∀ b c j, U'.1 (2, b, c) j = U.1 (2, b, c) j := fun b c j => (e _ rfl).1 j
  exact ⟨h.ix, h.im.ag e, h.lz, h.dm, h.dl, fun k j hv => by rw [r]; exact h.d k j hv, h.hr, h.sz, h.tb, h.nn, h.lb, fun i hi w hw => by rw [r]; exact h.wt i hi w hw, fun i hi => by rw [r]; exact h.pw i hi, fun i hi j hj => by rw [r]; exact h.kp i hi j hj, fun f x hz => by rw [r]; exact h.z f x hz⟩
end AG
/-- a call of the class and the same of the model: like answers, and the relation again -/
def Op (l : Launch) (E : En) (base aw : Nat) (yx : MethodName) (bx : ByteArray) (nx : Nat) (ret : Option FieldType) (dx : Nat) (ym : MethodName) (bm : ByteArray) (nm dm : Nat) (as : List AV) (S : Mm) : Prop :=
  ∃ (v : Int32) (S1 S2 : Mm) (mcx msx : Nat) (frx : Ln → Bool) (mc : Nat) (lc : Nat → Nat), mcx ≤ 13 ∧ msx ≤ 838 ∧ (∀ k, frx k = true → k.1 = 1 ∨ k.1 = 3) ∧ S1.2.2 (2, 0, 0) = true ∧ Cn l E base aw yx bx nx ret dx mcx msx frx S (vr (0, 0, 0) :: as) (fun r S' => r = some (vi v) ∧ S' = S1) ∧ Cn l E base aw ym bm nm ret dm 0 0 noF S1 (vr (2, 0, 0) :: as) (fun r S' => r = some (vi v) ∧ S' = S2) ∧ RR S2 S2 mc lc
section OPS
variable {l : Launch} {E : En} {base aw : Nat} {yx : MethodName} {bx : ByteArray} {nx : Nat} {ret : Option FieldType} {dx : Nat} {ym : MethodName} {bm : ByteArray} {nm dm : Nat} {as : List AV} {S S1 S2 : Mm} {mc : Nat} {lc : Nat → Nat} {v v' : Int32}
theorem Cn.t {y : MethodName} {b : ByteArray} {n d mc ms : Nat} {fr : Ln → Bool} {t : Option AV × Mm} (h : Cn l E base aw y b n ret d mc ms fr S as (fun r S' => (r, S') = t)) (e : t = (some (vi v), S1)) : Cn l E base aw y b n ret d mc ms fr S as (fun r S' => r = some (vi v) ∧ S' = S1) := by
  subst e
  have q : (fun (r : Option AV) (S' : Mm) => (r, S') = (some (vi v), S1)) = (fun r S' => r = some (vi v) ∧ S' = S1) := by
    funext r S'
    exact propext ⟨fun z => by cases z; exact ⟨rfl, rfl⟩, fun z => by rw [z.1, z.2]⟩
  rw [← q]
  exact h
theorem Op.mk (x : Cn l E base aw yx bx nx ret dx 0 0 noF S (vr (0, 0, 0) :: as) (fun r S' => r = some (vi v) ∧ S' = S1)) (m : Cn l E base aw ym bm nm ret dm 0 0 noF S1 (vr (2, 0, 0) :: as) (fun r S' => r = some (vi v') ∧ S' = S2)) (e : v' = v) (hl : S1.2.2 (2, 0, 0) = true) (hr : RR S2 S2 mc lc) : Op l E base aw yx bx nx ret dx ym bm nm dm as S := by
  subst e
  exact ⟨v', S1, S2, 0, 0, noF, mc, lc, Nat.zero_le _, Nat.zero_le _, (fun _ h => by cases h), hl, x, m, hr⟩
theorem RR.go {S S1 S2 : Mm} {mc' : Nat} {lc' : Nat → Nat} (h : RR S1 S2 mc' lc') (e2 : agX S1 S2) : RR S2 S2 mc' lc' := h.cT e2
theorem RR.ref (h : RR S S1 mc lc) {k : Nat} (hk : k < 7) : RR (rfX S k) (rfM S1 k) mc lc := by
  have e := h.d _ _ (vd.ref hk)
  have := h.pair (v := S.1 (0, 0, 3) k + 1) (vd.ref hk) rfl
  rw [show rfM S1 k = wI S1 (2, 0, 30) k (S.1 (0, 0, 3) k + 1) by unfold rfM; rw [show S.1 (0, 0, 3) k = S1.1 (2, 0, 30) k from e]]
  exact this
theorem agM_rf {k : Nat} : agM S (rfX S k) := agM.rf.wI (by decide)
theorem agX_rf {k : Nat} : agX S (rfM S k) := agX.rf.wI rfl
theorem Op.ref (h : RR S S mc lc) {k : Nat} (hk : k < 7) (x : Cn l E base aw yx bx nx ret dx 0 0 noF S (vr (0, 0, 0) :: as) (fun r S' => r = some (vi v) ∧ S' = rfX S k)) (m : ∀ S1, RR S S1 mc lc → Cn l E base aw ym bm nm ret dm 0 0 noF S1 (vr (2, 0, 0) :: as) (fun r S' => r = some (vi v) ∧ S' = rfM S1 k)) : Op l E base aw yx bx nx ret dx ym bm nm dm as S :=
  Op.mk x (m _ (h.cU agM_rf)) rfl (h.cU agM_rf).im.1.1 (((h.cU agM_rf).ref hk).cT agX_rf)
theorem Op.same (h : RR S S mc lc) (x : Cn l E base aw yx bx nx ret dx 0 0 noF S (vr (0, 0, 0) :: as) (fun r S' => r = some (vi v) ∧ S' = S)) (m : Cn l E base aw ym bm nm ret dm 0 0 noF S (vr (2, 0, 0) :: as) (fun r S' => r = some (vi v') ∧ S' = S)) (e : v' = v) : Op l E base aw yx bx nx ret dx ym bm nm dm as S := Op.mk x m e h.im.1.1 h
/-- the general case without new cells -/
theorem Op.gen (h : RR S S mc lc) (x : Cn l E base aw yx bx nx ret dx 0 0 noF S (vr (0, 0, 0) :: as) (fun r S' => r = some (vi v) ∧ S' = S1)) (e1 : agM S S1) (m : RR S S1 mc lc → Cn l E base aw ym bm nm ret dm 0 0 noF S1 (vr (2, 0, 0) :: as) (fun r S' => r = some (vi v) ∧ S' = S2)) (e2 : agX S1 S2) (hr : RR S S1 mc lc → RR S1 S2 mc lc) : Op l E base aw yx bx nx ret dx ym bm nm dm as S :=
  Op.mk x (m (h.cU e1)) rfl (h.cU e1).im.1.1 ((hr (h.cU e1)).cT e2)
end OPS
section CELLS
variable {T U : Mm} {mc : Nat} {lc : Nat → Nat} {v : Int32} {i j w g : Nat}
theorem RR.l8 (h : RR T U mc lc) (hi : i < mc) : lc i ≤ 8 := (h.ix.1.ms hi).n8
theorem RR.i6 (h : RR T U mc lc) (hi : i < mc) : i < 6 := Nat.lt_of_lt_of_le hi h.ix.1.m6
theorem RR.sizeU (h : RR T U mc lc) (hg : g < 16) (hv : ∃ s, v = nI s ∧ 1 ≤ s ∧ s ≤ 9) : RR (wI T (0, 0, 2) g v) (wI U (2, 0, 20) g v) mc lc :=
  h.upd (vd.size hg) (by simp) (h.hrF (by simp) (by simp)) (fun g' hg' => by
    by_cases e : g' = g
    · subst e; rw [wI_same]; exact hv
    · rw [wI_ne (fun q => e q.2)]; exact h.sz g' hg') (h.tbF (by simp)) (h.nnF (by simp)) (h.lbF (by simp))
theorem RR.tubeU (h : RR T U mc lc) (hi : i < mc) (hw : w < 6) (hv : ∃ n, v = nI n ∧ n ≤ 50) : RR (wI T (1, i, 3) w v) (wI U (2, 0, 3) (6 * i + w) v) mc lc :=
  h.upd (vd.tub hi hw) (by simp) (h.hrF (by simp) (by simp)) (h.szF (by simp)) (fun i' hi' w' hw' => by
    by_cases e : ((1, i', 3) : Ln) = (1, i, 3) ∧ w' = w
    · rw [e.1, e.2, wI_same]; exact hv
    · rw [wI_ne e]; exact h.tb i' hi' w' hw') (h.nnF (by simp)) (h.lbF (by simp))
/-- a lane's cell -/
theorem RR.laneU (h : RR T U mc lc) (hi : i < mc) (hj : j < lc i) {q f : Nat} (hq : vd mc lc (3, i, j) q) (hf : (pt (3, i, j) q) = (f, 8 * i + j)) (h2 : q ≠ 2) (hv : LB (wI T (3, i, j) q v) i j) : RR (wI T (3, i, j) q v) (wI U (2, 0, f) (8 * i + j) v) mc lc := by
  have := h.upd (v := v) hq (by simp; exact h2) (h.hrF (by simp) (by simp)) (h.szF (by simp)) (h.tbF (by simp)) (h.nnF (by simp)) (fun i' hi' j' hj' => by
    by_cases e : ((3, i, j) : Ln) = (3, i', j')
    · have e1 : i = i' := by cases e; rfl
      have e2 : j = j' := by cases e; rfl
      subst e1; subst e2; exact hv
    · exact (h.lb i' hi' j' hj').fr (Or.inl e))
  rw [hf] at this
  exact this
theorem RR.stockU (h : RR T U mc lc) (hi : i < mc) (hj : j < lc i) (hv : ∃ d s, T.1 (3, i, j) 1 = nI d ∧ v = nI s ∧ s ≤ d ∧ d ≤ 20) : RR (wI T (3, i, j) 5 v) (wI U (2, 0, 13) (8 * i + j) v) mc lc :=
  h.laneU hi hj (vd.l5 hi hj (h.l8 hi)) rfl (by decide) (by
    obtain ⟨a, -, c, d⟩ := h.lb i hi j hj
    obtain ⟨d0, s0, e1, e2, e3, e4⟩ := hv
    refine ⟨?_, ⟨d0, s0, ?_, e4, ?_, e3⟩, ?_, ?_⟩
    · rw [wI_ne (fun q => by cases q.2)]; exact a
    · rw [wI_ne (fun q => by cases q.2)]; exact e1
    · rw [wI_same]; exact e2
    · rw [wI_ne (fun q => by cases q.2)]; exact c
    · rw [wI_ne (fun q => by cases q.2), wI_ne (fun q => by cases q.2)]; exact d)
theorem RR.priceU (h : RR T U mc lc) (hi : i < mc) (hj : j < lc i) (hv : ∃ p, v = nI p ∧ 10 ≤ p ∧ p ≤ 5000 ∧ p % 10 = 0) : RR (wI T (3, i, j) 4 v) (wI U (2, 0, 11) (8 * i + j) v) mc lc :=
  h.laneU hi hj (vd.l4 hi hj (h.l8 hi)) rfl (by decide) (by
    obtain ⟨a, b, -, d⟩ := h.lb i hi j hj
    refine ⟨?_, ?_, ?_, ?_⟩
    · rw [wI_ne (fun q => by cases q.2)]; exact a
    · rw [wI_ne (fun q => by cases q.2), wI_ne (fun q => by cases q.2)]; exact b
    · rw [wI_same]; exact hv
    · rw [wI_ne (fun q => by cases q.2), wI_ne (fun q => by cases q.2)]; exact d)
theorem RR.missU (h : RR T U mc lc) (hi : i < mc) (hj : j < lc i) (hv : ∃ m, v = nI m ∧ m ≤ 3 ∧ (T.1 (3, i, j) 8 = 0 → m ≤ 2)) : RR (wI T (3, i, j) 7 v) (wI U (2, 0, 17) (8 * i + j) v) mc lc :=
  h.laneU hi hj (vd.l7 hi hj (h.l8 hi)) rfl (by decide) (by
    obtain ⟨a, b, c, -⟩ := h.lb i hi j hj
    refine ⟨?_, ?_, ?_, ?_⟩
    · rw [wI_ne (fun q => by cases q.2)]; exact a
    · rw [wI_ne (fun q => by cases q.2), wI_ne (fun q => by cases q.2)]; exact b
    · rw [wI_ne (fun q => by cases q.2)]; exact c
    · rw [wI_same, wI_ne (fun q => by cases q.2)]; exact hv)
theorem RR.shutU (h : RR T U mc lc) (hi : i < mc) (hj : j < lc i) (hv : v = 0 → ∃ m, T.1 (3, i, j) 7 = nI m ∧ m ≤ 2) : RR (wI T (3, i, j) 8 v) (wI U (2, 0, 18) (8 * i + j) v) mc lc :=
  h.laneU hi hj (vd.l8 hi hj (h.l8 hi)) rfl (by decide) (by
    obtain ⟨a, b, c, m, d1, d2, -⟩ := h.lb i hi j hj
    refine ⟨?_, ?_, ?_, ?_⟩
    · rw [wI_ne (fun q => by cases q.2)]; exact a
    · rw [wI_ne (fun q => by cases q.2), wI_ne (fun q => by cases q.2)]; exact b
    · rw [wI_ne (fun q => by cases q.2)]; exact c
    · rw [wI_same, wI_ne (fun q => by cases q.2)]
      by_cases e : v = 0
      · obtain ⟨m', f1, f2⟩ := hv e
        exact ⟨m', f1, by omega, fun _ => f2⟩
      · exact ⟨m, d1, d2, fun z => absurd z e⟩)
end CELLS
