/-! new cells; the copy of a whole row -/
theorem Hp.grow {E : En} {base : Nat} {ad : Ln → Nat} {S : Mm} {k : Ln} {H H' : Heap} {h0 : Nat} (h : Hp E base ad S H) (hk : S.2.2 k = false) (hh : h0 = H.size) (hb : base ≤ h0) (ho : ∀ q, q < h0 → H'[q]? = H[q]?) (hc : cellOK E (fun q => if q = k then h0 else ad q) (nwm S k) k H') : Hp E base (fun q => if q = k then h0 else ad q) (nwm S k) H' := by
  obtain ⟨h1, h2, h3⟩ := h
  have hold : ∀ q, q ≠ k → (nwm S k).2.2 q = true → S.2.2 q = true := fun q hq hl => by simpa [nwm, hq] using hl
  have hlt : ∀ q, S.2.2 q = true → ad q < h0 := fun q hq => by rw [hh]; exact (h1 q hq).1.lt
  refine ⟨fun q hq => ?_, fun i j hi hj e => ?_, fun q j r hq hr => ?_⟩
  · by_cases e : q = k
    · subst e
      exact ⟨hc, by simp; exact hb⟩
    · have hl := hold q e hq
      refine ⟨?_, by simp [e]; exact (h1 q hl).2⟩
      have c1 := ((h1 q hl).1.kept (ho _ (hlt q hl))).congr (S' := nwm S k) (fun j => by simp [nwm, e]) (fun j => by simp [nwm, e])
      refine c1.ad (by simp [e]) (fun j r hr => ?_)
      have hr' : S.2.1 q j = some r := by simpa [nwm, e] using hr
      have hrl := h3 q j r hl hr'
      have : r ≠ k := fun z => by rw [z, hk] at hrl; cases hrl
      simp [this]
  · by_cases e1 : i = k <;> by_cases e2 : j = k
    · rw [e1, e2]
    · have := hlt j (hold j e2 hj)
      simp [e1, e2] at e
      omega
    · have := hlt i (hold i e1 hi)
      simp [e1, e2] at e
      omega
    · simp [e1, e2] at e
      exact h2 i j (hold i e1 hi) (hold j e2 hj) e
  · by_cases e : q = k
    · subst e
      simp [nwm] at hr
    · have hr' : S.2.1 q j = some r := by simpa [nwm, e] using hr
      have := h3 q j r (hold q e hq) hr'
      by_cases e2 : r = k
      · simp [nwm, e2]
      · simp [nwm, e2, this]
/-- no reference to k -/
def noK (k : Ln) (v : AV) : Prop := v ≠ vr k
theorem tr_noK {ad : Ln → Nat} {k : Ln} {h0 : Nat} {v : AV} (h : v ≠ vr k) : tr (fun q => if q = k then h0 else ad q) v = tr ad v := by
  rcases v with x | o
  · rfl
  · cases o with
    | none => rfl
    | some q =>
      have : q ≠ k := fun e => h (by rw [e])
      show Value.ref (if q = k then h0 else ad q) = .ref (ad q)
      rw [if_neg this]
theorem trs_noK {ad : Ln → Nat} {k : Ln} {h0 : Nat} {st : List AV} (h : ∀ v ∈ st, v ≠ vr k) : st.map (tr (fun q => if q = k then h0 else ad q)) = st.map (tr ad) := List.map_congr_left (fun v hv => tr_noK (h v hv))
theorem trL_noK {ad : Ln → Nat} {k : Ln} {h0 : Nat} {L : List (Nat × AV)} (h : ∀ q ∈ L, q.2 ≠ vr k) : trL (fun q => if q = k then h0 else ad q) L = trL ad L := List.map_congr_left (fun v hv => by rw [tr_noK (h v hv)])
section GD
variable {X : Xt} {Y : Yt} {cc : ByteArray} {nL : Nat} {own : String} {cells slots : Nat} {S : Mm} {pc : Nat} {L : List (Nat × AV)} {st : List AV}
/-- behind the making of a cell at the heap's end -/
theorem g_made {k : Ln} {ad : Ln → Nat} {H H' : Heap} {locs : List Loc} {ls : Array Slot} {c' s' pc' : Nat} (C : Cx X Y cc nL own) (hI : Inv Y X.2.2.2.2.1 ad S H locs) (hl : lv_has ls X.2.2.2.2.2.2.2.2.2.1.maxLocals (trL ad L)) (hk : S.2.2 k = false) (hw : k ≠ wK) (hfr : Y.2.2.2.2 k = true) (hL : ∀ q ∈ L, q.2 ≠ vr k) (hst : ∀ v ∈ st, v ≠ vr k) (hz : H'.size = H.size + 1) (ho : ∀ q, q < H.size → H'[q]? = H[q]?) (hc : cellOK Y.1 (fun q => if q = k then H.size else ad q) (nwm S k) k H')
    (kk : G X Y c' s' (nwm S k) pc' L (vr k :: st)) : W X.1 X.2.1 X.2.2.1 X.2.2.2.1 X.2.2.2.2.1 X.2.2.2.2.2.1 X.2.2.2.2.2.2.1 X.2.2.2.2.2.2.2.1 X.2.2.2.2.2.2.2.2.1 X.2.2.2.2.2.2.2.2.2.1 H' locs c' s' X.2.2.2.2.2.2.2.2.2.2 (F0 X.2.2.2.2.2.1 pc' ls (.ref H.size :: st.map (tr ad))) := by
  have hb : Y.2.1 ≤ H.size := Nat.le_trans C.2.2.2.2.2.1.2.2.2.2.2.1 hI.2.2.2.1
  have k1 := kk (fun q => if q = k then H.size else ad q) H' locs ls ⟨hI.1.grow hk rfl hb ho hc, fun q hq => ?_, ?_, Nat.le_trans hI.2.2.2.1 (by omega), fun q g1 g2 => (ho q (Nat.lt_of_lt_of_le g1 hI.2.2.2.1)).trans (hI.2.2.2.2.1 q g1 g2), hI.2.2.2.2.2⟩ (by rw [trL_noK hL]; exact hl)
  · rw [List.map_cons, trs_noK hst] at k1
    have e : tr (fun q => if q = k then H.size else ad q) (vr k) = .ref H.size := by show Value.ref (if k = k then H.size else ad k) = _; rw [if_pos rfl]
    rw [e] at k1
    exact k1
  · have : q ≠ k := fun e => by rw [e, hfr] at hq; cases hq
    show (if q = k then H.size else ad q) = _
    rw [if_neg this]
    exact hI.2.1 q hq
  · show (if wK = k then H.size else ad wK) = _
    rw [if_neg (Ne.symm hw)]
    exact hI.2.2.1
/-- a class whose objects can be made, as its words have it -/
def ND (own : String) (index ci : Nat) : Prop := ∃ (C0 : String) (T : u_T) (N : Nat), vwCl[ci]? = some (C0, T, N) ∧ nfC ci = N ∧ Cond.classLink own index C0 ∈ gdW ∧ Cond.instantiable C0 N ∈ gdW ∧ Cond.initialized C0 ∈ gdW ∧ (∀ w ∈ u_ws C0 T N, w ∈ gdW) ∧ (∀ k, k < N → parseFieldDescriptor (T k).2.2.1 = some (tyC ci k)) ∧ (∀ k, k < N → defaultValue (tyC ci k) = if isRefT (tyC ci k) = true then .null else .int 0)
theorem g_new (C : Cx X Y cc nL own) (k : Ln) {index ci : Nat} (D : ND own index ci) (hkd : kd k = (0, ci)) (hk : S.2.2 k = false) (hw : k ≠ wK) (hfr : Y.2.2.2.2 k = true) (hL : ∀ q ∈ L, q.2 ≠ vr k) (hst : ∀ v ∈ st, v ≠ vr k) (hc : cells + 1 ≤ X.2.2.2.1.cells) (hs : slots + nfC ci ≤ X.2.2.2.1.slots) (hd : decode cc pc = .ok (.new index, 3)) (kk : G X Y (cells + 1) (slots + nfC ci) (nwm S k) (pc + 3) L (vr k :: st)) : G X Y cells slots S pc L st := by
  intro ad H locs ls hI hl
  obtain ⟨C0, T, N, hcl, hnf, hlink, hinst, hini, hin, hty, hdf⟩ := D
  have hts := C.2.2.2.2.1
  have hKn := C.2.2.2.2.2.1.1.1 ci _ hcl
  rw [hnf] at hs kk
  refine W.newcK C.1 C.2.1 C.2.2.2.1 (hts _ hlink) (hts _ hinst) (hts _ hini) rfl hd hc hs hKn.2.1 rfl fun H1 kC hkC e1 z1 o1 => ?_
  refine g_made C hI hl hk hw hfr hL hst z1 o1 ?_ kk
  unfold cellOK
  have ek : (fun q => if q = k then Array.size H else ad q) k = Array.size H := if_pos rfl
  rw [hkd, if_pos rfl, hnf, ek]
  refine (u_born (tyC ci) hts hin hKn hkC e1 hty).to (fun j hj => ?_)
  rw [hdf j hj]
  simp [fval, nwm, vo]
theorem g_newi (C : Cx X Y cc nL own) (k : Ln) {n : Int32} (N : Nat) (hkd : kd k = (1, N)) (hk : S.2.2 k = false) (hw : k ≠ wK) (hfr : Y.2.2.2.2 k = true) (hL : ∀ q ∈ L, q.2 ≠ vr k) (hst : ∀ v ∈ st, v ≠ vr k) (hn : ¬ n < 0) (hN : n.toNatClampNeg = N) (hb : N ≤ 100000) (ha : Cond.arrayClass .int ∈ gdW) (hc : cells + 1 ≤ X.2.2.2.1.cells) (hs : slots + N ≤ X.2.2.2.1.slots) (hd : decode cc pc = .ok (.newarray .int, 2)) (kk : G X Y (cells + 1) (slots + N) (nwm S k) (pc + 2) L (vr k :: st)) : G X Y cells slots S pc L (vi n :: st) := by
  intro ad H locs ls hI hl
  refine va_newaK C.1 C.2.1 (atype := .int) (C.2.2.2.2.1 _ ha) rfl hd rfl hn hN (by show N * 4 ≤ _; omega) hc hs rfl fun H1 cA e1 z1 o1 hAr hNm => ?_
  refine g_made C hI hl hk hw hfr hL hst z1 o1 ?_ kk
  have hcA : cA = Y.1.2.2 1 := Option.some.inj (hNm.symm.trans (C.2.2.2.2.2.1.1.2 0 _ rfl).2)
  refine arr_ok hkd (by decide) ?_
  rw [if_pos rfl, e1, hcA]
  congr 2
  funext j
  simp [aval, nwm]
  rfl
theorem g_newz (C : Cx X Y cc nL own) (k : Ln) {n : Int32} (N : Nat) (hkd : kd k = (2, N)) (hk : S.2.2 k = false) (hw : k ≠ wK) (hfr : Y.2.2.2.2 k = true) (hL : ∀ q ∈ L, q.2 ≠ vr k) (hst : ∀ v ∈ st, v ≠ vr k) (hn : ¬ n < 0) (hN : n.toNatClampNeg = N) (hb : N ≤ 100000) (ha : Cond.arrayClass .boolean ∈ gdW) (hc : cells + 1 ≤ X.2.2.2.1.cells) (hs : slots + N ≤ X.2.2.2.1.slots) (hd : decode cc pc = .ok (.newarray .boolean, 2)) (kk : G X Y (cells + 1) (slots + N) (nwm S k) (pc + 2) L (vr k :: st)) : G X Y cells slots S pc L (vi n :: st) := by
  intro ad H locs ls hI hl
  refine va_newaK C.1 C.2.1 (atype := .boolean) (C.2.2.2.2.1 _ ha) rfl hd rfl hn hN (by show N * 1 ≤ _; omega) hc hs rfl fun H1 cA e1 z1 o1 hAr hNm => ?_
  refine g_made C hI hl hk hw hfr hL hst z1 o1 ?_ kk
  have hcA : cA = Y.1.2.2 2 := Option.some.inj (hNm.symm.trans (C.2.2.2.2.2.1.1.2 1 _ rfl).2)
  refine arr_ok hkd (by decide) ?_
  rw [if_pos rfl, e1, hcA]
  congr 2
  funext j
  simp [aval, nwm]
  rfl
theorem g_anew (C : Cx X Y cc nL own) (k : Ln) {n : Int32} {index t : Nat} {C0 : String} (N : Nat) (hkd : kd k = (t, N)) (ht : (t = 3 ∧ C0 = RX3) ∨ (t = 4 ∧ C0 = RX2)) (hk : S.2.2 k = false) (hw : k ≠ wK) (hfr : Y.2.2.2.2 k = true) (hL : ∀ q ∈ L, q.2 ≠ vr k) (hst : ∀ v ∈ st, v ≠ vr k) (hn : ¬ n < 0) (hN : n.toNatClampNeg = N) (hb : N ≤ 100000) (hlink : Cond.classLink own index C0 ∈ gdW) (hc : cells + 1 ≤ X.2.2.2.1.cells) (hs : slots + N ≤ X.2.2.2.1.slots) (hd : decode cc pc = .ok (.anewarray index, 3)) (kk : G X Y (cells + 1) (slots + N) (nwm S k) (pc + 3) L (vr k :: st)) : G X Y cells slots S pc L (vi n :: st) := by
  intro ad H locs ls hI hl
  have hKU := C.2.2.2.2.2.1
  have hover : va_AO C0 X.2.2.2.2.1 := by
    rcases ht with ⟨-, rfl⟩ | ⟨-, rfl⟩
    · exact hKU.2.2.2.2.2.2.1
    · exact hKU.2.2.2.2.2.2.2.1
  subst hN
  refine W.anew C.1 C.2.1 C.2.2.2.1 (C.2.2.2.2.1 _ hlink) hover.use rfl hd rfl hn (by omega) hc hs fun cA kA comp h1 h2 h3 h4 => ?_
  refine g_made C hI hl hk hw hfr hL hst (by simp) (fun q hq => by rw [Array.getElem?_push, if_neg (Nat.ne_of_lt hq)]) ?_ kk
  have hcA : cA = Y.1.2.2 t := by
    rcases ht with ⟨rfl, rfl⟩ | ⟨rfl, rfl⟩
    · obtain ⟨_, _, -, -, -, h⟩ := (hKU.1.2 2 _ rfl).2
      exact Option.some.inj (h1.symm.trans h)
    · obtain ⟨_, _, -, -, -, h⟩ := (hKU.1.2 3 _ rfl).2
      exact Option.some.inj (h1.symm.trans h)
  have t2 : ¬ t ≤ 2 := by omega
  refine arr_ok hkd (by omega) ?_
  rw [if_pos rfl, hcA, arrV_new]
  simp only [Array.getElem?_push_size]
  congr 2
  funext j
  simp [aval, nwm, t2, vo]
/-- row k0 over row k1 -/
def cpyI (S : Mm) (k0 k1 : Ln) (n : Nat) : Mm := (fun k' j' => if k' = k1 ∧ j' < n then S.1 k0 j' else S.1 k' j', S.2)
theorem g_copy (C : Cx X Y cc nL own) {k0 k1 : Ln} {n index : Nat} (h0 : kd k0 = (1, n)) (h1 : kd k1 = (1, n)) (hl0 : S.2.2 k0 = true) (hl1 : S.2.2 k1 = true) (hn : n < 1000) (hlink : Cond.methodLink own index arraycopyName ∈ gdW) (hnat : Cond.native arraycopyName ∈ gdW) (hstat : Cond.static arraycopyName ∈ gdW) (hini : Cond.initialized "java/lang/System" ∈ gdW) (hR : 1 ≤ X.2.2.2.1.frames ∧ 30 ≤ X.2.2.2.1.locals) (hst : st = []) (hd : decode cc pc = .ok (.invokestatic index, 3))
    (kk : G X Y cells slots (cpyI S k0 k1 n) (pc + 3) L st) : G X Y cells slots S pc L (vi (nI n) :: vi 0 :: vr k1 :: vi 0 :: vr k0 :: st) := by
  intro ad H locs ls hI hl
  subst hst
  have hts := C.2.2.2.2.1
  have hKU := C.2.2.2.2.2.1
  have hc0 := arr_cell (hI.1.1 k0 hl0).1 h0 (by decide)
  have hc1 := arr_cell (hI.1.1 k1 hl1).1 h1 (by decide)
  have ev : ∀ k, aval ad S k 1 = fun j => .int (S.1 k j) := fun k => by funext j; simp [aval]
  rw [ev] at hc0 hc1
  have hcl : (nI n).toNatClampNeg = n := nI_clamp (by omega)
  have hti : (nI n).toInt = (n : Int) := nI_toInt (by omega)
  intro T hT XX
  obtain ⟨-, k0c, hk0, cm0, hkk0⟩ := (hKU.1.2 0 _ rfl).1 n (fun j => .int (S.1 k0 j))
  obtain ⟨-, k1c, hk1, cm1, hkk1⟩ := (hKU.1.2 0 _ rfl).1 n (fun j => .int (S.1 k1 j))
  obtain ⟨vm', X', step⟩ := XX.arraycopy C.1 C.2.2.2.1 (hts _ hlink) (hts _ hnat) (hts _ hstat) (hts _ hini) (src := ad k0) (dst := ad k1) (srcPos := 0) (destPos := 0) (n := nI n) (by rw [hT]; exact hc0) (by rw [hT]; exact hc1)
    (fun _ h => by cases h) (fun _ h => by cases h) (fun h => by cases h) (fun h => by cases h) hk0 hk1 hkk0 hkk1 rfl (by decide) (by decide) (nI_pos (by omega))
    (by rw [arrV_size, hti]; show ¬ (0 : Int) + _ > _; omega) (by rw [arrV_size, hti]; show ¬ (0 : Int) + _ > _; omega)
    (fun vm₁ _ i hi => by
      rw [hcl] at hi
      have e : (arrV (Y.1.2.2 1) n (fun j => Value.int (S.1 k0 j))).slots.getD ((0 : Int32).toNatClampNeg + i) .null = .int (S.1 k0 ((0 : Int32).toNatClampNeg + i)) := by
        rw [Array.getD_eq_getD_getElem?, arrV_read _ _ (by rw [sb_cl0]; omega)]
        rfl
      rw [e]
      exact ⟨rfl, trivial⟩)
    (g := F0 X.2.2.2.2.2.1 pc ls ([vi (nI n), vi 0, vr k1, vi 0, vr k0].map (tr ad))) rfl hl.1 (rest := []) rfl (by rw [C.2.1]; exact hd) hR.1 (by show 2 * 0 + 0 + (nativeFrameWords "java/lang/System" "arraycopy" 5 + 11) ≤ _; exact Nat.le_trans (by decide) hR.2)
  have e1 : copied (arrV (Y.1.2.2 1) n (fun j => Value.int (S.1 k0 j))) (arrV (Y.1.2.2 1) n (fun j => Value.int (S.1 k1 j))) 0 0 (nI n) = arrV (Y.1.2.2 1) n (fun j => .int (va_cpy (S.1 k0) (S.1 k1) 0 0 n j)) := by
    have := va_copied (fun z => Value.int z) (Y.1.2.2 1) (Y.1.2.2 1) (n0 := n) (n1 := n) (sp := 0) (dp := 0) (n := n) (S.1 k0) (S.1 k1) (by omega)
    rw [← this]
    show Cell.storeRun _ (0 : Int32).toNatClampNeg (Cell.stretch _ (0 : Int32).toNatClampNeg (nI n).toNatClampNeg) = _
    rw [hcl, sb_cl0]
  rw [e1] at X' step
  have hlt : ad k1 < H.size := (Array.getElem?_eq_some_iff.mp hc1).1
  have hheap : ((T.setVm vm').setCell (ad k1) (arrV (Y.1.2.2 1) n (fun j => .int (va_cpy (S.1 k0) (S.1 k1) 0 0 n j)))).heap = H.setIfInBounds (ad k1) (arrV (Y.1.2.2 1) n (fun j => .int (va_cpy (S.1 k0) (S.1 k1) 0 0 n j))) := by rw [← hT]; rfl
  have oq : ∀ q : Nat, q ≠ ad k1 → (H.setIfInBounds (ad k1) (arrV (Y.1.2.2 1) n (fun j => .int (va_cpy (S.1 k0) (S.1 k1) 0 0 n j))))[q]? = H[q]? := fun q hq => by simp [Array.getElem?_setIfInBounds, Ne.symm hq]
  have hnew : cellOK Y.1 ad (cpyI S k0 k1 n) k1 (H.setIfInBounds (ad k1) (arrV (Y.1.2.2 1) n (fun j => .int (va_cpy (S.1 k0) (S.1 k1) 0 0 n j)))) := by
    refine arr_ok h1 (by decide) ?_
    rw [Array.getElem?_setIfInBounds, if_pos rfl, if_pos hlt]
    congr 2
    funext j
    simp [aval, cpyI, va_cpy]
  obtain ⟨t, a1, b1⟩ := kk ad _ _ ls ⟨hI.1.upd rfl hl1 hnew oq (fun k' hk' => ⟨fun j => by simp [cpyI, hk'], fun _ => rfl⟩) (fun j r hr => hI.1.2.2 k1 j r hl1 hr), hI.2.1, hI.2.2.1, by simp; exact hI.2.2.2.1, fun q g1 g2 => by
      rw [oq q (fun e => g2 (by rw [e]; exact (hI.1.1 k1 hl1).2))]
      exact hI.2.2.2.2.1 q g1 g2, fun q hq => by
      rcases List.mem_append.mp hq with h | h
      · exact hI.2.2.2.2.2 q h
      · obtain ⟨z, -, hz⟩ := List.mem_map.mp h
        rw [← hz]
        exact (hI.1.1 k1 hl1).2⟩ hl _ hheap X'
  exact ⟨t, step t a1, b1⟩
/-- Object.<init> -/
theorem g_obj (C : Cx X Y cc nL own) {k : Ln} {index : Nat} (hlink : Cond.methodLink own index objectInit ∈ gdW) (hin : Cond.instanceMethod objectInit ∈ gdW) (hcode : Cond.code objectInit ⟨#[0xb1]⟩ 1 none ∈ gdW) (hR : 1 ≤ X.2.2.2.1.frames ∧ 30 ≤ X.2.2.2.1.locals) (hs8 : st.length ≤ 8) (hd : decode cc pc = .ok (.invokespecial index, 3)) (kk : G X Y cells slots S (pc + 3) L st) : G X Y cells slots S pc L (vr k :: st) := by
  intro ad H locs ls hI hl
  refine W.objInit C.1 C.2.1 C.2.2.2.1 (C.2.2.2.2.1 _ hlink) (C.2.2.2.2.1 _ hin) (C.2.2.2.2.1 _ hcode) rfl hl.1 rfl hd hR.1 ?_ (kk ad H locs ls hI hl)
  show 2 * 0 + _ + 12 ≤ _
  have := hR.2
  rw [cat_len]
  omega
end GD
