/-! contracts, returns, calls, new cells -/
theorem gd_all : gdW.all goodWord = true := List.all_eq_true.mpr (fun w h => (List.mem_filter.mp h).2)
theorem gd_good (y : MethodName) (b : ByteArray) (n : Nat) (r : Option FieldType) (h : Cond.code y b n r ∈ gdW) : GoodIn gdW (Cond.code y b n r :: gdW) := by
  intro w hw
  have hm : w ∈ gdW := by
    rcases List.mem_cons.mp hw with rfl | h1
    · exact h
    · exact h1
  exact ⟨hm, good_of_word (List.all_eq_true.mp gd_all w hm)⟩
def rmL (d mc ms : Nat) : Room := { frames := d, cells := mc, slots := ms, locals := 40 * d }
def Pcc (E : En) (base aw : Nat) (ad : Ln → Nat) (S : Mm) (as : List AV) : Array Value → State → Prop := fun v U => v = (as.map (tr ad)).toArray ∧ KU E base aw U ∧ Hp E base ad S U.heap ∧ ad wK = aw
def Qcc (E : En) (base aw : Nat) (ad : Ln → Nat) (fr : Ln → Bool) (P : Option AV → Mm → Prop) : Array Value → State → Outcome → State → Prop := fun _ st o t =>
  ∃ (r : Option AV) (S' : Mm) (ad' : Ln → Nat), o = .returned (r.map (tr ad')) ∧ P r S' ∧ Hp E base ad' S' t.heap ∧ (∀ k, fr k = false → ad' k = ad k) ∧ ad' wK = aw ∧ va_F (fun q => base ≤ q) st t
/-- a method's CONTRACT: from the memory S with the arguments as it returns, with P of its answer and the memory then -/
def Cn (l : Launch) (E : En) (base aw : Nat) (y : MethodName) (b : ByteArray) (nL : Nat) (ret : Option FieldType) (d mc ms : Nat) (fr : Ln → Bool) (S : Mm) (as : List AV) (P : Option AV → Mm → Prop) : Prop :=
  ∀ ad, Met l y (Cond.code y b nL ret :: gdW) (rmL d mc ms) (Pcc E base aw ad S as) (Qcc E base aw ad fr P) mc ms (fun q => base ≤ q)
def noF : Ln → Bool := fun _ => false
def pushR (r : Option AV) (st : List AV) : List AV := match r with
  | none => st
  | some v => v :: st
/-- what is known in a body beside Cx -/
def Bx (X : Xt) (Y : Yt) (nm : String) (ret : Option FieldType) (d mc ms : Nat) (P : Option AV → Mm → Prop) : Prop :=
  X.2.2.2.1 = rmL d mc ms ∧ X.2.2.2.2.2.2.2.2.1.sig.returnType = ret ∧ X.2.2.2.2.2.2.2.2.1.name = nm ∧ X.2.2.2.2.2.2.2.2.2.2 = MQ X.2.2.2.2.2.2.2.1 (Qcc Y.1 Y.2.1 Y.2.2.1 Y.2.2.2.1 Y.2.2.2.2 P) X.2.2.2.2.2.2.1 X.2.2.2.2.1 mc ms (fun q => Y.2.1 ≤ q)
def argL : Nat → List AV → List (Nat × AV)
  | _, [] => []
  | i, v :: vs => (i, v) :: argL (i + 1) vs
theorem argL_eq (ad : Ln → Nat) : ∀ (as : List AV) (i : Nat), lv_args i (as.map (tr ad)) = trL ad (argL i as)
  | [], _ => rfl
  | v :: vs, i => by
    show (i, tr ad v) :: lv_args (if (tr ad v).category = 2 then i + 2 else i + 1) (vs.map (tr ad)) = (i, tr ad v) :: trL ad (argL (i + 1) vs)
    rw [tr_cat, if_neg (by decide), argL_eq ad vs]
theorem sl_len (ad : Ln → Nat) : ∀ as : List AV, (lg_sl (as.map (tr ad))).length = as.length
  | [] => rfl
  | v :: vs => by
    have h := sl_len ad vs
    rcases v with x | o
    · show (Slot.val (.int x) :: lg_sl (vs.map (tr ad))).length = _
      simp [h]
    · cases o
      · show (Slot.val .null :: lg_sl (vs.map (tr ad))).length = _
        simp [h]
      · rename_i q
        show (Slot.val (.ref (ad q)) :: lg_sl (vs.map (tr ad))).length = _
        simp [h]
theorem Cn.of {y : MethodName} {b : ByteArray} {nL d mc ms : Nat} {ret : Option FieldType} {fr : Ln → Bool} {S : Mm} {as : List AV} {P : Option AV → Mm → Prop} {l : Launch} {E : En} {base aw : Nat} (hy : plainName y.cls = true) (hlen : as.length ≤ nL)
    (body : ∀ (X : Xt) (Y : Yt), X.2.1 = l → Y.1 = E → Y.2.1 = base → Y.2.2.1 = aw → Y.2.2.2.2 = fr → Cx X Y b nL y.cls → Bx X Y y.name ret d mc ms P → G X Y 0 0 S 0 (argL 0 as) []) : Cn l E base aw y b nL ret d mc ms fr S as P := by
  intro ad
  refine Met.ofW (cc := b) (maxL := nL) (ret := ret) hy rfl ?_
  intro p e s m args below meth c s₁ B hml hv
  obtain ⟨rfl, hKU, hHp, hw⟩ := hv
  have hts := atoms_spec (ws := Cond.code y b nL ret :: gdW) B.pre
  have hown : s.vm.findClass y.cls = some m.cls := findClass_of_methodNamed B.named
  have hG := body (p, l, e, rmL d mc ms, s, m, (as.map (tr ad)).toArray, below, meth, c, MQ below (Qcc E base aw ad fr P) (as.map (tr ad)).toArray s mc ms (fun q => base ≤ q)) (E, base, aw, ad, fr) rfl rfl rfl rfl rfl
    ⟨B.exec, B.bytes, hml, hown, fun w hw => hts w (List.mem_cons_of_mem _ hw), hKU, B.notSynchronized⟩ ⟨rfl, B.returns, (name_of_methodNamed B.named B.method).1, rfl⟩
  have hl := lv_entry (as.map (tr ad)) (n := nL) (by rw [sl_len]; exact hlen)
  rw [argL_eq] at hl
  rw [lg_entry_eq]
  refine hG ad s.heap [] _ ⟨hHp, fun _ _ => rfl, hw, va_S.rf⟩ ?_
  rw [hml]
  exact hl
section GC
variable {X : Xt} {Y : Yt} {cc : ByteArray} {nL : Nat} {own : String} {cells slots : Nat} {S : Mm} {pc : Nat} {L : List (Nat × AV)} {st : List AV} {nm : String} {d mc ms : Nat} {P : Option AV → Mm → Prop}
theorem ret_q {ad : Ln → Nat} {H : Heap} {locs : List Loc} {r : Option AV} (hI : Inv Y X.2.2.2.2.1 ad S H locs) (hp : P r S) : ∀ t : State, t.heap = H → X.2.2.2.2.1.WarmedH t.vm → Qcc Y.1 Y.2.1 Y.2.2.1 Y.2.2.2.1 Y.2.2.2.2 P X.2.2.2.2.2.2.1 X.2.2.2.2.1 (.returned (r.map (tr ad))) t :=
  fun t ht _ => ⟨r, S, ad, rfl, hp, by rw [ht]; exact hI.1, hI.2.1, hI.2.2.1, hI.2.2.2.F ht⟩
theorem g_iret {ty : FieldType} {v : Int32} (C : Cx X Y cc nL own) (B : Bx X Y nm (some ty) d cells slots P) (hn : narrow ty (.int v) = .int v) (hd : decode cc pc = .ok (.ireturn, 1)) (hp : P (some (vi v)) S) : G X Y cells slots S pc L [vi v] := by
  intro ad H locs ls hI hl
  rw [B.2.2.2]
  exact W.zret C.1 C.2.1 B.2.1 hn (ret_q (r := some (vi v)) hI hp) hI.2.2.2.2.2 hd C.2.2.2.2.2.2
theorem g_aret {ty : FieldType} {o : Option Ln} (C : Cx X Y cc nL own) (B : Bx X Y nm (some ty) d cells slots P) (hn : (∃ n, ty = .object n) ∨ ∃ t, ty = .array t) (hd : decode cc pc = .ok (.areturn, 1)) (hp : P (some (.inr o)) S) : G X Y cells slots S pc L [.inr o] := by
  intro ad H locs ls hI hl
  rw [B.2.2.2]
  exact W.aret (v := vo ad o) C.1 C.2.1 B.2.1 hn (by cases o with | none => exact Or.inl rfl | some q => exact Or.inr ⟨_, rfl⟩) (ret_q (r := some (.inr o)) hI hp) hI.2.2.2.2.2 hd C.2.2.2.2.2.2
theorem g_vret (C : Cx X Y cc nL own) (B : Bx X Y nm none d cells slots P) (hd : decode cc pc = .ok (.return_, 1)) (hp : P none S) : G X Y cells slots S pc L [] := by
  intro ad H locs ls hI hl
  rw [B.2.2.2]
  exact W.vret C.1 C.2.1 B.2.1 (ret_q (r := none) hI hp) hI.2.2.2.2.2 hd C.2.2.2.2.2.2
/-- no reference into fr -/
def okR (fr : Ln → Bool) : AV → Bool
  | .inr (some k) => !fr k
  | _ => true
theorem tr_same {ad ad' : Ln → Nat} {fr : Ln → Bool} (h : ∀ k, fr k = false → ad' k = ad k) {v : AV} (hv : okR fr v = true) : tr ad' v = tr ad v := by
  rcases v with x | o
  · rfl
  · cases o with
    | none => rfl
    | some k =>
      show Value.ref (ad' k) = .ref (ad k)
      rw [h k (by simpa [okR] using hv)]
theorem trs_same {ad ad' : Ln → Nat} {fr : Ln → Bool} (h : ∀ k, fr k = false → ad' k = ad k) {st : List AV} (hv : st.all (okR fr) = true) : st.map (tr ad') = st.map (tr ad) :=
  List.map_congr_left (fun v hm => tr_same h (List.all_eq_true.mp hv v hm))
theorem trL_same {ad ad' : Ln → Nat} {fr : Ln → Bool} (h : ∀ k, fr k = false → ad' k = ad k) {L : List (Nat × AV)} (hv : L.all (fun q => okR fr q.2) = true) : trL ad' L = trL ad L :=
  List.map_congr_left (fun v hm => by rw [tr_same h (List.all_eq_true.mp hv v hm)])
theorem no_all (st : List AV) : st.all (okR noF) = true := List.all_eq_true.mpr (fun v _ => by
  rcases v with x | o
  · rfl
  · cases o <;> rfl)
theorem no_allL (L : List (Nat × AV)) : L.all (fun q => okR noF q.2) = true := List.all_eq_true.mpr (fun q _ => by
  rcases q with ⟨i, v⟩
  rcases v with x | o
  · rfl
  · cases o <;> rfl)
theorem g_run {fr' : Ln → Bool} {P' : Option AV → Mm → Prop} {ad : Ln → Nat} {H : Heap} {locs : List Loc} {ls : Array Slot} {a : Array Value} {st0 : List Value} {mc' ms' : Nat}
    (hr : va_Run X.1 X.2.1 X.2.2.1 X.2.2.2.1 X.2.2.2.2.1 X.2.2.2.2.2.1 X.2.2.2.2.2.2.1 X.2.2.2.2.2.2.2.1 X.2.2.2.2.2.2.2.2.1 X.2.2.2.2.2.2.2.2.2.1 H locs cells slots mc' ms' (F0 X.2.2.2.2.2.1 pc ls st0) (st.map (tr ad)) (Qcc Y.1 Y.2.1 Y.2.2.1 ad fr' P' a) (fun q => Y.2.1 ≤ q))
    (hI : Inv Y X.2.2.2.2.1 ad S H locs) (hl : lv_has ls X.2.2.2.2.2.2.2.2.2.1.maxLocals (trL ad L)) (hb0 : Y.2.1 ≤ X.2.2.2.2.1.heap.size) (hfr : ∀ q, fr' q = true → Y.2.2.2.2 q = true) (hL : L.all (fun q => okR fr' q.2) = true) (hst : st.all (okR fr') = true)
    (kk : ∀ r S', P' r S' → G X Y (cells + mc') (slots + ms') S' (pc + 3) L (pushR r st)) :
    W X.1 X.2.1 X.2.2.1 X.2.2.2.1 X.2.2.2.2.1 X.2.2.2.2.2.1 X.2.2.2.2.2.2.1 X.2.2.2.2.2.2.2.1 X.2.2.2.2.2.2.2.2.1 X.2.2.2.2.2.2.2.2.2.1 H locs cells slots X.2.2.2.2.2.2.2.2.2.2 (F0 X.2.2.2.2.2.1 pc ls st0) := by
  intro T hT XX
  obtain ⟨v, st₀, t, T', L2, h0, X', hLf, e1, e2, ⟨r, S', ad', hv, hP, hHp, had, hw, hz, hk⟩, stp⟩ := hr T hT XX
  cases hv
  rw [h0] at hz hk
  have hS := hI.2.2.2
  have hI' : Inv Y X.2.2.2.2.1 ad' S' T'.heap (locs ++ L2) := by
    refine ⟨by rw [e1]; exact hHp, fun q hq => ?_, hw, Nat.le_trans hS.1 (by rw [e1]; exact hz), fun q g1 g2 => ?_, fun q hq => ?_⟩
    · rw [had q (by cases h : fr' q with | false => rfl | true => rw [hfr q h] at hq; cases hq)]
      exact hI.2.1 q hq
    · rw [e1, hk q (Nat.lt_of_lt_of_le g1 hS.1) g2]
      exact hS.2.1 q g1 g2
    · rcases List.mem_append.mp hq with h | h
      · exact hS.2.2 q h
      · exact hLf q h
  have hl' : lv_has ls X.2.2.2.2.2.2.2.2.2.1.maxLocals (trL ad' L) := by rw [trL_same had hL]; exact hl
  obtain ⟨t2, a1, b1⟩ := kk r S' hP ad' T'.heap (locs ++ L2) ls hI' hl' T' rfl X'
  refine ⟨t2, stp t2 ?_, b1⟩
  have ef : (pushR r st).map (tr ad') = (r.map (tr ad')).toList ++ st.map (tr ad) := by
    rw [← trs_same had hst]
    cases r <;> rfl
  rw [ef] at a1
  exact a1
theorem pcc_blind {E : En} {base aw : Nat} {ad : Ln → Nat} {S : Mm} {as : List AV} : FrameBlind (Pcc E base aw ad S as) := fun a U g mk q => ⟨q.1, KU.warm (s := U) (U := U.calling g mk a) (State.WarmedH.refl U) (fun _ _ => rfl) q.2.1.2.2.2.2.2.1 q.2.1, q.2.2⟩
theorem pcc_of {ad : Ln → Nat} {H : Heap} {locs : List Loc} {as : List AV} (C : Cx X Y cc nL own) (hI : Inv Y X.2.2.2.2.1 ad S H locs) : ∀ U : State, U.heap = H → X.2.2.2.2.1.WarmedH U.vm → Pcc Y.1 Y.2.1 Y.2.2.1 ad S as (as.map (tr ad)).toArray U := by
  intro U hU hW
  have hKU := C.2.2.2.2.2.1
  have hb0 := hKU.2.2.2.2.2.1
  refine ⟨rfl, KU.warm hW (fun q hq => ?_) (by rw [hU]; exact Nat.le_trans hb0 hI.2.2.2.1) hKU, by rw [hU]; exact hI.1, hI.2.2.1⟩
  rw [hU]
  exact hI.2.2.2.2.1 q (Nat.lt_of_lt_of_le hq hb0) (Nat.not_le.mpr hq)
def plainY (y : MethodName) (n : Nat) : Prop := y.cls ≠ "java/lang/invoke/MethodHandle" ∧ y.cls ≠ "java/lang/invoke/VarHandle" ∧ (parseMethodDescriptor y.desc).map (fun d => d.parameters.length) = some n
def lnk (own : String) (index : Nat) (y : MethodName) : Prop := Cond.methodLink own index y ∈ gdW ∨ ∃ host, Cond.methodLinkNest own index y host ∈ nsW
def MV (own : String) (index : Nat) (y : MethodName) (b : ByteArray) (nL' : Nat) (ret : Option FieldType) (n : Nat) : Prop := lnk own index y ∧ Cond.instanceMethod y ∈ gdW ∧ Cond.selects y.cls y y ∈ gdW ∧ Cond.initialized y.cls ∈ gdW ∧ Cond.code y b nL' ret ∈ gdW ∧ plainY y n
def MS (own : String) (index : Nat) (y : MethodName) (b : ByteArray) (nL' : Nat) (ret : Option FieldType) (n : Nat) : Prop := lnk own index y ∧ Cond.static y ∈ gdW ∧ Cond.initialized y.cls ∈ gdW ∧ Cond.code y b nL' ret ∈ gdW ∧ plainY y n
def MI (own : String) (index : Nat) (y : MethodName) (b : ByteArray) (nL' n : Nat) : Prop := lnk own index y ∧ y.name = "<init>" ∧ Cond.instanceMethod y ∈ gdW ∧ Cond.initialized y.cls ∈ gdW ∧ Cond.code y b nL' none ∈ gdW ∧ plainY y n
theorem cat_len (ad : Ln → Nat) (st : List AV) : ((st.map (tr ad)).map fun v => v.category).sum = st.length := by
  induction st with
  | nil => rfl
  | cons v t ih => rw [List.map_cons, List.map_cons, List.sum_cons, ih, tr_cat]; simp; omega
theorem plain_len {y : MethodName} {n : Nat} (h : plainY y n) : ∀ sig, parseMethodDescriptor y.desc = some sig → n = sig.parameters.length := by
  intro sig hs
  have h2 := h.2.2
  rw [hs] at h2
  exact (Option.some.inj h2).symm
theorem g_callVf {fr' : Ln → Bool} {P' : Option AV → Mm → Prop} {k : Ln} {as : List AV} {y : MethodName} {b : ByteArray} {nL' d' mc' ms' n index ci : Nat} {ret : Option FieldType} {stk : List AV} (C : Cx X Y cc nL own) (M : MV own index y b nL' ret n) (hM : Cn X.2.1 Y.1 Y.2.1 Y.2.2.1 y b nL' ret d' mc' ms' fr' S (vr k :: as) P') (hstk : stk = as.reverse ++ vr k :: st) (hlen : as.length = n) (hk : kd k = (0, ci)) (hcl : (vwCl[ci]?).map (fun q => q.1) = some y.cls) (hlv : S.2.2 k = true)
    (hR : d' + 1 ≤ X.2.2.2.1.frames ∧ 8 + (nL' + 11) + 40 * d' ≤ X.2.2.2.1.locals) (hfit : cells + mc' ≤ X.2.2.2.1.cells ∧ slots + ms' ≤ X.2.2.2.1.slots) (hs8 : st.length ≤ 8) (hd : decode cc pc = .ok (.invokevirtual index, 3)) (hfr : ∀ q, fr' q = true → Y.2.2.2.2 q = true) (hL : L.all (fun q => okR fr' q.2) = true) (hst : st.all (okR fr') = true)
    (kk : ∀ r S', P' r S' → G X Y (cells + mc') (slots + ms') S' (pc + 3) L (pushR r st)) : G X Y cells slots S pc L stk := by
  intro ad H locs ls hI hl
  subst hstk
  obtain ⟨M1, M2, M3, M4, M5, M6⟩ := M
  have hts := C.2.2.2.2.1
  have hKU := C.2.2.2.2.2.1
  have hc := (hI.1.1 k hlv).1
  unfold cellOK at hc
  rw [hk, if_pos rfl] at hc
  obtain ⟨cellB, g1, g2, g3, -⟩ := hc
  obtain ⟨q0, hq0, hq1⟩ := Option.map_eq_some_iff.mp hcl
  have hfc : X.2.2.2.2.1.vm.findClass y.cls = some cellB.cls := by rw [g2, ← hq1]; exact (hKU.1.1 ci q0 hq0).2.1
  have hp : PreV X.2.2.2.2.1 H y.cls (ad k) (Pcc Y.1 Y.2.1 Y.2.2.1 ad S (vr k :: as)) (as.map (tr ad)) := ⟨pcc_blind, ⟨cellB, g1, by rw [g3]; rfl, hfc⟩, pcc_of C hI⟩
  have hpay := pay_in hts (gd_good y b nL' ret M5)
  have hstack : (F0 X.2.2.2.2.2.1 pc ls ((as.reverse ++ vr k :: st).map (tr ad))).stack = (as.map (tr ad)).reverse ++ .ref (ad k) :: st.map (tr ad) := by
    show (as.reverse ++ vr k :: st).map (tr ad) = _
    rw [List.map_append, List.map_reverse]; rfl
  have hW : 2 * (F0 X.2.2.2.2.2.1 pc ls ((as.reverse ++ vr k :: st).map (tr ad))).monitorRoom + ((st.map (tr ad)).map fun v => v.category).sum ≤ 8 := by
    show 2 * 0 + _ ≤ 8
    rw [cat_len]; omega
  have hcl' : Cond.code y b nL' ret ∈ Cond.code y b nL' ret :: gdW := List.mem_cons_self
  refine g_run (a := ((vr k :: as).map (tr ad)).toArray) ?_ hI hl hKU.2.2.2.2.2.1 hfr hL hst kk
  rcases M1 with hl1 | ⟨host, hl1⟩
  · exact va_runV (As := as.map (tr ad)) (rest := st.map (tr ad)) (n := n) (C := y.cls) ⟨C.1, C.2.1, C.2.2.1, C.2.2.2.1, hts⟩ (hM ad) ⟨⟨rfl, rfl, hR.1, hR.2, hpay, hcl', hts _ M5, hts _ M4, ⟨M6.1, M6.2.1⟩, plain_len M6, hts _ hl1⟩, hts _ M2, hts _ M3⟩ hp rfl (by rw [List.length_map]; exact hlen) (by rw [← C.2.2.1]; exact hl.1) hstack hW hd hfit
  · exact va_runVN (As := as.map (tr ad)) (rest := st.map (tr ad)) (n := n) (C := y.cls) (host := host) ⟨C.1, C.2.1, C.2.2.1, C.2.2.2.1, hts⟩ (hM ad) ⟨⟨⟨rfl, rfl, hR.1, hR.2, hpay, hcl'⟩, hts _ M5, hts _ M4, ⟨M6.1, M6.2.1⟩, plain_len M6, va_Nw.use rfl (hKU.2.1 _ hl1)⟩, hts _ M2, hts _ M3⟩ hp rfl (by rw [List.length_map]; exact hlen) (by rw [← C.2.2.1]; exact hl.1) hstack hW hd hfit
theorem g_callSf {fr' : Ln → Bool} {P' : Option AV → Mm → Prop} {as : List AV} {y : MethodName} {b : ByteArray} {nL' d' mc' ms' n index : Nat} {ret : Option FieldType} {stk : List AV} (C : Cx X Y cc nL own) (M : MS own index y b nL' ret n) (hM : Cn X.2.1 Y.1 Y.2.1 Y.2.2.1 y b nL' ret d' mc' ms' fr' S as P') (hstk : stk = as.reverse ++ st) (hlen : as.length = n)
    (hR : d' + 1 ≤ X.2.2.2.1.frames ∧ 8 + (nL' + 11) + 40 * d' ≤ X.2.2.2.1.locals) (hfit : cells + mc' ≤ X.2.2.2.1.cells ∧ slots + ms' ≤ X.2.2.2.1.slots) (hs8 : st.length ≤ 8) (hd : decode cc pc = .ok (.invokestatic index, 3)) (hfr : ∀ q, fr' q = true → Y.2.2.2.2 q = true) (hL : L.all (fun q => okR fr' q.2) = true) (hst : st.all (okR fr') = true)
    (kk : ∀ r S', P' r S' → G X Y (cells + mc') (slots + ms') S' (pc + 3) L (pushR r st)) : G X Y cells slots S pc L stk := by
  intro ad H locs ls hI hl
  subst hstk
  obtain ⟨M1, M2, M4, M5, M6⟩ := M
  have hts := C.2.2.2.2.1
  have hKU := C.2.2.2.2.2.1
  have hp : PreS X.2.2.2.2.1 H (Pcc Y.1 Y.2.1 Y.2.2.1 ad S as) (as.map (tr ad)) := ⟨pcc_blind, pcc_of C hI⟩
  have hpay := pay_in hts (gd_good y b nL' ret M5)
  have hstack : (F0 X.2.2.2.2.2.1 pc ls ((as.reverse ++ st).map (tr ad))).stack = (as.map (tr ad)).reverse ++ st.map (tr ad) := by
    show (as.reverse ++ st).map (tr ad) = _
    rw [List.map_append, List.map_reverse]
  have hW : 2 * (F0 X.2.2.2.2.2.1 pc ls ((as.reverse ++ st).map (tr ad))).monitorRoom + ((st.map (tr ad)).map fun v => v.category).sum ≤ 8 := by
    show 2 * 0 + _ ≤ 8
    rw [cat_len]; omega
  have hcl' : Cond.code y b nL' ret ∈ Cond.code y b nL' ret :: gdW := List.mem_cons_self
  refine g_run (a := (as.map (tr ad)).toArray) ?_ hI hl hKU.2.2.2.2.2.1 hfr hL hst kk
  rcases M1 with hl1 | ⟨host, hl1⟩
  · exact va_runS (As := as.map (tr ad)) (rest := st.map (tr ad)) (n := n) ⟨C.1, C.2.1, C.2.2.1, C.2.2.2.1, hts⟩ (hM ad) ⟨⟨rfl, rfl, hR.1, hR.2, hpay, hcl', hts _ M5, hts _ M4, ⟨M6.1, M6.2.1⟩, plain_len M6, hts _ hl1⟩, hts _ M2⟩ hp rfl (by rw [List.length_map]; exact hlen) (by rw [← C.2.2.1]; exact hl.1) hstack hW hd hfit
  · exact va_runSN (As := as.map (tr ad)) (rest := st.map (tr ad)) (n := n) (host := host) ⟨C.1, C.2.1, C.2.2.1, C.2.2.2.1, hts⟩ (hM ad) ⟨⟨⟨rfl, rfl, hR.1, hR.2, hpay, hcl'⟩, hts _ M5, hts _ M4, ⟨M6.1, M6.2.1⟩, plain_len M6, va_Nw.use rfl (hKU.2.1 _ hl1)⟩, hts _ M2, trivial⟩ hp rfl (by rw [List.length_map]; exact hlen) (by rw [← C.2.2.1]; exact hl.1) hstack hW hd hfit
theorem g_callIf {fr' : Ln → Bool} {P' : Option AV → Mm → Prop} {k : Ln} {as : List AV} {y : MethodName} {b : ByteArray} {nL' d' mc' ms' n index : Nat} {stk : List AV} (C : Cx X Y cc nL own) (M : MI own index y b nL' n) (hM : Cn X.2.1 Y.1 Y.2.1 Y.2.2.1 y b nL' none d' mc' ms' fr' S (vr k :: as) P') (hstk : stk = as.reverse ++ vr k :: st) (hlen : as.length = n)
    (hR : d' + 1 ≤ X.2.2.2.1.frames ∧ 8 + (nL' + 11) + 40 * d' ≤ X.2.2.2.1.locals) (hfit : cells + mc' ≤ X.2.2.2.1.cells ∧ slots + ms' ≤ X.2.2.2.1.slots) (hs8 : st.length ≤ 8) (hd : decode cc pc = .ok (.invokespecial index, 3)) (hfr : ∀ q, fr' q = true → Y.2.2.2.2 q = true) (hL : L.all (fun q => okR fr' q.2) = true) (hst : st.all (okR fr') = true)
    (kk : ∀ r S', P' r S' → G X Y (cells + mc') (slots + ms') S' (pc + 3) L (pushR r st)) : G X Y cells slots S pc L stk := by
  intro ad H locs ls hI hl
  subst hstk
  obtain ⟨M1, M2, M3, M4, M5, M6⟩ := M
  have hts := C.2.2.2.2.1
  have hKU := C.2.2.2.2.2.1
  have hp : PreS X.2.2.2.2.1 H (Pcc Y.1 Y.2.1 Y.2.2.1 ad S (vr k :: as)) (.ref (ad k) :: as.map (tr ad)) := ⟨pcc_blind, pcc_of C hI⟩
  have hpay := pay_in hts (gd_good y b nL' none M5)
  have hstack : (F0 X.2.2.2.2.2.1 pc ls ((as.reverse ++ vr k :: st).map (tr ad))).stack = (as.map (tr ad)).reverse ++ .ref (ad k) :: st.map (tr ad) := by
    show (as.reverse ++ vr k :: st).map (tr ad) = _
    rw [List.map_append, List.map_reverse]; rfl
  have hW : 2 * (F0 X.2.2.2.2.2.1 pc ls ((as.reverse ++ vr k :: st).map (tr ad))).monitorRoom + ((st.map (tr ad)).map fun v => v.category).sum ≤ 8 := by
    show 2 * 0 + _ ≤ 8
    rw [cat_len]; omega
  have hcl' : Cond.code y b nL' none ∈ Cond.code y b nL' none :: gdW := List.mem_cons_self
  refine g_run (a := ((vr k :: as).map (tr ad)).toArray) ?_ hI hl hKU.2.2.2.2.2.1 hfr hL hst kk
  rcases M1 with hl1 | ⟨host, hl1⟩
  · exact va_runI (As := as.map (tr ad)) (rest := st.map (tr ad)) (n := n) ⟨C.1, C.2.1, C.2.2.1, C.2.2.2.1, hts⟩ (hM ad) ⟨⟨rfl, rfl, hR.1, hR.2, hpay, hcl', hts _ M5, hts _ M4, ⟨M6.1, M6.2.1⟩, plain_len M6, hts _ hl1⟩, M2, hts _ M3⟩ hp rfl (by rw [List.length_map]; exact hlen) (by rw [← C.2.2.1]; exact hl.1) hstack hW hd hfit
  · exact va_runIN (As := as.map (tr ad)) (rest := st.map (tr ad)) (n := n) (host := host) ⟨C.1, C.2.1, C.2.2.1, C.2.2.2.1, hts⟩ (hM ad) ⟨⟨⟨rfl, rfl, hR.1, hR.2, hpay, hcl'⟩, hts _ M5, hts _ M4, ⟨M6.1, M6.2.1⟩, plain_len M6, va_Nw.use rfl (hKU.2.1 _ hl1)⟩, M2, hts _ M3⟩ hp rfl (by rw [List.length_map]; exact hlen) (by rw [← C.2.2.1]; exact hl.1) hstack hW hd hfit
/-- calls that make nothing, from a method of depth d -/
theorem g_callV {P' : Option AV → Mm → Prop} {k : Ln} {as : List AV} {y : MethodName} {b : ByteArray} {nL' d' n index ci : Nat} {ret rt : Option FieldType} {stk : List AV} (C : Cx X Y cc nL own) (B : Bx X Y nm rt d mc ms P) (M : MV own index y b nL' ret n) (hM : Cn X.2.1 Y.1 Y.2.1 Y.2.2.1 y b nL' ret d' 0 0 noF S (vr k :: as) P') (hstk : stk = as.reverse ++ vr k :: st) (hlen : as.length = n) (hk : kd k = (0, ci)) (hcl : (vwCl[ci]?).map (fun q => q.1) = some y.cls) (hlv : S.2.2 k = true)
    (hR : d' + 1 ≤ d ∧ nL' ≤ 21) (hfit : cells ≤ mc ∧ slots ≤ ms) (hs8 : st.length ≤ 8) (hd : decode cc pc = .ok (.invokevirtual index, 3))
    (kk : ∀ r S', P' r S' → G X Y cells slots S' (pc + 3) L (pushR r st)) : G X Y cells slots S pc L stk :=
  g_callVf C M hM hstk hlen hk hcl hlv (by rw [B.1]; exact ⟨hR.1, by show _ ≤ 40 * d; omega⟩) (by rw [B.1]; exact hfit) hs8 hd (fun _ h => by cases h) (no_allL L) (no_all st) kk
theorem g_callS {P' : Option AV → Mm → Prop} {as : List AV} {y : MethodName} {b : ByteArray} {nL' d' n index : Nat} {ret rt : Option FieldType} {stk : List AV} (C : Cx X Y cc nL own) (B : Bx X Y nm rt d mc ms P) (M : MS own index y b nL' ret n) (hM : Cn X.2.1 Y.1 Y.2.1 Y.2.2.1 y b nL' ret d' 0 0 noF S as P') (hstk : stk = as.reverse ++ st) (hlen : as.length = n)
    (hR : d' + 1 ≤ d ∧ nL' ≤ 21) (hfit : cells ≤ mc ∧ slots ≤ ms) (hs8 : st.length ≤ 8) (hd : decode cc pc = .ok (.invokestatic index, 3))
    (kk : ∀ r S', P' r S' → G X Y cells slots S' (pc + 3) L (pushR r st)) : G X Y cells slots S pc L stk :=
  g_callSf C M hM hstk hlen (by rw [B.1]; exact ⟨hR.1, by show _ ≤ 40 * d; omega⟩) (by rw [B.1]; exact hfit) hs8 hd (fun _ h => by cases h) (no_allL L) (no_all st) kk
end GC
