/-! the law: the skeleton's words, rows for its script, what holds at its entry -/
def R_law : String := "SlotHouseLaw"
def lw_P (b : Addr) (xs : List Int32) (args : Array Value) (s : State) : Prop := args = #[.ref b] ∧ s.IntsAt b xs ∧ xs.length ≤ 3584 ∧ (Jvm.Cond.and given_1 narrow_1).before args s = true
def lw_Q (_ : Array Value) (s : State) (o : Outcome) (t : State) : Prop := o = .returned (some (.int 1)) ∧ Framed s o t [] 600000 7302250
def lw_Z (below : List Frame) (a : Array Value) (s : State) : State → Prop := fun t => ∃ o, t.status = .running ∧ Ended t below o ∧ lw_Q a s o t
/-- the law's own end, with 1 on the stack, nothing written that was there before, its room as the claim has it -/
theorem lw_ret {p : Program} {l : Launch} {e : Env} {s : State} {m : MethodId} {below : List Frame} {meth : Method} {c : Code} {b : Nat} (hx : p.tables.exec = Jvm.exec) (hb : c.code = code) (hr : meth.sig.returnType = ret) (hlocks : meth.locks = false) {pc : Nat} {H : Heap} {ls : Array Slot} (hdg : decode code pc = .ok (.ireturn, 1)) : W p l e room_1 s m #[Value.ref b] below meth c H [] 600000 7302250 (lw_Z below #[Value.ref b] s) (F0 m pc ls [.int 1]) := by
  intro T hT X
  obtain ⟨fs, hret, hrun, hended, hW, hframe⟩ := X.leave (v := some (.int 1)) (hlocks := hlocks) (fun h => by rw [hr] at h; cases h)
  have hmeth' : T.vm.method? m = some meth := X.method'
  refine ⟨T.setFrames fs, ?_, .returned (some (.int 1)), hrun, hended, rfl, ⟨_, rfl⟩, hW, hframe⟩
  jvm_step X.here [X.here.top, hx, hb, hdg, hmeth', hr, ret, narrow_b1]
  (try refine ⟨rfl, ?_⟩); (try refine ⟨rfl, ?_⟩)
  first | (intro acts; rw [hret _ acts rfl rfl rfl]) | rw [hret _ _ rfl rfl rfl]
  exact Steps.refl _
/-- what holds at the law's entry: the machine, the code, the tables' words (any of lw_tbl by 'hts w (by decide +kernel)'), the script of L ints xs at the cell b, what the Statement gives of the start (any of its parts by flat_of_before) -/
def lw_At (p : Program) (s : State) (m : MethodId) (meth : Method) (c : Code) (b L : Nat) (xs : Nat → Int32) : Prop :=
  p.tables.exec = Jvm.exec ∧ c.code = code ∧ meth.sig.returnType = ret ∧ c.maxLocals = 4 ∧ s.vm.findClass R_law = some m.cls ∧ (∀ w ∈ lw_tbl, w.before #[Value.ref b] s = true) ∧ va_X b L xs s s.heap ∧ b < s.heap.size ∧ meth.locks = false ∧ (Jvm.Cond.and given_1 narrow_1).before #[Value.ref b] s = true
section GW
variable {X : Xt} {Y : Yt} {cc : ByteArray} {nL : Nat} {own : String} {cells slots : Nat} {S : Mm} {pc : Nat} {L : List (Nat × AV)} {st : List AV} {b N : Nat} {xs : Nat → Int32}
/-- the script's name; the names that may come new -/
def sK : Ln := (8, 0, 0)
def frW (k : Ln) : Bool := decide (k.1 ≤ 4)
/-- what holds in the law's body beside Cx -/
def LwX (X : Xt) (Y : Yt) (b N : Nat) (xs : Nat → Int32) : Prop := X.2.2.2.1 = room_1 ∧ Y.2.2.2.2 = frW ∧ Y.2.2.2.1 sK = b ∧ va_X b N xs X.2.2.2.2.1 X.2.2.2.2.1.heap ∧ b < X.2.2.2.2.1.heap.size ∧ Y.2.1 = X.2.2.2.2.1.heap.size ∧ N ≤ 3584
theorem g_sk (D : LwX X Y b N xs) {ad : Ln → Nat} {H : Heap} {locs : List Loc} (hI : Inv Y X.2.2.2.2.1 ad S H locs) : tr ad (vr sK) = .ref b := by
  show Value.ref (ad sK) = _
  rw [hI.2.1 sK (by rw [D.2.1]; rfl), D.2.2.1]
theorem g_sldN (C : Cx X Y cc nL own) (D : LwX X Y b N xs) {i : Nat} (hi : i < N) (hd : decode cc pc = .ok (.iaload, 1)) (kk : G X Y cells slots S (pc + 1) L (vi (xs i) :: st)) : G X Y cells slots S pc L (vi (nI i) :: vr sK :: st) := by
  intro ad H locs ls hI hl
  have hN := D.2.2.2.2.2.2
  have k1 := kk ad H locs ls hI hl
  have e : (nI i).toNatClampNeg = i := cl i (by omega)
  rw [List.map_cons, List.map_cons, g_sk D hI]
  refine va_sld C.1 C.2.1 D.2.2.2.1 D.2.2.2.2.1 (by rw [D.2.2.2.2.2.1]; exact Nat.not_le.mpr D.2.2.2.2.1) hI.2.2.2 (vp_in_nI hi (by omega)) hd ?_
  rw [e]
  exact k1
theorem g_slnN (C : Cx X Y cc nL own) (D : LwX X Y b N xs) (hd : decode cc pc = .ok (.arraylength, 1)) (kk : G X Y cells slots S (pc + 1) L (vi (nI N) :: st)) : G X Y cells slots S pc L (vr sK :: st) := by
  intro ad H locs ls hI hl
  rw [List.map_cons, g_sk D hI]
  exact va_slen C.1 C.2.1 D.2.2.2.1 D.2.2.2.2.1 (by rw [D.2.2.2.2.2.1]; exact Nat.not_le.mpr D.2.2.2.2.1) hI.2.2.2 hd (kk ad H locs ls hI hl)
end GW
theorem g_lend {p : Program} {l : Launch} {e : Env} {s : State} {m : MethodId} {below : List Frame} {meth : Method} {c : Code} {b : Nat} {Y : Yt} {cells slots pc : Nat} {S : Mm} {L : List (Nat × AV)} (hx : p.tables.exec = Jvm.exec) (hb : c.code = code) (hr : meth.sig.returnType = ret) (hlocks : meth.locks = false) (hbase : Y.2.1 = s.heap.size) (h1 : cells ≤ 600000) (h2 : slots ≤ 7302250) (hd : decode code pc = .ok (.ireturn, 1)) : G (p, l, e, room_1, s, m, #[Value.ref b], below, meth, c, lw_Z below #[Value.ref b] s) Y cells slots S pc L [vi 1] := by
  intro ad H locs ls hI hl
  exact W.widen h1 h2 (va_forget (fun q hq => by have := hI.2.2.2.2.2 q hq; rw [hbase] at this; exact this) (lw_ret hx hb hr hlocks hd))
/-! the surroundings at the law's entry -/
theorem len_lt {args : Array Value} {s : State} {t : Term} {v : Value} {b : Addr} {cell : Cell} (hv : (Term.length t).eval args s none [] s = some v) (ht : t.eval args s none [] s = some (.ref b)) (harr : s.arrayAt? b = some cell) : cell.slots.size < 2 ^ 31 := by
  simp only [Term.eval, ht, harr, Option.bind_eq_bind, Option.bind_some] at hv
  by_cases hlt : cell.slots.size < 2147483648
  · exact hlt
  · simp [hlt] at hv
theorem x_of {args : Array Value} {s : State} {tm : Term} {N : Nat} {f : Nat → Int32} (hN : N < 2 ^ 31) (harr : (Cond.arrayOf tm .int).before args s = true) (hlen : (Term.length tm).eval args s none [] s = some (.int (Int32.ofNat N))) (hel : ∀ j : Nat, j < N → (Term.elem tm (.int (Int32.ofNat j))).eval args s none [] s = some (.int (f j))) : ∃ t : Nat, tm.eval args s none [] s = some (.ref t) ∧ va_X t N f s s.heap ∧ t < s.heap.size := by
  obtain ⟨t, ht, cell, h1, h2, h3, h4, h5, h6, h7⟩ := va_Tof (A := fun q => s.heap.size ≤ q) hN harr hlen hel (fun a h => Nat.not_le.mpr h)
  obtain ⟨t', cell', ht', hat, -⟩ := Term.length_spec hlen
  cases ht.symm.trans ht'
  obtain ⟨hc', -, -, -⟩ := State.arrayAt?_spec hat
  cases h1.symm.trans hc'
  have hz : cell.slots.size = N := (nI_eq (len_lt hlen ht hat) hN).mp h5
  exact ⟨t, ht, ⟨cell, h1, h2, h3, hz, h6⟩, Nat.not_le.mp h7⟩
theorem nest_tab {w : Cond} (h : isNest w = true) : w.onTables = true := by
  cases w <;> first | (simp [isNest] at h; done) | rfl
def wW : Term := .static "SlotHouse" "WORTHS" "[I"
set_option maxRecDepth 100000 in
theorem ku_start {p : Program} {s : State} {m : MethodId} {meth : Method} {c : Code} {b L : Nat} {xs : Nat → Int32} (C0 : lw_At p s m meth c b L xs) : ∃ (E : En) (aw : Nat), KU E s.heap.size aw s := by
  obtain ⟨hx, hb, hr, hml, hown, hts, hX, hbl, hlocks, hgv⟩ := C0
  have hg : ∀ w ∈ gdW, w.before #[Value.ref b] s = true := fun w hw => hts w (List.mem_filter.mp hw).1
  obtain ⟨c0, i0, k0⟩ := u_known (ws := gdW) (C := RX0) (T := TX0) (N := 2) (n := 2) hg uwX0 (hg (.instantiable RX0 2) (gin 52 (by decide +kernel) rfl))
  obtain ⟨c1, i1, k1⟩ := u_known (ws := gdW) (C := RX1) (T := TX1) (N := 2) (n := 2) hg uwX1 (hg (.instantiable RX1 2) (gin 164 (by decide +kernel) rfl))
  obtain ⟨c2, i2, k2⟩ := u_known (ws := gdW) (C := RX2) (T := TX2) (N := 10) (n := 10) hg uwX2 (hg (.instantiable RX2 10) (gin 236 (by decide +kernel) rfl))
  obtain ⟨c3, i3, k3⟩ := u_known (ws := gdW) (C := RX3) (T := TX3) (N := 10) (n := 10) hg uwX3 (hg (.instantiable RX3 10) (gin 118 (by decide +kernel) rfl))
  obtain ⟨c4, i4, k4⟩ := u_known (ws := gdW) (C := RX4) (T := TX4) (N := 8) (n := 8) hg uwX4 (hg (.instantiable RX4 8) (gin 126 (by decide +kernel) rfl))
  obtain ⟨c5, i5, k5⟩ := u_known (ws := gdW) (C := RX5) (T := TX5) (N := 2) (n := 2) hg uwX5 (hg (.instantiable RX5 2) (gin 68 (by decide +kernel) rfl))
  obtain ⟨c6, i6, k6⟩ := u_known (ws := gdW) (C := RX6) (T := TX6) (N := 9) (n := 9) hg uwX6 (hg (.instantiable RX6 9) (gin 37 (by decide +kernel) rfl))
  obtain ⟨c7, i7, k7⟩ := u_known (ws := gdW) (C := RX7) (T := TX7) (N := 34) (n := 34) hg uwX7 (hg (.instantiable RX7 34) (gin 561 (by decide +kernel) rfl))
  obtain ⟨a1, x1, z1, f1, g1, h1⟩ := Cond.arrayClass_spec (hg _ ac_int)
  obtain ⟨a2, x2, z2, f2, g2, h2⟩ := Cond.arrayClass_spec (hg _ ac_boolean)
  have o3 : Cond.arrayOver (.object RX3) ∈ lw_tbl := List.mem_of_getElem? (i := 45) (by decide +kernel)
  have o4 : Cond.arrayOver (.object RX2) ∈ lw_tbl := List.mem_of_getElem? (i := 124) (by decide +kernel)
  have o5 : Cond.arrayOver (.array .int) ∈ lw_tbl := List.mem_of_getElem? (i := 74) (by decide +kernel)
  obtain ⟨z3, a3, x3, j3, -, g3, h3, f3⟩ := Cond.arrayOver_spec (hts _ o3)
  obtain ⟨z4, a4, x4, j4, -, g4, h4, f4⟩ := Cond.arrayOver_spec (hts _ o4)
  obtain ⟨z5, a5, x5, j5, g5, h5, f5⟩ := Cond.arrayOver_specA (hts _ o5)
  have hs := flat_of_before _ hgv
  have harr : (Cond.arrayOf wW .int).before #[Value.ref b] s = true := hs _ (by decide +kernel)
  have hlen : (Cond.eq (.length wW) (.int 6)).before #[Value.ref b] s = true := hs _ (by decide +kernel)
  have e0 : (Cond.eq (.elem wW (.int 0)) (.int 500)).before #[Value.ref b] s = true := hs _ (by decide +kernel)
  have e1 : (Cond.eq (.elem wW (.int 1)) (.int 200)).before #[Value.ref b] s = true := hs _ (by decide +kernel)
  have e2 : (Cond.eq (.elem wW (.int 2)) (.int 100)).before #[Value.ref b] s = true := hs _ (by decide +kernel)
  have e3 : (Cond.eq (.elem wW (.int 3)) (.int 50)).before #[Value.ref b] s = true := hs _ (by decide +kernel)
  have e4 : (Cond.eq (.elem wW (.int 4)) (.int 20)).before #[Value.ref b] s = true := hs _ (by decide +kernel)
  have e5 : (Cond.eq (.elem wW (.int 5)) (.int 10)).before #[Value.ref b] s = true := hs _ (by decide +kernel)
  obtain ⟨aw, w1, w2, w3⟩ := x_of (N := 6) (f := wths) (by decide) harr (va_eqt hlen) (fun j hj => by
    rcases (show j = 0 ∨ j = 1 ∨ j = 2 ∨ j = 3 ∨ j = 4 ∨ j = 5 by omega) with rfl | rfl | rfl | rfl | rfl | rfl
    · exact va_eqt e0
    · exact va_eqt e1
    · exact va_eqt e2
    · exact va_eqt e3
    · exact va_eqt e4
    · exact va_eqt e5)
  have ls : Cond.laysStatic "SlotHouse" "WORTHS" "[I" ∈ lw_tbl := List.mem_of_getElem? (i := 50) (by decide +kernel)
  have ii : Cond.initialized "SlotHouse" ∈ lw_tbl := List.mem_of_getElem? (i := 25) (by decide +kernel)
  refine ⟨(fun k => match k with | 0 => c0 | 1 => c1 | 2 => c2 | 3 => c3 | 4 => c4 | 5 => c5 | 6 => c6 | _ => c7, fun k => match k with | 0 => i0 | 1 => i1 | 2 => i2 | 3 => i3 | 4 => i4 | 5 => i5 | 6 => i6 | _ => i7, fun k => match k with | 1 => a1 | 2 => a2 | 3 => a3 | 4 => a4 | _ => a5), aw, ⟨fun k q hq => ?_, fun k q hq => ?_⟩, fun w hw => ?_, ?_, w2, w3, Nat.le_refl _, hts _ o3, hts _ o4, hts _ o5⟩
  · match k, hq with
    | 0, hq => cases hq; exact k0
    | 1, hq => cases hq; exact k1
    | 2, hq => cases hq; exact k2
    | 3, hq => cases hq; exact k3
    | 4, hq => cases hq; exact k4
    | 5, hq => cases hq; exact k5
    | 6, hq => cases hq; exact k6
    | 7, hq => cases hq; exact k7
    | k + 8, hq => simp [vwCl] at hq
  · match k, hq with
    | 0, hq => cases hq; exact ⟨fun n z => ⟨fun k h => (by cases h), x1, g1, z1, h1⟩, f1⟩
    | 1, hq => cases hq; exact ⟨fun n z => ⟨fun k h => (by cases h), x2, g2, z2, h2⟩, f2⟩
    | 2, hq => cases hq; exact ⟨fun n z => ⟨fun k h => (by cases h), x3, g3, z3, h3⟩, ⟨x3, z3, g3, h3, j3, f3⟩⟩
    | 3, hq => cases hq; exact ⟨fun n z => ⟨fun k h => (by cases h), x4, g4, z4, h4⟩, ⟨x4, z4, g4, h4, j4, f4⟩⟩
    | 4, hq => cases hq; exact ⟨fun n z => ⟨fun k h => (by cases h), x5, g5, z5, h5⟩, f5⟩
    | k + 5, hq => simp at hq
  · exact va_Nw.of (nest_tab (List.mem_filter.mp hw).2) (hts w (List.mem_filter.mp hw).1)
  · exact va_Zref (hts _ ls) (hts _ ii) w1 (fun a h => Nat.not_le.mpr h)
