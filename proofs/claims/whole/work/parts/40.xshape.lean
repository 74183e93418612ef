/-! THE CLASS'S CELLS: (0,0,0) the SlotHouse, (0,0,1) machines, 2 sizes, 3 refusals, 4 latestGiven, 5 Changer, 6 tried, 7 best, 8 Van, 9 its table, 10 pieces; (4,0,r) a row of the table;
machine i: (1,i,0), 1 lanes, 2 Till, 3 tubes, 4 box, 5 in, 6 came, 7 wentBack, 8 wentAsChange, 9 collected, 10 Diary, 11 sales, 12 hoursThere; lane j of it (3,i,j) -/
def MSh (S : Mm) (i n : Nat) : Prop := (∀ o, o ≤ 12 → S.2.2 (1, i, o) = true) ∧ (S.2.1 (1, i, 0) 0 = some (1, i, 1) ∧ S.2.1 (1, i, 0) 1 = some (1, i, 2) ∧ S.2.1 (1, i, 0) 2 = some (1, i, 10)) ∧ (S.2.1 (1, i, 2) 0 = some (1, i, 3) ∧ S.2.1 (1, i, 2) 1 = some (1, i, 4) ∧ S.2.1 (1, i, 2) 2 = some (1, i, 5) ∧ S.2.1 (1, i, 2) 3 = some (1, i, 6) ∧ S.2.1 (1, i, 2) 4 = some (1, i, 7) ∧ S.2.1 (1, i, 2) 5 = some (1, i, 8) ∧ S.2.1 (1, i, 2) 6 = some (1, i, 9)) ∧ (S.2.1 (1, i, 10) 0 = some (1, i, 11) ∧ S.2.1 (1, i, 10) 1 = some (1, i, 12)) ∧ (∀ j, j < 8 → S.2.1 (1, i, 1) j = if j < n then some (3, i, j) else none) ∧ (∀ j, j < n → S.2.2 (3, i, j) = true) ∧ n ≤ 8
def ShX (S : Mm) (mc : Nat) (lc : Nat → Nat) : Prop := (∀ o, o ≤ 10 → S.2.2 (0, 0, o) = true) ∧ (S.2.1 (0, 0, 0) 0 = some (0, 0, 1) ∧ S.2.1 (0, 0, 0) 1 = some (0, 0, 2) ∧ S.2.1 (0, 0, 0) 2 = some (0, 0, 3) ∧ S.2.1 (0, 0, 0) 3 = some (0, 0, 4) ∧ S.2.1 (0, 0, 0) 4 = some (0, 0, 5) ∧ S.2.1 (0, 0, 0) 5 = some (0, 0, 8)) ∧ (S.2.1 (0, 0, 5) 0 = some (0, 0, 6) ∧ S.2.1 (0, 0, 5) 1 = some (0, 0, 7) ∧ S.2.1 (0, 0, 8) 0 = some (0, 0, 9) ∧ S.2.1 (0, 0, 8) 1 = some (0, 0, 10)) ∧ (∀ r, r < 9 → S.2.2 (4, 0, r) = true ∧ S.2.1 (0, 0, 9) r = some (4, 0, r)) ∧ (∀ i, i < 6 → S.2.1 (0, 0, 1) i = if i < mc then some (1, i, 0) else none) ∧ (∀ i, i < mc → MSh S i (lc i)) ∧ mc ≤ 6
def CtX (S : Mm) (mc : Nat) (lc : Nat → Nat) : Prop := S.1 (0, 0, 0) 6 = nI mc ∧ ∀ i, i < mc → S.1 (1, i, 0) 3 = nI (lc i)
def IX (S : Mm) (mc : Nat) (lc : Nat → Nat) : Prop := ShX S mc lc ∧ CtX S mc lc
section ACC
variable {S : Mm} {i n mc : Nat} {lc : Nat → Nat}
theorem MSh.r0 (h : MSh S i n) : S.2.1 (1, i, 0) 0 = some (1, i, 1) := h.2.1.1
theorem MSh.r1 (h : MSh S i n) : S.2.1 (1, i, 0) 1 = some (1, i, 2) := h.2.1.2.1
theorem MSh.r2 (h : MSh S i n) : S.2.1 (1, i, 0) 2 = some (1, i, 10) := h.2.1.2.2
theorem MSh.t0 (h : MSh S i n) : S.2.1 (1, i, 2) 0 = some (1, i, 3) := h.2.2.1.1
theorem MSh.t1 (h : MSh S i n) : S.2.1 (1, i, 2) 1 = some (1, i, 4) := h.2.2.1.2.1
theorem MSh.t2 (h : MSh S i n) : S.2.1 (1, i, 2) 2 = some (1, i, 5) := h.2.2.1.2.2.1
theorem MSh.t3 (h : MSh S i n) : S.2.1 (1, i, 2) 3 = some (1, i, 6) := h.2.2.1.2.2.2.1
theorem MSh.t4 (h : MSh S i n) : S.2.1 (1, i, 2) 4 = some (1, i, 7) := h.2.2.1.2.2.2.2.1
theorem MSh.t5 (h : MSh S i n) : S.2.1 (1, i, 2) 5 = some (1, i, 8) := h.2.2.1.2.2.2.2.2.1
theorem MSh.t6 (h : MSh S i n) : S.2.1 (1, i, 2) 6 = some (1, i, 9) := h.2.2.1.2.2.2.2.2.2
theorem MSh.d0 (h : MSh S i n) : S.2.1 (1, i, 10) 0 = some (1, i, 11) := h.2.2.2.1.1
theorem MSh.d1 (h : MSh S i n) : S.2.1 (1, i, 10) 1 = some (1, i, 12) := h.2.2.2.1.2
theorem MSh.l (h : MSh S i n) {j : Nat} (hj : j < n) : S.2.1 (1, i, 1) j = some (3, i, j) := by rw [h.2.2.2.2.1 j (Nat.lt_of_lt_of_le hj h.2.2.2.2.2.2), if_pos hj]
theorem MSh.ln (h : MSh S i n) {j : Nat} (hj : j < n) : S.2.2 (3, i, j) = true := h.2.2.2.2.2.1 j hj
theorem MSh.n8 (h : MSh S i n) : n ≤ 8 := h.2.2.2.2.2.2
theorem ShX.r0 (h : ShX S mc lc) : S.2.1 (0, 0, 0) 0 = some (0, 0, 1) := h.2.1.1
theorem ShX.r1 (h : ShX S mc lc) : S.2.1 (0, 0, 0) 1 = some (0, 0, 2) := h.2.1.2.1
theorem ShX.r2 (h : ShX S mc lc) : S.2.1 (0, 0, 0) 2 = some (0, 0, 3) := h.2.1.2.2.1
theorem ShX.r3 (h : ShX S mc lc) : S.2.1 (0, 0, 0) 3 = some (0, 0, 4) := h.2.1.2.2.2.1
theorem ShX.r4 (h : ShX S mc lc) : S.2.1 (0, 0, 0) 4 = some (0, 0, 5) := h.2.1.2.2.2.2.1
theorem ShX.r5 (h : ShX S mc lc) : S.2.1 (0, 0, 0) 5 = some (0, 0, 8) := h.2.1.2.2.2.2.2
theorem ShX.c0 (h : ShX S mc lc) : S.2.1 (0, 0, 5) 0 = some (0, 0, 6) := h.2.2.1.1
theorem ShX.c1 (h : ShX S mc lc) : S.2.1 (0, 0, 5) 1 = some (0, 0, 7) := h.2.2.1.2.1
theorem ShX.v0 (h : ShX S mc lc) : S.2.1 (0, 0, 8) 0 = some (0, 0, 9) := h.2.2.1.2.2.1
theorem ShX.v1 (h : ShX S mc lc) : S.2.1 (0, 0, 8) 1 = some (0, 0, 10) := h.2.2.1.2.2.2
theorem ShX.row (h : ShX S mc lc) {r : Nat} (hr : r < 9) : S.2.2 (4, 0, r) = true ∧ S.2.1 (0, 0, 9) r = some (4, 0, r) := h.2.2.2.1 r hr
theorem ShX.m (h : ShX S mc lc) {i : Nat} (hi : i < mc) : S.2.1 (0, 0, 1) i = some (1, i, 0) := by rw [h.2.2.2.2.1 i (Nat.lt_of_lt_of_le hi h.2.2.2.2.2.2), if_pos hi]
theorem ShX.ms (h : ShX S mc lc) {i : Nat} (hi : i < mc) : MSh S i (lc i) := h.2.2.2.2.2.1 i hi
theorem ShX.m6 (h : ShX S mc lc) : mc ≤ 6 := h.2.2.2.2.2.2
theorem MSh.same {T : Mm} (e : T.2 = S.2) (h : MSh S i n) : MSh T i n := by unfold MSh at *; rw [e]; exact h
theorem ShX.same {T : Mm} (e : T.2 = S.2) (h : ShX S mc lc) : ShX T mc lc := by unfold ShX MSh at *; rw [e]; exact h
end ACC
def rfX (S : Mm) (k : Nat) : Mm := wI S (0, 0, 3) k (S.1 (0, 0, 3) k + 1)
section GM
variable {X : Xt} {Y : Yt} {cc : ByteArray} {nL : Nat} {own : String} {cells slots : Nat} {S : Mm} {pc : Nat} {L : List (Nat × AV)} {st : List AV} {nm : String} {rt : Option FieldType} {d mc ms : Nat} {P : Option AV → Mm → Prop}
theorem g_mmax (C : Cx X Y cc nL own) (B : Bx X Y nm rt d mc ms P) {index : Nat} {x y : Int32} (hl : Cond.methodLink own index Lib.Math.max.name ∈ gdW) (hs : Cond.static Lib.Math.max.name ∈ gdW) (hc : Cond.code Lib.Math.max.name Lib.Math.max.code 2 (some .int) ∈ gdW) (hi : Cond.initialized "java/lang/Math" ∈ gdW) (hd1 : 1 ≤ d) (hfit : cells ≤ mc ∧ slots ≤ ms) (hs8 : st.length ≤ 8) (hd : decode cc pc = .ok (.invokestatic index, 3)) (kk : G X Y cells slots S (pc + 3) L (vi (if x < y then y else x) :: st)) : G X Y cells slots S pc L (vi y :: vi x :: st) := by
  intro ad H locs ls hI hl0
  have hts := C.2.2.2.2.1
  refine va_mmax C.1 C.2.1 hl0.1.symm C.2.2.2.1 (hts _ hl) (hts _ hs) (hts _ hi) (hts _ hc) (by rw [B.1]; exact hd1) ?_ (by rw [B.1]; exact hfit.1) (by rw [B.1]; exact hfit.2) hd (kk ad H locs ls hI hl0)
  rw [B.1, cat_len]; show _ ≤ 40 * d; omega
theorem g_mmin (C : Cx X Y cc nL own) (B : Bx X Y nm rt d mc ms P) {index : Nat} {x y : Int32} (hl : Cond.methodLink own index Lib.Math.min.name ∈ gdW) (hs : Cond.static Lib.Math.min.name ∈ gdW) (hc : Cond.code Lib.Math.min.name Lib.Math.min.code 2 (some .int) ∈ gdW) (hi : Cond.initialized "java/lang/Math" ∈ gdW) (hd1 : 1 ≤ d) (hfit : cells ≤ mc ∧ slots ≤ ms) (hs8 : st.length ≤ 8) (hd : decode cc pc = .ok (.invokestatic index, 3)) (kk : G X Y cells slots S (pc + 3) L (vi (if y < x then y else x) :: st)) : G X Y cells slots S pc L (vi y :: vi x :: st) := by
  intro ad H locs ls hI hl0
  have hts := C.2.2.2.2.1
  refine va_mmin C.1 C.2.1 hl0.1.symm C.2.2.2.1 (hts _ hl) (hts _ hs) (hts _ hi) (hts _ hc) (by rw [B.1]; exact hd1) ?_ (by rw [B.1]; exact hfit.1) (by rw [B.1]; exact hfit.2) hd (kk ad H locs ls hI hl0)
  rw [B.1, cat_len]; show _ ≤ 40 * d; omega
end GM
theorem mth_i : Cond.initialized "java/lang/Math" ∈ gdW := gin 34 (by decide +kernel) rfl
theorem mthX0_43 : Cond.methodLink RX0 43 Lib.Math.min.name ∈ gdW := gin 388 (by decide +kernel) rfl
theorem mth_s_min : Cond.static Lib.Math.min.name ∈ gdW := gin 389 (by decide +kernel) rfl
theorem mth_c_min : Cond.code Lib.Math.min.name Lib.Math.min.code 2 (some .int) ∈ gdW := gin 390 (by decide +kernel) rfl
theorem mthX4_44 : Cond.methodLink RX4 44 Lib.Math.min.name ∈ gdW := gin 406 (by decide +kernel) rfl
theorem mthX5_57 : Cond.methodLink RX5 57 Lib.Math.max.name ∈ gdW := gin 500 (by decide +kernel) rfl
theorem mth_s_max : Cond.static Lib.Math.max.name ∈ gdW := gin 501 (by decide +kernel) rfl
theorem mth_c_max : Cond.code Lib.Math.max.name Lib.Math.max.code 2 (some .int) ∈ gdW := gin 502 (by decide +kernel) rfl
