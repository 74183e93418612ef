/-! LOGICAL MEMORY: every cell that the two systems make has a logical name (a triple); values on the frame and in the cells are logical; ad gives a name's address. -/
abbrev Ln : Type := Nat × Nat × Nat
abbrev AV : Type := Int32 ⊕ Option Ln
abbrev Mm : Type := (Ln → Nat → Int32) × (Ln → Nat → Option Ln) × (Ln → Bool)
abbrev En : Type := (Nat → ClassId) × (Nat → Nat → Nat) × (Nat → ClassId)
abbrev vi (x : Int32) : AV := Sum.inl x
abbrev vr (k : Ln) : AV := Sum.inr (some k)
abbrev vn : AV := Sum.inr none
def wI (S : Mm) (k : Ln) (j : Nat) (v : Int32) : Mm := (fun k' j' => if k' = k ∧ j' = j then v else S.1 k' j', S.2)
def wR (S : Mm) (k : Ln) (j : Nat) (r : Option Ln) : Mm := (S.1, fun k' j' => if k' = k ∧ j' = j then r else S.2.1 k' j', S.2.2)
def nwm (S : Mm) (k : Ln) : Mm := (fun k' j' => if k' = k then 0 else S.1 k' j', fun k' j' => if k' = k then none else S.2.1 k' j', fun k' => if k' = k then true else S.2.2 k')
/-- the name of the class's constant array -/
def wK : Ln := (9, 0, 0)
/-- kinds: (0, class) an object; (1, n) int[n]; (2, n) boolean[n]; (3, n) Machine[n]; (4, n) Lane[n]; (5, n) int[n][] -/
def kd0 : Nat → Nat × Nat
  | 0 => (0, 6) | 1 => (3, 6) | 2 => (1, 16) | 3 => (1, 7) | 4 => (1, 6) | 5 => (0, 0) | 6 => (1, 6) | 7 => (1, 6) | 8 => (0, 5) | 9 => (5, 9) | _ => (1, 8)
def kdM : Nat → Nat × Nat
  | 0 => (0, 3) | 1 => (4, 8) | 2 => (0, 4) | 3 => (1, 6) | 4 => (1, 6) | 5 => (1, 6) | 6 => (1, 6) | 7 => (1, 6) | 8 => (1, 6) | 9 => (1, 6) | 10 => (0, 1) | _ => (1, 384)
def kd7 : Nat → Nat × Nat
  | 0 => (0, 7) | 2 => (1, 6) | 3 => (1, 36) | 4 => (1, 36) | 5 => (1, 36) | 6 => (1, 36) | 7 => (1, 36) | 8 => (2, 6) | 9 => (1, 6)
  | 10 => (1, 48) | 11 => (1, 48) | 12 => (1, 48) | 13 => (1, 48) | 14 => (1, 48) | 15 => (1, 48) | 16 => (1, 48) | 17 => (1, 48) | 18 => (2, 48) | 19 => (2, 48)
  | 20 => (1, 16) | 21 => (1, 2304) | 22 => (1, 2304) | 23 => (1, 6) | 24 => (1, 6) | 25 => (1, 6) | 26 => (1, 6) | 28 => (1, 6) | 29 => (1, 8) | 30 => (1, 7) | 31 => (1, 14007) | 32 => (1, 6) | _ => (1, 1809)
def kd (k : Ln) : Nat × Nat := match k.1 with
  | 0 => kd0 k.2.2
  | 1 => kdM k.2.2
  | 2 => kd7 k.2.2
  | 3 => (0, 2)
  | _ => (1, 201)
def tyC (ci : Nat) : Nat → FieldType := match ci with
  | 0 => tyX0 | 1 => tyX1 | 2 => tyX2 | 3 => tyX3 | 4 => tyX4 | 5 => tyX5 | 6 => tyX6 | _ => tyX7
def isRefT : FieldType → Bool
  | .int => false
  | .boolean => false
  | _ => true
def nfC (ci : Nat) : Nat := match ci with
  | 0 => 2 | 1 => 2 | 2 => 10 | 3 => 10 | 4 => 8 | 5 => 2 | 6 => 9 | _ => 34
def vo (ad : Ln → Nat) : Option Ln → Value
  | none => .null
  | some k => .ref (ad k)
def tr (ad : Ln → Nat) : AV → Value
  | .inl x => .int x
  | .inr o => vo ad o
def fval (ad : Ln → Nat) (S : Mm) (k : Ln) (ci j : Nat) : Value := if isRefT (tyC ci j) = true then vo ad (S.2.1 k j) else .int (S.1 k j)
def aval (ad : Ln → Nat) (S : Mm) (k : Ln) (t j : Nat) : Value := if t ≤ 2 then .int (S.1 k j) else vo ad (S.2.1 k j)
def cellOK (E : En) (ad : Ln → Nat) (S : Mm) (k : Ln) (H : Heap) : Prop :=
  if (kd k).1 = 0 then t_OB (ad k) (E.1 (kd k).2) (nfC (kd k).2) (E.2.1 (kd k).2) H (fval ad S k (kd k).2)
  else H[ad k]? = some (arrV (E.2.2 (kd k).1) (kd k).2 (aval ad S k (kd k).1))
def Hp (E : En) (base : Nat) (ad : Ln → Nat) (S : Mm) (H : Heap) : Prop :=
  (∀ k, S.2.2 k = true → cellOK E ad S k H ∧ base ≤ ad k) ∧ (∀ j k, S.2.2 j = true → S.2.2 k = true → ad j = ad k → j = k) ∧ (∀ k j r, S.2.2 k = true → S.2.1 k j = some r → S.2.2 r = true)
/-- the words: those of private members of nest mates stand apart -/
def isNest : Cond → Bool
  | .fieldLinkNest .. => true
  | .methodLinkNest .. => true
  | _ => false
def gdW : List Cond := lw_tbl.filter goodWord
def nsW : List Cond := lw_tbl.filter isNest
def wths : Nat → Int32
  | 0 => 500 | 1 => 200 | 2 => 100 | 3 => 50 | 4 => 20 | _ => 10
def KU (E : En) (base aw : Nat) (U : State) : Prop :=
  va_K (E.1, E.2.1) vwCl [(E.2.2 1, .int), (E.2.2 2, .boolean), (E.2.2 3, .object RX3), (E.2.2 4, .object RX2), (E.2.2 5, .array .int)] U ∧ (∀ w ∈ nsW, va_Nw w U)
  ∧ va_Z RX6 "WORTHS" "[I" (.ref aw) (fun q => base ≤ q) U U.heap ∧ va_X aw 6 wths U U.heap ∧ aw < base ∧ base ≤ U.heap.size ∧ va_AO RX3 U ∧ va_AO RX2 U ∧ (Cond.arrayOver (.array .int)).before #[] U = true
/-- the machine, the method, its end; and the surroundings: class numbers, base, the constant array's place, addresses at the start, the names that may come new -/
abbrev Xt : Type := Program × Launch × Env × Room × State × MethodId × Array Value × List Frame × Method × Code × (State → Prop)
abbrev Yt : Type := En × Nat × Nat × (Ln → Nat) × (Ln → Bool)
def Inv (Y : Yt) (s : State) (ad : Ln → Nat) (S : Mm) (H : Heap) (locs : List Loc) : Prop :=
  Hp Y.1 Y.2.1 ad S H ∧ (∀ k, Y.2.2.2.2 k = false → ad k = Y.2.2.2.1 k) ∧ ad wK = Y.2.2.1 ∧ va_S (fun q => Y.2.1 ≤ q) s.heap H locs
def trL (ad : Ln → Nat) (L : List (Nat × AV)) : List (Nat × Value) := L.map (fun q => (q.1, tr ad q.2))
def G (X : Xt) (Y : Yt) (cells slots : Nat) (S : Mm) (pc : Nat) (L : List (Nat × AV)) (st : List AV) : Prop :=
  ∀ (ad : Ln → Nat) (H : Heap) (locs : List Loc) (ls : Array Slot), Inv Y X.2.2.2.2.1 ad S H locs → lv_has ls X.2.2.2.2.2.2.2.2.2.1.maxLocals (trL ad L) →
    W X.1 X.2.1 X.2.2.1 X.2.2.2.1 X.2.2.2.2.1 X.2.2.2.2.2.1 X.2.2.2.2.2.2.1 X.2.2.2.2.2.2.2.1 X.2.2.2.2.2.2.2.2.1 X.2.2.2.2.2.2.2.2.2.1 H locs cells slots X.2.2.2.2.2.2.2.2.2.2 (F0 X.2.2.2.2.2.1 pc ls (st.map (tr ad)))
/-- what holds all through a method's body -/
def Cx (X : Xt) (Y : Yt) (cc : ByteArray) (nL : Nat) (own : String) : Prop :=
  X.1.tables.exec = Jvm.exec ∧ X.2.2.2.2.2.2.2.2.2.1.code = cc ∧ X.2.2.2.2.2.2.2.2.2.1.maxLocals = nL ∧ X.2.2.2.2.1.vm.findClass own = some X.2.2.2.2.2.1.cls ∧ (∀ w ∈ gdW, w.before X.2.2.2.2.2.2.1 X.2.2.2.2.1 = true) ∧ KU Y.1 Y.2.1 Y.2.2.1 X.2.2.2.2.1 ∧ X.2.2.2.2.2.2.2.2.1.locks = false
def lk : List (Nat × AV) → Nat → Option AV
  | [], _ => none
  | q :: t, i => if q.1 = i then some q.2 else lk t i
def sto (L : List (Nat × AV)) (i : Nat) (v : AV) : List (Nat × AV) := (i, v) :: L.filter (fun q => !(q.1 == i))
theorem lk_mem : ∀ {L : List (Nat × AV)} {i : Nat} {v : AV}, lk L i = some v → (i, v) ∈ L
  | [], _, _, h => by cases h
  | q :: t, i, v, h => by
    unfold lk at h
    split at h
    · rename_i e
      cases h
      rw [← e]
      exact List.mem_cons_self
    · exact List.mem_cons_of_mem _ (lk_mem h)
theorem lk_at {ad : Ln → Nat} {ls : Array Slot} {n : Nat} {L : List (Nat × AV)} {i : Nat} {v : AV} (hl : lv_has ls n (trL ad L)) (h : lk L i = some v) : ls[i]? = some (.val (tr ad v)) :=
  hl.2.2 (i, tr ad v) (List.mem_map.mpr ⟨(i, v), lk_mem h, rfl⟩)
theorem tr_cat (ad : Ln → Nat) (v : AV) : (tr ad v).category = 1 := by
  rcases v with x | o
  · rfl
  · cases o <;> rfl
theorem sto_eq (ad : Ln → Nat) (L : List (Nat × AV)) (i : Nat) (v : AV) : (i, tr ad v) :: (trL ad L).filter (fun q => !(q.1 == i) && !(q.1 + 1 == i && q.2.category == 2)) = trL ad (sto L i v) := by
  unfold sto trL
  rw [List.map_cons, List.filter_map]
  congr 2
  apply List.filter_congr
  intro q _
  simp [Function.comp, tr_cat]
section GA
variable {X : Xt} {Y : Yt} {cc : ByteArray} {nL : Nat} {own : String} {cells slots : Nat} {S : Mm} {pc : Nat} {L : List (Nat × AV)} {st : List AV}
theorem g_iconst (C : Cx X Y cc nL own) {n : Int} (v : Int32) (hd : decode cc pc = .ok (.iconst n, 1)) (hv : Int32.ofInt n = v) (k : G X Y cells slots S (pc + 1) L (vi v :: st)) : G X Y cells slots S pc L st :=
  fun ad H locs ls hI hl => lv_iconst C.1 C.2.1 hd hv (k ad H locs ls hI hl)
theorem g_bipush (C : Cx X Y cc nL own) {n : Int} (v : Int32) (hd : decode cc pc = .ok (.bipush n, 2)) (hv : (Int8.ofInt n).toInt32 = v) (k : G X Y cells slots S (pc + 2) L (vi v :: st)) : G X Y cells slots S pc L st :=
  fun ad H locs ls hI hl => lv_bipush C.1 C.2.1 hd hv (k ad H locs ls hI hl)
theorem g_sipush (C : Cx X Y cc nL own) {n : Int} (v : Int32) (hd : decode cc pc = .ok (.sipush n, 3)) (hv : (Int16.ofInt n).toInt32 = v) (k : G X Y cells slots S (pc + 3) L (vi v :: st)) : G X Y cells slots S pc L st :=
  fun ad H locs ls hI hl => lv_sipush C.1 C.2.1 hd hv (k ad H locs ls hI hl)
theorem g_ldc (C : Cx X Y cc nL own) {index : Nat} (v : Int32) (hd : decode cc pc = .ok (.ldc index, 2)) (hw : Cond.constant own index v ∈ gdW) (k : G X Y cells slots S (pc + 2) L (vi v :: st)) : G X Y cells slots S pc L st :=
  fun ad H locs ls hI hl => lv_ldc C.1 C.2.1 C.2.2.2.1 (C.2.2.2.2.1 _ hw) hd (k ad H locs ls hI hl)
theorem g_null (C : Cx X Y cc nL own) (hd : decode cc pc = .ok (.aconst_null, 1)) (k : G X Y cells slots S (pc + 1) L (vn :: st)) : G X Y cells slots S pc L st :=
  fun ad H locs ls hI hl => lv_null C.1 C.2.1 hd (k ad H locs ls hI hl)
theorem g_iload_n (C : Cx X Y cc nL own) {k4 : Fin 4} {x : Int32} (hd : decode cc pc = .ok (.iload_n k4, 1)) (hl0 : lk L k4 = some (vi x)) (k : G X Y cells slots S (pc + 1) L (vi x :: st)) : G X Y cells slots S pc L st :=
  fun ad H locs ls hI hl => lv_iload_n C.1 C.2.1 hd rfl (lk_at hl hl0) (k ad H locs ls hI hl)
theorem g_iload (C : Cx X Y cc nL own) {i : Nat} {x : Int32} (hd : decode cc pc = .ok (.iload i, 2)) (hl0 : lk L i = some (vi x)) (k : G X Y cells slots S (pc + 2) L (vi x :: st)) : G X Y cells slots S pc L st :=
  fun ad H locs ls hI hl => lv_iload C.1 C.2.1 hd (lk_at hl hl0) (k ad H locs ls hI hl)
theorem g_aload_n (C : Cx X Y cc nL own) {k4 : Fin 4} {o : Option Ln} (hd : decode cc pc = .ok (.aload_n k4, 1)) (hl0 : lk L k4 = some (.inr o)) (k : G X Y cells slots S (pc + 1) L (.inr o :: st)) : G X Y cells slots S pc L st := by
  intro ad H locs ls hI hl
  cases o with
  | none => exact lv_aload_nN C.1 C.2.1 hd rfl (lk_at hl hl0) (k ad H locs ls hI hl)
  | some q => exact lv_aload_n C.1 C.2.1 hd rfl (lk_at hl hl0) (k ad H locs ls hI hl)
theorem g_aload (C : Cx X Y cc nL own) {i : Nat} {o : Option Ln} (hd : decode cc pc = .ok (.aload i, 2)) (hl0 : lk L i = some (.inr o)) (k : G X Y cells slots S (pc + 2) L (.inr o :: st)) : G X Y cells slots S pc L st := by
  intro ad H locs ls hI hl
  cases o with
  | none => exact lv_aloadN C.1 C.2.1 hd (lk_at hl hl0) (k ad H locs ls hI hl)
  | some q => exact lv_aload C.1 C.2.1 hd (lk_at hl hl0) (k ad H locs ls hI hl)
theorem g_istore_n (C : Cx X Y cc nL own) {k4 : Fin 4} {x : Int32} (hd : decode cc pc = .ok (.istore_n k4, 1)) (hn : (k4 : Nat) < nL) (k : G X Y cells slots S (pc + 1) (sto L k4 (vi x)) st) : G X Y cells slots S pc L (vi x :: st) :=
  fun ad H locs ls hI hl => lv_istore_n C.1 C.2.1 hd rfl hl (by rw [C.2.2.1]; exact hn) (sto_eq ad L k4 (vi x)) (fun ls' h' => k ad H locs ls' hI h')
theorem g_istore (C : Cx X Y cc nL own) {i : Nat} {x : Int32} (hd : decode cc pc = .ok (.istore i, 2)) (hn : i < nL) (k : G X Y cells slots S (pc + 2) (sto L i (vi x)) st) : G X Y cells slots S pc L (vi x :: st) :=
  fun ad H locs ls hI hl => lv_istore C.1 C.2.1 hd hl (by rw [C.2.2.1]; exact hn) (sto_eq ad L i (vi x)) (fun ls' h' => k ad H locs ls' hI h')
theorem g_astore_n (C : Cx X Y cc nL own) {k4 : Fin 4} {o : Option Ln} (hd : decode cc pc = .ok (.astore_n k4, 1)) (hn : (k4 : Nat) < nL) (k : G X Y cells slots S (pc + 1) (sto L k4 (.inr o)) st) : G X Y cells slots S pc L (.inr o :: st) := by
  intro ad H locs ls hI hl
  cases o with
  | none => exact lv_astore_nN C.1 C.2.1 hd rfl hl (by rw [C.2.2.1]; exact hn) (sto_eq ad L k4 vn) (fun ls' h' => k ad H locs ls' hI h')
  | some q => exact lv_astore_n C.1 C.2.1 hd rfl hl (by rw [C.2.2.1]; exact hn) (sto_eq ad L k4 (vr q)) (fun ls' h' => k ad H locs ls' hI h')
theorem g_astore (C : Cx X Y cc nL own) {i : Nat} {o : Option Ln} (hd : decode cc pc = .ok (.astore i, 2)) (hn : i < nL) (k : G X Y cells slots S (pc + 2) (sto L i (.inr o)) st) : G X Y cells slots S pc L (.inr o :: st) := by
  intro ad H locs ls hI hl
  cases o with
  | none => exact lv_astoreN C.1 C.2.1 hd hl (by rw [C.2.2.1]; exact hn) (sto_eq ad L i vn) (fun ls' h' => k ad H locs ls' hI h')
  | some q => exact lv_astore C.1 C.2.1 hd hl (by rw [C.2.2.1]; exact hn) (sto_eq ad L i (vr q)) (fun ls' h' => k ad H locs ls' hI h')
theorem g_iinc (C : Cx X Y cc nL own) {i : Nat} {n : Int} {x : Int32} (v : Int32) (hd : decode cc pc = .ok (.iinc i n, 3)) (hl0 : lk L i = some (vi x)) (hn : i < nL) (hv : Int32.ofInt n = v) (k : G X Y cells slots S (pc + 3) (sto L i (vi (x + v))) st) : G X Y cells slots S pc L st := by
  intro ad H locs ls hI hl
  obtain ⟨z, hz⟩ := List.getElem?_of_mem (List.mem_map.mpr ⟨(i, vi x), lk_mem hl0, rfl⟩ : (i, tr ad (vi x)) ∈ trL ad L)
  exact lv_iinc C.1 C.2.1 hd hl hz (by rw [hv]) (by rw [C.2.2.1]; exact hn) (sto_eq ad L i (vi (x + v))) (fun ls' h' => k ad H locs ls' hI h')
theorem g_iadd (C : Cx X Y cc nL own) {x y : Int32} (hd : decode cc pc = .ok (.iadd, 1)) (k : G X Y cells slots S (pc + 1) L (vi (x + y) :: st)) : G X Y cells slots S pc L (vi y :: vi x :: st) :=
  fun ad H locs ls hI hl => lv_iadd C.1 C.2.1 hd (k ad H locs ls hI hl)
theorem g_isub (C : Cx X Y cc nL own) {x y : Int32} (hd : decode cc pc = .ok (.isub, 1)) (k : G X Y cells slots S (pc + 1) L (vi (x - y) :: st)) : G X Y cells slots S pc L (vi y :: vi x :: st) :=
  fun ad H locs ls hI hl => lv_isub C.1 C.2.1 hd (k ad H locs ls hI hl)
theorem g_imul (C : Cx X Y cc nL own) {x y : Int32} (hd : decode cc pc = .ok (.imul, 1)) (k : G X Y cells slots S (pc + 1) L (vi (x * y) :: st)) : G X Y cells slots S pc L (vi y :: vi x :: st) :=
  fun ad H locs ls hI hl => lv_imul C.1 C.2.1 hd (k ad H locs ls hI hl)
theorem g_iand (C : Cx X Y cc nL own) {x y : Int32} (hd : decode cc pc = .ok (.iand, 1)) (k : G X Y cells slots S (pc + 1) L (vi (x &&& y) :: st)) : G X Y cells slots S pc L (vi y :: vi x :: st) :=
  fun ad H locs ls hI hl => lv_iand C.1 C.2.1 hd (k ad H locs ls hI hl)
theorem g_ior (C : Cx X Y cc nL own) {x y : Int32} (hd : decode cc pc = .ok (.ior, 1)) (k : G X Y cells slots S (pc + 1) L (vi (x ||| y) :: st)) : G X Y cells slots S pc L (vi y :: vi x :: st) :=
  fun ad H locs ls hI hl => lv_ior C.1 C.2.1 hd (k ad H locs ls hI hl)
theorem g_idiv (C : Cx X Y cc nL own) {x y : Int32} (hd : decode cc pc = .ok (.idiv, 1)) (hne : ¬ y = 0) (k : G X Y cells slots S (pc + 1) L (vi (x / y) :: st)) : G X Y cells slots S pc L (vi y :: vi x :: st) :=
  fun ad H locs ls hI hl => lv_idiv C.1 C.2.1 hd hne (k ad H locs ls hI hl)
theorem g_irem (C : Cx X Y cc nL own) {x y : Int32} (hd : decode cc pc = .ok (.irem, 1)) (hne : ¬ y = 0) (k : G X Y cells slots S (pc + 1) L (vi (x - x / y * y) :: st)) : G X Y cells slots S pc L (vi y :: vi x :: st) :=
  fun ad H locs ls hI hl => lv_irem C.1 C.2.1 hd hne (k ad H locs ls hI hl)
theorem g_ineg (C : Cx X Y cc nL own) {x : Int32} (hd : decode cc pc = .ok (.ineg, 1)) (k : G X Y cells slots S (pc + 1) L (vi (-x) :: st)) : G X Y cells slots S pc L (vi x :: st) :=
  fun ad H locs ls hI hl => lv_ineg C.1 C.2.1 hd (k ad H locs ls hI hl)
theorem g_ishl (C : Cx X Y cc nL own) {x y : Int32} (hd : decode cc pc = .ok (.ishl, 1)) (k : G X Y cells slots S (pc + 1) L (vi (x <<< (y &&& 31)) :: st)) : G X Y cells slots S pc L (vi y :: vi x :: st) :=
  fun ad H locs ls hI hl => lv_ishl C.1 C.2.1 hd (k ad H locs ls hI hl)
theorem g_ishr (C : Cx X Y cc nL own) {x y : Int32} (hd : decode cc pc = .ok (.ishr, 1)) (k : G X Y cells slots S (pc + 1) L (vi (x >>> (y &&& 31)) :: st)) : G X Y cells slots S pc L (vi y :: vi x :: st) :=
  fun ad H locs ls hI hl => lv_ishr C.1 C.2.1 hd (k ad H locs ls hI hl)
theorem g_dup (C : Cx X Y cc nL own) {v : AV} (hd : decode cc pc = .ok (.dup, 1)) (k : G X Y cells slots S (pc + 1) L (v :: v :: st)) : G X Y cells slots S pc L (v :: st) :=
  fun ad H locs ls hI hl => lv_dup C.1 C.2.1 hd (tr_cat ad v) (k ad H locs ls hI hl)
theorem g_dup2 (C : Cx X Y cc nL own) {v w : AV} (hd : decode cc pc = .ok (.dup2, 1)) (k : G X Y cells slots S (pc + 1) L (v :: w :: v :: w :: st)) : G X Y cells slots S pc L (v :: w :: st) :=
  fun ad H locs ls hI hl => lv_dup2_11 C.1 C.2.1 hd (tr_cat ad v) (tr_cat ad w) (k ad H locs ls hI hl)
theorem g_pop (C : Cx X Y cc nL own) {v : AV} (hd : decode cc pc = .ok (.pop, 1)) (k : G X Y cells slots S (pc + 1) L st) : G X Y cells slots S pc L (v :: st) :=
  fun ad H locs ls hI hl => lv_pop C.1 C.2.1 hd (tr_cat ad v) (k ad H locs ls hI hl)
theorem g_goto (C : Cx X Y cc nL own) {off : Int} (tgt : Nat) (hd : decode cc pc = .ok (.goto off, 3)) (ht : (pc : Int) + off = (tgt : Int)) (k : G X Y cells slots S tgt L st) : G X Y cells slots S pc L st :=
  fun ad H locs ls hI hl => lv_goto C.1 C.2.1 hd ht (k ad H locs ls hI hl)
theorem g_ifnull (C : Cx X Y cc nL own) {o : Option Ln} {off : Int} (tgt : Nat) (hd : decode cc pc = .ok (.ifnull off, 3)) (ht : (pc : Int) + off = (tgt : Int)) (kt : o = none → G X Y cells slots S tgt L st) (kf : ∀ q, o = some q → G X Y cells slots S (pc + 3) L st) : G X Y cells slots S pc L (.inr o :: st) := by
  intro ad H locs ls hI hl
  cases o with
  | none => exact lv_ifnullN C.1 C.2.1 hd ht (kt rfl ad H locs ls hI hl)
  | some q => exact lv_ifnull C.1 C.2.1 hd (kf q rfl ad H locs ls hI hl)
theorem g_ifnonnull (C : Cx X Y cc nL own) {o : Option Ln} {off : Int} (tgt : Nat) (hd : decode cc pc = .ok (.ifnonnull off, 3)) (ht : (pc : Int) + off = (tgt : Int)) (kt : ∀ q, o = some q → G X Y cells slots S tgt L st) (kf : o = none → G X Y cells slots S (pc + 3) L st) : G X Y cells slots S pc L (.inr o :: st) := by
  intro ad H locs ls hI hl
  cases o with
  | none => exact lv_ifnonnullN C.1 C.2.1 hd (kf rfl ad H locs ls hI hl)
  | some q => exact lv_ifnonnull C.1 C.2.1 hd ht (kt q rfl ad H locs ls hI hl)
theorem g_if_eq (C : Cx X Y cc nL own) {x : Int32} {off : Int} (tgt : Nat) (hd : decode cc pc = .ok (.ifCond .eq off, 3)) (ht : (pc : Int) + off = (tgt : Int)) (kt : x = 0 → G X Y cells slots S tgt L st) (kf : ¬ x = 0 → G X Y cells slots S (pc + 3) L st) : G X Y cells slots S pc L (vi x :: st) :=
  fun ad H locs ls hI hl => lv_if_eq C.1 C.2.1 hd ht (fun q => kt q ad H locs ls hI hl) (fun q => kf q ad H locs ls hI hl)
theorem g_icmp_eq (C : Cx X Y cc nL own) {x y : Int32} {off : Int} (tgt : Nat) (hd : decode cc pc = .ok (.if_icmp .eq off, 3)) (ht : (pc : Int) + off = (tgt : Int)) (kt : x = y → G X Y cells slots S tgt L st) (kf : ¬ x = y → G X Y cells slots S (pc + 3) L st) : G X Y cells slots S pc L (vi y :: vi x :: st) :=
  fun ad H locs ls hI hl => lv_icmp_eq C.1 C.2.1 hd ht (fun q => kt q ad H locs ls hI hl) (fun q => kf q ad H locs ls hI hl)
theorem g_if_ne (C : Cx X Y cc nL own) {x : Int32} {off : Int} (tgt : Nat) (hd : decode cc pc = .ok (.ifCond .ne off, 3)) (ht : (pc : Int) + off = (tgt : Int)) (kt : ¬ x = 0 → G X Y cells slots S tgt L st) (kf : x = 0 → G X Y cells slots S (pc + 3) L st) : G X Y cells slots S pc L (vi x :: st) :=
  fun ad H locs ls hI hl => lv_if_ne C.1 C.2.1 hd ht (fun q => kt q ad H locs ls hI hl) (fun q => kf q ad H locs ls hI hl)
theorem g_icmp_ne (C : Cx X Y cc nL own) {x y : Int32} {off : Int} (tgt : Nat) (hd : decode cc pc = .ok (.if_icmp .ne off, 3)) (ht : (pc : Int) + off = (tgt : Int)) (kt : ¬ x = y → G X Y cells slots S tgt L st) (kf : x = y → G X Y cells slots S (pc + 3) L st) : G X Y cells slots S pc L (vi y :: vi x :: st) :=
  fun ad H locs ls hI hl => lv_icmp_ne C.1 C.2.1 hd ht (fun q => kt q ad H locs ls hI hl) (fun q => kf q ad H locs ls hI hl)
theorem g_if_lt (C : Cx X Y cc nL own) {x : Int32} {off : Int} (tgt : Nat) (hd : decode cc pc = .ok (.ifCond .lt off, 3)) (ht : (pc : Int) + off = (tgt : Int)) (kt : x < 0 → G X Y cells slots S tgt L st) (kf : ¬ x < 0 → G X Y cells slots S (pc + 3) L st) : G X Y cells slots S pc L (vi x :: st) :=
  fun ad H locs ls hI hl => lv_if_lt C.1 C.2.1 hd ht (fun q => kt q ad H locs ls hI hl) (fun q => kf q ad H locs ls hI hl)
theorem g_icmp_lt (C : Cx X Y cc nL own) {x y : Int32} {off : Int} (tgt : Nat) (hd : decode cc pc = .ok (.if_icmp .lt off, 3)) (ht : (pc : Int) + off = (tgt : Int)) (kt : x < y → G X Y cells slots S tgt L st) (kf : ¬ x < y → G X Y cells slots S (pc + 3) L st) : G X Y cells slots S pc L (vi y :: vi x :: st) :=
  fun ad H locs ls hI hl => lv_icmp_lt C.1 C.2.1 hd ht (fun q => kt q ad H locs ls hI hl) (fun q => kf q ad H locs ls hI hl)
theorem g_if_ge (C : Cx X Y cc nL own) {x : Int32} {off : Int} (tgt : Nat) (hd : decode cc pc = .ok (.ifCond .ge off, 3)) (ht : (pc : Int) + off = (tgt : Int)) (kt : 0 ≤ x → G X Y cells slots S tgt L st) (kf : ¬ 0 ≤ x → G X Y cells slots S (pc + 3) L st) : G X Y cells slots S pc L (vi x :: st) :=
  fun ad H locs ls hI hl => lv_if_ge C.1 C.2.1 hd ht (fun q => kt q ad H locs ls hI hl) (fun q => kf q ad H locs ls hI hl)
theorem g_icmp_ge (C : Cx X Y cc nL own) {x y : Int32} {off : Int} (tgt : Nat) (hd : decode cc pc = .ok (.if_icmp .ge off, 3)) (ht : (pc : Int) + off = (tgt : Int)) (kt : y ≤ x → G X Y cells slots S tgt L st) (kf : ¬ y ≤ x → G X Y cells slots S (pc + 3) L st) : G X Y cells slots S pc L (vi y :: vi x :: st) :=
  fun ad H locs ls hI hl => lv_icmp_ge C.1 C.2.1 hd ht (fun q => kt q ad H locs ls hI hl) (fun q => kf q ad H locs ls hI hl)
theorem g_if_gt (C : Cx X Y cc nL own) {x : Int32} {off : Int} (tgt : Nat) (hd : decode cc pc = .ok (.ifCond .gt off, 3)) (ht : (pc : Int) + off = (tgt : Int)) (kt : 0 < x → G X Y cells slots S tgt L st) (kf : ¬ 0 < x → G X Y cells slots S (pc + 3) L st) : G X Y cells slots S pc L (vi x :: st) :=
  fun ad H locs ls hI hl => lv_if_gt C.1 C.2.1 hd ht (fun q => kt q ad H locs ls hI hl) (fun q => kf q ad H locs ls hI hl)
theorem g_icmp_gt (C : Cx X Y cc nL own) {x y : Int32} {off : Int} (tgt : Nat) (hd : decode cc pc = .ok (.if_icmp .gt off, 3)) (ht : (pc : Int) + off = (tgt : Int)) (kt : y < x → G X Y cells slots S tgt L st) (kf : ¬ y < x → G X Y cells slots S (pc + 3) L st) : G X Y cells slots S pc L (vi y :: vi x :: st) :=
  fun ad H locs ls hI hl => lv_icmp_gt C.1 C.2.1 hd ht (fun q => kt q ad H locs ls hI hl) (fun q => kf q ad H locs ls hI hl)
theorem g_if_le (C : Cx X Y cc nL own) {x : Int32} {off : Int} (tgt : Nat) (hd : decode cc pc = .ok (.ifCond .le off, 3)) (ht : (pc : Int) + off = (tgt : Int)) (kt : x ≤ 0 → G X Y cells slots S tgt L st) (kf : ¬ x ≤ 0 → G X Y cells slots S (pc + 3) L st) : G X Y cells slots S pc L (vi x :: st) :=
  fun ad H locs ls hI hl => lv_if_le C.1 C.2.1 hd ht (fun q => kt q ad H locs ls hI hl) (fun q => kf q ad H locs ls hI hl)
theorem g_icmp_le (C : Cx X Y cc nL own) {x y : Int32} {off : Int} (tgt : Nat) (hd : decode cc pc = .ok (.if_icmp .le off, 3)) (ht : (pc : Int) + off = (tgt : Int)) (kt : x ≤ y → G X Y cells slots S tgt L st) (kf : ¬ x ≤ y → G X Y cells slots S (pc + 3) L st) : G X Y cells slots S pc L (vi y :: vi x :: st) :=
  fun ad H locs ls hI hl => lv_icmp_le C.1 C.2.1 hd ht (fun q => kt q ad H locs ls hI hl) (fun q => kf q ad H locs ls hI hl)
theorem g_tabIn (C : Cx X Y cc nL own) {dflt lo hi : Int} {offs : Array Int} {len : Nat} {x : Int32} {off : Int} (tgt : Nat) (hd : decode cc pc = .ok (.tableswitch dflt lo hi offs, len)) (h1 : ¬ x.toInt < lo) (h2 : ¬ hi < x.toInt) (ho : offs[(x.toInt - lo).toNat]? = some off) (ht : (pc : Int) + off = (tgt : Int)) (k : G X Y cells slots S tgt L st) : G X Y cells slots S pc L (vi x :: st) :=
  fun ad H locs ls hI hl => lv_tableIn C.1 C.2.1 hd h1 h2 ho ht (k ad H locs ls hI hl)
theorem g_tabOut (C : Cx X Y cc nL own) {dflt lo hi : Int} {offs : Array Int} {len : Nat} {x : Int32} (tgt : Nat) (hd : decode cc pc = .ok (.tableswitch dflt lo hi offs, len)) (h : x.toInt < lo ∨ hi < x.toInt) (ht : (pc : Int) + dflt = (tgt : Int)) (k : G X Y cells slots S tgt L st) : G X Y cells slots S pc L (vi x :: st) :=
  fun ad H locs ls hI hl => lv_tableOut C.1 C.2.1 hd h ht (k ad H locs ls hI hl)
theorem g_widen {k n : Nat} (h1 : cells ≤ k) (h2 : slots ≤ n) (kk : G X Y k n S pc L st) : G X Y cells slots S pc L st :=
  fun ad H locs ls hI hl => W.widen h1 h2 (kk ad H locs ls hI hl)
theorem g_topi {x : Int32} (k : ∀ y : Int32, y = x → G X Y cells slots S pc L (vi y :: st)) : G X Y cells slots S pc L (vi x :: st) := k x rfl
theorem g_eqi {x : Int32} (y : Int32) (e : x = y) (k : G X Y cells slots S pc L (vi y :: st)) : G X Y cells slots S pc L (vi x :: st) := e ▸ k
theorem g_eqS {S' : Mm} (e : S = S') (k : G X Y cells slots S' pc L st) : G X Y cells slots S pc L st := e ▸ k
end GA
