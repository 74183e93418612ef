/-! the van's table: an array of rows -/
def isRw (k : Ln) : Bool := decide (k.1 = 4) && decide (k.2.1 = 0) && decide (k.2.2 < 9)
theorem isRw_of {k : Ln} (h : isRw k = true) : k = (4, 0, k.2.2) ∧ k.2.2 < 9 := by
  rcases k with ⟨a, b, c⟩
  simp [isRw] at h
  obtain ⟨⟨rfl, rfl⟩, h3⟩ := h
  exact ⟨rfl, h3⟩
def grM (S : Mm) : Mm := (fun k j => if k = (0, 0, 9) then 0 else if isRw k = true then 0 else S.1 k j, fun k j => if k = (0, 0, 9) then (if j < 9 then some (4, 0, j) else none) else if isRw k = true then none else S.2.1 k j, fun k => if k = (0, 0, 9) then true else if isRw k = true then true else S.2.2 k)
def grA (ad : Ln → Nat) (z : Nat) : Ln → Nat := fun k => if k = (0, 0, 9) then z else if isRw k = true then z + 1 + k.2.2 else ad k
theorem isRw_9 : isRw (0, 0, 9) = false := rfl
theorem Hp.grid {E : En} {base : Nat} {ad : Ln → Nat} {S : Mm} {H H' : Heap} (h : Hp E base ad S H) (hk : S.2.2 (0, 0, 9) = false) (hr : ∀ r, r < 9 → S.2.2 (4, 0, r) = false) (hb : base ≤ H.size) (ho : ∀ q, q < H.size → H'[q]? = H[q]?) (h1 : H'[H.size]? = some (arrV (E.2.2 5) 9 (fun j => if j < 9 then .ref (H.size + 1 + j) else .null))) (h2 : ∀ r, r < 9 → H'[H.size + 1 + r]? = some (arrV (E.2.2 1) 201 (fun _ => .int 0))) : Hp E base (grA ad H.size) (grM S) H' := by
  obtain ⟨g1, g2, g3⟩ := h
  have nrow : ∀ k, S.2.2 k = true → k ≠ (0, 0, 9) ∧ isRw k = false := fun k hl => by
    refine ⟨(fun e => by rw [e, hk] at hl; cases hl), ?_⟩
    cases e : isRw k with
    | false => rfl
    | true =>
      have := isRw_of e
      rw [this.1, hr _ this.2] at hl
      cases hl
  have old : ∀ k, k ≠ (0, 0, 9) → isRw k = false → (grM S).2.2 k = true → S.2.2 k = true := fun k e1 e2 hl => by simpa [grM, e1, e2] using hl
  have adO : ∀ k, S.2.2 k = true → grA ad H.size k = ad k := fun k hl => by
    obtain ⟨e1, e2⟩ := nrow k hl
    simp [grA, e1, e2]
  have hlt : ∀ q, S.2.2 q = true → ad q < H.size := fun q hq => (g1 q hq).1.lt
  refine ⟨fun q hq => ?_, fun i j hi hj e => ?_, fun q j r hq hrr => ?_⟩
  · by_cases e1 : q = (0, 0, 9)
    · subst e1
      refine ⟨arr_ok (t := 5) (n := 9) rfl (by decide) ?_, hb⟩
      show H'[H.size]? = _
      rw [h1]
      congr 2
      funext j
      by_cases hj : j < 9 <;> simp [aval, grM, hj, vo, grA, isRw]
    · cases e2 : isRw q with
      | true =>
        obtain ⟨e3, e4⟩ := isRw_of e2
        have ek : kd q = (1, 201) := by rw [e3]; rfl
        have ea : grA ad H.size q = H.size + 1 + q.2.2 := by simp [grA, e1, e2]
        refine ⟨arr_ok ek (by decide) ?_, by rw [ea]; omega⟩
        rw [ea, h2 _ e4]
        congr 2
        funext j
        simp [aval, grM, e1, e2]
      | false =>
        have hl := old q e1 e2 hq
        refine ⟨?_, by rw [adO q hl]; exact (g1 q hl).2⟩
        have c1 := ((g1 q hl).1.kept (ho _ (hlt q hl))).congr (S' := grM S) (fun j => by simp [grM, e1, e2]) (fun j => by simp [grM, e1, e2])
        refine c1.ad (adO q hl) (fun j r hrr => ?_)
        have hr' : S.2.1 q j = some r := by simpa [grM, e1, e2] using hrr
        exact adO r (g3 q j r hl hr')
  · have cls : ∀ k, (grM S).2.2 k = true → (k = (0, 0, 9) ∧ grA ad H.size k = H.size) ∨ (isRw k = true ∧ grA ad H.size k = H.size + 1 + k.2.2) ∨ (S.2.2 k = true ∧ grA ad H.size k = ad k ∧ ad k < H.size) := fun k hl => by
      by_cases e1 : k = (0, 0, 9)
      · subst e1; exact Or.inl ⟨rfl, rfl⟩
      · cases e2 : isRw k with
        | true => exact Or.inr (Or.inl ⟨rfl, by simp [grA, e1, e2]⟩)
        | false => exact Or.inr (Or.inr ⟨old k e1 e2 hl, adO k (old k e1 e2 hl), hlt k (old k e1 e2 hl)⟩)
    rcases cls i hi with ⟨a1, a2⟩ | ⟨a1, a2⟩ | ⟨a1, a2, a3⟩ <;> rcases cls j hj with ⟨b1, b2⟩ | ⟨b1, b2⟩ | ⟨b1, b2, b3⟩
    · rw [a1, b1]
    · rw [a2, b2] at e; omega
    · rw [a2, b2] at e; omega
    · rw [a2, b2] at e; omega
    · rw [a2, b2] at e
      rw [(isRw_of a1).1, (isRw_of b1).1]
      have : i.2.2 = j.2.2 := by omega
      rw [this]
    · rw [a2, b2] at e; omega
    · rw [a2, b2] at e; omega
    · rw [a2, b2] at e; omega
    · rw [a2, b2] at e; exact g2 i j a1 b1 e
  · by_cases e1 : q = (0, 0, 9)
    · subst e1
      have hrr : (if j < 9 then some ((4, 0, j) : Ln) else none) = some r := by simpa [grM] using hrr
      by_cases hj : j < 9
      · rw [if_pos hj] at hrr
        cases hrr
        simp [grM, isRw, hj]
      · rw [if_neg hj] at hrr
        cases hrr
    · cases e2 : isRw q with
      | true => simp [grM, e1, e2] at hrr
      | false =>
        have hl := old q e1 e2 hq
        have hr' : S.2.1 q j = some r := by simpa [grM, e1, e2] using hrr
        have hl2 := g3 q j r hl hr'
        obtain ⟨n1, n2⟩ := nrow r hl2
        simp [grM, n1, n2, hl2]
theorem outer_eq' (cA : ClassId) (N z : Nat) : ∀ i, Jvm.Free.Multi.outerC cA N z i = arrV cA N (fun j => if j < i then .ref (z + 1 + j) else .null)
  | 0 => by
    show ({ cls := cA, slots := Array.replicate N .null, vm := .none } : Cell) = _
    rw [arrV_new]; rfl
  | i + 1 => by
    show (Jvm.Free.Multi.outerC cA N z i).setSlot i (.ref (z + 1 + i)) = _
    rw [outer_eq' cA N z i, arrV_store]
    congr 1
    funext j
    unfold updV
    by_cases e : j = i
    · subst e; rw [if_pos rfl, if_pos (Nat.lt_succ_self _)]
    · rw [if_neg e]
      show (if j < i then _ else _) = _
      by_cases e2 : j < i
      · rw [if_pos e2, if_pos (by omega)]
      · rw [if_neg e2, if_neg (by omega)]
theorem outer_eq (cA : ClassId) (z : Nat) : Jvm.Free.Multi.outerC cA 9 z 9 = arrV cA 9 (fun j => if j < 9 then .ref (z + 1 + j) else .null) := outer_eq' cA 9 z 9
/-- no reference to a name that the table takes -/
def noG : AV → Bool
  | .inr (some k) => !(decide (k = (0, 0, 9)) || isRw k)
  | _ => true
theorem tr_noG {ad : Ln → Nat} {z : Nat} {v : AV} (h : noG v = true) : tr (grA ad z) v = tr ad v := by
  rcases v with x | o
  · rfl
  · cases o with
    | none => rfl
    | some k =>
      have h' : ¬ k = (0, 0, 9) ∧ isRw k = false := by simpa [noG] using h
      show Value.ref (grA ad z k) = .ref (ad k)
      unfold grA
      rw [if_neg h'.1, h'.2, if_neg (by decide)]
theorem g_grid {X : Xt} {Y : Yt} {cc : ByteArray} {nL : Nat} {own : String} {cells slots : Nat} {S : Mm} {pc : Nat} {L : List (Nat × AV)} {st : List AV} (C : Cx X Y cc nL own) {index : Nat} (hk : S.2.2 (0, 0, 9) = false) (hr : ∀ r, r < 9 → S.2.2 (4, 0, r) = false) (hf9 : Y.2.2.2.2 (0, 0, 9) = true) (hfr : ∀ r, r < 9 → Y.2.2.2.2 (4, 0, r) = true) (hL : L.all (fun q => noG q.2) = true) (hst : st.all noG = true) (hlink : Cond.classLink own index "[[I" ∈ gdW) (hac : Cond.arrayClass .int ∈ gdW) (hc : cells + 10 ≤ X.2.2.2.1.cells) (hs : slots + 1818 ≤ X.2.2.2.1.slots) (hd : decode cc pc = .ok (.multianewarray index 2, 4)) (kk : G X Y (cells + 10) (slots + 1818) (grM S) (pc + 4) L (vr (0, 0, 9) :: st)) : G X Y cells slots S pc L (vi 201 :: vi 9 :: st) := by
  intro ad H locs ls hI hl T hT XX
  have hts := C.2.2.2.2.1
  have hKU := C.2.2.2.2.2.1
  have hb : Y.2.1 ≤ H.size := Nat.le_trans hKU.2.2.2.2.2.1 hI.2.2.2.1
  have hover : (Cond.arrayOver (.array .int)).before X.2.2.2.2.2.2.1 X.2.2.2.2.1 = true := hKU.2.2.2.2.2.2.2.2
  have n9 : (9 : Int32).toNatClampNeg = 9 := by decide
  have n201 : (201 : Int32).toNatClampNeg = 201 := by decide
  obtain ⟨vm₁, cA, comp, -, hfA, hfC, -, -, X1, step⟩ := XX.multianewarray2F C.1 C.2.2.2.1 (ty := .int) (hts _ hlink) hover (hts _ hac) (g := F0 X.2.2.2.2.2.1 pc ls ((vi 201 :: vi 9 :: st).map (tr ad))) rfl (by rw [C.2.1]; exact hd) (n := 9) (k := 201) (rest := st.map (tr ad)) rfl (by decide) (by decide) (by decide) (by decide) (by decide) rfl rfl (by rw [n9]; omega) (by rw [n9, n201]; omega)
  rw [n9, n201] at X1 step
  have hsz : (T.setVm vm₁).heap.size = H.size := by rw [← hT]; rfl
  obtain ⟨f1, f2, -, -⟩ := Jvm.Free.Multi.fill_facts (T.setVm vm₁) cA comp 9 201 (defaultValue .int) 9
  have fo := fun (a : Addr) (ha : a < H.size) => Jvm.Free.Multi.fill_old (T.setVm vm₁) cA comp 9 201 (defaultValue .int) (a := a) (by rw [hsz]; exact ha) 9
  have fi := fun (j : Nat) (hj : j < 9) => Jvm.Free.Multi.fill_inner (T.setVm vm₁) cA comp 9 201 (defaultValue .int) 9 j hj
  rw [hsz] at f1 f2 fi
  have hcA : cA = Y.1.2.2 5 := Option.some.inj (hfA.symm.trans (hKU.1.2 4 _ rfl).2)
  have hcI : comp = Y.1.2.2 1 := Option.some.inj (hfC.symm.trans (hKU.1.2 0 _ rfl).2)
  generalize hHH : (Jvm.Free.Multi.fill (T.setVm vm₁) cA comp 9 201 (defaultValue .int) 9).heap = H' at f1 f2 fo fi
  have fo' : ∀ q, q < H.size → H'[q]? = H[q]? := fun q hq => by rw [fo q hq, ← hT]; rfl
  have hP : Hp Y.1 Y.2.1 (grA ad H.size) (grM S) H' := hI.1.grid hk hr hb fo' (by rw [f2, outer_eq, hcA]) (fun r hr9 => by rw [fi r hr9, ← hcI, ← arrV_new]; rfl)
  have kk' := kk (grA ad H.size) H' locs ls ⟨hP, fun q hq => ?_, ?_, ?_, fun q g1 g2 => (fo' q (Nat.lt_of_lt_of_le g1 hI.2.2.2.1)).trans (hI.2.2.2.2.1 q g1 g2), hI.2.2.2.2.2⟩ ?_ _ hHH X1
  · obtain ⟨t, a1, b1⟩ := kk'
    refine ⟨t, step t ?_, b1⟩
    have e : (vr (0, 0, 9) :: st).map (tr (grA ad H.size)) = .ref T.heap.size :: st.map (tr ad) := by
      rw [List.map_cons, hT, List.map_congr_left (fun v hv => tr_noG (List.all_eq_true.mp hst v hv))]
      rfl
    rw [e] at a1
    exact a1
  · have e1 : ¬ q = (0, 0, 9) := fun e => by rw [e, hf9] at hq; cases hq
    have e2 : ¬ isRw q = true := fun e => by rw [(isRw_of e).1, hfr _ (isRw_of e).2] at hq; cases hq
    show grA ad H.size q = _
    unfold grA
    rw [if_neg e1, if_neg e2]
    exact hI.2.1 q hq
  · show grA ad H.size wK = _
    exact hI.2.2.1
  · exact Nat.le_trans hI.2.2.2.1 (by rw [f1]; omega)
  · have : trL (grA ad H.size) L = trL ad L := List.map_congr_left (fun v hv => by rw [tr_noG (List.all_eq_true.mp hL v hv)])
    rw [this]
    exact hl
