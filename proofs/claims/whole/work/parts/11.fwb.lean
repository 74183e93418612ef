/-! rows that touch cells -/
theorem cellOK.congr {E : En} {ad : Ln → Nat} {S S' : Mm} {k : Ln} {H : Heap} (h : cellOK E ad S k H) (h1 : ∀ j, S'.1 k j = S.1 k j) (h2 : ∀ j, S'.2.1 k j = S.2.1 k j) : cellOK E ad S' k H := by
  have e1 : ∀ ci, fval ad S' k ci = fval ad S k ci := fun ci => funext fun j => by unfold fval; rw [h1, h2]
  have e2 : ∀ t, aval ad S' k t = aval ad S k t := fun t => funext fun j => by unfold aval; rw [h1, h2]
  unfold cellOK at *
  rw [e1, e2]
  exact h
theorem cellOK.kept {E : En} {ad : Ln → Nat} {S : Mm} {k : Ln} {H H1 : Heap} (h : cellOK E ad S k H) (hq : H1[ad k]? = H[ad k]?) : cellOK E ad S k H1 := by
  unfold cellOK at *
  split
  · rename_i h0
    rw [if_pos h0] at h
    exact h.kept hq
  · rename_i h0
    rw [if_neg h0] at h
    rw [hq]; exact h
theorem cellOK.ad {E : En} {ad ad' : Ln → Nat} {S : Mm} {k : Ln} {H : Heap} (h : cellOK E ad S k H) (hk : ad' k = ad k) (hr : ∀ j r, S.2.1 k j = some r → ad' r = ad r) : cellOK E ad' S k H := by
  have e0 : ∀ j, vo ad' (S.2.1 k j) = vo ad (S.2.1 k j) := fun j => by
    cases h : S.2.1 k j with
    | none => rfl
    | some r => show Value.ref (ad' r) = .ref (ad r); rw [hr j r h]
  have e1 : ∀ ci, fval ad' S k ci = fval ad S k ci := fun ci => funext fun j => by unfold fval; rw [e0]
  have e2 : ∀ t, aval ad' S k t = aval ad S k t := fun t => funext fun j => by unfold aval; rw [e0]
  unfold cellOK at *
  rw [e1, e2, hk]
  exact h
theorem cellOK.lt {E : En} {ad : Ln → Nat} {S : Mm} {k : Ln} {H : Heap} (h : cellOK E ad S k H) : ad k < H.size := by
  unfold cellOK at h
  split at h
  · obtain ⟨cell, h2, -⟩ := h
    exact (Array.getElem?_eq_some_iff.mp h2).1
  · exact (Array.getElem?_eq_some_iff.mp h).1
theorem Hp.upd {E : En} {base : Nat} {ad : Ln → Nat} {S S' : Mm} {k : Ln} {H H' : Heap} (h : Hp E base ad S H) (hl : S'.2.2 = S.2.2) (hk : S.2.2 k = true) (hc : cellOK E ad S' k H') (ho : ∀ q, q ≠ ad k → H'[q]? = H[q]?)
    (hs : ∀ k', k' ≠ k → (∀ j, S'.1 k' j = S.1 k' j) ∧ ∀ j, S'.2.1 k' j = S.2.1 k' j) (hcl : ∀ j r, S'.2.1 k j = some r → S.2.2 r = true) : Hp E base ad S' H' := by
  obtain ⟨h1, h2, h3⟩ := h
  refine ⟨fun k' hk' => ?_, fun i j hi hj => h2 i j (hl ▸ hi) (hl ▸ hj), fun k' j r hk' hr => ?_⟩
  · rw [hl] at hk'
    refine ⟨?_, (h1 k' hk').2⟩
    by_cases e : k' = k
    · subst e; exact hc
    · exact ((h1 k' hk').1.kept (ho _ (fun z => e (h2 k' k hk' hk z)))).congr (hs k' e).1 (hs k' e).2
  · rw [hl] at hk' ⊢
    by_cases e : k' = k
    · subst e; exact hcl j r hr
    · rw [(hs k' e).2] at hr
      exact h3 k' j r hk' hr
/-- a field: its link, its class, its place -/
def FD (own : String) (index ci j : Nat) : Prop := ∃ (C0 : String) (T : u_T) (N : Nat), vwCl[ci]? = some (C0, T, N) ∧ nfC ci = N ∧ j < N ∧ (T j).1 = C0 ∧ (Cond.fieldLink own index C0 (T j).2.1 (T j).2.2.1 ∈ gdW ∨ ∃ host, Cond.fieldLinkNest own index C0 (T j).2.1 (T j).2.2.1 host ∈ nsW) ∧ (∀ w ∈ u_ws C0 T N, w ∈ gdW) ∧ (∀ k, k < N → parseFieldDescriptor (T k).2.2.1 = some (tyC ci k)) ∧ (∀ a, a < N → ∀ b, b < N → a ≠ b → (T a).2.1 ≠ (T b).2.1)
/-- a field that may be written outside a constructor -/
def FM (ci j : Nat) : Prop := ∀ (C0 : String) (T : u_T) (N : Nat), vwCl[ci]? = some (C0, T, N) → (T j).2.2.2 = false
theorem va_Nw_kept {w : Cond} {s U : State} (hW : s.WarmedH U.vm) (hw : isNest w = true) (h : va_Nw w s) : va_Nw w U := by
  cases w <;> first | (simp [isNest] at hw; done) | exact va_Nw.warmF hW h | exact va_Nw.warmM hW h
theorem KU.warm {E : En} {base aw : Nat} {s U : State} (hW : s.WarmedH U.vm) (hh : ∀ q, q < base → U.heap[q]? = s.heap[q]?) (hz : base ≤ U.heap.size) (h : KU E base aw s) : KU E base aw U := by
  obtain ⟨h1, h2, h3, h4, h5, h6, h7, h8, h9⟩ := h
  have hal := hW.alike
  refine ⟨h1.moved hal, fun w hw => va_Nw_kept hW (List.mem_filter.mp hw).2 (h2 w hw), ?_, ?_, h5, hz, h7.moved hal, h8.moved hal, over_moved hal h9⟩
  · refine (h3.moved hal).kept (fun a _ ha => hh a ?_)
    exact Nat.not_le.mp ha
  · exact (h4.moved hal).kept (hh aw h5)
section GB
variable {X : Xt} {Y : Yt} {cc : ByteArray} {nL : Nat} {own : String} {cells slots : Nat} {S : Mm} {pc : Nat} {L : List (Nat × AV)} {st : List AV}
theorem g_getv (C : Cx X Y cc nL own) {k : Ln} {index ci j : Nat} (F : FD own index ci j) (hk : kd k = (0, ci)) (hlv : S.2.2 k = true) (hd : decode cc pc = .ok (.getfield index, 3)) {v : AV} (hv : ∀ ad, fval ad S k ci j = tr ad v) (kk : G X Y cells slots S (pc + 3) L (v :: st)) : G X Y cells slots S pc L (vr k :: st) := by
  intro ad H locs ls hI hl
  obtain ⟨hx, hb, hml, hown, hts, hKU, hlocks⟩ := C
  obtain ⟨C0, T, N, hcl, hnf, hj, hdecl, hlink, hin, hty, hnm⟩ := F
  have hc := (hI.1.1 k hlv).1
  unfold cellOK at hc
  rw [hk, if_pos rfl, hnf] at hc
  obtain ⟨cell, q1, q2, q3, q4⟩ := hc
  obtain ⟨hS, hfc, kC, hkC, hkind⟩ := hKU.1.1 ci _ hcl
  obtain ⟨cf, kf, fi, f, hi, hsl⟩ := hS j hj
  have hst := (u_facts hfc hkC (u_lays hts hin hj) hi).1
  have hval : cell.slots[f.slot]? = some (tr ad v) := by rw [hsl, q4 j hj, hv ad]
  rw [hdecl] at hi
  rcases hlink with hw | ⟨host, hw⟩
  · exact W.getf hx hb hown (hts _ hw) hi hst q1 (by rw [q3]; exact fun h => by cases h) hval rfl rfl hd (kk ad H locs ls hI hl)
  · exact va_Wgetf hx hb hown (va_Nw.use rfl (hKU.2.1 _ hw)) hi hst q1 (by rw [q3]; exact fun h => by cases h) hval rfl rfl hd (kk ad H locs ls hI hl)
theorem g_geti (C : Cx X Y cc nL own) {k : Ln} {index ci j : Nat} (F : FD own index ci j) (hk : kd k = (0, ci)) (hlv : S.2.2 k = true) (hd : decode cc pc = .ok (.getfield index, 3)) (ht : isRefT (tyC ci j) = false) (kk : G X Y cells slots S (pc + 3) L (vi (S.1 k j) :: st)) : G X Y cells slots S pc L (vr k :: st) :=
  g_getv C F hk hlv hd (fun ad => by unfold fval; rw [ht]; rfl) kk
theorem g_getr (C : Cx X Y cc nL own) {k : Ln} {index ci j : Nat} (F : FD own index ci j) (hk : kd k = (0, ci)) (hlv : S.2.2 k = true) (hd : decode cc pc = .ok (.getfield index, 3)) (ht : isRefT (tyC ci j) = true) {o : Option Ln} (ho : S.2.1 k j = o) (kk : G X Y cells slots S (pc + 3) L (.inr o :: st)) : G X Y cells slots S pc L (vr k :: st) :=
  g_getv C F hk hlv hd (fun ad => by unfold fval; rw [ht, ho]; rfl) kk
theorem put_core {E : En} {ad : Ln → Nat} {S S' : Mm} {H' : Heap} {k : Ln} {ci j N : Nat} {cell : Cell} {v : Value} (hk : kd k = (0, ci)) (hnf : nfC ci = N) (hj : j < N) (q2 : cell.cls = E.1 ci) (q3 : cell.vm = .none) (q4 : ∀ i, i < N → cell.slots[E.2.1 ci i]? = some (fval ad S k ci i)) (hap : ∀ x y, x < N → y < N → x ≠ y → E.2.1 ci x ≠ E.2.1 ci y) (e1 : H'[ad k]? = some (cell.setSlot (E.2.1 ci j) v)) (hv : ∀ i, i < N → fval ad S' k ci i = updV (fval ad S k ci) j v i) : cellOK E ad S' k H' := by
  unfold cellOK
  rw [hk, if_pos rfl, hnf]
  exact ⟨_, e1, q2, q3, fun i hi => by rw [hv i hi]; exact t_set q4 hap hj v i hi⟩
theorem g_putv (C : Cx X Y cc nL own) {k : Ln} {index ci j : Nat} (F : FD own index ci j) (hfin : FM ci j ∨ (X.2.2.2.2.2.2.2.2.1.name = "<init>" ∧ ∀ (C0 : String) (T : u_T) (N : Nat), vwCl[ci]? = some (C0, T, N) → C0 = own ∧ (T j).2.2.2 = true)) (hk : kd k = (0, ci)) (hlv : S.2.2 k = true) (hd : decode cc pc = .ok (.putfield index, 3)) {v : AV} (hn : ∀ ad, narrow (tyC ci j) (tr ad v) = tr ad v) (hf : ∀ ad, fits (tyC ci j) (tr ad v) = true) {S' : Mm} (hl' : S'.2.2 = S.2.2) (hs : ∀ k', k' ≠ k → (∀ j, S'.1 k' j = S.1 k' j) ∧ ∀ j, S'.2.1 k' j = S.2.1 k' j) (hcl' : (∀ i r, S.2.1 k i = some r → S.2.2 r = true) → ∀ i r, S'.2.1 k i = some r → S.2.2 r = true) (hv : ∀ ad i, fval ad S' k ci i = updV (fval ad S k ci) j (tr ad v) i)
    (kk : G X Y cells slots S' (pc + 3) L st) : G X Y cells slots S pc L (v :: vr k :: st) := by
  intro ad H locs ls hI hl
  obtain ⟨hx, hb, hml, hown, hts, hKU, hlocks⟩ := C
  obtain ⟨C0, T, N, hcl, hnf, hj, hdecl, hlink, hin, hty, hnm⟩ := F
  have hap := va_apart (own := own) hts hin (tyC ci) hty hnm hKU.1 hcl
  have hc := (hI.1.1 k hlv).1
  unfold cellOK at hc
  rw [hk, if_pos rfl, hnf] at hc
  obtain ⟨cell, q1, q2, q3, q4⟩ := hc
  obtain ⟨hS, hfc, kC, hkC, hkind⟩ := hKU.1.1 ci _ hcl
  obtain ⟨cf, kf, fi, f, hi, hsl⟩ := hS j hj
  have hlay := hts _ (hin _ (u_in_lay hj))
  have hst := (u_facts hfc hkC (u_lays hts hin hj) hi).1
  have hlt : f.slot < cell.slots.size := by rw [hsl]; exact k2_hasslot (q4 j hj)
  have fin : ∀ (H' : Heap), H'[ad k]? = some (cell.setSlot f.slot (tr ad v)) → H'.size = H.size → (∀ q, q ≠ ad k → H'[q]? = H[q]?) → W X.1 X.2.1 X.2.2.1 X.2.2.2.1 X.2.2.2.2.1 X.2.2.2.2.2.1 X.2.2.2.2.2.2.1 X.2.2.2.2.2.2.2.1 X.2.2.2.2.2.2.2.2.1 X.2.2.2.2.2.2.2.2.2.1 H' (locs ++ [⟨ad k, f.slot⟩]) cells slots X.2.2.2.2.2.2.2.2.2.2 (F0 X.2.2.2.2.2.1 (pc + 3) ls (st.map (tr ad))) := by
    intro H' e1 e2 e3
    rw [hsl] at e1 ⊢
    refine kk ad H' _ ls ⟨hI.1.upd hl' hlv (put_core hk hnf hj q2 q3 q4 hap e1 (fun i _ => hv ad i)) e3 hs (hcl' (fun i r hr => hI.1.2.2 k i r hlv hr)), hI.2.1, hI.2.2.1, hI.2.2.2.put e2 e3 (hI.1.1 k hlv).2⟩ hl
  have hi0 := hi
  rw [hdecl] at hi
  unfold u_lay at hlay
  rcases hfin with hfm | ⟨hname, hfm⟩
  · rw [if_neg (by rw [hfm C0 T N hcl]; decide)] at hlay
    have h6 := u_store hfc hkC hkind hlay hi0 (hty j hj) (hn ad) (hf ad)
    rcases hlink with hw | ⟨host, hw⟩
    · exact W.putK hx hb (f := f) ⟨hown, hts _ hw, ⟨_, _, _, hi⟩, hst⟩ (by rw [q2]; exact h6) q1 q3 hlt rfl rfl hd fin
    · exact va_WputK hx hb hown (va_Nw.use rfl (hKU.2.1 _ hw)) hi hst (by rw [q2]; exact h6) q1 q3 hlt rfl rfl hd fin
  · obtain ⟨hCo, hft⟩ := hfm C0 T N hcl
    rw [if_pos hft] at hlay
    have hcf : X.2.2.2.2.2.1.cls = cf := by
      obtain ⟨_, _, c', _, _, _, -, -, hf', -, -, -, hown2, -⟩ := Cond.laysFinal_spec hlay
      have e1 : c' = cf := by have := hi0.symm.trans hf'; simp at this; exact this.1.symm
      rw [hdecl, hCo] at hown2
      rw [← e1]; exact Option.some.inj (hown.symm.trans hown2)
    have h6 := u_fits hfc hkC hkind (Or.inr hlay) hi0 (hty j hj) (hn ad) (hf ad)
    rcases hlink with hw | ⟨host, hw⟩
    · exact W.putFinK hx hb hown (hts _ hw) hi hst hcf hname (by rw [q2]; exact h6) q1 q3 hlt rfl rfl hd fin
    · refine va_Wputf hx hb hown (va_Nw.use rfl (hKU.2.1 _ hw)) hi hst (Or.inr ⟨hcf, hname⟩) q1 (by rw [q3]; exact fun h => by cases h) hlt h6.1 (by rw [q3, q2]; exact h6.2) rfl rfl hd ?_
      have ha : ad k < H.size := (Array.getElem?_eq_some_iff.mp q1).1
      refine fin _ ?_ ?_ ?_
      · simp [Array.getElem?_setIfInBounds, ha]
      · simp
      · intro q hq
        simp [Array.getElem?_setIfInBounds, Ne.symm hq]
theorem fval_wI {ad : Ln → Nat} {S : Mm} {k : Ln} {ci j : Nat} {x : Int32} (ht : isRefT (tyC ci j) = false) (i : Nat) : fval ad (wI S k j x) k ci i = updV (fval ad S k ci) j (.int x) i := by
  by_cases e : i = j
  · subst e; simp [fval, wI, updV, ht]
  · simp [fval, wI, updV, e]
theorem fval_wR {ad : Ln → Nat} {S : Mm} {k : Ln} {ci j : Nat} {o : Option Ln} (ht : isRefT (tyC ci j) = true) (i : Nat) : fval ad (wR S k j o) k ci i = updV (fval ad S k ci) j (vo ad o) i := by
  by_cases e : i = j
  · subst e; simp [fval, wR, updV, ht]
  · simp [fval, wR, updV, e]
theorem wI_other {S : Mm} {k : Ln} {j : Nat} {x : Int32} : ∀ k', k' ≠ k → (∀ j', (wI S k j x).1 k' j' = S.1 k' j') ∧ ∀ j', (wI S k j x).2.1 k' j' = S.2.1 k' j' := fun k' h => ⟨fun j' => by simp [wI, h], fun _ => rfl⟩
theorem wR_other {S : Mm} {k : Ln} {j : Nat} {o : Option Ln} : ∀ k', k' ≠ k → (∀ j', (wR S k j o).1 k' j' = S.1 k' j') ∧ ∀ j', (wR S k j o).2.1 k' j' = S.2.1 k' j' := fun k' h => ⟨fun _ => rfl, fun j' => by simp [wR, h]⟩
theorem wR_closed {S : Mm} {k : Ln} {j : Nat} {o : Option Ln} (ho : ∀ q, o = some q → S.2.2 q = true) (h : ∀ i r, S.2.1 k i = some r → S.2.2 r = true) : ∀ i r, (wR S k j o).2.1 k i = some r → S.2.2 r = true := by
  intro i r hr
  by_cases e : i = j
  · subst e
    simp [wR] at hr
    exact ho r hr
  · simp [wR, e] at hr
    exact h i r hr
/-- an int or boolean field: the value fits (a boolean is 0 or 1) -/
def okZ (t : FieldType) (x : Int32) : Prop := t = .int ∨ (t = .boolean ∧ (x = 0 ∨ x = 1))
theorem okZ.nar {t : FieldType} {x : Int32} (h : okZ t x) : narrow t (.int x) = .int x ∧ fits t (.int x) = true ∧ isRefT t = false := by
  rcases h with rfl | ⟨rfl, rfl | rfl⟩ <;> exact ⟨rfl, rfl, rfl⟩
theorem g_puti (C : Cx X Y cc nL own) {k : Ln} {index ci j : Nat} {x : Int32} (F : FD own index ci j) (hfin : FM ci j ∨ (X.2.2.2.2.2.2.2.2.1.name = "<init>" ∧ ∀ (C0 : String) (T : u_T) (N : Nat), vwCl[ci]? = some (C0, T, N) → C0 = own ∧ (T j).2.2.2 = true)) (hk : kd k = (0, ci)) (hlv : S.2.2 k = true) (hd : decode cc pc = .ok (.putfield index, 3)) (hz : okZ (tyC ci j) x) (kk : G X Y cells slots (wI S k j x) (pc + 3) L st) : G X Y cells slots S pc L (vi x :: vr k :: st) :=
  g_putv (S' := wI S k j x) C F hfin hk hlv hd (fun _ => hz.nar.1) (fun _ => hz.nar.2.1) rfl wI_other (fun h => h) (fun ad i => fval_wI hz.nar.2.2 i) kk
theorem g_putr (C : Cx X Y cc nL own) {k : Ln} {index ci j : Nat} {q : Ln} (F : FD own index ci j) (hfin : FM ci j ∨ (X.2.2.2.2.2.2.2.2.1.name = "<init>" ∧ ∀ (C0 : String) (T : u_T) (N : Nat), vwCl[ci]? = some (C0, T, N) → C0 = own ∧ (T j).2.2.2 = true)) (hk : kd k = (0, ci)) (hlv : S.2.2 k = true) (hd : decode cc pc = .ok (.putfield index, 3)) (ht : isRefT (tyC ci j) = true) (hn : ∀ a : Nat, narrow (tyC ci j) (.ref a) = .ref a ∧ fits (tyC ci j) (.ref a) = true) (hq : S.2.2 q = true) (kk : G X Y cells slots (wR S k j (some q)) (pc + 3) L st) : G X Y cells slots S pc L (vr q :: vr k :: st) :=
  g_putv (S' := wR S k j (some q)) C F hfin hk hlv hd (fun ad => (hn (ad q)).1) (fun ad => (hn (ad q)).2) rfl wR_other (wR_closed (fun r e => by cases e; exact hq)) (fun ad i => fval_wR ht i) kk
/-! arrays -/
theorem arr_cell {E : En} {ad : Ln → Nat} {S : Mm} {k : Ln} {H : Heap} {t n : Nat} (h : cellOK E ad S k H) (hk : kd k = (t, n)) (ht : t ≠ 0) : H[ad k]? = some (arrV (E.2.2 t) n (aval ad S k t)) := by
  unfold cellOK at h
  rw [hk, if_neg ht] at h
  exact h
theorem arr_ok {E : En} {ad : Ln → Nat} {S : Mm} {k : Ln} {H : Heap} {t n : Nat} (hk : kd k = (t, n)) (ht : t ≠ 0) (h : H[ad k]? = some (arrV (E.2.2 t) n (aval ad S k t))) : cellOK E ad S k H := by
  unfold cellOK
  rw [hk, if_neg ht]
  exact h
theorem g_iald (C : Cx X Y cc nL own) {k : Ln} {n : Nat} {i : Int32} (hk : kd k = (1, n)) (hlv : S.2.2 k = true) (hin : vp_in i n) (hd : decode cc pc = .ok (.iaload, 1)) (kk : G X Y cells slots S (pc + 1) L (vi (S.1 k i.toNatClampNeg) :: st)) : G X Y cells slots S pc L (vi i :: vr k :: st) := by
  intro ad H locs ls hI hl
  have hlt : i.toNatClampNeg < n := Nat.not_le.mp fun q => hin (Or.inr q)
  have hc := arr_cell (hI.1.1 k hlv).1 hk (by decide)
  exact W.iald (v := .int (S.1 k i.toNatClampNeg)) C.1 C.2.1 hc ((C.2.2.2.2.2.1.1.2 0 _ rfl).1 n _) (fun q => by cases q) (by rw [arrV_size]; exact hin) (by rw [arrV_read _ _ hlt]; rfl) rfl rfl hd (kk ad H locs ls hI hl)
theorem g_bald (C : Cx X Y cc nL own) {k : Ln} {n : Nat} {i : Int32} (hk : kd k = (2, n)) (hlv : S.2.2 k = true) (hin : vp_in i n) (hd : decode cc pc = .ok (.baload, 1)) (kk : G X Y cells slots S (pc + 1) L (vi (S.1 k i.toNatClampNeg) :: st)) : G X Y cells slots S pc L (vi i :: vr k :: st) := by
  intro ad H locs ls hI hl
  have hlt : i.toNatClampNeg < n := Nat.not_le.mp fun q => hin (Or.inr q)
  have hc := arr_cell (hI.1.1 k hlv).1 hk (by decide)
  exact W.zald (v := .int (S.1 k i.toNatClampNeg)) C.1 C.2.1 hc ((C.2.2.2.2.2.1.1.2 1 _ rfl).1 n _) (fun q => by cases q) (by rw [arrV_size]; exact hin) (by rw [arrV_read _ _ hlt]; rfl) rfl rfl hd (kk ad H locs ls hI hl)
/-- the element type of an array of references -/
def refA : Nat → FieldType
  | 3 => .object RX3
  | 4 => .object RX2
  | _ => .array .int
theorem refA_ok {E : En} {base aw : Nat} {U : State} (h : KU E base aw U) {t : Nat} (ht : t = 3 ∨ t = 4 ∨ t = 5) : ArrOfT U (E.2.2 t) (refA t) ∧ va_RA U (E.2.2 t) (refA t) := by
  rcases ht with rfl | rfl | rfl
  · exact h.1.2 2 _ rfl
  · exact h.1.2 3 _ rfl
  · exact h.1.2 4 _ rfl
theorem g_aald (C : Cx X Y cc nL own) {k : Ln} {t n : Nat} {i : Int32} (hk : kd k = (t, n)) (ht : t = 3 ∨ t = 4 ∨ t = 5) (hlv : S.2.2 k = true) (hin : vp_in i n) {o : Option Ln} (ho : S.2.1 k i.toNatClampNeg = o) (hd : decode cc pc = .ok (.aaload, 1)) (kk : G X Y cells slots S (pc + 1) L (.inr o :: st)) : G X Y cells slots S pc L (vi i :: vr k :: st) := by
  intro ad H locs ls hI hl
  have hlt : i.toNatClampNeg < n := Nat.not_le.mp fun q => hin (Or.inr q)
  have h0 : t ≠ 0 := by omega
  have h2 : ¬ t ≤ 2 := by omega
  have hc := arr_cell (hI.1.1 k hlv).1 hk h0
  refine W.aald (v := vo ad o) (ty := refA t) C.1 C.2.1 hc ((refA_ok C.2.2.2.2.2.1 ht).1 n _) (by rcases ht with rfl | rfl | rfl <;> rfl) (fun q => by cases q) (by rw [arrV_size]; exact hin) (by rw [arrV_read _ _ hlt]; unfold aval; rw [if_neg h2, ho]) rfl rfl hd (kk ad H locs ls hI hl)
theorem g_alen (C : Cx X Y cc nL own) {k : Ln} {t n : Nat} (hk : kd k = (t, n)) (ht : t = 1 ∨ t = 2 ∨ t = 3 ∨ t = 4 ∨ t = 5) (hlv : S.2.2 k = true) (hd : decode cc pc = .ok (.arraylength, 1)) (kk : G X Y cells slots S (pc + 1) L (vi (nI n) :: st)) : G X Y cells slots S pc L (vr k :: st) := by
  intro ad H locs ls hI hl
  have hc := arr_cell (hI.1.1 k hlv).1 hk (by omega)
  have hK := C.2.2.2.2.2.1.1.2
  rcases ht with rfl | rfl | ht
  · exact W.alen (n := nI n) C.1 C.2.1 hc ((hK 0 _ rfl).1 n _) (by rw [arrV_size]; rfl) rfl rfl hd (kk ad H locs ls hI hl)
  · exact W.alen (n := nI n) C.1 C.2.1 hc ((hK 1 _ rfl).1 n _) (by rw [arrV_size]; rfl) rfl rfl hd (kk ad H locs ls hI hl)
  · exact W.alen (n := nI n) C.1 C.2.1 hc ((refA_ok C.2.2.2.2.2.1 ht).1 n _) (by rw [arrV_size]; rfl) rfl rfl hd (kk ad H locs ls hI hl)
theorem aval_wI {ad : Ln → Nat} {S : Mm} {k : Ln} {t j : Nat} {x : Int32} (ht : t ≤ 2) : aval ad (wI S k j x) k t = updV (aval ad S k t) j (.int x) := by
  funext i
  by_cases e : i = j
  · subst e; simp [aval, wI, updV, ht]
  · simp [aval, wI, updV, e]
theorem aval_wR {ad : Ln → Nat} {S : Mm} {k : Ln} {t j : Nat} {o : Option Ln} (ht : ¬ t ≤ 2) : aval ad (wR S k j o) k t = updV (aval ad S k t) j (vo ad o) := by
  funext i
  by_cases e : i = j
  · subst e; simp [aval, wR, updV, ht]
  · simp [aval, wR, updV, e]
theorem g_iast (C : Cx X Y cc nL own) {k : Ln} {n : Nat} {i x : Int32} (hk : kd k = (1, n)) (hlv : S.2.2 k = true) (hin : vp_in i n) (hd : decode cc pc = .ok (.iastore, 1)) (kk : G X Y cells slots (wI S k i.toNatClampNeg x) (pc + 1) L st) : G X Y cells slots S pc L (vi x :: vi i :: vr k :: st) := by
  intro ad H locs ls hI hl
  have hc := arr_cell (hI.1.1 k hlv).1 hk (by decide)
  refine W.iast C.1 C.2.1 hc ((C.2.2.2.2.2.1.1.2 0 _ rfl).1 n _) (fun q => by cases q) (by rw [arrV_size]; exact hin) rfl rfl hd fun H' e1 e2 e3 => ?_
  refine kk ad H' _ ls ⟨hI.1.upd rfl hlv (arr_ok hk (by decide) ?_) e3 wI_other (fun i r hr => hI.1.2.2 k i r hlv hr), hI.2.1, hI.2.2.1, hI.2.2.2.put e2 e3 (hI.1.1 k hlv).2⟩ hl
  rw [e1, arrV_store, aval_wI (by decide)]
theorem g_bast (C : Cx X Y cc nL own) {k : Ln} {n : Nat} {i x : Int32} (hk : kd k = (2, n)) (hlv : S.2.2 k = true) (hin : vp_in i n) (hz : x = 0 ∨ x = 1) (hd : decode cc pc = .ok (.bastore, 1)) (kk : G X Y cells slots (wI S k i.toNatClampNeg x) (pc + 1) L st) : G X Y cells slots S pc L (vi x :: vi i :: vr k :: st) := by
  intro ad H locs ls hI hl
  have hc := arr_cell (hI.1.1 k hlv).1 hk (by decide)
  refine W.zast C.1 C.2.1 hc ((C.2.2.2.2.2.1.1.2 1 _ rfl).1 n _) (fun q => by cases q) (by rw [arrV_size]; exact hin) rfl rfl hd fun H' e1 e2 e3 => ?_
  refine kk ad H' _ ls ⟨hI.1.upd rfl hlv (arr_ok hk (by decide) ?_) e3 wI_other (fun i r hr => hI.1.2.2 k i r hlv hr), hI.2.1, hI.2.2.1, hI.2.2.2.put e2 e3 (hI.1.1 k hlv).2⟩ hl
  rw [e1, arrV_store, aval_wI (by decide)]
  rcases hz with rfl | rfl <;> rfl
/-- a Machine into Machine[], a Lane into Lane[] -/
theorem g_aast (C : Cx X Y cc nL own) {k q : Ln} {t n ci : Nat} {i : Int32} (hk : kd k = (t, n)) (hq : kd q = (0, ci)) (ht : (t = 3 ∧ ci = 3) ∨ (t = 4 ∧ ci = 2)) (hlv : S.2.2 k = true) (hqv : S.2.2 q = true) (hin : vp_in i n) (hd : decode cc pc = .ok (.aastore, 1)) (kk : G X Y cells slots (wR S k i.toNatClampNeg (some q)) (pc + 1) L st) : G X Y cells slots S pc L (vr q :: vi i :: vr k :: st) := by
  intro ad H locs ls hI hl
  have hlt : i.toNatClampNeg < n := Nat.not_le.mp fun q => hin (Or.inr q)
  have h0 : ¬ i < 0 := fun q => hin (Or.inl q)
  have t0 : t ≠ 0 := by omega
  have t2 : ¬ t ≤ 2 := by omega
  have hc := arr_cell (hI.1.1 k hlv).1 hk t0
  have hcq := (hI.1.1 q hqv).1
  unfold cellOK at hcq
  rw [hq, if_pos rfl] at hcq
  obtain ⟨cellV, g1, g2, g3, -⟩ := hcq
  have hKU := C.2.2.2.2.2.1
  have hcls : ∃ (C0 : String), refA t = .object C0 ∧ ClassAt X.2.2.2.2.1 C0 (Y.1.1 ci) := by
    rcases ht with ⟨rfl, rfl⟩ | ⟨rfl, rfl⟩
    · exact ⟨RX3, rfl, (hKU.1.1 3 _ rfl).2⟩
    · exact ⟨RX2, rfl, (hKU.1.1 2 _ rfl).2⟩
  obtain ⟨C0, hC0, hcls⟩ := hcls
  have hRA := (refA_ok hKU (t := t) (by omega)).2
  rw [hC0] at hRA
  obtain ⟨kA, comp, k1, k2, k3, -⟩ := hRA
  have hcomp : comp = Y.1.1 ci := Option.some.inj (k3.symm.trans hcls.1)
  subst hcomp
  have hcls' := hcls
  obtain ⟨-, kC, hkC, -⟩ := hcls
  refine W.aast C.1 C.2.1 hc (fun q h => by cases h) (fun h => by cases h) k1 k2 rfl hkC ⟨h0, by rw [arrV_size]; exact hlt⟩ g1 (fun q h => by rw [g3] at h; cases h) (by rw [g2]; exact hkC) (by rw [g2]; exact va_assign hcls') rfl rfl hd fun H' e1 e2 e3 => ?_
  refine kk ad H' _ ls ⟨hI.1.upd rfl hlv (arr_ok hk t0 ?_) e3 wR_other (wR_closed (fun r e => by cases e; exact hqv) (fun i r hr => hI.1.2.2 k i r hlv hr)), hI.2.1, hI.2.2.1, hI.2.2.2.put e2 e3 (hI.1.1 k hlv).2⟩ hl
  rw [e1, arrV_store, aval_wR t2]
  rfl
/-! the constant array -/
theorem g_wst (C : Cx X Y cc nL own) {index : Nat} (hw : Cond.fieldLink own index RX6 "WORTHS" "[I" ∈ gdW ∨ ∃ host, Cond.fieldLinkNest own index RX6 "WORTHS" "[I" host ∈ nsW) (hd : decode cc pc = .ok (.getstatic index, 3)) (kk : G X Y cells slots S (pc + 3) L (vr wK :: st)) : G X Y cells slots S pc L st := by
  intro ad H locs ls hI hl
  have hKU := C.2.2.2.2.2.1
  have e : tr ad (vr wK) = .ref Y.2.2.1 := by show Value.ref (ad wK) = _; rw [hI.2.2.1]
  have k1 := kk ad H locs ls hI hl
  rw [List.map_cons, e] at k1
  rcases hw with hw | ⟨host, hw⟩
  · exact va_gets C.1 C.2.1 hKU.2.2.1 hI.2.2.2 C.2.2.2.1 (C.2.2.2.2.1 _ hw) (fun _ h => h) hd k1
  · exact va_getsN C.1 C.2.1 hKU.2.2.1 hI.2.2.2 C.2.2.2.1 (va_Nw.use rfl (hKU.2.1 _ hw)) (fun _ h => h) hd k1
theorem g_wld (C : Cx X Y cc nL own) {i : Int32} (hin : vp_in i 6) (hd : decode cc pc = .ok (.iaload, 1)) (kk : G X Y cells slots S (pc + 1) L (vi (wths i.toNatClampNeg) :: st)) : G X Y cells slots S pc L (vi i :: vr wK :: st) := by
  intro ad H locs ls hI hl
  have hKU := C.2.2.2.2.2.1
  have e : tr ad (vr wK) = .ref Y.2.2.1 := by show Value.ref (ad wK) = _; rw [hI.2.2.1]
  rw [List.map_cons, List.map_cons, e]
  exact va_sld C.1 C.2.1 hKU.2.2.2.1 (Nat.lt_of_lt_of_le hKU.2.2.2.2.1 hKU.2.2.2.2.2.1) (Nat.not_le.mpr hKU.2.2.2.2.1) hI.2.2.2 hin hd (kk ad H locs ls hI hl)
theorem g_wln (C : Cx X Y cc nL own) (hd : decode cc pc = .ok (.arraylength, 1)) (kk : G X Y cells slots S (pc + 1) L (vi 6 :: st)) : G X Y cells slots S pc L (vr wK :: st) := by
  intro ad H locs ls hI hl
  have hKU := C.2.2.2.2.2.1
  have e : tr ad (vr wK) = .ref Y.2.2.1 := by show Value.ref (ad wK) = _; rw [hI.2.2.1]
  rw [List.map_cons, e]
  exact va_slen C.1 C.2.1 hKU.2.2.2.1 (Nat.lt_of_lt_of_le hKU.2.2.2.2.1 hKU.2.2.2.2.2.1) (Nat.not_le.mpr hKU.2.2.2.2.1) hI.2.2.2 hd (kk ad H locs ls hI hl)
end GB
