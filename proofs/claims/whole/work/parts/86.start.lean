/-! THE LAW'S LOOP, AND ITS START -/
theorem sub7 {N a : Nat} (hN : N < 2 ^ 30) (ha : a < 2 ^ 30) : nI N - 7 < nI a ↔ N < a + 7 := by
  rw [Int32.lt_iff_toInt_lt, show (7 : Int32) = nI 7 from rfl, pk_sub_toInt hN (by decide), nI_toInt (by omega)]
  omega
set_option maxHeartbeats 4000000 in
set_option maxRecDepth 100000 in
theorem lw_loop {p : Program} {l : Launch} {e : Env} {s : State} {m : MethodId} {below : List Frame} {meth : Method} {c : Code} {b N : Nat} {xs : Nat → Int32} {Y : Yt} (C : Cx (p, l, e, room_1, s, m, #[Value.ref b], below, meth, c, lw_Z below #[Value.ref b] s) Y cL_law 4 RL) (D : LwX (p, l, e, room_1, s, m, #[Value.ref b], below, meth, c, lw_Z below #[Value.ref b] s) Y b N xs) (hr : meth.sig.returnType = ret) : ∀ n k S mc lc, 7 * (k + n) ≤ N → N < 7 * (k + n) + 7 → RR S S mc lc → G (p, l, e, room_1, s, m, #[Value.ref b], below, meth, c, lw_Z below #[Value.ref b] s) Y (52 + 13 * k) (23100 + 838 * k) S 18 (lwL k) [] := by
  have hN : N ≤ 3584 := D.2.2.2.2.2.2
  intro n
  induction n with
  | zero =>
    intro k S mc lc h1 h2 h
    refine g_iload_n (pc := 18) C dL_law_18 rfl ?_
    refine g_aload_n (pc := 19) C dL_law_19 rfl ?_
    refine g_slnN (pc := 20) C D dL_law_20 ?_
    refine g_bipush (pc := 21) C 7 dL_law_21 (by decide) ?_
    refine g_isub (pc := 23) C dL_law_23 ?_
    refine g_icmp_gt (pc := 24) C 1174 dL_law_24 (by decide) (fun _ => ?_) (fun q => absurd ((sub7 (by omega) (by omega)).mpr (by omega)) q)
    refine g_iconst (pc := 1174) C 1 dL_law_1174 (by decide) ?_
    exact g_lend C.1 C.2.1 hr C.2.2.2.2.2.2 D.2.2.2.2.2.1 (by omega) (by omega) dL_law_1175
  | succ n ih =>
    intro k S mc lc h1 h2 h
    refine g_iload_n (pc := 18) C dL_law_18 rfl ?_
    refine g_aload_n (pc := 19) C dL_law_19 rfl ?_
    refine g_slnN (pc := 20) C D dL_law_20 ?_
    refine g_bipush (pc := 21) C 7 dL_law_21 (by decide) ?_
    refine g_isub (pc := 23) C dL_law_23 ?_
    refine g_icmp_gt (pc := 24) C 1174 dL_law_24 (by decide) (fun q => absurd ((sub7 (by omega) (by omega)).mp q) (by omega)) (fun _ => ?_)
    refine g_aload_n (pc := 27) C dL_law_27 rfl ?_
    refine g_iload_n (pc := 28) C dL_law_28 rfl ?_
    refine g_sldN (pc := 29) C D (i := 7 * k) (by omega) dL_law_29 ?_
    refine g_bipush (pc := 30) C 31 dL_law_30 (by decide) ?_
    refine g_iand (pc := 32) C dL_law_32 ?_
    obtain ⟨w, hw, ew⟩ := pk_andE (xs (7 * k)) (m := 31) 5 (by decide)
    refine g_eqi (nI w) ew ?_
    have K : ∀ S' mc' lc', RR S' S' mc' lc' → G (p, l, e, room_1, s, m, #[Value.ref b], below, meth, c, lw_Z below #[Value.ref b] s) Y (52 + 13 * k + 13) (23100 + 838 * k + 838) S' 1168 (lwL k) [] := fun S' mc' lc' h' => by
      refine g_iincN (pc := 1168) C 7 dL_law_1168 rfl (by decide) (by decide) ?_
      refine g_goto (pc := 1171) C 18 dL_law_1171 (by decide) ?_
      refine g_widen (k := 52 + 13 * (k + 1)) (n := 23100 + 838 * (k + 1)) (by omega) (by omega) ?_
      exact g_subR (ih (k + 1) S' mc' lc' (by omega) (by omega) h') ⟨rfl, rfl, rfl, rfl, trivial⟩
    have hk : 7 * k + 7 ≤ N := by omega
    have hc : 52 + 13 * k + 13 ≤ 600000 := by omega
    have hs : 23100 + 838 * k + 838 ≤ 7302250 := by omega
    by_cases h28 : w < 28
    · rcases (show w = 0 ∨ w = 1 ∨ w = 2 ∨ w = 3 ∨ w = 4 ∨ w = 5 ∨ w = 6 ∨ w = 7 ∨ w = 8 ∨ w = 9 ∨ w = 10 ∨ w = 11 ∨ w = 12 ∨ w = 13 ∨ w = 14 ∨ w = 15 ∨ w = 16 ∨ w = 17 ∨ w = 18 ∨ w = 19 ∨ w = 20 ∨ w = 21 ∨ w = 22 ∨ w = 23 ∨ w = 24 ∨ w = 25 ∨ w = 26 ∨ w = 27 by omega) with rfl | rfl | rfl | rfl | rfl | rfl | rfl | rfl | rfl | rfl | rfl | rfl | rfl | rfl | rfl | rfl | rfl | rfl | rfl | rfl | rfl | rfl | rfl | rfl | rfl | rfl | rfl | rfl
      · refine g_tabIn (pc := 33) (off := 127) C 160 dL_law_33 (by decide) (by decide) (by decide) (by decide) ?_
        exact lw_op0 C D h hk hc hs K
      · refine g_tabIn (pc := 33) (off := 140) C 173 dL_law_33 (by decide) (by decide) (by decide) (by decide) ?_
        exact lw_op1 C D h hk hc hs K
      · refine g_tabIn (pc := 33) (off := 215) C 248 dL_law_33 (by decide) (by decide) (by decide) (by decide) ?_
        exact lw_op2 C D h hk hc hs K
      · refine g_tabIn (pc := 33) (off := 248) C 281 dL_law_33 (by decide) (by decide) (by decide) (by decide) ?_
        exact lw_op3 C D h hk hc hs K
      · refine g_tabIn (pc := 33) (off := 291) C 324 dL_law_33 (by decide) (by decide) (by decide) (by decide) ?_
        exact lw_op4 C D h hk hc hs K
      · refine g_tabIn (pc := 33) (off := 334) C 367 dL_law_33 (by decide) (by decide) (by decide) (by decide) ?_
        exact lw_op5 C D h hk hc hs K
      · refine g_tabIn (pc := 33) (off := 377) C 410 dL_law_33 (by decide) (by decide) (by decide) (by decide) ?_
        exact lw_op6 C D h hk hc hs K
      · refine g_tabIn (pc := 33) (off := 436) C 469 dL_law_33 (by decide) (by decide) (by decide) (by decide) ?_
        exact lw_op7 C D h hk hc hs K
      · refine g_tabIn (pc := 33) (off := 485) C 518 dL_law_33 (by decide) (by decide) (by decide) (by decide) ?_
        exact lw_op8 C D h hk hc hs K
      · refine g_tabIn (pc := 33) (off := 528) C 561 dL_law_33 (by decide) (by decide) (by decide) (by decide) ?_
        exact lw_op9 C D h hk hc hs K
      · refine g_tabIn (pc := 33) (off := 571) C 604 dL_law_33 (by decide) (by decide) (by decide) (by decide) ?_
        exact lw_op10 C D h hk hc hs K
      · refine g_tabIn (pc := 33) (off := 604) C 637 dL_law_33 (by decide) (by decide) (by decide) (by decide) ?_
        exact lw_op11 C D h hk hc hs K
      · refine g_tabIn (pc := 33) (off := 637) C 670 dL_law_33 (by decide) (by decide) (by decide) (by decide) ?_
        exact lw_op12 C D h hk hc hs K
      · refine g_tabIn (pc := 33) (off := 660) C 693 dL_law_33 (by decide) (by decide) (by decide) (by decide) ?_
        exact lw_op13 C D h hk hc hs K
      · refine g_tabIn (pc := 33) (off := 693) C 726 dL_law_33 (by decide) (by decide) (by decide) (by decide) ?_
        exact lw_op14 C D h hk hc hs K
      · refine g_tabIn (pc := 33) (off := 716) C 749 dL_law_33 (by decide) (by decide) (by decide) (by decide) ?_
        exact lw_op15 C D h hk hc hs K
      · refine g_tabIn (pc := 33) (off := 749) C 782 dL_law_33 (by decide) (by decide) (by decide) (by decide) ?_
        exact lw_op16 C D h hk hc hs K
      · refine g_tabIn (pc := 33) (off := 772) C 805 dL_law_33 (by decide) (by decide) (by decide) (by decide) ?_
        exact lw_op17 C D h hk hc hs K
      · refine g_tabIn (pc := 33) (off := 825) C 858 dL_law_33 (by decide) (by decide) (by decide) (by decide) ?_
        exact lw_op18 C D h hk hc hs K
      · refine g_tabIn (pc := 33) (off := 868) C 901 dL_law_33 (by decide) (by decide) (by decide) (by decide) ?_
        exact lw_op19 C D h hk hc hs K
      · refine g_tabIn (pc := 33) (off := 901) C 934 dL_law_33 (by decide) (by decide) (by decide) (by decide) ?_
        exact lw_op20 C D h hk hc hs K
      · refine g_tabIn (pc := 33) (off := 934) C 967 dL_law_33 (by decide) (by decide) (by decide) (by decide) ?_
        exact lw_op21 C D h hk hc hs K
      · refine g_tabIn (pc := 33) (off := 957) C 990 dL_law_33 (by decide) (by decide) (by decide) (by decide) ?_
        exact lw_op22 C D h hk hc hs K
      · refine g_tabIn (pc := 33) (off := 1000) C 1033 dL_law_33 (by decide) (by decide) (by decide) (by decide) ?_
        exact lw_op23 C D h hk hc hs K
      · refine g_tabIn (pc := 33) (off := 1033) C 1066 dL_law_33 (by decide) (by decide) (by decide) (by decide) ?_
        exact lw_op24 C D h hk hc hs K
      · refine g_tabIn (pc := 33) (off := 1066) C 1099 dL_law_33 (by decide) (by decide) (by decide) (by decide) ?_
        exact lw_op25 C D h hk hc hs K
      · refine g_tabIn (pc := 33) (off := 1089) C 1122 dL_law_33 (by decide) (by decide) (by decide) (by decide) ?_
        exact lw_op26 C D h hk hc hs K
      · refine g_tabIn (pc := 33) (off := 1112) C 1145 dL_law_33 (by decide) (by decide) (by decide) (by decide) ?_
        exact lw_op27 C D h hk hc hs K
    · refine g_tabOut (pc := 33) C 1168 dL_law_33 (Or.inr (by rw [nI_toInt (by omega)]; omega)) (by decide) ?_
      exact g_widen (by omega) (by omega) (K S mc lc h)
set_option maxHeartbeats 4000000 in
set_option maxRecDepth 100000 in
/-- from the entry, for every script of at most 3584 ints, the law comes to its end with true -/
theorem whole_start {p : Program} {e : Env} {s : State} {m : MethodId} {below : List Frame} {meth : Method} {c : Code} (l : Launch) {b L : Nat} {xs : Nat → Int32} (hL : L ≤ 3584) (C0 : lw_At p s m meth c b L xs) : W p l e room_1 s m #[Value.ref b] below meth c s.heap [] 0 0 (lw_Z below #[Value.ref b] s) (entryFrame m ([Value.ref b] : List Value).toArray 4) := by
  obtain ⟨E, aw, hKU⟩ := ku_start C0
  obtain ⟨hx, hb, hr, hml, hown, hts, hX, hbl, hlocks, hgv⟩ := id C0
  have C : Cx (p, l, e, room_1, s, m, #[Value.ref b], below, meth, c, lw_Z below #[Value.ref b] s) (E, s.heap.size, aw, (fun k => if k = wK then aw else b), frW) cL_law 4 RL := ⟨hx, hb, hml, hown, fun w hw => hts w (List.mem_filter.mp hw).1, hKU, hlocks⟩
  have D : LwX (p, l, e, room_1, s, m, #[Value.ref b], below, meth, c, lw_Z below #[Value.ref b] s) (E, s.heap.size, aw, (fun k => if k = wK then aw else b), frW) b L xs := ⟨rfl, rfl, (show (if sK = wK then aw else b) = b from if_neg (by decide)), hX, hbl, rfl, hL⟩
  have hG : G (p, l, e, room_1, s, m, #[Value.ref b], below, meth, c, lw_Z below #[Value.ref b] s) (E, s.heap.size, aw, (fun k => if k = wK then aw else b), frW) 0 0 Z0 0 [(0, vr sK)] [] := by
    refine g_new (pc := 0) C (0, 0, 0) nL_7 rfl rfl (by decide) rfl (by simp [sK]) (by simp) (Nat.le_of_ble_eq_true rfl) (Nat.le_of_ble_eq_true rfl) dL_law_0 ?_
    refine g_dup (pc := 3) C dL_law_3 ?_
    refine g_callIf (pc := 4) (st := [vr (0, 0, 0)]) C mL_9 (c_shI l E s.heap.size aw (nwm Z0 (0, 0, 0)) (by simp [nwm]) (fun o h1 _ => by rw [nw_22, if_neg (fun q => by have : o = 0 := congrArg (fun z : Ln => z.2.2) q; omega)]; rfl) (fun r _ => by rw [nw_22, if_neg (fun q => by cases q)]; rfl)) rfl rfl ⟨Nat.le_of_ble_eq_true rfl, Nat.le_of_ble_eq_true rfl⟩ ⟨Nat.le_of_ble_eq_true rfl, Nat.le_of_ble_eq_true rfl⟩ (by decide) dL_law_4 (fun q hq => ?_) (by decide) (by decide) (fun rr SS hP => ?_)
    · show decide (q.1 ≤ 4) = true
      refine decide_eq_true ?_
      unfold frX at hq
      rcases Bool.or_eq_true_iff.mp hq with z | z
      · simp at z
        omega
      · rw [(isRw_of z).1]
        exact Nat.le_refl _
    · obtain ⟨rfl, rfl⟩ := hP
      refine g_astore_n (pc := 7) C dL_law_7 (by decide) ?_
      refine g_new (pc := 8) C (2, 0, 0) nL_10 rfl ((a_22 _).trans (by decide)) (by decide) rfl (by simp [sto, sK]) (by simp) (Nat.le_of_ble_eq_true rfl) (Nat.le_of_ble_eq_true rfl) dL_law_8 ?_
      refine g_dup (pc := 11) C dL_law_11 ?_
      refine g_callIf (pc := 12) (st := [vr (2, 0, 0)]) C mL_12 (c_miI l E s.heap.size aw (nwm A0 (2, 0, 0)) (by simp [nwm]) (fun f hf => by rw [nw_22, if_neg (fun q => by have : f = 0 := congrArg (fun z : Ln => z.2.2) q; omega), a_22]; simp [isRw])) rfl rfl ⟨Nat.le_of_ble_eq_true rfl, Nat.le_of_ble_eq_true rfl⟩ ⟨Nat.le_of_ble_eq_true rfl, Nat.le_of_ble_eq_true rfl⟩ (by decide) dL_law_12 (fun q hq => ?_) (by decide) (by decide) (fun rr SS hP => ?_)
      · show decide (q.1 ≤ 4) = true
        refine decide_eq_true ?_
        unfold frJ at hq
        simp at hq
        omega
      · obtain ⟨rfl, rfl⟩ := hP
        refine g_astore_n (pc := 15) C dL_law_15 (by decide) ?_
        refine g_iconst (pc := 16) C 0 dL_law_16 (by decide) ?_
        refine g_istore_n (pc := 17) C dL_law_17 (by decide) ?_
        refine g_widen (k := 52 + 13 * 0) (n := 23100 + 838 * 0) (by decide) (by decide) ?_
        exact g_subR (lw_loop C D hr (L / 7) 0 B0 0 (fun _ => 0) (by omega) (by omega) rr_born) ⟨rfl, rfl, rfl, rfl, trivial⟩
  have hHp : Hp E s.heap.size (fun k => if k = wK then aw else b) Z0 s.heap := ⟨fun k hk => (by cases hk), fun i j hi => (by cases hi), fun k j r hk => (by cases hk)⟩
  have hl := lv_entry ([.ref b] : List Value) (n := 4) (Nat.le_of_ble_eq_true rfl)
  rw [lg_entry_eq]
  refine hG (fun k => if k = wK then aw else b) s.heap [] _ ⟨hHp, fun _ _ => rfl, if_pos rfl, va_S.rf⟩ ?_
  show lv_has _ c.maxLocals _
  rw [hml]
  exact hl
