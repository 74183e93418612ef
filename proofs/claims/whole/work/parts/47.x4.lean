set_option maxHeartbeats 400000 in
set_option maxRecDepth 100000 in
theorem c_space (l : Launch) (E : En) (base aw : Nat) (S : Mm) (i j : Nat) (hlv : S.2.2 (3, i, j) = true) : Cn l E base aw yX5_spaceIn cX5_spaceIn 1 (some Jvm.ClassFile.FieldType.int) 1 0 0 noF S [vr (3, i, j)] (fun r S' => r = some (vi (v_space S i j)) ∧ S' = S) := by
  refine Cn.of (by decide) (Nat.le_of_ble_eq_true rfl) ?_
  intro X Y hl hE hbase haw hfr C B
  subst hl; subst hE; subst hbase; subst haw
  refine g_aload_n (pc := 0) C dX5_spaceIn_0 rfl ?_
  refine g_callV (pc := 1) C B mX5_70 (c_closed _ _ _ _ _ i j hlv) rfl rfl rfl rfl hlv (by decide) ⟨Nat.le_refl _, Nat.le_refl _⟩ (Nat.le_of_ble_eq_true rfl) dX5_spaceIn_1 (fun rr SS hP => ?_)
  rw [hP.1, hP.2]
  refine g_if_eq (pc := 4) C 11 dX5_spaceIn_4 (by decide) (fun h4 => ?_) (fun h4 => ?_)
  ·
    refine g_aload_n (pc := 11) C dX5_spaceIn_11 rfl ?_
    refine g_geti (pc := 12) C fX5_74 rfl hlv dX5_spaceIn_12 rfl ?_
    refine g_aload_n (pc := 15) C dX5_spaceIn_15 rfl ?_
    refine g_geti (pc := 16) C fX5_77 rfl hlv dX5_spaceIn_16 rfl ?_
    refine g_isub (pc := 19) C dX5_spaceIn_19 ?_
    exact g_iret (pc := 20) C B rfl dX5_spaceIn_20 (⟨by show some (vi _) = some (vi (v_space S i j)); unfold v_space; rw [if_pos h4], rfl⟩)
  ·
    refine g_iconst (pc := 7) C 0 dX5_spaceIn_7 (by decide) ?_
    refine g_goto (pc := 8) C 20 dX5_spaceIn_8 (by decide) ?_
    exact g_iret (pc := 20) C B rfl dX5_spaceIn_20 (⟨by show some (vi _) = some (vi (v_space S i j)); unfold v_space; rw [if_neg h4], rfl⟩)

set_option maxHeartbeats 400000 in
set_option maxRecDepth 100000 in
theorem c_gain (l : Launch) (E : En) (base aw : Nat) (S : Mm) (i j : Nat) (hlv : S.2.2 (3, i, j) = true) (p : Int32) : Cn l E base aw yX5_gainOf cX5_gainOf 2 (some Jvm.ClassFile.FieldType.int) 0 0 0 noF S [vr (3, i, j), vi p] (fun r S' => r = some (vi (v_gain S i j p)) ∧ S' = S) := by
  refine Cn.of (by decide) (Nat.le_of_ble_eq_true rfl) ?_
  intro X Y hl hE hbase haw hfr C B
  subst hl; subst hE; subst hbase; subst haw
  refine g_aload_n (pc := 0) C dX5_gainOf_0 rfl ?_
  refine g_geti (pc := 1) C fX5_67 rfl hlv dX5_gainOf_1 rfl ?_
  refine g_sipush (pc := 4) C 256 dX5_gainOf_4 (by decide) ?_
  refine g_imul (pc := 7) C dX5_gainOf_7 ?_
  refine g_iload_n (pc := 8) C dX5_gainOf_8 rfl ?_
  refine g_isub (pc := 9) C dX5_gainOf_9 ?_
  exact g_iret (pc := 10) C B rfl dX5_gainOf_10 (⟨rfl, rfl⟩)

set_option maxHeartbeats 400000 in
set_option maxRecDepth 100000 in
theorem c_pieces (l : Launch) (E : En) (base aw : Nat) (S : Mm) (mc : Nat) (lc : Nat → Nat) (hX : ShX S mc lc) (t : Nat) (ht : t < 8) : Cn l E base aw yX5_piecesFor cX5_piecesFor 2 (some Jvm.ClassFile.FieldType.int) 0 0 0 noF S [vr (0, 0, 8), vi (nI t)] (fun r S' => r = some (vi (S.1 (0, 0, 10) t)) ∧ S' = S) := by
  refine Cn.of (by decide) (Nat.le_of_ble_eq_true rfl) ?_
  intro X Y hl hE hbase haw hfr C B
  subst hl; subst hE; subst hbase; subst haw
  refine g_iload_n (pc := 0) C dX5_piecesFor_0 rfl ?_
  refine g_if_lt (pc := 1) C 22 dX5_piecesFor_1 (by decide) (fun h1 => absurd h1 (nI_pos (by omega))) (fun _ => ?_)
  refine g_iload_n (pc := 4) C dX5_piecesFor_4 rfl ?_
  refine g_aload_n (pc := 5) C dX5_piecesFor_5 rfl ?_
  refine g_getr (pc := 6) C fX5_16 rfl (hX.1 8 (by decide)) dX5_piecesFor_6 rfl hX.v1 ?_
  refine g_alen (pc := 9) C rfl (by decide) (hX.1 10 (by decide)) dX5_piecesFor_9 ?_
  refine g_icmp_ge (pc := 10) C 22 dX5_piecesFor_10 (by decide) (fun h10 => absurd h10 (fun q => absurd ((nI_leI (a := 8) (b := t) (by omega) (by omega)).mp q) (by omega))) (fun _ => ?_)
  refine g_aload_n (pc := 13) C dX5_piecesFor_13 rfl ?_
  refine g_getr (pc := 14) C fX5_16 rfl (hX.1 8 (by decide)) dX5_piecesFor_14 rfl hX.v1 ?_
  refine g_iload_n (pc := 17) C dX5_piecesFor_17 rfl ?_
  refine g_ialdN (pc := 18) C rfl (hX.1 10 (by decide)) (by omega) (by decide) dX5_piecesFor_18 ?_
  refine g_goto (pc := 19) C 23 dX5_piecesFor_19 (by decide) ?_
  exact g_iret (pc := 23) C B rfl dX5_piecesFor_23 (⟨rfl, rfl⟩)

set_option maxHeartbeats 400000 in
set_option maxRecDepth 100000 in
theorem c_pieces_hi (l : Launch) (E : En) (base aw : Nat) (S : Mm) (mc : Nat) (lc : Nat → Nat) (hX : ShX S mc lc) (p : Int32) (h0 : ¬ p < 0) (h8 : nI 8 ≤ p) : Cn l E base aw yX5_piecesFor cX5_piecesFor 2 (some Jvm.ClassFile.FieldType.int) 0 0 0 noF S [vr (0, 0, 8), vi p] (fun r S' => r = some (vi 0) ∧ S' = S) := by
  refine Cn.of (by decide) (Nat.le_of_ble_eq_true rfl) ?_
  intro X Y hl hE hbase haw hfr C B
  subst hl; subst hE; subst hbase; subst haw
  refine g_iload_n (pc := 0) C dX5_piecesFor_0 rfl ?_
  refine g_if_lt (pc := 1) C 22 dX5_piecesFor_1 (by decide) (fun h1 => absurd h1 h0) (fun _ => ?_)
  refine g_iload_n (pc := 4) C dX5_piecesFor_4 rfl ?_
  refine g_aload_n (pc := 5) C dX5_piecesFor_5 rfl ?_
  refine g_getr (pc := 6) C fX5_16 rfl (hX.1 8 (by decide)) dX5_piecesFor_6 rfl hX.v1 ?_
  refine g_alen (pc := 9) C rfl (by decide) (hX.1 10 (by decide)) dX5_piecesFor_9 ?_
  refine g_icmp_ge (pc := 10) C 22 dX5_piecesFor_10 (by decide) (fun _ => ?_) (fun h10 => absurd h8 h10)
  refine g_iconst (pc := 22) C 0 dX5_piecesFor_22 (by decide) ?_
  exact g_iret (pc := 23) C B rfl dX5_piecesFor_23 (⟨rfl, rfl⟩)

set_option maxHeartbeats 400000 in
set_option maxRecDepth 100000 in
theorem lp_fr1 {X : Xt} {Y : Yt} {P : Option AV → Mm → Prop} {nm : String} (C : Cx X Y cX5_fillRow 11 RX5) (B : Bx X Y nm (none) 2 0 0 P) {S : Mm} {i n mc room j r : Nat} {lc mt sz gx : Nat → Nat} {Fn : Nat → Nat} (hX : ShX S mc lc) (hm : MSh S i n) (hj : j < n) (hs : 1 ≤ sz j ∧ sz j ≤ 9) (hmt : mt j ≤ 20) (hg : gx j ≤ 2000000) (hr : r ≤ room) (hro : room ≤ 200) (hF : ∀ a, a ≤ room → S.1 (4, 0, j + 1) a = nI (Fn a)) (hFn : ∀ a, Fn a ≤ 400000000) (K : G X Y 0 0 S 81 [(0, vr (0, 0, 8)), (1, vi (nI j)), (2, vr (3, i, j)), (3, vi (nI (sz j))), (4, vi (nI room)), (5, vi (nI (mt j))), (6, vi (nI (gx j))), (7, vi (nI r)), (8, vi (nI (mxN Fn (sz j) (gx j) r ((min (mt j) (r / sz j) + 1)))))] []) : ∀ n9 k, k + n9 = min (mt j) (r / sz j) + 1 → G X Y 0 0 S 33 [(0, vr (0, 0, 8)), (1, vi (nI j)), (2, vr (3, i, j)), (3, vi (nI (sz j))), (4, vi (nI room)), (5, vi (nI (mt j))), (6, vi (nI (gx j))), (7, vi (nI r)), (8, vi (nI (mxN Fn (sz j) (gx j) r k))), (9, vi (lfI r (sz j) k)), (10, vi (nI k))] [] := by
  have hn8 := hm.n8
  intro n9
  induction n9 with
  | zero =>
    intro k hk
    have hcase : mt j < k ∨ (k ≤ mt j ∧ r < k * sz j ∧ k * sz j ≤ 3000) := by
      rcases Nat.lt_or_ge (r / sz j) (mt j) with q | q
      · have e : k = r / sz j + 1 := by rw [Nat.min_eq_right (Nat.le_of_lt q)] at hk; omega
        refine Or.inr ⟨by omega, ?_, ?_⟩
        · rw [e]; exact (Nat.div_lt_iff_lt_mul hs.1).mp (Nat.lt_succ_self _)
        · rw [e, Nat.succ_mul]; have := Nat.div_mul_le_self r (sz j); omega
      · rw [Nat.min_eq_left q] at hk; exact Or.inl (by omega)
    have hk9 : k ≤ 21 := by have := Nat.min_le_left (mt j) (r / sz j); omega
    have ek : k = min (mt j) (r / sz j) + 1 := by omega
    rw [← ek] at K
    rcases hcase with hcase | ⟨h1, h2, h3⟩
    ·
      refine g_iload (pc := 33) C dX5_fillRow_33 rfl ?_
      refine g_iload (pc := 35) C dX5_fillRow_35 rfl ?_
      refine g_icmp_gt (pc := 37) C 81 dX5_fillRow_37 (by decide) (fun _ => ?_) (fun h37 => absurd ((nI_ltI (a := mt j) (b := k) (by omega) (by omega)).mpr (by omega)) h37)
      exact g_subR K ⟨rfl, rfl, rfl, rfl, rfl, rfl, rfl, rfl, rfl, trivial⟩
    ·
      refine g_iload (pc := 33) C dX5_fillRow_33 rfl ?_
      refine g_iload (pc := 35) C dX5_fillRow_35 rfl ?_
      refine g_icmp_gt (pc := 37) C 81 dX5_fillRow_37 (by decide) (fun h37 => absurd h37 (fun q => absurd ((nI_ltI (a := mt j) (b := k) (by omega) (by omega)).mp q) (by omega))) (fun _ => ?_)
      refine g_iload (pc := 40) C dX5_fillRow_40 rfl ?_
      refine g_if_lt (pc := 42) C 81 dX5_fillRow_42 (by decide) (fun _ => ?_) (fun h42 => absurd (pk_sneg (by omega) h2) h42)
      exact g_subR K ⟨rfl, rfl, rfl, rfl, rfl, rfl, rfl, rfl, rfl, trivial⟩
  | succ n9 ih =>
    intro k hk
    have hm1 := Nat.min_le_left (mt j) (r / sz j)
    have hm2 := Nat.min_le_right (mt j) (r / sz j)
    have hcb : k * sz j ≤ r := (Nat.le_div_iff_mul_le hs.1).mp (by omega)
    have hf1 := hFn (r - k * sz j)
    have hcg : k * gx j ≤ 20 * 2000000 := Nat.mul_le_mul (by omega) hg
    have hf2 : mxN Fn (sz j) (gx j) r k ≤ 900000000 := mxN_le k (fun c9 h9 => by have q1 : c9 * gx j ≤ 20 * 2000000 := Nat.mul_le_mul (by omega) hg; have q2 := hFn (r - c9 * sz j); omega)
    refine g_iload (pc := 33) C dX5_fillRow_33 rfl ?_
    refine g_iload (pc := 35) C dX5_fillRow_35 rfl ?_
    refine g_icmp_gt (pc := 37) C 81 dX5_fillRow_37 (by decide) (fun h37 => absurd h37 (fun q => absurd ((nI_ltI (a := mt j) (b := k) (by omega) (by omega)).mp q) (by omega))) (fun _ => ?_)
    refine g_iload (pc := 40) C dX5_fillRow_40 rfl ?_
    refine g_if_lt (pc := 42) C 81 dX5_fillRow_42 (by decide) (fun h42 => absurd h42 (by rw [lfI_n hcb]; exact nI_pos (by omega))) (fun _ => ?_)
    refine g_iload (pc := 45) C dX5_fillRow_45 rfl ?_
    refine g_iload (pc := 47) C dX5_fillRow_47 rfl ?_
    refine g_iload (pc := 49) C dX5_fillRow_49 rfl ?_
    refine g_imul (pc := 51) C dX5_fillRow_51 ?_
    refine g_eqi (nI (k * (gx j))) (pk_mul k (gx j)) ?_
    refine g_aload_n (pc := 52) C dX5_fillRow_52 rfl ?_
    refine g_getr (pc := 53) C fX5_11 rfl (hX.1 8 (by decide)) dX5_fillRow_53 rfl hX.v0 ?_
    refine g_iload_n (pc := 56) C dX5_fillRow_56 rfl ?_
    refine g_iconst (pc := 57) C 1 dX5_fillRow_57 (by decide) ?_
    refine g_iadd (pc := 58) C dX5_fillRow_58 ?_
    refine g_eqi (nI (j + 1)) (nI_add j 1) ?_
    refine g_aaldN (pc := 59) C rfl (by decide) (hX.1 9 (by decide)) (by omega) (by decide) (hX.row (by omega)).2 dX5_fillRow_59 ?_
    refine g_iload (pc := 60) C dX5_fillRow_60 rfl ?_
    refine g_eqi (nI (r - k * sz j)) (lfI_n hcb) ?_
    refine g_ialdN (pc := 62) C rfl (hX.row (by omega)).1 (by omega) (by decide) dX5_fillRow_62 ?_
    refine g_eqi (nI (Fn (r - k * sz j))) (hF _ (by omega)) ?_
    refine g_iadd (pc := 63) C dX5_fillRow_63 ?_
    refine g_eqi (nI ((k * (gx j)) + (Fn (r - k * sz j)))) (nI_add (k * (gx j)) (Fn (r - k * sz j))) ?_
    refine g_mmax (pc := 64) C B mthX5_57 mth_s_max mth_c_max mth_i (by decide) ⟨Nat.le_refl _, Nat.le_refl _⟩ (Nat.le_of_ble_eq_true rfl) dX5_fillRow_64 ?_
    refine g_eqi (nI (mxN Fn (sz j) (gx j) r (k + 1))) (if_max (by omega) (by omega)) ?_
    refine g_istore (pc := 67) C dX5_fillRow_67 (by decide) ?_
    refine g_iload (pc := 69) C dX5_fillRow_69 rfl ?_
    refine g_iload_n (pc := 71) C dX5_fillRow_71 rfl ?_
    refine g_isub (pc := 72) C dX5_fillRow_72 ?_
    refine g_istore (pc := 73) C dX5_fillRow_73 (by decide) ?_
    refine g_iincN (pc := 75) C 1 dX5_fillRow_75 rfl (by decide) (by decide) ?_
    refine g_goto (pc := 78) C 33 dX5_fillRow_78 (by decide) ?_
    exact g_subR (ih (k + 1) (by omega)) ⟨rfl, rfl, rfl, rfl, rfl, rfl, rfl, rfl, rfl, congrArg (fun z => some (vi z)) (lfI_s r (sz j) k), rfl, trivial⟩
set_option maxHeartbeats 400000 in
set_option maxRecDepth 100000 in
theorem lp_fr2 {X : Xt} {Y : Yt} {P : Option AV → Mm → Prop} {nm : String}  (C : Cx X Y cX5_fillRow 11 RX5) (B : Bx X Y nm (none) 2 0 0 P) {S : Mm} {i n mc room j : Nat} {lc mt sz gx : Nat → Nat} {Fn : Nat → Nat} (hX0 : ShX S mc lc) (hm0 : MSh S i n) (hj : j < n) (hs : 1 ≤ sz j ∧ sz j ≤ 9) (hmt : mt j ≤ 20) (hg : gx j ≤ 2000000) (hro : room ≤ 200) (hF : ∀ a, a ≤ room → S.1 (4, 0, j + 1) a = nI (Fn a)) (hFn : ∀ a, Fn a ≤ 400000000) (K : G X Y 0 0 (xqM S j Fn (sz j) (gx j) (mt j) ((room + 1))) 98 [(0, vr (0, 0, 8)), (1, vi (nI j)), (2, vr (3, i, j)), (3, vi (nI (sz j))), (4, vi (nI room)), (5, vi (nI (mt j))), (6, vi (nI (gx j))), (7, vi (nI ((room + 1))))] []) : ∀ n9 w, w + n9 = (room + 1) → G X Y 0 0 (xqM S j Fn (sz j) (gx j) (mt j) w) 16 [(0, vr (0, 0, 8)), (1, vi (nI j)), (2, vr (3, i, j)), (3, vi (nI (sz j))), (4, vi (nI room)), (5, vi (nI (mt j))), (6, vi (nI (gx j))), (7, vi (nI w))] [] := by
  intro n9
  induction n9 with
  | zero =>
    intro w hw
    have e : (room + 1) = w := by omega
    subst e
    have hbt := xqM_but S j Fn (sz j) (gx j) (mt j) (room + 1)
    have hX := hX0.same hbt.1
    have hm := hm0.same hbt.1
    have hn8 := hm.n8
    refine g_iload (pc := 16) C dX5_fillRow_16 rfl ?_
    refine g_iload (pc := 18) C dX5_fillRow_18 rfl ?_
    refine g_icmp_gt (pc := 20) C 98 dX5_fillRow_20 (by decide) (fun _ => ?_) (fun h20 => absurd ((nI_ltI (a := room) (b := (room + 1)) (by omega) (by omega)).mpr (by omega)) h20)
    exact K
  | succ n9 ih =>
    intro w hw
    have hbt := xqM_but S j Fn (sz j) (gx j) (mt j) w
    have hX := hX0.same hbt.1
    have hm := hm0.same hbt.1
    have hn8 := hm.n8
    refine g_iload (pc := 16) C dX5_fillRow_16 rfl ?_
    refine g_iload (pc := 18) C dX5_fillRow_18 rfl ?_
    refine g_icmp_gt (pc := 20) C 98 dX5_fillRow_20 (by decide) (fun h20 => absurd h20 (fun q => absurd ((nI_ltI (a := room) (b := w) (by omega) (by omega)).mp q) (by omega))) (fun _ => ?_)
    refine g_iconst (pc := 23) C 0 dX5_fillRow_23 (by decide) ?_
    refine g_istore (pc := 24) C dX5_fillRow_24 (by decide) ?_
    refine g_iload (pc := 26) C dX5_fillRow_26 rfl ?_
    refine g_istore (pc := 28) C dX5_fillRow_28 (by decide) ?_
    refine g_iconst (pc := 30) C 0 dX5_fillRow_30 (by decide) ?_
    refine g_istore (pc := 31) C dX5_fillRow_31 (by decide) ?_
    refine g_subR (lp_fr1 (Fn := Fn) C B hX hm hj hs hmt hg (by omega) hro (fun a9 h9 => (xqM_up _ _ _ _ _ _ _ (by omega) _ _).trans (hF a9 h9)) hFn ?_ (min (mt j) (w / sz j) + 1) 0 (by omega)) ⟨rfl, rfl, rfl, rfl, rfl, rfl, rfl, rfl, rfl, congrArg (fun z => some (vi z)) (lfI_0 w (sz j)).symm, rfl, trivial⟩
    refine g_aload_n (pc := 81) C dX5_fillRow_81 rfl ?_
    refine g_getr (pc := 82) C fX5_11 rfl (hX.1 8 (by decide)) dX5_fillRow_82 rfl hX.v0 ?_
    refine g_iload_n (pc := 85) C dX5_fillRow_85 rfl ?_
    refine g_aaldN (pc := 86) C rfl (by decide) (hX.1 9 (by decide)) (by omega) (by decide) (hX.row (by omega)).2 dX5_fillRow_86 ?_
    refine g_iload (pc := 87) C dX5_fillRow_87 rfl ?_
    refine g_iload (pc := 89) C dX5_fillRow_89 rfl ?_
    refine g_iastN (pc := 91) C rfl (hX.row (by omega)).1 (by omega) (by decide) dX5_fillRow_91 ?_
    refine g_iincN (pc := 92) C 1 dX5_fillRow_92 rfl (by decide) (by decide) ?_
    refine g_goto (pc := 95) C 16 dX5_fillRow_95 (by decide) ?_
    exact g_subR (ih (w + 1) (by omega)) ⟨rfl, rfl, rfl, rfl, rfl, rfl, rfl, rfl, trivial⟩
set_option maxHeartbeats 400000 in
set_option maxRecDepth 100000 in
theorem c_fillRow (l : Launch) (E : En) (base aw : Nat) (S : Mm) (i n mc : Nat) (lc gd mt sz gx : Nat → Nat) (hX : ShX S mc lc) (hm : MSh S i n) (hV : VaH S gd mt sz gx i n) (room : Nat) (hro : room ≤ 200) (j : Nat) (hj : j < n) (Fn : Nat → Nat) (hF : ∀ a, a ≤ room → S.1 (4, 0, j + 1) a = nI (Fn a)) (hFn : ∀ a, Fn a ≤ 400000000) : Cn l E base aw yX5_fillRow cX5_fillRow 11 (none) 2 0 0 noF S [vr (0, 0, 8), vi (nI j), vr (3, i, j), vi (nI (sz j)), vi (nI room)] (fun r S' => r = none ∧ S' = xqM S j Fn (sz j) (gx j) (mt j) (room + 1)) := by
  refine Cn.of (by decide) (Nat.le_of_ble_eq_true rfl) ?_
  intro X Y hl hE hbase haw hfr C B
  subst hl; subst hE; subst hbase; subst haw
  refine g_aload_n (pc := 0) C dX5_fillRow_0 rfl ?_
  refine g_callS (pc := 1) C B mX5_49 (c_space _ _ _ _ _ i j (hm.ln (by omega))) rfl rfl (by decide) ⟨Nat.le_refl _, Nat.le_refl _⟩ (Nat.le_of_ble_eq_true rfl) dX5_fillRow_1 (fun rr SS hP => ?_)
  rw [hP.1, hP.2]
  refine g_eqi (nI (mt j)) (hV.2.1 j (by omega)).1 ?_
  refine g_istore (pc := 4) C dX5_fillRow_4 (by decide) ?_
  refine g_aload_n (pc := 6) C dX5_fillRow_6 rfl ?_
  refine g_iload_n (pc := 7) C dX5_fillRow_7 rfl ?_
  refine g_callS (pc := 8) C B mX5_53 (c_gain _ _ _ _ _ i j (hm.ln (by omega)) (nI (sz j))) rfl rfl (by decide) ⟨Nat.le_refl _, Nat.le_refl _⟩ (Nat.le_of_ble_eq_true rfl) dX5_fillRow_8 (fun rr SS hP => ?_)
  rw [hP.1, hP.2]
  refine g_eqi (nI (gx j)) (hV.2.2.2 j (by omega)).1 ?_
  refine g_istore (pc := 11) C dX5_fillRow_11 (by decide) ?_
  refine g_iconst (pc := 13) C 0 dX5_fillRow_13 (by decide) ?_
  refine g_istore (pc := 14) C dX5_fillRow_14 (by decide) ?_
  refine g_subR (lp_fr2 (Fn := Fn) (gx := gx) C B hX hm hj (hV.2.2.1 j hj).2 (hV.2.1 j hj).2 (hV.2.2.2 j hj).2 hro hF hFn ?_ (room + 1) 0 (by omega)) ⟨rfl, rfl, rfl, rfl, rfl, rfl, rfl, rfl, trivial⟩
  exact g_vret (pc := 98) C B dX5_fillRow_98 (⟨rfl, rfl⟩)

set_option maxHeartbeats 400000 in
set_option maxRecDepth 100000 in
theorem lp_mab {X : Xt} {Y : Yt} {P : Option AV → Mm → Prop} {nm : String} (C : Cx X Y cX5_mostAtBest 9 RX5) (B : Bx X Y nm (some Jvm.ClassFile.FieldType.int) 2 0 0 P) {S : Mm} {i n mc room j left tot : Nat} {lc gd mt sz gx : Nat → Nat} {Fn : Nat → Nat} (hX : ShX S mc lc) (hm : MSh S i n) (hV : VaH S gd mt sz gx i n) (hj : j < n) (hr : left ≤ room) (hro : room ≤ 200) (hF : ∀ a, a ≤ room → S.1 (4, 0, j + 1) a = nI (Fn a)) (hFn : ∀ a, Fn a ≤ 400000000) (hT : S.1 (4, 0, j) left = nI tot) (htot : tot ≤ 400000000) (hP0 : P (some (vi (nI (maN Fn tot (sz j) (gx j) left (min (mt j) (left / sz j) + 1))))) S) : ∀ n9 k, k + n9 = min (mt j) (left / sz j) + 1 → G X Y 0 0 S 17 [(0, vr (0, 0, 8)), (1, vi (nI j)), (2, vr (3, i, j)), (3, vi (nI (sz j))), (4, vi (nI left)), (5, vi (nI (gx j))), (6, vi (nI (maN Fn tot (sz j) (gx j) left k))), (7, vi (lfI left (sz j) k)), (8, vi (nI k))] [] := by
  have hn8 := hm.n8
  have hs := (hV.2.2.1 j hj).2
  have hmt := (hV.2.1 j hj).2
  have hg := (hV.2.2.2 j hj).2
  intro n9
  induction n9 with
  | zero =>
    intro k hk
    have hcase : mt j < k ∨ (k ≤ mt j ∧ left < k * sz j ∧ k * sz j ≤ 3000) := by
      rcases Nat.lt_or_ge (left / sz j) (mt j) with q | q
      · have e : k = left / sz j + 1 := by rw [Nat.min_eq_right (Nat.le_of_lt q)] at hk; omega
        refine Or.inr ⟨by omega, ?_, ?_⟩
        · rw [e]; exact (Nat.div_lt_iff_lt_mul hs.1).mp (Nat.lt_succ_self _)
        · rw [e, Nat.succ_mul]; have := Nat.div_mul_le_self left (sz j); omega
      · rw [Nat.min_eq_left q] at hk; exact Or.inl (by omega)
    have hk9 : k ≤ 21 := by have := Nat.min_le_left (mt j) (left / sz j); omega
    have ek : k = min (mt j) (left / sz j) + 1 := by omega
    rw [← ek] at hP0
    rcases hcase with hcase | ⟨h1, h2, h3⟩
    ·
      refine g_iload (pc := 17) C dX5_mostAtBest_17 rfl ?_
      refine g_aload_n (pc := 19) C dX5_mostAtBest_19 rfl ?_
      refine g_callS (pc := 20) C B mX5_49 (c_space _ _ _ _ _ i j (hm.ln (by omega))) rfl rfl (by decide) ⟨Nat.le_refl _, Nat.le_refl _⟩ (Nat.le_of_ble_eq_true rfl) dX5_mostAtBest_20 (fun rr SS hP => ?_)
      rw [hP.1, hP.2]
      refine g_eqi (nI (mt j)) (hV.2.1 j (by omega)).1 ?_
      refine g_icmp_gt (pc := 23) C 76 dX5_mostAtBest_23 (by decide) (fun _ => ?_) (fun h23 => absurd ((nI_ltI (a := mt j) (b := k) (by omega) (by omega)).mpr (by omega)) h23)
      refine g_iload (pc := 76) C dX5_mostAtBest_76 rfl ?_
      exact g_iret (pc := 78) C B rfl dX5_mostAtBest_78 (hP0)
    ·
      refine g_iload (pc := 17) C dX5_mostAtBest_17 rfl ?_
      refine g_aload_n (pc := 19) C dX5_mostAtBest_19 rfl ?_
      refine g_callS (pc := 20) C B mX5_49 (c_space _ _ _ _ _ i j (hm.ln (by omega))) rfl rfl (by decide) ⟨Nat.le_refl _, Nat.le_refl _⟩ (Nat.le_of_ble_eq_true rfl) dX5_mostAtBest_20 (fun rr SS hP => ?_)
      rw [hP.1, hP.2]
      refine g_eqi (nI (mt j)) (hV.2.1 j (by omega)).1 ?_
      refine g_icmp_gt (pc := 23) C 76 dX5_mostAtBest_23 (by decide) (fun h23 => absurd h23 (fun q => absurd ((nI_ltI (a := mt j) (b := k) (by omega) (by omega)).mp q) (by omega))) (fun _ => ?_)
      refine g_iload (pc := 26) C dX5_mostAtBest_26 rfl ?_
      refine g_if_lt (pc := 28) C 76 dX5_mostAtBest_28 (by decide) (fun _ => ?_) (fun h28 => absurd (pk_sneg (by omega) h2) h28)
      refine g_iload (pc := 76) C dX5_mostAtBest_76 rfl ?_
      exact g_iret (pc := 78) C B rfl dX5_mostAtBest_78 (hP0)
  | succ n9 ih =>
    intro k hk
    have hm1 := Nat.min_le_left (mt j) (left / sz j)
    have hm2 := Nat.min_le_right (mt j) (left / sz j)
    have hcb : k * sz j ≤ left := (Nat.le_div_iff_mul_le hs.1).mp (by omega)
    have hf1 := hFn (left - k * sz j)
    have hcg : k * gx j ≤ 20 * 2000000 := Nat.mul_le_mul (by omega) hg
    refine g_iload (pc := 17) C dX5_mostAtBest_17 rfl ?_
    refine g_aload_n (pc := 19) C dX5_mostAtBest_19 rfl ?_
    refine g_callS (pc := 20) C B mX5_49 (c_space _ _ _ _ _ i j (hm.ln (by omega))) rfl rfl (by decide) ⟨Nat.le_refl _, Nat.le_refl _⟩ (Nat.le_of_ble_eq_true rfl) dX5_mostAtBest_20 (fun rr SS hP => ?_)
    rw [hP.1, hP.2]
    refine g_eqi (nI (mt j)) (hV.2.1 j (by omega)).1 ?_
    refine g_icmp_gt (pc := 23) C 76 dX5_mostAtBest_23 (by decide) (fun h23 => absurd h23 (fun q => absurd ((nI_ltI (a := mt j) (b := k) (by omega) (by omega)).mp q) (by omega))) (fun _ => ?_)
    refine g_iload (pc := 26) C dX5_mostAtBest_26 rfl ?_
    refine g_if_lt (pc := 28) C 76 dX5_mostAtBest_28 (by decide) (fun h28 => absurd h28 (by rw [lfI_n hcb]; exact nI_pos (by omega))) (fun _ => ?_)
    refine g_iload (pc := 31) C dX5_mostAtBest_31 rfl ?_
    refine g_iload (pc := 33) C dX5_mostAtBest_33 rfl ?_
    refine g_imul (pc := 35) C dX5_mostAtBest_35 ?_
    refine g_eqi (nI (k * (gx j))) (pk_mul k (gx j)) ?_
    refine g_aload_n (pc := 36) C dX5_mostAtBest_36 rfl ?_
    refine g_getr (pc := 37) C fX5_11 rfl (hX.1 8 (by decide)) dX5_mostAtBest_37 rfl hX.v0 ?_
    refine g_iload_n (pc := 40) C dX5_mostAtBest_40 rfl ?_
    refine g_iconst (pc := 41) C 1 dX5_mostAtBest_41 (by decide) ?_
    refine g_iadd (pc := 42) C dX5_mostAtBest_42 ?_
    refine g_eqi (nI (j + 1)) (nI_add j 1) ?_
    refine g_aaldN (pc := 43) C rfl (by decide) (hX.1 9 (by decide)) (by omega) (by decide) (hX.row (by omega)).2 dX5_mostAtBest_43 ?_
    refine g_iload (pc := 44) C dX5_mostAtBest_44 rfl ?_
    refine g_eqi (nI (left - k * sz j)) (lfI_n hcb) ?_
    refine g_ialdN (pc := 46) C rfl (hX.row (by omega)).1 (by omega) (by decide) dX5_mostAtBest_46 ?_
    refine g_eqi (nI (Fn (left - k * sz j))) (hF _ (by omega)) ?_
    refine g_iadd (pc := 47) C dX5_mostAtBest_47 ?_
    refine g_eqi (nI ((k * (gx j)) + (Fn (left - k * sz j)))) (nI_add (k * (gx j)) (Fn (left - k * sz j))) ?_
    refine g_aload_n (pc := 48) C dX5_mostAtBest_48 rfl ?_
    refine g_getr (pc := 49) C fX5_11 rfl (hX.1 8 (by decide)) dX5_mostAtBest_49 rfl hX.v0 ?_
    refine g_iload_n (pc := 52) C dX5_mostAtBest_52 rfl ?_
    refine g_aaldN (pc := 53) C rfl (by decide) (hX.1 9 (by decide)) (by omega) (by decide) (hX.row (by omega)).2 dX5_mostAtBest_53 ?_
    refine g_iload (pc := 54) C dX5_mostAtBest_54 rfl ?_
    refine g_ialdN (pc := 56) C rfl (hX.row (by omega)).1 (by omega) (by decide) dX5_mostAtBest_56 ?_
    refine g_eqi (nI tot) hT ?_
    refine g_icmp_ne (pc := 57) C 64 dX5_mostAtBest_57 (by decide) (fun h57 => ?_) (fun h57 => ?_)
    ·
      refine g_iload (pc := 64) C dX5_mostAtBest_64 rfl ?_
      refine g_iload_n (pc := 66) C dX5_mostAtBest_66 rfl ?_
      refine g_isub (pc := 67) C dX5_mostAtBest_67 ?_
      refine g_istore (pc := 68) C dX5_mostAtBest_68 (by decide) ?_
      refine g_iincN (pc := 70) C 1 dX5_mostAtBest_70 rfl (by decide) (by decide) ?_
      refine g_goto (pc := 73) C 17 dX5_mostAtBest_73 (by decide) ?_
      exact g_subR (ih (k + 1) (by omega)) ⟨rfl, rfl, rfl, rfl, rfl, rfl, by show some (vi _) = some (vi _); rw [maN, if_neg (fun q => h57 ((nI_eq (a := k * gx j + Fn (left - k * sz j)) (b := tot) (by omega) (by omega)).mpr q))], congrArg (fun z => some (vi z)) (lfI_s left (sz j) k), rfl, trivial⟩
    ·
      refine g_iload (pc := 60) C dX5_mostAtBest_60 rfl ?_
      refine g_istore (pc := 62) C dX5_mostAtBest_62 (by decide) ?_
      refine g_iload (pc := 64) C dX5_mostAtBest_64 rfl ?_
      refine g_iload_n (pc := 66) C dX5_mostAtBest_66 rfl ?_
      refine g_isub (pc := 67) C dX5_mostAtBest_67 ?_
      refine g_istore (pc := 68) C dX5_mostAtBest_68 (by decide) ?_
      refine g_iincN (pc := 70) C 1 dX5_mostAtBest_70 rfl (by decide) (by decide) ?_
      refine g_goto (pc := 73) C 17 dX5_mostAtBest_73 (by decide) ?_
      exact g_subR (ih (k + 1) (by omega)) ⟨rfl, rfl, rfl, rfl, rfl, rfl, by show some (vi _) = some (vi _); rw [maN, if_pos ((nI_eq (a := k * gx j + Fn (left - k * sz j)) (b := tot) (by omega) (by omega)).mp h57)], congrArg (fun z => some (vi z)) (lfI_s left (sz j) k), rfl, trivial⟩
set_option maxHeartbeats 400000 in
set_option maxRecDepth 100000 in
theorem c_mab (l : Launch) (E : En) (base aw : Nat) (S : Mm) (i n mc : Nat) (lc gd mt sz gx : Nat → Nat) (hX : ShX S mc lc) (hm : MSh S i n) (hV : VaH S gd mt sz gx i n) (room : Nat) (hro : room ≤ 200) (j : Nat) (hj : j < n) (Fn : Nat → Nat) (hF : ∀ a, a ≤ room → S.1 (4, 0, j + 1) a = nI (Fn a)) (hFn : ∀ a, Fn a ≤ 400000000) (left tot : Nat) (hr : left ≤ room) (hT : S.1 (4, 0, j) left = nI tot) (htot : tot ≤ 400000000) : Cn l E base aw yX5_mostAtBest cX5_mostAtBest 9 (some Jvm.ClassFile.FieldType.int) 2 0 0 noF S [vr (0, 0, 8), vi (nI j), vr (3, i, j), vi (nI (sz j)), vi (nI left)] (fun r S' => r = some (vi (nI (maN Fn tot (sz j) (gx j) left (min (mt j) (left / sz j) + 1)))) ∧ S' = S) := by
  refine Cn.of (by decide) (Nat.le_of_ble_eq_true rfl) ?_
  intro X Y hl hE hbase haw hfr C B
  subst hl; subst hE; subst hbase; subst haw
  refine g_aload_n (pc := 0) C dX5_mostAtBest_0 rfl ?_
  refine g_iload_n (pc := 1) C dX5_mostAtBest_1 rfl ?_
  refine g_callS (pc := 2) C B mX5_53 (c_gain _ _ _ _ _ i j (hm.ln (by omega)) (nI (sz j))) rfl rfl (by decide) ⟨Nat.le_refl _, Nat.le_refl _⟩ (Nat.le_of_ble_eq_true rfl) dX5_mostAtBest_2 (fun rr SS hP => ?_)
  rw [hP.1, hP.2]
  refine g_eqi (nI (gx j)) (hV.2.2.2 j (by omega)).1 ?_
  refine g_istore (pc := 5) C dX5_mostAtBest_5 (by decide) ?_
  refine g_iconst (pc := 7) C 0 dX5_mostAtBest_7 (by decide) ?_
  refine g_istore (pc := 8) C dX5_mostAtBest_8 (by decide) ?_
  refine g_iload (pc := 10) C dX5_mostAtBest_10 rfl ?_
  refine g_istore (pc := 12) C dX5_mostAtBest_12 (by decide) ?_
  refine g_iconst (pc := 14) C 0 dX5_mostAtBest_14 (by decide) ?_
  refine g_istore (pc := 15) C dX5_mostAtBest_15 (by decide) ?_
  exact g_subR (lp_mab (room := room) (Fn := Fn) (tot := tot) C B hX hm hV hj hr hro hF hFn hT htot ⟨rfl, rfl⟩ (min (mt j) (left / sz j) + 1) 0 (by omega)) ⟨rfl, rfl, rfl, rfl, rfl, rfl, rfl, congrArg (fun z => some (vi z)) (lfI_0 left (sz j)).symm, rfl, trivial⟩

theorem xpM_tab (S : Mm) (mt sz gx : Nat → Nat) (n room j : Nat) : ∀ w a, (xpM S mt sz gx n room w).1 (4, 0, j) a = S.1 (4, 0, j) a
  | 0, a => rfl
  | w + 1, a => (wI_ne (fun q => by cases q.1)).trans (xpM_tab S mt sz gx n room j w a)
set_option maxHeartbeats 400000 in
set_option maxRecDepth 100000 in
theorem lp_take {X : Xt} {Y : Yt} {P : Option AV → Mm → Prop} {nm : String}  (C : Cx X Y cX5_takePieces 8 RX5) (B : Bx X Y nm (some Jvm.ClassFile.FieldType.int) 3 0 0 P) {S : Mm} {i n mc room : Nat} {lc gd mt sz gx : Nat → Nat} (hX0 : ShX S mc lc) (hm0 : MSh S i n) (hn : S.1 (1, i, 0) 3 = nI n) (hV0 : VaH S gd mt sz gx i n) (hro : room ≤ 200) (htab : ∀ j, j ≤ n → ∀ a, a ≤ room → S.1 (4, 0, j) a = nI (xdR mt sz gx n (n - j) a)) (K : G X Y 0 0 (xpM S mt sz gx n room n) 107 [(0, vr (0, 0, 8)), (1, vr (1, i, 0)), (2, vr (0, 0, 2)), (3, vi (nI room)), (4, vi (nI (xll mt sz gx n room n))), (5, vi (xvI S i mt sz gx n room n)), (6, vi (nI n))] []) : ∀ n9 w, w + n9 = n → G X Y 0 0 (xpM S mt sz gx n room w) 17 [(0, vr (0, 0, 8)), (1, vr (1, i, 0)), (2, vr (0, 0, 2)), (3, vi (nI room)), (4, vi (nI (xll mt sz gx n room w))), (5, vi (xvI S i mt sz gx n room w)), (6, vi (nI w))] [] := by
  intro n9
  induction n9 with
  | zero =>
    intro w hw
    have e : n = w := by omega
    subst e
    have hbt := xpM_but S mt sz gx n room n
    have hX := hX0.same hbt.1
    have hm := hm0.same hbt.1
    have hV := hV0.but hbt
    have hn8 := hm.n8
    have hn1 : (xpM S mt sz gx n room n).1 (1, i, 0) 3 = nI n := (hbt.2 _ _ (fun z => by rcases z with z | z <;> cases z)).trans hn
    have hlf := xll_le mt sz gx n room n
    have hs := fun h : n < n => (hV.2.2.1 n h).2
    have htab1 : ∀ j, j ≤ n → ∀ a, a ≤ room → (xpM S mt sz gx n room n).1 (4, 0, j) a = nI (xdR mt sz gx n (n - j) a) := fun j hj a ha => by rw [xpM_tab]; exact htab j hj a ha
    refine g_iload (pc := 17) C dX5_takePieces_17 rfl ?_
    refine g_aload_n (pc := 19) C dX5_takePieces_19 rfl ?_
    refine g_geti (pc := 20) C fX5_20 rfl (hm.1 0 (by decide)) dX5_takePieces_20 rfl ?_
    refine g_eqi (nI n) hn1 ?_
    refine g_icmp_ge (pc := 23) C 107 dX5_takePieces_23 (by decide) (fun _ => ?_) (fun h23 => absurd ((nI_leI (a := n) (b := n) (by omega) (by omega)).mpr (by omega)) h23)
    exact K
  | succ n9 ih =>
    intro w hw
    have hbt := xpM_but S mt sz gx n room w
    have hX := hX0.same hbt.1
    have hm := hm0.same hbt.1
    have hV := hV0.but hbt
    have hn8 := hm.n8
    have hn1 : (xpM S mt sz gx n room w).1 (1, i, 0) 3 = nI n := (hbt.2 _ _ (fun z => by rcases z with z | z <;> cases z)).trans hn
    have hlf := xll_le mt sz gx n room w
    have hs := fun h : w < n => (hV.2.2.1 w h).2
    have htab1 : ∀ j, j ≤ n → ∀ a, a ≤ room → (xpM S mt sz gx n room w).1 (4, 0, j) a = nI (xdR mt sz gx n (n - j) a) := fun j hj a ha => by rw [xpM_tab]; exact htab j hj a ha
    refine g_iload (pc := 17) C dX5_takePieces_17 rfl ?_
    refine g_aload_n (pc := 19) C dX5_takePieces_19 rfl ?_
    refine g_geti (pc := 20) C fX5_20 rfl (hm.1 0 (by decide)) dX5_takePieces_20 rfl ?_
    refine g_eqi (nI n) hn1 ?_
    refine g_icmp_ge (pc := 23) C 107 dX5_takePieces_23 (by decide) (fun h23 => absurd h23 (fun q => absurd ((nI_leI (a := n) (b := w) (by omega) (by omega)).mp q) (by omega))) (fun _ => ?_)
    refine g_aload_n (pc := 26) C dX5_takePieces_26 rfl ?_
    refine g_iload (pc := 27) C dX5_takePieces_27 rfl ?_
    refine g_callV (pc := 29) C B mX5_32 (c_lN_t _ _ _ _ _ i n hm hn1 w (by omega)) rfl rfl rfl rfl (hm.1 0 (by decide)) (by decide) ⟨Nat.le_refl _, Nat.le_refl _⟩ (Nat.le_of_ble_eq_true rfl) dX5_takePieces_29 (fun rr SS hP => ?_)
    rw [hP.1, hP.2]
    refine g_astore (pc := 32) C dX5_takePieces_32 (by decide) ?_
    refine g_aload (pc := 34) C dX5_takePieces_34 rfl ?_
    refine g_ifnull (pc := 36) C 101 dX5_takePieces_36 (by decide) (fun h => by cases h) (fun _ _ => ?_)
    refine g_aload_n (pc := 39) C dX5_takePieces_39 rfl ?_
    refine g_getr (pc := 40) C fX5_16 rfl (hX.1 8 (by decide)) dX5_takePieces_40 rfl hX.v1 ?_
    refine g_iload (pc := 43) C dX5_takePieces_43 rfl ?_
    refine g_aload_n (pc := 45) C dX5_takePieces_45 rfl ?_
    refine g_iload (pc := 46) C dX5_takePieces_46 rfl ?_
    refine g_aload (pc := 48) C dX5_takePieces_48 rfl ?_
    refine g_aload_n (pc := 50) C dX5_takePieces_50 rfl ?_
    refine g_aload (pc := 51) C dX5_takePieces_51 rfl ?_
    refine g_geti (pc := 53) C fX5_36 rfl (hm.ln (by omega)) dX5_takePieces_53 rfl ?_
    refine g_eqi (nI (gd w)) (hV.1 w (by omega)).1 ?_
    have hg16 := (hV0.1 w (by omega)).2
    refine g_ialdN (pc := 56) C rfl (hX.1 2 (by decide)) (by omega) (by decide) dX5_takePieces_56 ?_
    refine g_eqi (nI (sz w)) (hV.2.2.1 w (by omega)).1 ?_
    refine g_iload (pc := 57) C dX5_takePieces_57 rfl ?_
    refine g_callV (pc := 59) C B mX5_63 (c_mab _ _ _ _ _ i n mc lc gd mt sz gx hX hm hV room hro w (by omega) (xdR mt sz gx n (n - 1 - w)) (fun a9 h9 => by have q := htab1 (w + 1) (by omega) a9 h9; rw [show n - (w + 1) = n - 1 - w by omega] at q; exact q) (fun a9 => Nat.le_trans (xdR_le (fun l hl => (hV.2.1 l hl).2) (fun l hl => (hV.2.2.2 l hl).2) (n - 1 - w) (by omega) a9) (by omega)) (xll mt sz gx n room w) (xdR mt sz gx n (n - w) (xll mt sz gx n room w)) hlf (htab1 w (by omega) _ hlf) (Nat.le_trans (xdR_le (fun l hl => (hV.2.1 l hl).2) (fun l hl => (hV.2.2.2 l hl).2) (n - w) (by omega) _) (by omega))) rfl rfl rfl rfl (hX.1 8 (by decide)) (by decide) ⟨Nat.le_refl _, Nat.le_refl _⟩ (Nat.le_of_ble_eq_true rfl) dX5_takePieces_59 (fun rr SS hP => ?_)
    rw [hP.1, hP.2]
    refine g_eqi (nI (xc mt sz gx n w (xll mt sz gx n room w))) rfl ?_
    have hcl := xc_le mt sz gx n w (xll mt sz gx n room w) (hs (by omega)).1
    refine g_iastN (pc := 62) C rfl (hX.1 10 (by decide)) (by omega) (by decide) dX5_takePieces_62 ?_
    have hbt9 := xpM_but S mt sz gx n room (w + 1)
    have hX := hX0.same hbt9.1
    have hm := hm0.same hbt9.1
    have hV := hV0.but hbt9
    show G X Y 0 0 (xpM S mt sz gx n room (w + 1)) _ _ _
    refine g_iload (pc := 63) C dX5_takePieces_63 rfl ?_
    refine g_aload_n (pc := 65) C dX5_takePieces_65 rfl ?_
    refine g_getr (pc := 66) C fX5_16 rfl (hX.1 8 (by decide)) dX5_takePieces_66 rfl hX.v1 ?_
    refine g_iload (pc := 69) C dX5_takePieces_69 rfl ?_
    refine g_ialdN (pc := 71) C rfl (hX.1 10 (by decide)) (by omega) (by decide) dX5_takePieces_71 ?_
    refine g_eqi (nI (xc mt sz gx n w (xll mt sz gx n room w))) wI_same ?_
    refine g_aload_n (pc := 72) C dX5_takePieces_72 rfl ?_
    refine g_aload (pc := 73) C dX5_takePieces_73 rfl ?_
    refine g_geti (pc := 75) C fX5_36 rfl (hm.ln (by omega)) dX5_takePieces_75 rfl ?_
    refine g_eqi (nI (gd w)) (hV.1 w (by omega)).1 ?_
    have hg16 := (hV0.1 w (by omega)).2
    refine g_ialdN (pc := 78) C rfl (hX.1 2 (by decide)) (by omega) (by decide) dX5_takePieces_78 ?_
    refine g_eqi (nI (sz w)) (hV.2.2.1 w (by omega)).1 ?_
    refine g_imul (pc := 79) C dX5_takePieces_79 ?_
    refine g_eqi (nI ((xc mt sz gx n w (xll mt sz gx n room w)) * (sz w))) (pk_mul (xc mt sz gx n w (xll mt sz gx n room w)) (sz w)) ?_
    refine g_isub (pc := 80) C dX5_takePieces_80 ?_
    refine g_eqi (nI (xll mt sz gx n room w - xc mt sz gx n w (xll mt sz gx n room w) * sz w)) (pk_sub (a := xll mt sz gx n room w) (b := xc mt sz gx n w (xll mt sz gx n room w) * sz w) hcl.2) ?_
    refine g_istore (pc := 81) C dX5_takePieces_81 (by decide) ?_
    refine g_iload (pc := 83) C dX5_takePieces_83 rfl ?_
    refine g_aload_n (pc := 85) C dX5_takePieces_85 rfl ?_
    refine g_getr (pc := 86) C fX5_16 rfl (hX.1 8 (by decide)) dX5_takePieces_86 rfl hX.v1 ?_
    refine g_iload (pc := 89) C dX5_takePieces_89 rfl ?_
    refine g_ialdN (pc := 91) C rfl (hX.1 10 (by decide)) (by omega) (by decide) dX5_takePieces_91 ?_
    refine g_eqi (nI (xc mt sz gx n w (xll mt sz gx n room w))) wI_same ?_
    refine g_aload (pc := 92) C dX5_takePieces_92 rfl ?_
    refine g_geti (pc := 94) C fX5_67 rfl (hm.ln (by omega)) dX5_takePieces_94 rfl ?_
    refine g_eqi (S.1 (3, i, w) 4) (hbt9.2 _ _ (fun z => by rcases z with z | z <;> cases z)) ?_
    refine g_imul (pc := 97) C dX5_takePieces_97 ?_
    refine g_iadd (pc := 98) C dX5_takePieces_98 ?_
    refine g_istore (pc := 99) C dX5_takePieces_99 (by decide) ?_
    refine g_iincN (pc := 101) C 1 dX5_takePieces_101 rfl (by decide) (by decide) ?_
    refine g_goto (pc := 104) C 17 dX5_takePieces_104 (by decide) ?_
    exact g_subR (ih (w + 1) (by omega)) ⟨rfl, rfl, rfl, rfl, rfl, rfl, rfl, trivial⟩
set_option maxHeartbeats 400000 in
set_option maxRecDepth 100000 in
theorem c_take (l : Launch) (E : En) (base aw : Nat) (S : Mm) (i n mc : Nat) (lc gd mt sz gx : Nat → Nat) (hX : ShX S mc lc) (hm : MSh S i n) (hn : S.1 (1, i, 0) 3 = nI n) (hV : VaH S gd mt sz gx i n) (room : Nat) (hro : room ≤ 200) (htab : ∀ j, j ≤ n → ∀ a, a ≤ room → S.1 (4, 0, j) a = nI (xdR mt sz gx n (n - j) a)) : Cn l E base aw yX5_takePieces cX5_takePieces 8 (some Jvm.ClassFile.FieldType.int) 3 0 0 noF S [vr (0, 0, 8), vr (1, i, 0), vr (0, 0, 2), vi (nI room)] (fun r S' => r = some (vi (xvI (flM S (0, 0, 10) 0 8) i mt sz gx n room n)) ∧ S' = xpM (flM S (0, 0, 10) 0 8) mt sz gx n room n) := by
  have hn8 := hm.n8
  refine Cn.of (by decide) (Nat.le_of_ble_eq_true rfl) ?_
  intro X Y hl hE hbase haw hfr C B
  subst hl; subst hE; subst hbase; subst haw
  refine g_aload_n (pc := 0) C dX5_takePieces_0 rfl ?_
  refine g_getr (pc := 1) C fX5_16 rfl (hX.1 8 (by decide)) dX5_takePieces_1 rfl hX.v1 ?_
  refine g_iconst (pc := 4) C 0 dX5_takePieces_4 (by decide) ?_
  refine g_callS (pc := 5) C B mX5_26 (c_fill _ _ _ _ _ (0, 0, 10) 8 0 rfl (hX.1 10 (by decide)) (by decide)) rfl rfl (by decide) ⟨Nat.le_refl _, Nat.le_refl _⟩ (Nat.le_of_ble_eq_true rfl) dX5_takePieces_5 (fun rr SS hP => ?_)
  rw [hP.1, hP.2]
  refine g_iload_n (pc := 8) C dX5_takePieces_8 rfl ?_
  refine g_istore (pc := 9) C dX5_takePieces_9 (by decide) ?_
  refine g_iconst (pc := 11) C 0 dX5_takePieces_11 (by decide) ?_
  refine g_istore (pc := 12) C dX5_takePieces_12 (by decide) ?_
  refine g_iconst (pc := 14) C 0 dX5_takePieces_14 (by decide) ?_
  refine g_istore (pc := 15) C dX5_takePieces_15 (by decide) ?_
  have hb8 := flM_vp S 0 8
  refine g_subR (lp_take C B (hX.same hb8.1) (hm.same hb8.1) ((hb8.2 _ _ (fun z => by rcases z with z | z <;> cases z)).trans hn) (hV.but hb8) hro (fun j hj a ha => ((flM_but S (0, 0, 10) 0 8).2 _ _ (fun q => by cases q)).trans (htab j hj a ha)) ?_ n 0 (by omega)) ⟨rfl, rfl, rfl, rfl, rfl, rfl, rfl, trivial⟩
  refine g_iload (pc := 107) C dX5_takePieces_107 rfl ?_
  exact g_iret (pc := 109) C B rfl dX5_takePieces_109 (⟨rfl, rfl⟩)

set_option maxHeartbeats 400000 in
set_option maxRecDepth 100000 in
theorem lp_plan {X : Xt} {Y : Yt} {P : Option AV → Mm → Prop} {nm : String} (C : Cx X Y cX5_plan 6 RX5) (B : Bx X Y nm (some Jvm.ClassFile.FieldType.int) 4 0 0 P) {S : Mm} {i n mc room : Nat} {lc gd mt sz gx : Nat → Nat} (hX0 : ShX S mc lc) (hm0 : MSh S i n) (hn : S.1 (1, i, 0) 3 = nI n) (hV0 : VaH S gd mt sz gx i n) (hro : room ≤ 200) (h0 : ∀ a, a ≤ room → S.1 (4, 0, n) a = nI 0) (K : G X Y 0 0 (xwM S mt sz gx n room n) 61 [(0, vr (0, 0, 8)), (1, vr (1, i, 0)), (2, vr (0, 0, 2)), (3, vi (nI room)), (4, vi (wvn n n))] []) : ∀ n9 k, k + n9 = n → G X Y 0 0 (xwM S mt sz gx n room k) 21 [(0, vr (0, 0, 8)), (1, vr (1, i, 0)), (2, vr (0, 0, 2)), (3, vi (nI room)), (4, vi (wvn n k))] [] := by
  have hn8 := hm0.n8
  intro n9
  induction n9 with
  | zero =>
    intro k hk
    have e : n = k := by omega
    subst e
    have ew : wvn n n = -1 := by unfold wvn; rw [if_neg (by omega)]
    refine g_iload (pc := 21) C dX5_plan_21 rfl ?_
    refine g_if_lt (pc := 23) C 61 dX5_plan_23 (by decide) (fun _ => ?_) (fun h23 => absurd (by rw [ew]; decide) h23)
    exact K
  | succ n9 ih =>
    intro k hk
    have hbt := xwM_but S mt sz gx n room k
    have hX := hX0.same hbt.1
    have hm := hm0.same hbt.1
    have hV := hV0.but hbt
    have hn1 : (xwM S mt sz gx n room k).1 (1, i, 0) 3 = nI n := (hbt.2 _ _ (fun z => by rcases z with z | z <;> cases z)).trans hn
    have ew : wvn n k = nI (n - 1 - k) := by unfold wvn; rw [if_pos (by omega)]
    rw [ew]
    refine g_iload (pc := 21) C dX5_plan_21 rfl ?_
    refine g_if_lt (pc := 23) C 61 dX5_plan_23 (by decide) (fun h23 => absurd h23 (nI_pos (by omega))) (fun _ => ?_)
    refine g_aload_n (pc := 26) C dX5_plan_26 rfl ?_
    refine g_iload (pc := 27) C dX5_plan_27 rfl ?_
    refine g_callV (pc := 29) C B mX5_32 (c_lN_t _ _ _ _ _ i n hm hn1 (n - 1 - k) (by omega)) rfl rfl rfl rfl (hm.1 0 (by decide)) (by decide) ⟨Nat.le_refl _, Nat.le_refl _⟩ (Nat.le_of_ble_eq_true rfl) dX5_plan_29 (fun rr SS hP => ?_)
    rw [hP.1, hP.2]
    refine g_astore (pc := 32) C dX5_plan_32 (by decide) ?_
    refine g_aload (pc := 34) C dX5_plan_34 rfl ?_
    refine g_ifnull (pc := 36) C 55 dX5_plan_36 (by decide) (fun h => by cases h) (fun _ _ => ?_)
    refine g_aload_n (pc := 39) C dX5_plan_39 rfl ?_
    refine g_iload (pc := 40) C dX5_plan_40 rfl ?_
    refine g_aload (pc := 42) C dX5_plan_42 rfl ?_
    refine g_aload_n (pc := 44) C dX5_plan_44 rfl ?_
    refine g_aload (pc := 45) C dX5_plan_45 rfl ?_
    refine g_geti (pc := 47) C fX5_36 rfl (hm.ln (by omega)) dX5_plan_47 rfl ?_
    refine g_eqi (nI (gd (n - 1 - k))) (hV.1 (n - 1 - k) (by omega)).1 ?_
    have hg16 := (hV.1 (n - 1 - k) (by omega)).2
    refine g_ialdN (pc := 50) C rfl (hX.1 2 (by decide)) (by omega) (by decide) dX5_plan_50 ?_
    refine g_eqi (nI (sz (n - 1 - k))) (hV.2.2.1 (n - 1 - k) (by omega)).1 ?_
    refine g_iload_n (pc := 51) C dX5_plan_51 rfl ?_
    refine g_callV (pc := 52) C B mX5_41 (c_fillRow _ _ _ _ _ i n mc lc gd mt sz gx hX hm hV room hro (n - 1 - k) (by omega) (xdR mt sz gx n k) (fun a9 h9 => by have q := xwM_at S mt sz gx n h0 k (by omega) k (Nat.le_refl _) a9 h9; rw [show n - k = n - 1 - k + 1 by omega] at q; exact q) (fun a9 => Nat.le_trans (xdR_le (fun l hl => (hV.2.1 l hl).2) (fun l hl => (hV.2.2.2 l hl).2) k (by omega) a9) (by omega))) rfl rfl rfl rfl (hX.1 8 (by decide)) (by decide) ⟨Nat.le_refl _, Nat.le_refl _⟩ (Nat.le_of_ble_eq_true rfl) dX5_plan_52 (fun rr SS hP => ?_)
    rw [hP.1, hP.2]
    refine g_iinc (pc := 55) C (-1) dX5_plan_55 rfl (by decide) (by decide) ?_
    refine g_goto (pc := 58) C 21 dX5_plan_58 (by decide) ?_
    exact g_subR (ih (k + 1) (by omega)) ⟨rfl, rfl, rfl, rfl, congrArg (fun z => some (vi z)) (wvn_s n k (by omega)), trivial⟩
set_option maxHeartbeats 400000 in
set_option maxRecDepth 100000 in
theorem c_plan (l : Launch) (E : En) (base aw : Nat) (S : Mm) (i n mc : Nat) (lc gd mt sz gx : Nat → Nat) (hX : ShX S mc lc) (hm : MSh S i n) (hn : S.1 (1, i, 0) 3 = nI n) (hV : VaH S gd mt sz gx i n) (room : Nat) (hro : room ≤ 200) : Cn l E base aw yX5_plan cX5_plan 6 (some Jvm.ClassFile.FieldType.int) 4 0 0 noF S [vr (0, 0, 8), vr (1, i, 0), vr (0, 0, 2), vi (nI room)] (fun r S' => r = some (vi (xvI (flM (xtM S mt sz gx n room) (0, 0, 10) 0 8) i mt sz gx n room n)) ∧ S' = xpM (flM (xtM S mt sz gx n room) (0, 0, 10) 0 8) mt sz gx n room n) := by
  have hn8 := hm.n8
  refine Cn.of (by decide) (Nat.le_of_ble_eq_true rfl) ?_
  intro X Y hl hE hbase haw hfr C B
  subst hl; subst hE; subst hbase; subst haw
  refine g_aload_n (pc := 0) C dX5_plan_0 rfl ?_
  refine g_getr (pc := 1) C fX5_11 rfl (hX.1 8 (by decide)) dX5_plan_1 rfl hX.v0 ?_
  refine g_aload_n (pc := 4) C dX5_plan_4 rfl ?_
  refine g_geti (pc := 5) C fX5_20 rfl (hm.1 0 (by decide)) dX5_plan_5 rfl ?_
  refine g_eqi (nI n) hn ?_
  refine g_aaldN (pc := 8) C rfl (by decide) (hX.1 9 (by decide)) (by omega) (by decide) (hX.row (by omega)).2 dX5_plan_8 ?_
  refine g_iconst (pc := 9) C 0 dX5_plan_9 (by decide) ?_
  refine g_callS (pc := 10) C B mX5_26 (c_fill _ _ _ _ _ (4, 0, n) 201 0 rfl (hX.row (by omega)).1 (by decide)) rfl rfl (by decide) ⟨Nat.le_refl _, Nat.le_refl _⟩ (Nat.le_of_ble_eq_true rfl) dX5_plan_10 (fun rr SS hP => ?_)
  rw [hP.1, hP.2]
  have hb2 := flM_vn S n 0 201
  refine g_aload_n (pc := 13) C dX5_plan_13 rfl ?_
  refine g_geti (pc := 14) C fX5_20 rfl (hm.1 0 (by decide)) dX5_plan_14 rfl ?_
  refine g_eqi (nI n) ((hb2.2 (1, i, 0) 3 (fun z => by rcases z with z | z <;> cases z)).trans hn) ?_
  refine g_iconst (pc := 17) C 1 dX5_plan_17 (by decide) ?_
  refine g_isub (pc := 18) C dX5_plan_18 ?_
  refine g_istore (pc := 19) C dX5_plan_19 (by decide) ?_
  refine g_subR (lp_plan C B (hX.same hb2.1) (hm.same hb2.1) ((hb2.2 _ _ (fun z => by rcases z with z | z <;> cases z)).trans hn) (hV.but hb2) hro (fun a ha => flM_at S (4, 0, n) 0 201 a (by omega)) ?_ n 0 (by omega)) ⟨rfl, rfl, rfl, rfl, congrArg (fun z => some (vi z)) (wvn_0 n), trivial⟩
  have hb3 := xtM_but S mt sz gx n room
  have hX := hX.same hb3.1
  have hm := hm.same hb3.1
  have hV := hV.but hb3
  have hn := (hb3.2 (1, i, 0) 3 (fun z => by rcases z with z | z <;> cases z)).trans hn
  show G X Y 0 0 (xtM S mt sz gx n room) _ _ _
  refine g_aload_n (pc := 61) C dX5_plan_61 rfl ?_
  refine g_aload_n (pc := 62) C dX5_plan_62 rfl ?_
  refine g_aload_n (pc := 63) C dX5_plan_63 rfl ?_
  refine g_iload_n (pc := 64) C dX5_plan_64 rfl ?_
  refine g_callV (pc := 65) C B mX5_45 (c_take _ _ _ _ _ i n mc lc gd mt sz gx hX hm hn hV room hro (fun j hj a ha => xtM_at S mt sz gx n hro j hj a ha)) rfl rfl rfl rfl (hX.1 8 (by decide)) (by decide) ⟨Nat.le_refl _, Nat.le_refl _⟩ (Nat.le_of_ble_eq_true rfl) dX5_plan_65 (fun rr SS hP => ?_)
  rw [hP.1, hP.2]
  exact g_iret (pc := 68) C B rfl dX5_plan_68 (⟨rfl, rfl⟩)

