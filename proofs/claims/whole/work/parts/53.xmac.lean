theorem g_more {X : Xt} {Y : Yt} {c s c' s' : Nat} {S : Mm} {pc : Nat} {L : List (Nat × AV)} {st : List AV} (h1 : c ≤ c') (h2 : s ≤ s') (kk : G X Y c' s' S pc L st) : G X Y c s S pc L st := by
  intro ad H locs ls hI hl T hT XX
  exact kk ad H locs ls hI hl T hT (XX.more h1 h2)
set_option maxHeartbeats 400000 in
set_option maxRecDepth 100000 in
theorem c_X6_machine_f (l : Launch) (E : En) (base aw : Nat) (S : Mm) (mc : Nat) (lc : Nat → Nat) (hI : IX S mc lc) (h6 : mc = 6) : Cn l E base aw yX6_machine cX6_machine 1 (some Jvm.ClassFile.FieldType.int) 3 0 0 noF S [vr (0, 0, 0)] (fun r S' => r = some (vi (-6)) ∧ S' = rfX S 6) := by
  have hX := hI.1
  have hmc := hX.m6
  refine Cn.of (by decide) (Nat.le_of_ble_eq_true rfl) ?_
  intro X Y hl hE hbase haw hfr C B
  subst hl; subst hE; subst hbase; subst haw
  refine g_aload_n (pc := 0) C dX6_machine_0 rfl ?_
  refine g_geti (pc := 1) C fX6_48 rfl (hX.1 0 (by decide)) dX6_machine_1 rfl ?_
  refine g_eqi (nI (mc)) hI.2.1 ?_
  refine g_aload_n (pc := 4) C dX6_machine_4 rfl ?_
  refine g_getr (pc := 5) C fX6_11 rfl (hX.1 0 (by decide)) dX6_machine_5 rfl hX.r0 ?_
  refine g_alen (pc := 8) C rfl (by decide) (hX.1 1 (by decide)) dX6_machine_8 ?_
  refine g_icmp_lt (pc := 9) C 19 dX6_machine_9 (by decide) (fun h9 => absurd h9 (fun q => absurd ((nI_ltI (a := mc) (b := 6) (by omega) (by omega)).mp q) (by omega))) (fun _ => ?_)
  refine g_aload_n (pc := 12) C dX6_machine_12 rfl ?_
  refine g_bipush (pc := 13) C (-6) dX6_machine_13 (by decide) ?_
  refine g_callV (pc := 15) C B mX6_52 (c_xrefuse _ _ _ _ _ mc lc hX (-6) 6 (by decide) (by decide) (by decide)) rfl rfl rfl rfl (hX.1 0 (by decide)) (by decide) ⟨Nat.le_refl _, Nat.le_refl _⟩ (Nat.le_of_ble_eq_true rfl) dX6_machine_15 (fun rr SS hP => ?_)
  rw [hP.1, hP.2]
  exact g_iret (pc := 18) C B rfl dX6_machine_18 (⟨rfl, rfl⟩)

def nmM (S : Mm) (mc : Nat) : Mm := wI (wR (macM (nwm S (1, mc, 0)) mc) (0, 0, 1) mc (some (1, mc, 0))) (0, 0, 0) 6 (nI (mc + 1))
set_option maxHeartbeats 400000 in
set_option maxRecDepth 100000 in
theorem c_X6_machine (l : Launch) (E : En) (base aw : Nat) (S : Mm) (mc : Nat) (lc : Nat → Nat) (hI : IX S mc lc) (h6 : mc < 6) (hd : ∀ o, o ≤ 12 → S.2.2 (1, mc, o) = false) : Cn l E base aw yX6_machine cX6_machine 1 (some Jvm.ClassFile.FieldType.int) 3 13 838 (frN mc) S [vr (0, 0, 0)] (fun r S' => r = some (vi (nI mc)) ∧ S' = nmM S mc) := by
  have hX := hI.1
  have hmc := hX.m6
  refine Cn.of (by decide) (Nat.le_of_ble_eq_true rfl) ?_
  intro X Y hl hE hbase haw hfr C B
  subst hl; subst hE; subst hbase; subst haw
  refine g_aload_n (pc := 0) C dX6_machine_0 rfl ?_
  refine g_geti (pc := 1) C fX6_48 rfl (by simp [macM, tilM, diM, wR, wI, nwm, hX.1]) dX6_machine_1 rfl ?_
  refine g_eqi (nI (mc)) hI.2.1 ?_
  refine g_aload_n (pc := 4) C dX6_machine_4 rfl ?_
  refine g_getr (pc := 5) C fX6_11 rfl (by simp [macM, tilM, diM, wR, wI, nwm, hX.1]) dX6_machine_5 rfl hX.r0 ?_
  refine g_alen (pc := 8) C rfl (by decide) (by simp [macM, tilM, diM, wR, wI, nwm, hX.1]) dX6_machine_8 ?_
  refine g_icmp_lt (pc := 9) C 19 dX6_machine_9 (by decide) (fun _ => ?_) (fun h9 => absurd ((nI_ltI (a := mc) (b := 6) (by omega) (by omega)).mpr (by omega)) h9)
  refine g_aload_n (pc := 19) C dX6_machine_19 rfl ?_
  refine g_getr (pc := 20) C fX6_11 rfl (by simp [macM, tilM, diM, wR, wI, nwm, hX.1]) dX6_machine_20 rfl hX.r0 ?_
  refine g_aload_n (pc := 23) C dX6_machine_23 rfl ?_
  refine g_geti (pc := 24) C fX6_48 rfl (by simp [macM, tilM, diM, wR, wI, nwm, hX.1]) dX6_machine_24 rfl ?_
  refine g_eqi (nI (mc)) hI.2.1 ?_
  refine g_new (pc := 27) C (1, mc, 0) nX6_9 rfl (hd 0 (by decide)) (by simp [wK]) (by rw [hfr]; simp [frN]) (by simp [argL, sto]) (by simp [argL]) (by rw [B.1]; decide) (by rw [B.1]; decide) dX6_machine_27 ?_
  refine g_dup (pc := 30) C dX6_machine_30 ?_
  refine g_callIf (pc := 31) C mX6_56 (c_macI _ _ _ _ (nwm S (1, mc, 0)) mc (by simp [nwm]) (fun o h1 h2 => by simp [nwm, hd o h2]; omega)) rfl rfl (by rw [B.1]; decide) (by rw [B.1]; decide) (Nat.le_of_ble_eq_true rfl) dX6_machine_31 (fun q hq => by rw [hfr]; simp [frMm, frN] at hq ⊢; omega) (by simp [okR, argL, frMm]) (by simp [okR, argL, frMm]) (fun rr SS hP => ?_)
  rw [hP.1, hP.2]
  refine g_aastN (pc := 34) C rfl rfl (by decide) (by simp [macM, tilM, diM, wR, wI, nwm, hX.1]) (by simp [macM, tilM, diM, wR, wI, nwm, hX.1]) (by omega) (by decide) dX6_machine_34 ?_
  refine g_aload_n (pc := 35) C dX6_machine_35 rfl ?_
  refine g_dup (pc := 36) C dX6_machine_36 ?_
  refine g_geti (pc := 37) C fX6_48 rfl (by simp [macM, tilM, diM, wR, wI, nwm, hX.1]) dX6_machine_37 rfl ?_
  refine g_eqi (nI (mc)) (by simp [macM, tilM, diM, wR, wI, nwm]; exact hI.2.1) ?_
  refine g_iconst (pc := 40) C 1 dX6_machine_40 (by decide) ?_
  refine g_iadd (pc := 41) C dX6_machine_41 ?_
  refine g_eqi (nI (mc + 1)) (nI_add mc 1) ?_
  refine g_puti (pc := 42) C fX6_48 (Or.inl fm6_6) rfl (by simp [macM, tilM, diM, wR, wI, nwm, hX.1]) dX6_machine_42 (Or.inl rfl) ?_
  refine g_aload_n (pc := 45) C dX6_machine_45 rfl ?_
  refine g_geti (pc := 46) C fX6_48 rfl (by simp [macM, tilM, diM, wR, wI, nwm, hX.1]) dX6_machine_46 rfl ?_
  refine g_eqi (nI (mc + 1)) (by simp [wI]) ?_
  refine g_iconst (pc := 49) C 1 dX6_machine_49 (by decide) ?_
  refine g_isub (pc := 50) C dX6_machine_50 ?_
  refine g_eqi (nI (mc)) (nI_pred mc) ?_
  exact g_iret (pc := 51) C B rfl dX6_machine_51 (⟨rfl, rfl⟩)

set_option maxHeartbeats 400000 in
set_option maxRecDepth 100000 in
theorem c_full_t (l : Launch) (E : En) (base aw : Nat) (S : Mm) (i n : Nat) (hm : MSh S i n) (hn : S.1 (1, i, 0) 3 = nI n) (h8 : n = 8) : Cn l E base aw yX3_isFull cX3_isFull 1 (some Jvm.ClassFile.FieldType.boolean) 0 0 0 noF S [vr (1, i, 0)] (fun r S' => r = some (vi 1) ∧ S' = S) := by
  refine Cn.of (by decide) (Nat.le_of_ble_eq_true rfl) ?_
  intro X Y hl hE hbase haw hfr C B
  subst hl; subst hE; subst hbase; subst haw
  refine g_aload_n (pc := 0) C dX3_isFull_0 rfl ?_
  refine g_geti (pc := 1) C fX3_35 rfl (hm.1 0 (by decide)) dX3_isFull_1 rfl ?_
  refine g_eqi (nI (n)) hn ?_
  refine g_aload_n (pc := 4) C dX3_isFull_4 rfl ?_
  refine g_getr (pc := 5) C fX3_11 rfl (hm.1 0 (by decide)) dX3_isFull_5 rfl hm.r0 ?_
  refine g_alen (pc := 8) C rfl (by decide) (hm.1 1 (by decide)) dX3_isFull_8 ?_
  refine g_icmp_lt (pc := 9) C 16 dX3_isFull_9 (by decide) (fun h9 => absurd h9 (fun q => absurd ((nI_ltI (a := n) (b := 8) (by omega) (by omega)).mp q) (by omega))) (fun _ => ?_)
  refine g_iconst (pc := 12) C 1 dX3_isFull_12 (by decide) ?_
  refine g_goto (pc := 13) C 17 dX3_isFull_13 (by decide) ?_
  exact g_iret (pc := 17) C B rfl dX3_isFull_17 (⟨rfl, rfl⟩)

set_option maxHeartbeats 400000 in
set_option maxRecDepth 100000 in
theorem c_full_f (l : Launch) (E : En) (base aw : Nat) (S : Mm) (i n : Nat) (hm : MSh S i n) (hn : S.1 (1, i, 0) 3 = nI n) (h8 : n < 8) : Cn l E base aw yX3_isFull cX3_isFull 1 (some Jvm.ClassFile.FieldType.boolean) 0 0 0 noF S [vr (1, i, 0)] (fun r S' => r = some (vi 0) ∧ S' = S) := by
  refine Cn.of (by decide) (Nat.le_of_ble_eq_true rfl) ?_
  intro X Y hl hE hbase haw hfr C B
  subst hl; subst hE; subst hbase; subst haw
  refine g_aload_n (pc := 0) C dX3_isFull_0 rfl ?_
  refine g_geti (pc := 1) C fX3_35 rfl (hm.1 0 (by decide)) dX3_isFull_1 rfl ?_
  refine g_eqi (nI (n)) hn ?_
  refine g_aload_n (pc := 4) C dX3_isFull_4 rfl ?_
  refine g_getr (pc := 5) C fX3_11 rfl (hm.1 0 (by decide)) dX3_isFull_5 rfl hm.r0 ?_
  refine g_alen (pc := 8) C rfl (by decide) (hm.1 1 (by decide)) dX3_isFull_8 ?_
  refine g_icmp_lt (pc := 9) C 16 dX3_isFull_9 (by decide) (fun _ => ?_) (fun h9 => absurd ((nI_ltI (a := n) (b := 8) (by omega) (by omega)).mpr (by omega)) h9)
  refine g_iconst (pc := 16) C 0 dX3_isFull_16 (by decide) ?_
  exact g_iret (pc := 17) C B rfl dX3_isFull_17 (⟨rfl, rfl⟩)

set_option maxHeartbeats 400000 in
set_option maxRecDepth 100000 in
theorem c_addL (l : Launch) (E : En) (base aw : Nat) (S : Mm) (i n : Nat) (hm : MSh S i n) (hn : S.1 (1, i, 0) 3 = nI n) (h8 : n < 8) (hlv : S.2.2 (3, i, n) = true) : Cn l E base aw yX3_addLane cX3_addLane 2 (some Jvm.ClassFile.FieldType.int) 1 0 0 noF S [vr (1, i, 0), vr (3, i, n)] (fun r S' => r = some (vi (nI n)) ∧ S' = wI (wR S (1, i, 1) n (some (3, i, n))) (1, i, 0) 3 (nI (n + 1))) := by
  refine Cn.of (by decide) (Nat.le_of_ble_eq_true rfl) ?_
  intro X Y hl hE hbase haw hfr C B
  subst hl; subst hE; subst hbase; subst haw
  refine g_aload_n (pc := 0) C dX3_addLane_0 rfl ?_
  refine g_callV (pc := 1) C B mX3_39 (c_full_f _ _ _ _ _ i n hm hn h8) rfl rfl rfl rfl (hm.1 0 (by decide)) (by decide) ⟨Nat.le_refl _, Nat.le_refl _⟩ (Nat.le_of_ble_eq_true rfl) dX3_addLane_1 (fun rr SS hP => ?_)
  rw [hP.1, hP.2]
  refine g_if_eq (pc := 4) C 10 dX3_addLane_4 (by decide) (fun _ => ?_) (fun h4 => absurd (by decide) h4)
  refine g_aload_n (pc := 10) C dX3_addLane_10 rfl ?_
  refine g_getr (pc := 11) C fX3_11 rfl (hm.1 0 (by decide)) dX3_addLane_11 rfl hm.r0 ?_
  refine g_aload_n (pc := 14) C dX3_addLane_14 rfl ?_
  refine g_geti (pc := 15) C fX3_35 rfl (hm.1 0 (by decide)) dX3_addLane_15 rfl ?_
  refine g_eqi (nI (n)) hn ?_
  refine g_aload_n (pc := 18) C dX3_addLane_18 rfl ?_
  refine g_aastN (pc := 19) C rfl rfl (by decide) (hm.1 1 (by decide)) hlv (by omega) (by decide) dX3_addLane_19 ?_
  refine g_aload_n (pc := 20) C dX3_addLane_20 rfl ?_
  refine g_dup (pc := 21) C dX3_addLane_21 ?_
  refine g_geti (pc := 22) C fX3_35 rfl (hm.1 0 (by decide)) dX3_addLane_22 rfl ?_
  refine g_eqi (nI (n)) hn ?_
  refine g_iconst (pc := 25) C 1 dX3_addLane_25 (by decide) ?_
  refine g_iadd (pc := 26) C dX3_addLane_26 ?_
  refine g_eqi (nI (n + 1)) (nI_add n 1) ?_
  refine g_puti (pc := 27) C fX3_35 (Or.inl fm3_3) rfl (hm.1 0 (by decide)) dX3_addLane_27 (Or.inl rfl) ?_
  refine g_aload_n (pc := 30) C dX3_addLane_30 rfl ?_
  refine g_geti (pc := 31) C fX3_35 rfl (hm.1 0 (by decide)) dX3_addLane_31 rfl ?_
  refine g_eqi (nI (n + 1)) (by simp [wI]) ?_
  refine g_iconst (pc := 34) C 1 dX3_addLane_34 (by decide) ?_
  refine g_isub (pc := 35) C dX3_addLane_35 ?_
  refine g_eqi (nI (n)) (nI_pred n) ?_
  exact g_iret (pc := 36) C B rfl dX3_addLane_36 (⟨rfl, rfl⟩)

def laM (S : Mm) (i j : Nat) (g p d k q : Int32) : Mm := wI (wI (wI (wI (wI S (3, i, j) 0 g) (3, i, j) 4 p) (3, i, j) 1 d) (3, i, j) 2 k) (3, i, j) 3 q
set_option maxHeartbeats 400000 in
set_option maxRecDepth 100000 in
theorem c_laI (l : Launch) (E : En) (base aw : Nat) (S : Mm) (i j : Nat) (g p d k q : Int32) (hlv : S.2.2 (3, i, j) = true) : Cn l E base aw yX2_init cX2_init 6 (none) 1 0 0 noF S [vr (3, i, j), vi g, vi p, vi d, vi k, vi q] (fun r S' => r = none ∧ S' = laM S i j g p d k q) := by
  refine Cn.of (by decide) (Nat.le_of_ble_eq_true rfl) ?_
  intro X Y hl hE hbase haw hfr C B
  subst hl; subst hE; subst hbase; subst haw
  refine g_aload_n (pc := 0) C dX2_init_0 rfl ?_
  refine g_obj (pc := 1) C obX2_3 ob_i ob_c (by rw [B.1]; decide) (Nat.le_of_ble_eq_true rfl) dX2_init_1 ?_
  refine g_aload_n (pc := 4) C dX2_init_4 rfl ?_
  refine g_iload_n (pc := 5) C dX2_init_5 rfl ?_
  refine g_puti (pc := 6) C fX2_9 (Or.inr ⟨B.2.2.1, fi2_0⟩) rfl hlv dX2_init_6 (Or.inl rfl) ?_
  refine g_aload_n (pc := 9) C dX2_init_9 rfl ?_
  refine g_iload_n (pc := 10) C dX2_init_10 rfl ?_
  refine g_puti (pc := 11) C fX2_15 (Or.inl fm2_4) rfl hlv dX2_init_11 (Or.inl rfl) ?_
  refine g_aload_n (pc := 14) C dX2_init_14 rfl ?_
  refine g_iload_n (pc := 15) C dX2_init_15 rfl ?_
  refine g_puti (pc := 16) C fX2_18 (Or.inr ⟨B.2.2.1, fi2_1⟩) rfl hlv dX2_init_16 (Or.inl rfl) ?_
  refine g_aload_n (pc := 19) C dX2_init_19 rfl ?_
  refine g_iload (pc := 20) C dX2_init_20 rfl ?_
  refine g_puti (pc := 22) C fX2_21 (Or.inr ⟨B.2.2.1, fi2_2⟩) rfl hlv dX2_init_22 (Or.inl rfl) ?_
  refine g_aload_n (pc := 25) C dX2_init_25 rfl ?_
  refine g_iload (pc := 26) C dX2_init_26 rfl ?_
  refine g_puti (pc := 28) C fX2_24 (Or.inr ⟨B.2.2.1, fi2_3⟩) rfl hlv dX2_init_28 (Or.inl rfl) ?_
  exact g_vret (pc := 31) C B dX2_init_31 (⟨rfl, rfl⟩)

set_option maxHeartbeats 400000 in
set_option maxRecDepth 100000 in
theorem c_X6_lane_b (l : Launch) (E : En) (base aw : Nat) (S : Mm) (mc : Nat) (lc : Nat → Nat) (hI : IX S mc lc) (p0 p1 p2 p3 p4 p5 : Int32) (h : ¬ (okN mc p0 ∧ okN 16 p1)) : Cn l E base aw yX6_lane cX6_lane 9 (some Jvm.ClassFile.FieldType.int) 3 0 0 noF S [vr (0, 0, 0), vi p0, vi p1, vi p2, vi p3, vi p4, vi p5] (fun r S' => r = some (vi (-1)) ∧ S' = rfX S 1) := by
  have hX := hI.1
  have hmc := hX.m6
  by_cases hmm : okN mc p0
  ·
    obtain ⟨i, hi, rfl⟩ := hmm
    have hm := hX.ms hi
    have hn := hI.2.2 i hi
    have hx : ¬ okN 16 p1 := fun q => h ⟨⟨i, hi, rfl⟩, q⟩
    refine Cn.of (by decide) (Nat.le_of_ble_eq_true rfl) ?_
    intro X Y hl hE hbase haw hfr C B
    subst hl; subst hE; subst hbase; subst haw
    refine g_aload_n (pc := 0) C dX6_lane_0 rfl ?_
    refine g_iload_n (pc := 1) C dX6_lane_1 rfl ?_
    refine g_callV (pc := 2) C B mX6_57 (c_mAt_t _ _ _ _ _ mc lc hI i hi) rfl rfl rfl rfl (hX.1 0 (by decide)) (by decide) ⟨Nat.le_refl _, Nat.le_refl _⟩ (Nat.le_of_ble_eq_true rfl) dX6_lane_2 (fun rr SS hP => ?_)
    rw [hP.1, hP.2]
    refine g_astore (pc := 5) C dX6_lane_5 (by decide) ?_
    refine g_aload (pc := 7) C dX6_lane_7 rfl ?_
    refine g_ifnull (pc := 9) C 19 dX6_lane_9 (by decide) (fun h => by cases h) (fun _ _ => ?_)
    refine g_iload_n (pc := 12) C dX6_lane_12 rfl ?_
    refine g_callS (pc := 13) C B mX6_61 (c_isG_f _ _ _ _ _ p1 hx) rfl rfl (by decide) ⟨Nat.le_refl _, Nat.le_refl _⟩ (Nat.le_of_ble_eq_true rfl) dX6_lane_13 (fun rr SS hP => ?_)
    rw [hP.1, hP.2]
    refine g_if_ne (pc := 16) C 25 dX6_lane_16 (by decide) (fun h16 => absurd (by decide) h16) (fun _ => ?_)
    refine g_aload_n (pc := 19) C dX6_lane_19 rfl ?_
    refine g_iconst (pc := 20) C (-1) dX6_lane_20 (by decide) ?_
    refine g_callV (pc := 21) C B mX6_52 (c_xrefuse _ _ _ _ _ mc lc hX (-1) 1 (by decide) (by decide) (by decide)) rfl rfl rfl rfl (hX.1 0 (by decide)) (by decide) ⟨Nat.le_refl _, Nat.le_refl _⟩ (Nat.le_of_ble_eq_true rfl) dX6_lane_21 (fun rr SS hP => ?_)
    rw [hP.1, hP.2]
    exact g_iret (pc := 24) C B rfl dX6_lane_24 (⟨rfl, rfl⟩)
  ·
    have hx := hmm
    refine Cn.of (by decide) (Nat.le_of_ble_eq_true rfl) ?_
    intro X Y hl hE hbase haw hfr C B
    subst hl; subst hE; subst hbase; subst haw
    refine g_aload_n (pc := 0) C dX6_lane_0 rfl ?_
    refine g_iload_n (pc := 1) C dX6_lane_1 rfl ?_
    refine g_callV (pc := 2) C B mX6_57 (c_mAt_f _ _ _ _ _ mc lc hI p0 hx) rfl rfl rfl rfl (hX.1 0 (by decide)) (by decide) ⟨Nat.le_refl _, Nat.le_refl _⟩ (Nat.le_of_ble_eq_true rfl) dX6_lane_2 (fun rr SS hP => ?_)
    rw [hP.1, hP.2]
    refine g_astore (pc := 5) C dX6_lane_5 (by decide) ?_
    refine g_aload (pc := 7) C dX6_lane_7 rfl ?_
    refine g_ifnull (pc := 9) C 19 dX6_lane_9 (by decide) (fun _ => ?_) (fun _ h => by cases h)
    refine g_aload_n (pc := 19) C dX6_lane_19 rfl ?_
    refine g_iconst (pc := 20) C (-1) dX6_lane_20 (by decide) ?_
    refine g_callV (pc := 21) C B mX6_52 (c_xrefuse _ _ _ _ _ mc lc hX (-1) 1 (by decide) (by decide) (by decide)) rfl rfl rfl rfl (hX.1 0 (by decide)) (by decide) ⟨Nat.le_refl _, Nat.le_refl _⟩ (Nat.le_of_ble_eq_true rfl) dX6_lane_21 (fun rr SS hP => ?_)
    rw [hP.1, hP.2]
    exact g_iret (pc := 24) C B rfl dX6_lane_24 (⟨rfl, rfl⟩)

set_option maxHeartbeats 400000 in
set_option maxRecDepth 100000 in
theorem c_X6_lane_k (l : Launch) (E : En) (base aw : Nat) (S : Mm) (mc : Nat) (lc : Nat → Nat) (hI : IX S mc lc) (i : Nat) (hi : i < mc) (g : Nat) (hg : g < 16) (p2 p3 p4 p5 : Int32) (hx : ¬ okN 4 p4) : Cn l E base aw yX6_lane cX6_lane 9 (some Jvm.ClassFile.FieldType.int) 3 0 0 noF S [vr (0, 0, 0), vi (nI i), vi (nI g), vi p2, vi p3, vi p4, vi p5] (fun r S' => r = some (vi (-2)) ∧ S' = rfX S 2) := by
  have hX := hI.1
  have hmc := hX.m6
  have hm := hX.ms hi
  have hn := hI.2.2 i hi
  have hn8 := hm.n8
  refine Cn.of (by decide) (Nat.le_of_ble_eq_true rfl) ?_
  intro X Y hl hE hbase haw hfr C B
  subst hl; subst hE; subst hbase; subst haw
  refine g_aload_n (pc := 0) C dX6_lane_0 rfl ?_
  refine g_iload_n (pc := 1) C dX6_lane_1 rfl ?_
  refine g_callV (pc := 2) C B mX6_57 (c_mAt_t _ _ _ _ _ mc lc hI i hi) rfl rfl rfl rfl (hX.1 0 (by decide)) (by decide) ⟨Nat.le_refl _, Nat.le_refl _⟩ (Nat.le_of_ble_eq_true rfl) dX6_lane_2 (fun rr SS hP => ?_)
  rw [hP.1, hP.2]
  refine g_astore (pc := 5) C dX6_lane_5 (by decide) ?_
  refine g_aload (pc := 7) C dX6_lane_7 rfl ?_
  refine g_ifnull (pc := 9) C 19 dX6_lane_9 (by decide) (fun h => by cases h) (fun _ _ => ?_)
  refine g_iload_n (pc := 12) C dX6_lane_12 rfl ?_
  refine g_callS (pc := 13) C B mX6_61 (c_isG_t _ _ _ _ _ g hg) rfl rfl (by decide) ⟨Nat.le_refl _, Nat.le_refl _⟩ (Nat.le_of_ble_eq_true rfl) dX6_lane_13 (fun rr SS hP => ?_)
  rw [hP.1, hP.2]
  refine g_if_ne (pc := 16) C 25 dX6_lane_16 (by decide) (fun _ => ?_) (fun h16 => absurd h16 (by decide))
  refine g_iload (pc := 25) C dX6_lane_25 rfl ?_
  refine g_if_lt (pc := 27) C 36 dX6_lane_27 (by decide) (fun h27 => ?_) (fun h27 => ?_)
  ·
    refine g_aload_n (pc := 36) C dX6_lane_36 rfl ?_
    refine g_bipush (pc := 37) C (-2) dX6_lane_37 (by decide) ?_
    refine g_callV (pc := 39) C B mX6_52 (c_xrefuse _ _ _ _ _ mc lc hX (-2) 2 (by decide) (by decide) (by decide)) rfl rfl rfl rfl (hX.1 0 (by decide)) (by decide) ⟨Nat.le_refl _, Nat.le_refl _⟩ (Nat.le_of_ble_eq_true rfl) dX6_lane_39 (fun rr SS hP => ?_)
    rw [hP.1, hP.2]
    exact g_iret (pc := 42) C B rfl dX6_lane_42 (⟨rfl, rfl⟩)
  ·
    refine g_iload (pc := 30) C dX6_lane_30 rfl ?_
    refine g_iconst (pc := 32) C 3 dX6_lane_32 (by decide) ?_
    refine g_icmp_le (pc := 33) C 43 dX6_lane_33 (by decide) (fun h33 => ?_) (fun h33 => ?_)
    ·
      exact absurd (okN_no (n := 4) (by decide) hx) (fun q => q.elim h27 (fun q => absurd (Int32.le_trans q h33) (by decide)))
    ·
      refine g_aload_n (pc := 36) C dX6_lane_36 rfl ?_
      refine g_bipush (pc := 37) C (-2) dX6_lane_37 (by decide) ?_
      refine g_callV (pc := 39) C B mX6_52 (c_xrefuse _ _ _ _ _ mc lc hX (-2) 2 (by decide) (by decide) (by decide)) rfl rfl rfl rfl (hX.1 0 (by decide)) (by decide) ⟨Nat.le_refl _, Nat.le_refl _⟩ (Nat.le_of_ble_eq_true rfl) dX6_lane_39 (fun rr SS hP => ?_)
      rw [hP.1, hP.2]
      exact g_iret (pc := 42) C B rfl dX6_lane_42 (⟨rfl, rfl⟩)

def laR (S : Mm) (i n : Nat) (g p d k q : Int32) : Mm := wI (wR (laM (nwm S (3, i, n)) i n g p d k q) (1, i, 1) n (some (3, i, n))) (1, i, 0) 3 (nI (n + 1))
theorem laM_sh {S : Mm} {i n : Nat} {g p d k q : Int32} (hm : MSh S i n) (hd : S.2.2 (3, i, n) = false) : MSh (laM (nwm S (3, i, n)) i n g p d k q) i n := by
  obtain ⟨h1, h2, h3, h4, h5, h6, h7⟩ := hm
  refine ⟨fun o ho => ?_, ?_, ?_, ?_, fun j hj => ?_, fun j hj => ?_, h7⟩
  · simp [laM, wI, nwm, h1 o ho]
  · simpa [laM, wI, nwm] using h2
  · simpa [laM, wI, nwm] using h3
  · simpa [laM, wI, nwm] using h4
  · simpa [laM, wI, nwm] using h5 j hj
  · simp [laM, wI, nwm, h6 j hj]
def frL (i n : Nat) (k : Ln) : Bool := decide (k = (3, i, n))
def t_X6_lane (S : Mm) (lc : Nat → Nat) (i g : Nat) (p2 p3 p5 : Int32) (k : Nat) : Option AV × Mm := if (nI k) = 2 then (if (blw p2) = 0 then (if p3 < 1 then (some (vi ((-4))), rfX S 4) else (if 0 ≤ p5 then (if 5000 < p2 then (some (vi ((-6))), rfX S 6) else (if 20 < p3 then (some (vi ((-6))), rfX S 6) else (if 48 < p5 then (some (vi ((-6))), rfX S 6) else (if lc i < 8 then (some (vi (nI (lc i))), laR S i (lc i) (nI g) p2 p3 (nI k) p5) else (some (vi ((-6))), rfX S 6))))) else (some (vi ((-4))), rfX S 4))) else (some (vi ((-4))), rfX S 4)) else (if (blw p2) = 0 then (if p3 < 1 then (some (vi ((-4))), rfX S 4) else (if 5000 < p2 then (some (vi ((-6))), rfX S 6) else (if 20 < p3 then (some (vi ((-6))), rfX S 6) else (if lc i < 8 then (some (vi (nI (lc i))), laR S i (lc i) (nI g) p2 p3 (nI k) 0) else (some (vi ((-6))), rfX S 6))))) else (some (vi ((-4))), rfX S 4))
set_option maxHeartbeats 400000 in
set_option maxRecDepth 100000 in
theorem c_X6_lane (l : Launch) (E : En) (base aw : Nat) (S : Mm) (mc : Nat) (lc : Nat → Nat) (hI : IX S mc lc) (i : Nat) (hi : i < mc) (g : Nat) (hg : g < 16) (p2 p3 p5 : Int32) (k : Nat) (hk : k < 4) (hdl : ∀ n, lc i ≤ n → S.2.2 (3, i, n) = false) : Cn l E base aw yX6_lane cX6_lane 9 (some Jvm.ClassFile.FieldType.int) 3 1 10 (frL i (lc i)) S [vr (0, 0, 0), vi (nI i), vi (nI g), vi p2, vi p3, vi (nI k), vi p5] (fun r S' => (r, S') = t_X6_lane S lc i g p2 p3 p5 k) := by
  have hX := hI.1
  have hmc := hX.m6
  have hm := hX.ms hi
  have hn := hI.2.2 i hi
  have hn8 := hm.n8
  refine Cn.of (by decide) (Nat.le_of_ble_eq_true rfl) ?_
  intro X Y hl hE hbase haw hfr C B
  subst hl; subst hE; subst hbase; subst haw
  refine g_aload_n (pc := 0) C dX6_lane_0 rfl ?_
  refine g_iload_n (pc := 1) C dX6_lane_1 rfl ?_
  refine g_callV (pc := 2) C B mX6_57 (c_mAt_t _ _ _ _ _ mc lc hI i hi) rfl rfl rfl rfl (hX.1 0 (by decide)) (by decide) (by decide) (Nat.le_of_ble_eq_true rfl) dX6_lane_2 (fun rr SS hP => ?_)
  rw [hP.1, hP.2]
  refine g_astore (pc := 5) C dX6_lane_5 (by decide) ?_
  refine g_aload (pc := 7) C dX6_lane_7 rfl ?_
  refine g_ifnull (pc := 9) C 19 dX6_lane_9 (by decide) (fun h => by cases h) (fun _ _ => ?_)
  refine g_iload_n (pc := 12) C dX6_lane_12 rfl ?_
  refine g_callS (pc := 13) C B mX6_61 (c_isG_t _ _ _ _ _ g hg) rfl rfl (by decide) (by decide) (Nat.le_of_ble_eq_true rfl) dX6_lane_13 (fun rr SS hP => ?_)
  rw [hP.1, hP.2]
  refine g_if_ne (pc := 16) C 25 dX6_lane_16 (by decide) (fun _ => ?_) (fun h16 => absurd h16 (by decide))
  refine g_iload (pc := 25) C dX6_lane_25 rfl ?_
  refine g_if_lt (pc := 27) C 36 dX6_lane_27 (by decide) (fun h27 => absurd h27 (nI_pos (by omega))) (fun _ => ?_)
  refine g_iload (pc := 30) C dX6_lane_30 rfl ?_
  refine g_iconst (pc := 32) C 3 dX6_lane_32 (by decide) ?_
  refine g_icmp_le (pc := 33) C 43 dX6_lane_33 (by decide) (fun _ => ?_) (fun h33 => absurd ((nI_leI (a := k) (b := 3) (by omega) (by omega)).mpr (by omega)) h33)
  refine g_iload (pc := 43) C dX6_lane_43 rfl ?_
  refine g_iconst (pc := 45) C 2 dX6_lane_45 (by decide) ?_
  refine g_icmp_ne (pc := 46) C 54 dX6_lane_46 (by decide) (fun h46 => ?_) (fun h46 => ?_)
  ·
    refine g_iconst (pc := 54) C 0 dX6_lane_54 (by decide) ?_
    refine g_istore (pc := 55) C dX6_lane_55 (by decide) ?_
    refine g_iload_n (pc := 57) C dX6_lane_57 rfl ?_
    refine g_callS (pc := 58) C B mX6_65 (c_xblw _ _ _ _ _ _) rfl rfl (by decide) (by decide) (Nat.le_of_ble_eq_true rfl) dX6_lane_58 (fun rr SS hP => ?_)
    rw [hP.1, hP.2]
    refine g_if_ne (pc := 61) C 75 dX6_lane_61 (by decide) (fun h61 => ?_) (fun h61 => ?_)
    ·
      refine g_aload_n (pc := 75) C dX6_lane_75 rfl ?_
      refine g_bipush (pc := 76) C (-4) dX6_lane_76 (by decide) ?_
      refine g_callV (pc := 78) C B mX6_52 (c_xrefuse _ _ _ _ _ mc lc hX (-4) 4 (by decide) (by decide) (by decide)) rfl rfl rfl rfl (hX.1 0 (by decide)) (by decide) (by decide) (Nat.le_of_ble_eq_true rfl) dX6_lane_78 (fun rr SS hP => ?_)
      rw [hP.1, hP.2]
      refine g_more (c' := 1) (s' := 10) (by decide) (by decide) ?_
      exact g_iret (pc := 81) C B rfl dX6_lane_81 (by show (_, _) = t_X6_lane S lc i g p2 p3 p5 k; unfold t_X6_lane; rw [if_neg h46, if_neg h61])
    ·
      refine g_iload (pc := 64) C dX6_lane_64 rfl ?_
      refine g_iconst (pc := 66) C 1 dX6_lane_66 (by decide) ?_
      refine g_icmp_lt (pc := 67) C 75 dX6_lane_67 (by decide) (fun h67 => ?_) (fun h67 => ?_)
      ·
        refine g_aload_n (pc := 75) C dX6_lane_75 rfl ?_
        refine g_bipush (pc := 76) C (-4) dX6_lane_76 (by decide) ?_
        refine g_callV (pc := 78) C B mX6_52 (c_xrefuse _ _ _ _ _ mc lc hX (-4) 4 (by decide) (by decide) (by decide)) rfl rfl rfl rfl (hX.1 0 (by decide)) (by decide) (by decide) (Nat.le_of_ble_eq_true rfl) dX6_lane_78 (fun rr SS hP => ?_)
        rw [hP.1, hP.2]
        refine g_more (c' := 1) (s' := 10) (by decide) (by decide) ?_
        exact g_iret (pc := 81) C B rfl dX6_lane_81 (by show (_, _) = t_X6_lane S lc i g p2 p3 p5 k; unfold t_X6_lane; rw [if_neg h46, if_pos h61, if_pos h67])
      ·
        refine g_iload (pc := 70) C dX6_lane_70 rfl ?_
        refine g_if_ge (pc := 72) C 82 dX6_lane_72 (by decide) (fun _ => ?_) (fun h72 => absurd (by decide) h72)
        refine g_iload_n (pc := 82) C dX6_lane_82 rfl ?_
        refine g_sipush (pc := 83) C 5000 dX6_lane_83 (by decide) ?_
        refine g_icmp_gt (pc := 86) C 111 dX6_lane_86 (by decide) (fun h86 => ?_) (fun h86 => ?_)
        ·
          refine g_aload_n (pc := 111) C dX6_lane_111 rfl ?_
          refine g_bipush (pc := 112) C (-6) dX6_lane_112 (by decide) ?_
          refine g_callV (pc := 114) C B mX6_52 (c_xrefuse _ _ _ _ _ mc lc hX (-6) 6 (by decide) (by decide) (by decide)) rfl rfl rfl rfl (hX.1 0 (by decide)) (by decide) (by decide) (Nat.le_of_ble_eq_true rfl) dX6_lane_114 (fun rr SS hP => ?_)
          rw [hP.1, hP.2]
          refine g_more (c' := 1) (s' := 10) (by decide) (by decide) ?_
          exact g_iret (pc := 117) C B rfl dX6_lane_117 (by show (_, _) = t_X6_lane S lc i g p2 p3 p5 k; unfold t_X6_lane; rw [if_neg h46, if_pos h61, if_neg h67, if_pos h86])
        ·
          refine g_iload (pc := 89) C dX6_lane_89 rfl ?_
          refine g_bipush (pc := 91) C 20 dX6_lane_91 (by decide) ?_
          refine g_icmp_gt (pc := 93) C 111 dX6_lane_93 (by decide) (fun h93 => ?_) (fun h93 => ?_)
          ·
            refine g_aload_n (pc := 111) C dX6_lane_111 rfl ?_
            refine g_bipush (pc := 112) C (-6) dX6_lane_112 (by decide) ?_
            refine g_callV (pc := 114) C B mX6_52 (c_xrefuse _ _ _ _ _ mc lc hX (-6) 6 (by decide) (by decide) (by decide)) rfl rfl rfl rfl (hX.1 0 (by decide)) (by decide) (by decide) (Nat.le_of_ble_eq_true rfl) dX6_lane_114 (fun rr SS hP => ?_)
            rw [hP.1, hP.2]
            refine g_more (c' := 1) (s' := 10) (by decide) (by decide) ?_
            exact g_iret (pc := 117) C B rfl dX6_lane_117 (by show (_, _) = t_X6_lane S lc i g p2 p3 p5 k; unfold t_X6_lane; rw [if_neg h46, if_pos h61, if_neg h67, if_neg h86, if_pos h93])
          ·
            refine g_iload (pc := 96) C dX6_lane_96 rfl ?_
            refine g_bipush (pc := 98) C 48 dX6_lane_98 (by decide) ?_
            refine g_icmp_gt (pc := 100) C 111 dX6_lane_100 (by decide) (fun h100 => absurd h100 (by decide)) (fun _ => ?_)
            refine g_aload (pc := 103) C dX6_lane_103 rfl ?_
            by_cases h8 : lc i < 8
            ·
              refine g_callV (pc := 105) C B mX6_68 (c_full_f _ _ _ _ _ i (lc i) hm hn h8) rfl rfl rfl rfl (hm.1 0 (by decide)) (by decide) (by decide) (Nat.le_of_ble_eq_true rfl) dX6_lane_105 (fun rr SS hP => ?_)
              rw [hP.1, hP.2]
              refine g_if_eq (pc := 108) C 118 dX6_lane_108 (by decide) (fun _ => ?_) (fun h108 => absurd (by decide) h108)
              refine g_aload (pc := 118) C dX6_lane_118 rfl ?_
              refine g_new (pc := 120) C (3, i, lc i) nX6_72 rfl (hdl _ (by omega)) (by simp [wK]) (by rw [hfr]; simp [frL]) (by simp [argL, sto]) (by simp [argL]) (by rw [B.1]; decide) (by rw [B.1]; decide) dX6_lane_120 ?_
              refine g_dup (pc := 123) C dX6_lane_123 ?_
              refine g_iload_n (pc := 124) C dX6_lane_124 rfl ?_
              refine g_iload_n (pc := 125) C dX6_lane_125 rfl ?_
              refine g_iload (pc := 126) C dX6_lane_126 rfl ?_
              refine g_iload (pc := 128) C dX6_lane_128 rfl ?_
              refine g_iload (pc := 130) C dX6_lane_130 rfl ?_
              refine g_callIf (pc := 132) C mX6_74 (c_laI _ _ _ _ (nwm S (3, i, lc i)) i (lc i) (nI g) p2 p3 (nI k) 0 (by simp [nwm])) rfl rfl (by rw [B.1]; decide) (by rw [B.1]; decide) (Nat.le_of_ble_eq_true rfl) dX6_lane_132 (fun _ h => by cases h) (no_allL _) (no_all _) (fun rr SS hP => ?_)
              rw [hP.1, hP.2]
              refine g_callVf (pc := 135) C mX6_77 (c_addL _ _ _ _ (laM (nwm S (3, i, lc i)) i (lc i) (nI g) p2 p3 (nI k) 0) i (lc i) (laM_sh hm (hdl _ (by omega))) (by simp [laM, wI, nwm]; exact hn) h8 (by simp [laM, wI, nwm])) rfl rfl rfl rfl (by simp [laM, wI, nwm, hm.1]) (by rw [B.1]; decide) (by rw [B.1]; decide) (Nat.le_of_ble_eq_true rfl) dX6_lane_135 (fun _ h => by cases h) (no_allL _) (no_all _) (fun rr SS hP => ?_)
              rw [hP.1, show SS = laR S i (lc i) (nI g) p2 p3 (nI k) 0 from hP.2]
              exact g_iret (pc := 138) C B rfl dX6_lane_138 (by show (_, _) = t_X6_lane S lc i g p2 p3 p5 k; unfold t_X6_lane; rw [if_neg h46, if_pos h61, if_neg h67, if_neg h86, if_neg h93, if_pos h8])
            ·
              refine g_callV (pc := 105) C B mX6_68 (c_full_t _ _ _ _ _ i (lc i) hm hn (by omega)) rfl rfl rfl rfl (hm.1 0 (by decide)) (by decide) (by decide) (Nat.le_of_ble_eq_true rfl) dX6_lane_105 (fun rr SS hP => ?_)
              rw [hP.1, hP.2]
              refine g_if_eq (pc := 108) C 118 dX6_lane_108 (by decide) (fun h108 => absurd h108 (by decide)) (fun _ => ?_)
              refine g_aload_n (pc := 111) C dX6_lane_111 rfl ?_
              refine g_bipush (pc := 112) C (-6) dX6_lane_112 (by decide) ?_
              refine g_callV (pc := 114) C B mX6_52 (c_xrefuse _ _ _ _ _ mc lc hX (-6) 6 (by decide) (by decide) (by decide)) rfl rfl rfl rfl (hX.1 0 (by decide)) (by decide) (by decide) (Nat.le_of_ble_eq_true rfl) dX6_lane_114 (fun rr SS hP => ?_)
              rw [hP.1, hP.2]
              refine g_more (c' := 1) (s' := 10) (by decide) (by decide) ?_
              exact g_iret (pc := 117) C B rfl dX6_lane_117 (by show (_, _) = t_X6_lane S lc i g p2 p3 p5 k; unfold t_X6_lane; rw [if_neg h46, if_pos h61, if_neg h67, if_neg h86, if_neg h93, if_neg h8])
  ·
    refine g_iload (pc := 49) C dX6_lane_49 rfl ?_
    refine g_goto (pc := 51) C 55 dX6_lane_51 (by decide) ?_
    refine g_istore (pc := 55) C dX6_lane_55 (by decide) ?_
    refine g_iload_n (pc := 57) C dX6_lane_57 rfl ?_
    refine g_callS (pc := 58) C B mX6_65 (c_xblw _ _ _ _ _ _) rfl rfl (by decide) (by decide) (Nat.le_of_ble_eq_true rfl) dX6_lane_58 (fun rr SS hP => ?_)
    rw [hP.1, hP.2]
    refine g_if_ne (pc := 61) C 75 dX6_lane_61 (by decide) (fun h61 => ?_) (fun h61 => ?_)
    ·
      refine g_aload_n (pc := 75) C dX6_lane_75 rfl ?_
      refine g_bipush (pc := 76) C (-4) dX6_lane_76 (by decide) ?_
      refine g_callV (pc := 78) C B mX6_52 (c_xrefuse _ _ _ _ _ mc lc hX (-4) 4 (by decide) (by decide) (by decide)) rfl rfl rfl rfl (hX.1 0 (by decide)) (by decide) (by decide) (Nat.le_of_ble_eq_true rfl) dX6_lane_78 (fun rr SS hP => ?_)
      rw [hP.1, hP.2]
      refine g_more (c' := 1) (s' := 10) (by decide) (by decide) ?_
      exact g_iret (pc := 81) C B rfl dX6_lane_81 (by show (_, _) = t_X6_lane S lc i g p2 p3 p5 k; unfold t_X6_lane; rw [if_pos h46, if_neg h61])
    ·
      refine g_iload (pc := 64) C dX6_lane_64 rfl ?_
      refine g_iconst (pc := 66) C 1 dX6_lane_66 (by decide) ?_
      refine g_icmp_lt (pc := 67) C 75 dX6_lane_67 (by decide) (fun h67 => ?_) (fun h67 => ?_)
      ·
        refine g_aload_n (pc := 75) C dX6_lane_75 rfl ?_
        refine g_bipush (pc := 76) C (-4) dX6_lane_76 (by decide) ?_
        refine g_callV (pc := 78) C B mX6_52 (c_xrefuse _ _ _ _ _ mc lc hX (-4) 4 (by decide) (by decide) (by decide)) rfl rfl rfl rfl (hX.1 0 (by decide)) (by decide) (by decide) (Nat.le_of_ble_eq_true rfl) dX6_lane_78 (fun rr SS hP => ?_)
        rw [hP.1, hP.2]
        refine g_more (c' := 1) (s' := 10) (by decide) (by decide) ?_
        exact g_iret (pc := 81) C B rfl dX6_lane_81 (by show (_, _) = t_X6_lane S lc i g p2 p3 p5 k; unfold t_X6_lane; rw [if_pos h46, if_pos h61, if_pos h67])
      ·
        refine g_iload (pc := 70) C dX6_lane_70 rfl ?_
        refine g_if_ge (pc := 72) C 82 dX6_lane_72 (by decide) (fun h72 => ?_) (fun h72 => ?_)
        ·
          refine g_iload_n (pc := 82) C dX6_lane_82 rfl ?_
          refine g_sipush (pc := 83) C 5000 dX6_lane_83 (by decide) ?_
          refine g_icmp_gt (pc := 86) C 111 dX6_lane_86 (by decide) (fun h86 => ?_) (fun h86 => ?_)
          ·
            refine g_aload_n (pc := 111) C dX6_lane_111 rfl ?_
            refine g_bipush (pc := 112) C (-6) dX6_lane_112 (by decide) ?_
            refine g_callV (pc := 114) C B mX6_52 (c_xrefuse _ _ _ _ _ mc lc hX (-6) 6 (by decide) (by decide) (by decide)) rfl rfl rfl rfl (hX.1 0 (by decide)) (by decide) (by decide) (Nat.le_of_ble_eq_true rfl) dX6_lane_114 (fun rr SS hP => ?_)
            rw [hP.1, hP.2]
            refine g_more (c' := 1) (s' := 10) (by decide) (by decide) ?_
            exact g_iret (pc := 117) C B rfl dX6_lane_117 (by show (_, _) = t_X6_lane S lc i g p2 p3 p5 k; unfold t_X6_lane; rw [if_pos h46, if_pos h61, if_neg h67, if_pos h72, if_pos h86])
          ·
            refine g_iload (pc := 89) C dX6_lane_89 rfl ?_
            refine g_bipush (pc := 91) C 20 dX6_lane_91 (by decide) ?_
            refine g_icmp_gt (pc := 93) C 111 dX6_lane_93 (by decide) (fun h93 => ?_) (fun h93 => ?_)
            ·
              refine g_aload_n (pc := 111) C dX6_lane_111 rfl ?_
              refine g_bipush (pc := 112) C (-6) dX6_lane_112 (by decide) ?_
              refine g_callV (pc := 114) C B mX6_52 (c_xrefuse _ _ _ _ _ mc lc hX (-6) 6 (by decide) (by decide) (by decide)) rfl rfl rfl rfl (hX.1 0 (by decide)) (by decide) (by decide) (Nat.le_of_ble_eq_true rfl) dX6_lane_114 (fun rr SS hP => ?_)
              rw [hP.1, hP.2]
              refine g_more (c' := 1) (s' := 10) (by decide) (by decide) ?_
              exact g_iret (pc := 117) C B rfl dX6_lane_117 (by show (_, _) = t_X6_lane S lc i g p2 p3 p5 k; unfold t_X6_lane; rw [if_pos h46, if_pos h61, if_neg h67, if_pos h72, if_neg h86, if_pos h93])
            ·
              refine g_iload (pc := 96) C dX6_lane_96 rfl ?_
              refine g_bipush (pc := 98) C 48 dX6_lane_98 (by decide) ?_
              refine g_icmp_gt (pc := 100) C 111 dX6_lane_100 (by decide) (fun h100 => ?_) (fun h100 => ?_)
              ·
                refine g_aload_n (pc := 111) C dX6_lane_111 rfl ?_
                refine g_bipush (pc := 112) C (-6) dX6_lane_112 (by decide) ?_
                refine g_callV (pc := 114) C B mX6_52 (c_xrefuse _ _ _ _ _ mc lc hX (-6) 6 (by decide) (by decide) (by decide)) rfl rfl rfl rfl (hX.1 0 (by decide)) (by decide) (by decide) (Nat.le_of_ble_eq_true rfl) dX6_lane_114 (fun rr SS hP => ?_)
                rw [hP.1, hP.2]
                refine g_more (c' := 1) (s' := 10) (by decide) (by decide) ?_
                exact g_iret (pc := 117) C B rfl dX6_lane_117 (by show (_, _) = t_X6_lane S lc i g p2 p3 p5 k; unfold t_X6_lane; rw [if_pos h46, if_pos h61, if_neg h67, if_pos h72, if_neg h86, if_neg h93, if_pos h100])
              ·
                refine g_aload (pc := 103) C dX6_lane_103 rfl ?_
                by_cases h8 : lc i < 8
                ·
                  refine g_callV (pc := 105) C B mX6_68 (c_full_f _ _ _ _ _ i (lc i) hm hn h8) rfl rfl rfl rfl (hm.1 0 (by decide)) (by decide) (by decide) (Nat.le_of_ble_eq_true rfl) dX6_lane_105 (fun rr SS hP => ?_)
                  rw [hP.1, hP.2]
                  refine g_if_eq (pc := 108) C 118 dX6_lane_108 (by decide) (fun _ => ?_) (fun h108 => absurd (by decide) h108)
                  refine g_aload (pc := 118) C dX6_lane_118 rfl ?_
                  refine g_new (pc := 120) C (3, i, lc i) nX6_72 rfl (hdl _ (by omega)) (by simp [wK]) (by rw [hfr]; simp [frL]) (by simp [argL, sto]) (by simp [argL]) (by rw [B.1]; decide) (by rw [B.1]; decide) dX6_lane_120 ?_
                  refine g_dup (pc := 123) C dX6_lane_123 ?_
                  refine g_iload_n (pc := 124) C dX6_lane_124 rfl ?_
                  refine g_iload_n (pc := 125) C dX6_lane_125 rfl ?_
                  refine g_iload (pc := 126) C dX6_lane_126 rfl ?_
                  refine g_iload (pc := 128) C dX6_lane_128 rfl ?_
                  refine g_iload (pc := 130) C dX6_lane_130 rfl ?_
                  refine g_callIf (pc := 132) C mX6_74 (c_laI _ _ _ _ (nwm S (3, i, lc i)) i (lc i) (nI g) p2 p3 (nI k) p5 (by simp [nwm])) rfl rfl (by rw [B.1]; decide) (by rw [B.1]; decide) (Nat.le_of_ble_eq_true rfl) dX6_lane_132 (fun _ h => by cases h) (no_allL _) (no_all _) (fun rr SS hP => ?_)
                  rw [hP.1, hP.2]
                  refine g_callVf (pc := 135) C mX6_77 (c_addL _ _ _ _ (laM (nwm S (3, i, lc i)) i (lc i) (nI g) p2 p3 (nI k) p5) i (lc i) (laM_sh hm (hdl _ (by omega))) (by simp [laM, wI, nwm]; exact hn) h8 (by simp [laM, wI, nwm])) rfl rfl rfl rfl (by simp [laM, wI, nwm, hm.1]) (by rw [B.1]; decide) (by rw [B.1]; decide) (Nat.le_of_ble_eq_true rfl) dX6_lane_135 (fun _ h => by cases h) (no_allL _) (no_all _) (fun rr SS hP => ?_)
                  rw [hP.1, show SS = laR S i (lc i) (nI g) p2 p3 (nI k) p5 from hP.2]
                  exact g_iret (pc := 138) C B rfl dX6_lane_138 (by show (_, _) = t_X6_lane S lc i g p2 p3 p5 k; unfold t_X6_lane; rw [if_pos h46, if_pos h61, if_neg h67, if_pos h72, if_neg h86, if_neg h93, if_neg h100, if_pos h8])
                ·
                  refine g_callV (pc := 105) C B mX6_68 (c_full_t _ _ _ _ _ i (lc i) hm hn (by omega)) rfl rfl rfl rfl (hm.1 0 (by decide)) (by decide) (by decide) (Nat.le_of_ble_eq_true rfl) dX6_lane_105 (fun rr SS hP => ?_)
                  rw [hP.1, hP.2]
                  refine g_if_eq (pc := 108) C 118 dX6_lane_108 (by decide) (fun h108 => absurd h108 (by decide)) (fun _ => ?_)
                  refine g_aload_n (pc := 111) C dX6_lane_111 rfl ?_
                  refine g_bipush (pc := 112) C (-6) dX6_lane_112 (by decide) ?_
                  refine g_callV (pc := 114) C B mX6_52 (c_xrefuse _ _ _ _ _ mc lc hX (-6) 6 (by decide) (by decide) (by decide)) rfl rfl rfl rfl (hX.1 0 (by decide)) (by decide) (by decide) (Nat.le_of_ble_eq_true rfl) dX6_lane_114 (fun rr SS hP => ?_)
                  rw [hP.1, hP.2]
                  refine g_more (c' := 1) (s' := 10) (by decide) (by decide) ?_
                  exact g_iret (pc := 117) C B rfl dX6_lane_117 (by show (_, _) = t_X6_lane S lc i g p2 p3 p5 k; unfold t_X6_lane; rw [if_pos h46, if_pos h61, if_neg h67, if_pos h72, if_neg h86, if_neg h93, if_neg h100, if_neg h8])
        ·
          refine g_aload_n (pc := 75) C dX6_lane_75 rfl ?_
          refine g_bipush (pc := 76) C (-4) dX6_lane_76 (by decide) ?_
          refine g_callV (pc := 78) C B mX6_52 (c_xrefuse _ _ _ _ _ mc lc hX (-4) 4 (by decide) (by decide) (by decide)) rfl rfl rfl rfl (hX.1 0 (by decide)) (by decide) (by decide) (Nat.le_of_ble_eq_true rfl) dX6_lane_78 (fun rr SS hP => ?_)
          rw [hP.1, hP.2]
          refine g_more (c' := 1) (s' := 10) (by decide) (by decide) ?_
          exact g_iret (pc := 81) C B rfl dX6_lane_81 (by show (_, _) = t_X6_lane S lc i g p2 p3 p5 k; unfold t_X6_lane; rw [if_pos h46, if_pos h61, if_neg h67, if_neg h72])

