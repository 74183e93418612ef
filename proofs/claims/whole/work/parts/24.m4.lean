set_option maxHeartbeats 4000000 in
set_option maxRecDepth 100000 in
theorem lp_worthIn {X : Xt} {Y : Yt} {P : Option AV → Mm → Prop} {nm : String}  (C : Cx X Y cX7_worthIn 5 RX7) (B : Bx X Y nm (some Jvm.ClassFile.FieldType.int) 1 0 0 P) {S : Mm} {i f : Nat} (hi : i < 6) (hf : S.2.2 (2, 0, f) = true) (hk : kd (2, 0, f) = (1, 36)) (K : G X Y 0 0 S 36 [(0, vr (2, 0, 0)), (1, vr (2, 0, f)), (2, vi (nI i)), (3, vi (wsum (fun w => S.1 (2, 0, f) (6 * i + w)) 6)), (4, vi (nI 6))] []) : ∀ n w, w + n = 6 → G X Y 0 0 S 5 [(0, vr (2, 0, 0)), (1, vr (2, 0, f)), (2, vi (nI i)), (3, vi (wsum (fun w => S.1 (2, 0, f) (6 * i + w)) w)), (4, vi (nI w))] [] := by
  intro n
  induction n with
  | zero =>
    intro w hw
    have e : 6 = w := by omega
    subst e
    refine g_iload (pc := 5) C dX7_worthIn_5 rfl ?_
    refine g_bipush (pc := 7) C 6 dX7_worthIn_7 (by decide) ?_
    refine g_icmp_ge (pc := 9) C 36 dX7_worthIn_9 (by decide) (fun _ => ?_) (fun h9 => absurd ((nI_leI (a := 6) (b := 6) (by omega) (by omega)).mpr (by omega)) h9)
    exact K
  | succ n ih =>
    intro w hw
    refine g_iload (pc := 5) C dX7_worthIn_5 rfl ?_
    refine g_bipush (pc := 7) C 6 dX7_worthIn_7 (by decide) ?_
    refine g_icmp_ge (pc := 9) C 36 dX7_worthIn_9 (by decide) (fun h9 => absurd h9 (fun q => absurd ((nI_leI (a := 6) (b := w) (by omega) (by omega)).mp q) (by omega))) (fun _ => ?_)
    refine g_iload_n (pc := 12) C dX7_worthIn_12 rfl ?_
    refine g_aload_n (pc := 13) C dX7_worthIn_13 rfl ?_
    refine g_bipush (pc := 14) C 6 dX7_worthIn_14 (by decide) ?_
    refine g_iload_n (pc := 16) C dX7_worthIn_16 rfl ?_
    refine g_imul (pc := 17) C dX7_worthIn_17 ?_
    refine g_eqi (nI (6 * i)) (pk_mul 6 i) ?_
    refine g_iload (pc := 18) C dX7_worthIn_18 rfl ?_
    refine g_iadd (pc := 20) C dX7_worthIn_20 ?_
    refine g_eqi (nI ((6 * i) + w)) (nI_add (6 * i) w) ?_
    refine g_ialdN (pc := 21) C hk hf (by omega) (by decide) dX7_worthIn_21 ?_
    refine g_iload (pc := 22) C dX7_worthIn_22 rfl ?_
    refine g_callS (pc := 24) C B mX7_130 (c_mworth _ _ _ _ _ w (by omega)) rfl rfl (by decide) ⟨Nat.le_refl _, Nat.le_refl _⟩ (Nat.le_of_ble_eq_true rfl) dX7_worthIn_24 (fun r S' hP => ?_)
    rw [hP.1, hP.2]
    refine g_imul (pc := 27) C dX7_worthIn_27 ?_
    refine g_iadd (pc := 28) C dX7_worthIn_28 ?_
    refine g_istore_n (pc := 29) C dX7_worthIn_29 (by decide) ?_
    refine g_iincN (pc := 30) C 1 dX7_worthIn_30 rfl (by decide) (by decide) ?_
    refine g_goto (pc := 33) C 5 dX7_worthIn_33 (by decide) ?_
    exact g_subR (ih (w + 1) (by omega)) ⟨rfl, rfl, rfl, rfl, rfl, trivial⟩
set_option maxHeartbeats 4000000 in
set_option maxRecDepth 100000 in
/-- worthIn(row f, i) -/
theorem c_worthIn (l : Launch) (E : En) (base aw : Nat) (S : Mm) (i f : Nat) (hi : i < 6) (hf : S.2.2 (2, 0, f) = true) (hk : kd (2, 0, f) = (1, 36)) : Cn l E base aw yX7_worthIn cX7_worthIn 5 (some Jvm.ClassFile.FieldType.int) 1 0 0 noF S [vr (2, 0, 0), vr (2, 0, f), vi (nI i)] (fun r S' => r = some (vi (wsum (fun w => S.1 (2, 0, f) (6 * i + w)) 6)) ∧ S' = S) := by
  refine Cn.of (by decide) (Nat.le_of_ble_eq_true rfl) ?_
  intro X Y hl hE hbase haw hfr C B
  subst hl; subst hE; subst hbase; subst haw
  refine g_iconst (pc := 0) C 0 dX7_worthIn_0 (by decide) ?_
  refine g_istore_n (pc := 1) C dX7_worthIn_1 (by decide) ?_
  refine g_iconst (pc := 2) C 0 dX7_worthIn_2 (by decide) ?_
  refine g_istore (pc := 3) C dX7_worthIn_3 (by decide) ?_
  refine g_subR (lp_worthIn C B hi hf hk ?_ 6 0 rfl) ⟨rfl, rfl, rfl, rfl, rfl, trivial⟩
  refine g_iload_n (pc := 36) C dX7_worthIn_36 rfl ?_
  exact g_iret (pc := 37) C B rfl dX7_worthIn_37 (⟨rfl, rfl⟩)

set_option maxHeartbeats 4000000 in
set_option maxRecDepth 100000 in
theorem lp_coinsIn {X : Xt} {Y : Yt} {P : Option AV → Mm → Prop} {nm : String}  (C : Cx X Y cX7_coinsIn 4 RX7) (B : Bx X Y nm (some Jvm.ClassFile.FieldType.int) 0 0 0 P) {S : Mm} {i : Nat} (hM : ShM S) (hi : i < 6) (K : G X Y 0 0 S 30 [(0, vr (2, 0, 0)), (1, vi (nI i)), (2, vi (csum (fun w => S.1 (2, 0, 5) (6 * i + w)) 6)), (3, vi (nI 6))] []) : ∀ n w, w + n = 6 → G X Y 0 0 S 4 [(0, vr (2, 0, 0)), (1, vi (nI i)), (2, vi (csum (fun w => S.1 (2, 0, 5) (6 * i + w)) w)), (3, vi (nI w))] [] := by
  intro n
  induction n with
  | zero =>
    intro w hw
    have e : 6 = w := by omega
    subst e
    refine g_iload_n (pc := 4) C dX7_coinsIn_4 rfl ?_
    refine g_bipush (pc := 5) C 6 dX7_coinsIn_5 (by decide) ?_
    refine g_icmp_ge (pc := 7) C 30 dX7_coinsIn_7 (by decide) (fun _ => ?_) (fun h7 => absurd ((nI_leI (a := 6) (b := 6) (by omega) (by omega)).mpr (by omega)) h7)
    exact K
  | succ n ih =>
    intro w hw
    refine g_iload_n (pc := 4) C dX7_coinsIn_4 rfl ?_
    refine g_bipush (pc := 5) C 6 dX7_coinsIn_5 (by decide) ?_
    refine g_icmp_ge (pc := 7) C 30 dX7_coinsIn_7 (by decide) (fun h7 => absurd h7 (fun q => absurd ((nI_leI (a := 6) (b := w) (by omega) (by omega)).mp q) (by omega))) (fun _ => ?_)
    refine g_iload_n (pc := 10) C dX7_coinsIn_10 rfl ?_
    refine g_aload_n (pc := 11) C dX7_coinsIn_11 rfl ?_
    refine g_getr (pc := 12) C fX7_19 rfl hM.1 dX7_coinsIn_12 rfl (hM.2 5 rfl).1 ?_
    refine g_bipush (pc := 15) C 6 dX7_coinsIn_15 (by decide) ?_
    refine g_iload_n (pc := 17) C dX7_coinsIn_17 rfl ?_
    refine g_imul (pc := 18) C dX7_coinsIn_18 ?_
    refine g_eqi (nI (6 * i)) (pk_mul 6 i) ?_
    refine g_iload_n (pc := 19) C dX7_coinsIn_19 rfl ?_
    refine g_iadd (pc := 20) C dX7_coinsIn_20 ?_
    refine g_eqi (nI ((6 * i) + w)) (nI_add (6 * i) w) ?_
    refine g_ialdN (pc := 21) C rfl (hM.2 5 rfl).2 (by omega) (by decide) dX7_coinsIn_21 ?_
    refine g_iadd (pc := 22) C dX7_coinsIn_22 ?_
    refine g_istore_n (pc := 23) C dX7_coinsIn_23 (by decide) ?_
    refine g_iincN (pc := 24) C 1 dX7_coinsIn_24 rfl (by decide) (by decide) ?_
    refine g_goto (pc := 27) C 4 dX7_coinsIn_27 (by decide) ?_
    exact g_subR (ih (w + 1) (by omega)) ⟨rfl, rfl, rfl, rfl, trivial⟩
set_option maxHeartbeats 4000000 in
set_option maxRecDepth 100000 in
/-- coinsIn(i) -/
theorem c_coinsIn (l : Launch) (E : En) (base aw : Nat) (S : Mm) (i : Nat) (hM : ShM S) (hi : i < 6) : Cn l E base aw yX7_coinsIn cX7_coinsIn 4 (some Jvm.ClassFile.FieldType.int) 0 0 0 noF S [vr (2, 0, 0), vi (nI i)] (fun r S' => r = some (vi (csum (fun w => S.1 (2, 0, 5) (6 * i + w)) 6)) ∧ S' = S) := by
  refine Cn.of (by decide) (Nat.le_of_ble_eq_true rfl) ?_
  intro X Y hl hE hbase haw hfr C B
  subst hl; subst hE; subst hbase; subst haw
  refine g_iconst (pc := 0) C 0 dX7_coinsIn_0 (by decide) ?_
  refine g_istore_n (pc := 1) C dX7_coinsIn_1 (by decide) ?_
  refine g_iconst (pc := 2) C 0 dX7_coinsIn_2 (by decide) ?_
  refine g_istore_n (pc := 3) C dX7_coinsIn_3 (by decide) ?_
  refine g_subR (lp_coinsIn C B hM hi ?_ 6 0 rfl) ⟨rfl, rfl, rfl, rfl, trivial⟩
  refine g_iload_n (pc := 30) C dX7_coinsIn_30 rfl ?_
  exact g_iret (pc := 31) C B rfl dX7_coinsIn_31 (⟨rfl, rfl⟩)

set_option maxHeartbeats 4000000 in
set_option maxRecDepth 100000 in
theorem lp_allBack {X : Xt} {Y : Yt} {P : Option AV → Mm → Prop} {nm : String}  (C : Cx X Y cX7_allBack 4 RX7) (B : Bx X Y nm (some Jvm.ClassFile.FieldType.int) 2 0 0 P) {S : Mm} {i : Nat} {x2 : Int32} (hM0 : ShM S) (hi : i < 6) (K : G X Y 0 0 (abM S i 6) 61 [(0, vr (2, 0, 0)), (1, vi (nI i)), (2, vi (x2)), (3, vi (nI 6))] []) : ∀ n w, w + n = 6 → G X Y 0 0 (abM S i w) 12 [(0, vr (2, 0, 0)), (1, vi (nI i)), (2, vi (x2)), (3, vi (nI w))] [] := by
  intro n
  induction n with
  | zero =>
    intro w hw
    have e : 6 = w := by omega
    subst e
    have hM : ShM (abM S i 6) := hM0.same (abM_2 S i 6)
    refine g_iload_n (pc := 12) C dX7_allBack_12 rfl ?_
    refine g_bipush (pc := 13) C 6 dX7_allBack_13 (by decide) ?_
    refine g_icmp_ge (pc := 15) C 61 dX7_allBack_15 (by decide) (fun _ => ?_) (fun h15 => absurd ((nI_leI (a := 6) (b := 6) (by omega) (by omega)).mpr (by omega)) h15)
    exact K
  | succ n ih =>
    intro w hw
    have hM : ShM (abM S i w) := hM0.same (abM_2 S i w)
    refine g_iload_n (pc := 12) C dX7_allBack_12 rfl ?_
    refine g_bipush (pc := 13) C 6 dX7_allBack_13 (by decide) ?_
    refine g_icmp_ge (pc := 15) C 61 dX7_allBack_15 (by decide) (fun h15 => absurd h15 (fun q => absurd ((nI_leI (a := 6) (b := w) (by omega) (by omega)).mp q) (by omega))) (fun _ => ?_)
    refine g_aload_n (pc := 18) C dX7_allBack_18 rfl ?_
    refine g_getr (pc := 19) C fX7_25 rfl hM.1 dX7_allBack_19 rfl (hM.2 7 rfl).1 ?_
    refine g_bipush (pc := 22) C 6 dX7_allBack_22 (by decide) ?_
    refine g_iload_n (pc := 24) C dX7_allBack_24 rfl ?_
    refine g_imul (pc := 25) C dX7_allBack_25 ?_
    refine g_eqi (nI (6 * i)) (pk_mul 6 i) ?_
    refine g_iload_n (pc := 26) C dX7_allBack_26 rfl ?_
    refine g_iadd (pc := 27) C dX7_allBack_27 ?_
    refine g_eqi (nI ((6 * i) + w)) (nI_add (6 * i) w) ?_
    refine g_dup2 (pc := 28) C dX7_allBack_28 ?_
    refine g_ialdN (pc := 29) C rfl (hM.2 7 rfl).2 (by omega) (by decide) dX7_allBack_29 ?_
    refine g_aload_n (pc := 30) C dX7_allBack_30 rfl ?_
    refine g_getr (pc := 31) C fX7_19 rfl hM.1 dX7_allBack_31 rfl (hM.2 5 rfl).1 ?_
    refine g_bipush (pc := 34) C 6 dX7_allBack_34 (by decide) ?_
    refine g_iload_n (pc := 36) C dX7_allBack_36 rfl ?_
    refine g_imul (pc := 37) C dX7_allBack_37 ?_
    refine g_eqi (nI (6 * i)) (pk_mul 6 i) ?_
    refine g_iload_n (pc := 38) C dX7_allBack_38 rfl ?_
    refine g_iadd (pc := 39) C dX7_allBack_39 ?_
    refine g_eqi (nI ((6 * i) + w)) (nI_add (6 * i) w) ?_
    refine g_ialdN (pc := 40) C rfl (hM.2 5 rfl).2 (by omega) (by decide) dX7_allBack_40 ?_
    refine g_iadd (pc := 41) C dX7_allBack_41 ?_
    refine g_iastN (pc := 42) C rfl (hM.2 7 rfl).2 (by omega) (by decide) dX7_allBack_42 ?_
    refine g_aload_n (pc := 43) C dX7_allBack_43 rfl ?_
    refine g_getr (pc := 44) C fX7_19 rfl hM.1 dX7_allBack_44 rfl (hM.2 5 rfl).1 ?_
    refine g_bipush (pc := 47) C 6 dX7_allBack_47 (by decide) ?_
    refine g_iload_n (pc := 49) C dX7_allBack_49 rfl ?_
    refine g_imul (pc := 50) C dX7_allBack_50 ?_
    refine g_eqi (nI (6 * i)) (pk_mul 6 i) ?_
    refine g_iload_n (pc := 51) C dX7_allBack_51 rfl ?_
    refine g_iadd (pc := 52) C dX7_allBack_52 ?_
    refine g_eqi (nI ((6 * i) + w)) (nI_add (6 * i) w) ?_
    refine g_iconst (pc := 53) C 0 dX7_allBack_53 (by decide) ?_
    refine g_iastN (pc := 54) C rfl (hM.2 5 rfl).2 (by omega) (by decide) dX7_allBack_54 ?_
    refine g_iincN (pc := 55) C 1 dX7_allBack_55 rfl (by decide) (by decide) ?_
    refine g_goto (pc := 58) C 12 dX7_allBack_58 (by decide) ?_
    exact g_subR (ih (w + 1) (by omega)) ⟨rfl, rfl, rfl, rfl, trivial⟩
set_option maxHeartbeats 4000000 in
set_option maxRecDepth 100000 in
/-- allBack(i) -/
theorem c_allBack (l : Launch) (E : En) (base aw : Nat) (S : Mm) (i : Nat) (hM : ShM S) (hi : i < 6) : Cn l E base aw yX7_allBack cX7_allBack 4 (some Jvm.ClassFile.FieldType.int) 2 0 0 noF S [vr (2, 0, 0), vi (nI i)] (fun r S' => r = some (vi (wsum (fun w => S.1 (2, 0, 5) (6 * i + w)) 6)) ∧ S' = abM S i 6) := by
  refine Cn.of (by decide) (Nat.le_of_ble_eq_true rfl) ?_
  intro X Y hl hE hbase haw hfr C B
  subst hl; subst hE; subst hbase; subst haw
  refine g_aload_n (pc := 0) C dX7_allBack_0 rfl ?_
  refine g_aload_n (pc := 1) C dX7_allBack_1 rfl ?_
  refine g_getr (pc := 2) C fX7_19 rfl hM.1 dX7_allBack_2 rfl (hM.2 5 rfl).1 ?_
  refine g_iload_n (pc := 5) C dX7_allBack_5 rfl ?_
  refine g_callV (pc := 6) C B mX7_136 (c_worthIn _ _ _ _ _ i 5 (by omega) (hM.2 5 rfl).2 rfl) rfl rfl rfl rfl hM.1 (by decide) ⟨Nat.le_refl _, Nat.le_refl _⟩ (Nat.le_of_ble_eq_true rfl) dX7_allBack_6 (fun r S' hP => ?_)
  rw [hP.1, hP.2]
  refine g_istore_n (pc := 9) C dX7_allBack_9 (by decide) ?_
  refine g_iconst (pc := 10) C 0 dX7_allBack_10 (by decide) ?_
  refine g_istore_n (pc := 11) C dX7_allBack_11 (by decide) ?_
  refine g_subR (lp_allBack C B hM hi ?_ 6 0 rfl) ⟨rfl, rfl, rfl, rfl, trivial⟩
  refine g_iload_n (pc := 61) C dX7_allBack_61 rfl ?_
  exact g_iret (pc := 62) C B rfl dX7_allBack_62 (⟨rfl, rfl⟩)

set_option maxHeartbeats 4000000 in
set_option maxRecDepth 100000 in
/-- insert of no machine or worth -/
theorem c_X7_insert_b (l : Launch) (E : En) (base aw : Nat) (S : Mm) (mc : Nat) (lc : Nat → Nat) (hI : IM S mc lc) (p0 p1 : Int32) (h : ¬ (okN mc p0 ∧ okN 6 p1)) : Cn l E base aw yX7_insert cX7_insert 3 (some Jvm.ClassFile.FieldType.int) 2 0 0 noF S [vr (2, 0, 0), vi p0, vi p1] (fun r S' => r = some (vi (-1)) ∧ S' = rfM S 1) := by
  have hM := hI.1
  have hmc := hI.2.2.1
  by_cases hm0 : okN mc p0
  ·
    obtain ⟨i, hi, rfl⟩ := hm0
    have hx : ¬ okN 6 p1 := fun q => h ⟨⟨i, hi, rfl⟩, q⟩
    refine Cn.of (by decide) (Nat.le_of_ble_eq_true rfl) ?_
    intro X Y hl hE hbase haw hfr C B
    subst hl; subst hE; subst hbase; subst haw
    refine g_aload_n (pc := 0) C dX7_insert_0 rfl ?_
    refine g_iload_n (pc := 1) C dX7_insert_1 rfl ?_
    refine g_callV (pc := 2) C B mX7_112 (c_isM_t _ _ _ _ _ mc lc hI i hi) rfl rfl rfl rfl hM.1 (by decide) ⟨Nat.le_refl _, Nat.le_refl _⟩ (Nat.le_of_ble_eq_true rfl) dX7_insert_2 (fun r S' hP => ?_)
    rw [hP.1, hP.2]
    refine g_if_eq (pc := 5) C 17 dX7_insert_5 (by decide) (fun h5 => absurd h5 (by decide)) (fun _ => ?_)
    refine g_iload_n (pc := 8) C dX7_insert_8 rfl ?_
    refine g_iconst (pc := 9) C 0 dX7_insert_9 (by decide) ?_
    refine g_iconst (pc := 10) C 5 dX7_insert_10 (by decide) ?_
    refine g_callS (pc := 11) C B mX7_108 (c_in_f _ _ _ _ _ _ _ _ (okW_f (n := 5) (by decide) hx)) rfl rfl (by decide) ⟨Nat.le_refl _, Nat.le_refl _⟩ (Nat.le_of_ble_eq_true rfl) dX7_insert_11 (fun r S' hP => ?_)
    rw [hP.1, hP.2]
    refine g_if_ne (pc := 14) C 23 dX7_insert_14 (by decide) (fun h14 => absurd (by decide) h14) (fun _ => ?_)
    refine g_aload_n (pc := 17) C dX7_insert_17 rfl ?_
    refine g_iconst (pc := 18) C (-1) dX7_insert_18 (by decide) ?_
    refine g_callV (pc := 19) C B mX7_116 (c_mrefuse _ _ _ _ _ hM (-1) 1 (by decide) (by decide)) rfl rfl rfl rfl hM.1 (by decide) ⟨Nat.le_refl _, Nat.le_refl _⟩ (Nat.le_of_ble_eq_true rfl) dX7_insert_19 (fun r S' hP => ?_)
    rw [hP.1, hP.2]
    exact g_iret (pc := 22) C B rfl dX7_insert_22 (⟨rfl, rfl⟩)
  ·
    have hx := hm0
    refine Cn.of (by decide) (Nat.le_of_ble_eq_true rfl) ?_
    intro X Y hl hE hbase haw hfr C B
    subst hl; subst hE; subst hbase; subst haw
    refine g_aload_n (pc := 0) C dX7_insert_0 rfl ?_
    refine g_iload_n (pc := 1) C dX7_insert_1 rfl ?_
    refine g_callV (pc := 2) C B mX7_112 (c_isM_f _ _ _ _ _ mc lc hI p0 hx) rfl rfl rfl rfl hM.1 (by decide) ⟨Nat.le_refl _, Nat.le_refl _⟩ (Nat.le_of_ble_eq_true rfl) dX7_insert_2 (fun r S' hP => ?_)
    rw [hP.1, hP.2]
    refine g_if_eq (pc := 5) C 17 dX7_insert_5 (by decide) (fun _ => ?_) (fun h5 => absurd (by decide) h5)
    refine g_aload_n (pc := 17) C dX7_insert_17 rfl ?_
    refine g_iconst (pc := 18) C (-1) dX7_insert_18 (by decide) ?_
    refine g_callV (pc := 19) C B mX7_116 (c_mrefuse _ _ _ _ _ hM (-1) 1 (by decide) (by decide)) rfl rfl rfl rfl hM.1 (by decide) ⟨Nat.le_refl _, Nat.le_refl _⟩ (Nat.le_of_ble_eq_true rfl) dX7_insert_19 (fun r S' hP => ?_)
    rw [hP.1, hP.2]
    exact g_iret (pc := 22) C B rfl dX7_insert_22 (⟨rfl, rfl⟩)

def t_X7_insert (S : Mm) (i : Nat) (w : Nat) : Option AV × Mm := if (csum (fun z => S.1 (2, 0, 5) (6 * i + z)) 6) = 20 then (some (vi ((-6))), rfM S 6) else (some (vi (wsum (fun z => (wI (wI S (2, 0, 5) ((6 * i) + w) ((S.1 (2, 0, 5) ((6 * i) + w)) + 1)) (2, 0, 6) ((6 * i) + w) (((wI S (2, 0, 5) ((6 * i) + w) ((S.1 (2, 0, 5) ((6 * i) + w)) + 1)).1 (2, 0, 6) ((6 * i) + w)) + 1)).1 (2, 0, 5) (6 * i + z)) 6)), wI (wI S (2, 0, 5) ((6 * i) + w) ((S.1 (2, 0, 5) ((6 * i) + w)) + 1)) (2, 0, 6) ((6 * i) + w) (((wI S (2, 0, 5) ((6 * i) + w) ((S.1 (2, 0, 5) ((6 * i) + w)) + 1)).1 (2, 0, 6) ((6 * i) + w)) + 1))
set_option maxHeartbeats 4000000 in
set_option maxRecDepth 100000 in
/-- insert(i, w) -/
theorem c_X7_insert (l : Launch) (E : En) (base aw : Nat) (S : Mm) (mc : Nat) (lc : Nat → Nat) (hI : IM S mc lc) (i : Nat) (hi : i < mc) (w : Nat) (hw : w < 6) : Cn l E base aw yX7_insert cX7_insert 3 (some Jvm.ClassFile.FieldType.int) 2 0 0 noF S [vr (2, 0, 0), vi (nI i), vi (nI w)] (fun r S' => (r, S') = t_X7_insert S i w) := by
  have hM := hI.1
  have hmc := hI.2.2.1
  refine Cn.of (by decide) (Nat.le_of_ble_eq_true rfl) ?_
  intro X Y hl hE hbase haw hfr C B
  subst hl; subst hE; subst hbase; subst haw
  refine g_aload_n (pc := 0) C dX7_insert_0 rfl ?_
  refine g_iload_n (pc := 1) C dX7_insert_1 rfl ?_
  refine g_callV (pc := 2) C B mX7_112 (c_isM_t _ _ _ _ _ mc lc hI i hi) rfl rfl rfl rfl hM.1 (by decide) ⟨Nat.le_refl _, Nat.le_refl _⟩ (Nat.le_of_ble_eq_true rfl) dX7_insert_2 (fun r S' hP => ?_)
  rw [hP.1, hP.2]
  refine g_if_eq (pc := 5) C 17 dX7_insert_5 (by decide) (fun h5 => absurd h5 (by decide)) (fun _ => ?_)
  refine g_iload_n (pc := 8) C dX7_insert_8 rfl ?_
  refine g_iconst (pc := 9) C 0 dX7_insert_9 (by decide) ?_
  refine g_iconst (pc := 10) C 5 dX7_insert_10 (by decide) ?_
  refine g_callS (pc := 11) C B mX7_108 (c_in_t _ _ _ _ _ _ _ _ (okW_t (n := 5) (by omega) (by decide))) rfl rfl (by decide) ⟨Nat.le_refl _, Nat.le_refl _⟩ (Nat.le_of_ble_eq_true rfl) dX7_insert_11 (fun r S' hP => ?_)
  rw [hP.1, hP.2]
  refine g_if_ne (pc := 14) C 23 dX7_insert_14 (by decide) (fun _ => ?_) (fun h14 => absurd h14 (by decide))
  refine g_aload_n (pc := 23) C dX7_insert_23 rfl ?_
  refine g_iload_n (pc := 24) C dX7_insert_24 rfl ?_
  refine g_callV (pc := 25) C B mX7_133 (c_coinsIn _ _ _ _ _ i hM (by omega)) rfl rfl rfl rfl hM.1 (by decide) ⟨Nat.le_refl _, Nat.le_refl _⟩ (Nat.le_of_ble_eq_true rfl) dX7_insert_25 (fun r S' hP => ?_)
  rw [hP.1, hP.2]
  refine g_bipush (pc := 28) C 20 dX7_insert_28 (by decide) ?_
  refine g_icmp_ne (pc := 30) C 40 dX7_insert_30 (by decide) (fun h30 => ?_) (fun h30 => ?_)
  ·
    refine g_aload_n (pc := 40) C dX7_insert_40 rfl ?_
    refine g_getr (pc := 41) C fX7_19 rfl hM.1 dX7_insert_41 rfl (hM.2 5 rfl).1 ?_
    refine g_bipush (pc := 44) C 6 dX7_insert_44 (by decide) ?_
    refine g_iload_n (pc := 46) C dX7_insert_46 rfl ?_
    refine g_imul (pc := 47) C dX7_insert_47 ?_
    refine g_eqi (nI (6 * i)) (pk_mul 6 i) ?_
    refine g_iload_n (pc := 48) C dX7_insert_48 rfl ?_
    refine g_iadd (pc := 49) C dX7_insert_49 ?_
    refine g_eqi (nI ((6 * i) + w)) (nI_add (6 * i) w) ?_
    refine g_dup2 (pc := 50) C dX7_insert_50 ?_
    refine g_ialdN (pc := 51) C rfl (hM.2 5 rfl).2 (by omega) (by decide) dX7_insert_51 ?_
    refine g_iconst (pc := 52) C 1 dX7_insert_52 (by decide) ?_
    refine g_iadd (pc := 53) C dX7_insert_53 ?_
    refine g_iastN (pc := 54) C rfl (hM.2 5 rfl).2 (by omega) (by decide) dX7_insert_54 ?_
    refine g_aload_n (pc := 55) C dX7_insert_55 rfl ?_
    refine g_getr (pc := 56) C fX7_22 rfl hM.1 dX7_insert_56 rfl (hM.2 6 rfl).1 ?_
    refine g_bipush (pc := 59) C 6 dX7_insert_59 (by decide) ?_
    refine g_iload_n (pc := 61) C dX7_insert_61 rfl ?_
    refine g_imul (pc := 62) C dX7_insert_62 ?_
    refine g_eqi (nI (6 * i)) (pk_mul 6 i) ?_
    refine g_iload_n (pc := 63) C dX7_insert_63 rfl ?_
    refine g_iadd (pc := 64) C dX7_insert_64 ?_
    refine g_eqi (nI ((6 * i) + w)) (nI_add (6 * i) w) ?_
    refine g_dup2 (pc := 65) C dX7_insert_65 ?_
    refine g_ialdN (pc := 66) C rfl (hM.2 6 rfl).2 (by omega) (by decide) dX7_insert_66 ?_
    refine g_iconst (pc := 67) C 1 dX7_insert_67 (by decide) ?_
    refine g_iadd (pc := 68) C dX7_insert_68 ?_
    refine g_iastN (pc := 69) C rfl (hM.2 6 rfl).2 (by omega) (by decide) dX7_insert_69 ?_
    refine g_aload_n (pc := 70) C dX7_insert_70 rfl ?_
    refine g_aload_n (pc := 71) C dX7_insert_71 rfl ?_
    refine g_getr (pc := 72) C fX7_19 rfl hM.1 dX7_insert_72 rfl (hM.2 5 rfl).1 ?_
    refine g_iload_n (pc := 75) C dX7_insert_75 rfl ?_
    refine g_callV (pc := 76) C B mX7_136 (c_worthIn _ _ _ _ _ i 5 (by omega) (hM.2 5 rfl).2 rfl) rfl rfl rfl rfl hM.1 (by decide) ⟨Nat.le_refl _, Nat.le_refl _⟩ (Nat.le_of_ble_eq_true rfl) dX7_insert_76 (fun r S' hP => ?_)
    rw [hP.1, hP.2]
    exact g_iret (pc := 79) C B rfl dX7_insert_79 (by show (_, _) = t_X7_insert S i w; unfold t_X7_insert; rw [if_neg h30])
  ·
    refine g_aload_n (pc := 33) C dX7_insert_33 rfl ?_
    refine g_bipush (pc := 34) C (-6) dX7_insert_34 (by decide) ?_
    refine g_callV (pc := 36) C B mX7_116 (c_mrefuse _ _ _ _ _ hM (-6) 6 (by decide) (by decide)) rfl rfl rfl rfl hM.1 (by decide) ⟨Nat.le_refl _, Nat.le_refl _⟩ (Nat.le_of_ble_eq_true rfl) dX7_insert_36 (fun r S' hP => ?_)
    rw [hP.1, hP.2]
    exact g_iret (pc := 39) C B rfl dX7_insert_39 (by show (_, _) = t_X7_insert S i w; unfold t_X7_insert; rw [if_pos h30])

set_option maxHeartbeats 4000000 in
set_option maxRecDepth 100000 in
/-- back of no machine -/
theorem c_X7_back_b (l : Launch) (E : En) (base aw : Nat) (S : Mm) (mc : Nat) (lc : Nat → Nat) (hI : IM S mc lc) (p0 : Int32) (h : ¬ (okN mc p0)) : Cn l E base aw yX7_back cX7_back 2 (some Jvm.ClassFile.FieldType.int) 3 0 0 noF S [vr (2, 0, 0), vi p0] (fun r S' => r = some (vi (-1)) ∧ S' = rfM S 1) := by
  have hM := hI.1
  have hmc := hI.2.2.1
  have hx : ¬ okN mc p0 := fun q => h q
  refine Cn.of (by decide) (Nat.le_of_ble_eq_true rfl) ?_
  intro X Y hl hE hbase haw hfr C B
  subst hl; subst hE; subst hbase; subst haw
  refine g_aload_n (pc := 0) C dX7_back_0 rfl ?_
  refine g_iload_n (pc := 1) C dX7_back_1 rfl ?_
  refine g_callV (pc := 2) C B mX7_112 (c_isM_f _ _ _ _ _ mc lc hI p0 hx) rfl rfl rfl rfl hM.1 (by decide) ⟨Nat.le_refl _, Nat.le_refl _⟩ (Nat.le_of_ble_eq_true rfl) dX7_back_2 (fun r S' hP => ?_)
  rw [hP.1, hP.2]
  refine g_if_eq (pc := 5) C 16 dX7_back_5 (by decide) (fun _ => ?_) (fun h5 => absurd (by decide) h5)
  refine g_aload_n (pc := 16) C dX7_back_16 rfl ?_
  refine g_iconst (pc := 17) C (-1) dX7_back_17 (by decide) ?_
  refine g_callV (pc := 18) C B mX7_116 (c_mrefuse _ _ _ _ _ hM (-1) 1 (by decide) (by decide)) rfl rfl rfl rfl hM.1 (by decide) ⟨Nat.le_refl _, Nat.le_refl _⟩ (Nat.le_of_ble_eq_true rfl) dX7_back_18 (fun r S' hP => ?_)
  rw [hP.1, hP.2]
  exact g_iret (pc := 21) C B rfl dX7_back_21 (⟨rfl, rfl⟩)

def t_X7_back (S : Mm) (i : Nat) : Option AV × Mm := (some (vi (wsum (fun z => S.1 (2, 0, 5) (6 * i + z)) 6)), abM S i 6)
set_option maxHeartbeats 4000000 in
set_option maxRecDepth 100000 in
/-- back(i) -/
theorem c_X7_back (l : Launch) (E : En) (base aw : Nat) (S : Mm) (mc : Nat) (lc : Nat → Nat) (hI : IM S mc lc) (i : Nat) (hi : i < mc) : Cn l E base aw yX7_back cX7_back 2 (some Jvm.ClassFile.FieldType.int) 3 0 0 noF S [vr (2, 0, 0), vi (nI i)] (fun r S' => (r, S') = t_X7_back S i) := by
  have hM := hI.1
  have hmc := hI.2.2.1
  refine Cn.of (by decide) (Nat.le_of_ble_eq_true rfl) ?_
  intro X Y hl hE hbase haw hfr C B
  subst hl; subst hE; subst hbase; subst haw
  refine g_aload_n (pc := 0) C dX7_back_0 rfl ?_
  refine g_iload_n (pc := 1) C dX7_back_1 rfl ?_
  refine g_callV (pc := 2) C B mX7_112 (c_isM_t _ _ _ _ _ mc lc hI i hi) rfl rfl rfl rfl hM.1 (by decide) ⟨Nat.le_refl _, Nat.le_refl _⟩ (Nat.le_of_ble_eq_true rfl) dX7_back_2 (fun r S' hP => ?_)
  rw [hP.1, hP.2]
  refine g_if_eq (pc := 5) C 16 dX7_back_5 (by decide) (fun h5 => absurd h5 (by decide)) (fun _ => ?_)
  refine g_aload_n (pc := 8) C dX7_back_8 rfl ?_
  refine g_iload_n (pc := 9) C dX7_back_9 rfl ?_
  refine g_callV (pc := 10) C B mX7_140 (c_allBack _ _ _ _ _ i hM (by omega)) rfl rfl rfl rfl hM.1 (by decide) ⟨Nat.le_refl _, Nat.le_refl _⟩ (Nat.le_of_ble_eq_true rfl) dX7_back_10 (fun r S' hP => ?_)
  rw [hP.1, hP.2]
  refine g_goto (pc := 13) C 21 dX7_back_13 (by decide) ?_
  exact g_iret (pc := 21) C B rfl dX7_back_21 (by show (_, _) = t_X7_back S i; unfold t_X7_back; rfl)

set_option maxHeartbeats 4000000 in
set_option maxRecDepth 100000 in
/-- collect of no machine -/
theorem c_X7_collect_b (l : Launch) (E : En) (base aw : Nat) (S : Mm) (mc : Nat) (lc : Nat → Nat) (hI : IM S mc lc) (p0 : Int32) (h : ¬ (okN mc p0)) : Cn l E base aw yX7_collect cX7_collect 4 (some Jvm.ClassFile.FieldType.int) 2 0 0 noF S [vr (2, 0, 0), vi p0] (fun r S' => r = some (vi (-1)) ∧ S' = rfM S 1) := by
  have hM := hI.1
  have hmc := hI.2.2.1
  have hx : ¬ okN mc p0 := fun q => h q
  refine Cn.of (by decide) (Nat.le_of_ble_eq_true rfl) ?_
  intro X Y hl hE hbase haw hfr C B
  subst hl; subst hE; subst hbase; subst haw
  refine g_aload_n (pc := 0) C dX7_collect_0 rfl ?_
  refine g_iload_n (pc := 1) C dX7_collect_1 rfl ?_
  refine g_callV (pc := 2) C B mX7_112 (c_isM_f _ _ _ _ _ mc lc hI p0 hx) rfl rfl rfl rfl hM.1 (by decide) ⟨Nat.le_refl _, Nat.le_refl _⟩ (Nat.le_of_ble_eq_true rfl) dX7_collect_2 (fun r S' hP => ?_)
  rw [hP.1, hP.2]
  refine g_if_ne (pc := 5) C 14 dX7_collect_5 (by decide) (fun h5 => absurd (by decide) h5) (fun _ => ?_)
  refine g_aload_n (pc := 8) C dX7_collect_8 rfl ?_
  refine g_iconst (pc := 9) C (-1) dX7_collect_9 (by decide) ?_
  refine g_callV (pc := 10) C B mX7_116 (c_mrefuse _ _ _ _ _ hM (-1) 1 (by decide) (by decide)) rfl rfl rfl rfl hM.1 (by decide) ⟨Nat.le_refl _, Nat.le_refl _⟩ (Nat.le_of_ble_eq_true rfl) dX7_collect_10 (fun r S' hP => ?_)
  rw [hP.1, hP.2]
  exact g_iret (pc := 13) C B rfl dX7_collect_13 (⟨rfl, rfl⟩)

set_option maxHeartbeats 4000000 in
set_option maxRecDepth 100000 in
theorem lp_collect {X : Xt} {Y : Yt} {P : Option AV → Mm → Prop} {nm : String}  (C : Cx X Y cX7_collect 4 RX7) (B : Bx X Y nm (some Jvm.ClassFile.FieldType.int) 2 0 0 P) {S : Mm} {i : Nat} {x2 : Int32} (hM0 : ShM S) (hi : i < 6) (K : G X Y 0 0 (coM S i 6) 68 [(0, vr (2, 0, 0)), (1, vi (nI i)), (2, vi (x2)), (3, vi (nI (6 * i + 6)))] []) : ∀ n w, w + n = 6 → G X Y 0 0 (coM S i w) 29 [(0, vr (2, 0, 0)), (1, vi (nI i)), (2, vi (x2)), (3, vi (nI (6 * i + w)))] [] := by
  intro n
  induction n with
  | zero =>
    intro w hw
    have e : 6 = w := by omega
    subst e
    have hM : ShM (coM S i 6) := hM0.same (coM_2 S i 6)
    refine g_iload_n (pc := 29) C dX7_collect_29 rfl ?_
    refine g_bipush (pc := 30) C 6 dX7_collect_30 (by decide) ?_
    refine g_iload_n (pc := 32) C dX7_collect_32 rfl ?_
    refine g_imul (pc := 33) C dX7_collect_33 ?_
    refine g_eqi (nI (6 * i)) (pk_mul 6 i) ?_
    refine g_bipush (pc := 34) C 6 dX7_collect_34 (by decide) ?_
    refine g_iadd (pc := 36) C dX7_collect_36 ?_
    refine g_eqi (nI ((6 * i) + 6)) (nI_add (6 * i) 6) ?_
    refine g_icmp_ge (pc := 37) C 68 dX7_collect_37 (by decide) (fun _ => ?_) (fun h37 => absurd ((nI_leI (a := 6 * i + 6) (b := 6 * i + 6) (by omega) (by omega)).mpr (by omega)) h37)
    exact K
  | succ n ih =>
    intro w hw
    have hM : ShM (coM S i w) := hM0.same (coM_2 S i w)
    refine g_iload_n (pc := 29) C dX7_collect_29 rfl ?_
    refine g_bipush (pc := 30) C 6 dX7_collect_30 (by decide) ?_
    refine g_iload_n (pc := 32) C dX7_collect_32 rfl ?_
    refine g_imul (pc := 33) C dX7_collect_33 ?_
    refine g_eqi (nI (6 * i)) (pk_mul 6 i) ?_
    refine g_bipush (pc := 34) C 6 dX7_collect_34 (by decide) ?_
    refine g_iadd (pc := 36) C dX7_collect_36 ?_
    refine g_eqi (nI ((6 * i) + 6)) (nI_add (6 * i) 6) ?_
    refine g_icmp_ge (pc := 37) C 68 dX7_collect_37 (by decide) (fun h37 => absurd h37 (fun q => absurd ((nI_leI (a := 6 * i + 6) (b := 6 * i + w) (by omega) (by omega)).mp q) (by omega))) (fun _ => ?_)
    refine g_aload_n (pc := 40) C dX7_collect_40 rfl ?_
    refine g_getr (pc := 41) C fX7_25 rfl hM.1 dX7_collect_41 rfl (hM.2 7 rfl).1 ?_
    refine g_iload_n (pc := 44) C dX7_collect_44 rfl ?_
    refine g_dup2 (pc := 45) C dX7_collect_45 ?_
    refine g_ialdN (pc := 46) C rfl (hM.2 7 rfl).2 (by omega) (by decide) dX7_collect_46 ?_
    refine g_aload_n (pc := 47) C dX7_collect_47 rfl ?_
    refine g_getr (pc := 48) C fX7_16 rfl hM.1 dX7_collect_48 rfl (hM.2 4 rfl).1 ?_
    refine g_iload_n (pc := 51) C dX7_collect_51 rfl ?_
    refine g_ialdN (pc := 52) C rfl (hM.2 4 rfl).2 (by omega) (by decide) dX7_collect_52 ?_
    refine g_iadd (pc := 53) C dX7_collect_53 ?_
    refine g_iastN (pc := 54) C rfl (hM.2 7 rfl).2 (by omega) (by decide) dX7_collect_54 ?_
    refine g_aload_n (pc := 55) C dX7_collect_55 rfl ?_
    refine g_getr (pc := 56) C fX7_16 rfl hM.1 dX7_collect_56 rfl (hM.2 4 rfl).1 ?_
    refine g_iload_n (pc := 59) C dX7_collect_59 rfl ?_
    refine g_iconst (pc := 60) C 0 dX7_collect_60 (by decide) ?_
    refine g_iastN (pc := 61) C rfl (hM.2 4 rfl).2 (by omega) (by decide) dX7_collect_61 ?_
    refine g_iincN (pc := 62) C 1 dX7_collect_62 rfl (by decide) (by decide) ?_
    refine g_goto (pc := 65) C 29 dX7_collect_65 (by decide) ?_
    exact g_subR (ih (w + 1) (by omega)) ⟨rfl, rfl, rfl, rfl, trivial⟩
def t_X7_collect (S : Mm) (i : Nat) : Option AV × Mm := (some (vi (wsum (fun z => S.1 (2, 0, 4) (6 * i + z)) 6)), coM S i 6)
set_option maxHeartbeats 4000000 in
set_option maxRecDepth 100000 in
/-- collect(i) -/
theorem c_X7_collect (l : Launch) (E : En) (base aw : Nat) (S : Mm) (mc : Nat) (lc : Nat → Nat) (hI : IM S mc lc) (i : Nat) (hi : i < mc) : Cn l E base aw yX7_collect cX7_collect 4 (some Jvm.ClassFile.FieldType.int) 2 0 0 noF S [vr (2, 0, 0), vi (nI i)] (fun r S' => (r, S') = t_X7_collect S i) := by
  have hM := hI.1
  have hmc := hI.2.2.1
  refine Cn.of (by decide) (Nat.le_of_ble_eq_true rfl) ?_
  intro X Y hl hE hbase haw hfr C B
  subst hl; subst hE; subst hbase; subst haw
  refine g_aload_n (pc := 0) C dX7_collect_0 rfl ?_
  refine g_iload_n (pc := 1) C dX7_collect_1 rfl ?_
  refine g_callV (pc := 2) C B mX7_112 (c_isM_t _ _ _ _ _ mc lc hI i hi) rfl rfl rfl rfl hM.1 (by decide) ⟨Nat.le_refl _, Nat.le_refl _⟩ (Nat.le_of_ble_eq_true rfl) dX7_collect_2 (fun r S' hP => ?_)
  rw [hP.1, hP.2]
  refine g_if_ne (pc := 5) C 14 dX7_collect_5 (by decide) (fun _ => ?_) (fun h5 => absurd h5 (by decide))
  refine g_aload_n (pc := 14) C dX7_collect_14 rfl ?_
  refine g_aload_n (pc := 15) C dX7_collect_15 rfl ?_
  refine g_getr (pc := 16) C fX7_16 rfl hM.1 dX7_collect_16 rfl (hM.2 4 rfl).1 ?_
  refine g_iload_n (pc := 19) C dX7_collect_19 rfl ?_
  refine g_callV (pc := 20) C B mX7_136 (c_worthIn _ _ _ _ _ i 4 (by omega) (hM.2 4 rfl).2 rfl) rfl rfl rfl rfl hM.1 (by decide) ⟨Nat.le_refl _, Nat.le_refl _⟩ (Nat.le_of_ble_eq_true rfl) dX7_collect_20 (fun r S' hP => ?_)
  rw [hP.1, hP.2]
  refine g_istore_n (pc := 23) C dX7_collect_23 (by decide) ?_
  refine g_bipush (pc := 24) C 6 dX7_collect_24 (by decide) ?_
  refine g_iload_n (pc := 26) C dX7_collect_26 rfl ?_
  refine g_imul (pc := 27) C dX7_collect_27 ?_
  refine g_eqi (nI (6 * i)) (pk_mul 6 i) ?_
  refine g_istore_n (pc := 28) C dX7_collect_28 (by decide) ?_
  refine g_subR (lp_collect C B hM (by omega) ?_ 6 0 rfl) ⟨rfl, rfl, rfl, rfl, trivial⟩
  refine g_iload_n (pc := 68) C dX7_collect_68 rfl ?_
  exact g_iret (pc := 69) C B rfl dX7_collect_69 (by show (_, _) = t_X7_collect S i; unfold t_X7_collect; rfl)

set_option maxHeartbeats 4000000 in
set_option maxRecDepth 100000 in
theorem c_X7_check_b (l : Launch) (E : En) (base aw : Nat) (S : Mm) (mc : Nat) (lc : Nat → Nat) (hI : IM S mc lc) (p0 : Int32) (hx : ¬ okN mc p0) : Cn l E base aw yX7_check cX7_check 5 (some Jvm.ClassFile.FieldType.boolean) 2 0 0 noF S [vr (2, 0, 0), vi p0] (fun r S' => r = some (vi 0) ∧ S' = S) := by
  have hM := hI.1
  have hmc := hI.2.2.1
  refine Cn.of (by decide) (Nat.le_of_ble_eq_true rfl) ?_
  intro X Y hl hE hbase haw hfr C B
  subst hl; subst hE; subst hbase; subst haw
  refine g_aload_n (pc := 0) C dX7_check_0 rfl ?_
  refine g_iload_n (pc := 1) C dX7_check_1 rfl ?_
  refine g_callV (pc := 2) C B mX7_112 (c_isM_f _ _ _ _ _ mc lc hI p0 hx) rfl rfl rfl rfl hM.1 (by decide) ⟨Nat.le_refl _, Nat.le_refl _⟩ (Nat.le_of_ble_eq_true rfl) dX7_check_2 (fun r S' hP => ?_)
  rw [hP.1, hP.2]
  refine g_if_ne (pc := 5) C 10 dX7_check_5 (by decide) (fun h5 => absurd (by decide) h5) (fun _ => ?_)
  refine g_iconst (pc := 8) C 0 dX7_check_8 (by decide) ?_
  exact g_iret (pc := 9) C B rfl dX7_check_9 (⟨rfl, rfl⟩)

set_option maxHeartbeats 4000000 in
set_option maxRecDepth 100000 in
theorem lp_check1 {X : Xt} {Y : Yt} {P : Option AV → Mm → Prop} {nm : String}  (C : Cx X Y cX7_check 5 RX7) (B : Bx X Y nm (some Jvm.ClassFile.FieldType.boolean) 2 0 0 P) {S : Mm} {i mc : Nat} {lc : Nat → Nat} (hI : IM S mc lc) (hi : i < 6) (K : G X Y 0 0 S 66 [(0, vr (2, 0, 0)), (1, vi (nI i)), (2, vi (gsM S i (lc i))), (3, vi (nI (8 * i + lc i)))] []) : ∀ n w, w + n = lc i → G X Y 0 0 S 36 [(0, vr (2, 0, 0)), (1, vi (nI i)), (2, vi (gsM S i w)), (3, vi (nI (8 * i + w)))] [] := by
  intro n
  induction n with
  | zero =>
    intro w hw
    have e : lc i = w := by omega
    subst e
    have hM := hI.1
    have hlc := (hI.2.2.2 i (by omega)).2
    refine g_iload_n (pc := 36) C dX7_check_36 rfl ?_
    refine g_bipush (pc := 37) C 8 dX7_check_37 (by decide) ?_
    refine g_iload_n (pc := 39) C dX7_check_39 rfl ?_
    refine g_imul (pc := 40) C dX7_check_40 ?_
    refine g_eqi (nI (8 * i)) (pk_mul 8 i) ?_
    refine g_aload_n (pc := 41) C dX7_check_41 rfl ?_
    refine g_getr (pc := 42) C fX7_7 rfl hM.1 dX7_check_42 rfl (hM.2 2 rfl).1 ?_
    refine g_iload_n (pc := 45) C dX7_check_45 rfl ?_
    refine g_ialdN (pc := 46) C rfl (hM.2 2 rfl).2 (by omega) (by decide) dX7_check_46 ?_
    refine g_eqi (nI (lc i)) (hI.2.2.2 i (by omega)).1 ?_
    refine g_iadd (pc := 47) C dX7_check_47 ?_
    refine g_eqi (nI ((8 * i) + (lc i))) (nI_add (8 * i) (lc i)) ?_
    refine g_icmp_ge (pc := 48) C 66 dX7_check_48 (by decide) (fun _ => ?_) (fun h48 => absurd ((nI_leI (a := 8 * i + lc i) (b := 8 * i + lc i) (by omega) (by omega)).mpr (by omega)) h48)
    exact K
  | succ n ih =>
    intro w hw
    have hM := hI.1
    have hlc := (hI.2.2.2 i (by omega)).2
    refine g_iload_n (pc := 36) C dX7_check_36 rfl ?_
    refine g_bipush (pc := 37) C 8 dX7_check_37 (by decide) ?_
    refine g_iload_n (pc := 39) C dX7_check_39 rfl ?_
    refine g_imul (pc := 40) C dX7_check_40 ?_
    refine g_eqi (nI (8 * i)) (pk_mul 8 i) ?_
    refine g_aload_n (pc := 41) C dX7_check_41 rfl ?_
    refine g_getr (pc := 42) C fX7_7 rfl hM.1 dX7_check_42 rfl (hM.2 2 rfl).1 ?_
    refine g_iload_n (pc := 45) C dX7_check_45 rfl ?_
    refine g_ialdN (pc := 46) C rfl (hM.2 2 rfl).2 (by omega) (by decide) dX7_check_46 ?_
    refine g_eqi (nI (lc i)) (hI.2.2.2 i (by omega)).1 ?_
    refine g_iadd (pc := 47) C dX7_check_47 ?_
    refine g_eqi (nI ((8 * i) + (lc i))) (nI_add (8 * i) (lc i)) ?_
    refine g_icmp_ge (pc := 48) C 66 dX7_check_48 (by decide) (fun h48 => absurd h48 (fun q => absurd ((nI_leI (a := 8 * i + lc i) (b := 8 * i + w) (by omega) (by omega)).mp q) (by omega))) (fun _ => ?_)
    refine g_iload_n (pc := 51) C dX7_check_51 rfl ?_
    refine g_aload_n (pc := 52) C dX7_check_52 rfl ?_
    refine g_getr (pc := 53) C fX7_44 rfl hM.1 dX7_check_53 rfl (hM.2 13 rfl).1 ?_
    refine g_iload_n (pc := 56) C dX7_check_56 rfl ?_
    refine g_ialdN (pc := 57) C rfl (hM.2 13 rfl).2 (by omega) (by decide) dX7_check_57 ?_
    refine g_iadd (pc := 58) C dX7_check_58 ?_
    refine g_istore_n (pc := 59) C dX7_check_59 (by decide) ?_
    refine g_iincN (pc := 60) C 1 dX7_check_60 rfl (by decide) (by decide) ?_
    refine g_goto (pc := 63) C 36 dX7_check_63 (by decide) ?_
    exact g_subR (ih (w + 1) (by omega)) ⟨rfl, rfl, rfl, rfl, trivial⟩
set_option maxHeartbeats 4000000 in
set_option maxRecDepth 100000 in
theorem lp_check2 {X : Xt} {Y : Yt} {P : Option AV → Mm → Prop} {nm : String}  (C : Cx X Y cX7_check 5 RX7) (B : Bx X Y nm (some Jvm.ClassFile.FieldType.boolean) 2 0 0 P) {S : Mm} {i : Nat} {b0 : Int32} (hM : ShM S) (hi : i < 6) (K : G X Y 0 0 S 157 [(0, vr (2, 0, 0)), (1, vi (nI i)), (3, vi (ckM S i b0 6)), (4, vi (nI (6 * i + 6)))] []) : ∀ n w, w + n = 6 → G X Y 0 0 S 88 [(0, vr (2, 0, 0)), (1, vi (nI i)), (3, vi (ckM S i b0 w)), (4, vi (nI (6 * i + w)))] [] := by
  intro n
  induction n with
  | zero =>
    intro w hw
    have e : 6 = w := by omega
    subst e
    refine g_iload (pc := 88) C dX7_check_88 rfl ?_
    refine g_bipush (pc := 90) C 6 dX7_check_90 (by decide) ?_
    refine g_iload_n (pc := 92) C dX7_check_92 rfl ?_
    refine g_imul (pc := 93) C dX7_check_93 ?_
    refine g_eqi (nI (6 * i)) (pk_mul 6 i) ?_
    refine g_bipush (pc := 94) C 6 dX7_check_94 (by decide) ?_
    refine g_iadd (pc := 96) C dX7_check_96 ?_
    refine g_eqi (nI ((6 * i) + 6)) (nI_add (6 * i) 6) ?_
    refine g_icmp_ge (pc := 97) C 157 dX7_check_97 (by decide) (fun _ => ?_) (fun h97 => absurd ((nI_leI (a := 6 * i + 6) (b := 6 * i + 6) (by omega) (by omega)).mpr (by omega)) h97)
    exact K
  | succ n ih =>
    intro w hw
    refine g_iload (pc := 88) C dX7_check_88 rfl ?_
    refine g_bipush (pc := 90) C 6 dX7_check_90 (by decide) ?_
    refine g_iload_n (pc := 92) C dX7_check_92 rfl ?_
    refine g_imul (pc := 93) C dX7_check_93 ?_
    refine g_eqi (nI (6 * i)) (pk_mul 6 i) ?_
    refine g_bipush (pc := 94) C 6 dX7_check_94 (by decide) ?_
    refine g_iadd (pc := 96) C dX7_check_96 ?_
    refine g_eqi (nI ((6 * i) + 6)) (nI_add (6 * i) 6) ?_
    refine g_icmp_ge (pc := 97) C 157 dX7_check_97 (by decide) (fun h97 => absurd h97 (fun q => absurd ((nI_leI (a := 6 * i + 6) (b := 6 * i + w) (by omega) (by omega)).mp q) (by omega))) (fun _ => ?_)
    refine g_iload_n (pc := 100) C dX7_check_100 rfl ?_
    refine g_if_eq (pc := 101) C 149 dX7_check_101 (by decide) (fun h101 => ?_) (fun h101 => ?_)
    ·
      refine g_iconst (pc := 149) C 0 dX7_check_149 (by decide) ?_
      refine g_istore_n (pc := 150) C dX7_check_150 (by decide) ?_
      refine g_iincN (pc := 151) C 1 dX7_check_151 rfl (by decide) (by decide) ?_
      refine g_goto (pc := 154) C 88 dX7_check_154 (by decide) ?_
      exact g_subR (ih (w + 1) (by omega)) ⟨rfl, rfl, by show some (vi 0) = some (vi _); simp only [ckM]; rw [if_pos h101], rfl, trivial⟩
    ·
      refine g_aload_n (pc := 104) C dX7_check_104 rfl ?_
      refine g_getr (pc := 105) C fX7_22 rfl hM.1 dX7_check_105 rfl (hM.2 6 rfl).1 ?_
      refine g_iload (pc := 108) C dX7_check_108 rfl ?_
      refine g_ialdN (pc := 110) C rfl (hM.2 6 rfl).2 (by omega) (by decide) dX7_check_110 ?_
      refine g_aload_n (pc := 111) C dX7_check_111 rfl ?_
      refine g_getr (pc := 112) C fX7_13 rfl hM.1 dX7_check_112 rfl (hM.2 3 rfl).1 ?_
      refine g_iload (pc := 115) C dX7_check_115 rfl ?_
      refine g_ialdN (pc := 117) C rfl (hM.2 3 rfl).2 (by omega) (by decide) dX7_check_117 ?_
      refine g_aload_n (pc := 118) C dX7_check_118 rfl ?_
      refine g_getr (pc := 119) C fX7_16 rfl hM.1 dX7_check_119 rfl (hM.2 4 rfl).1 ?_
      refine g_iload (pc := 122) C dX7_check_122 rfl ?_
      refine g_ialdN (pc := 124) C rfl (hM.2 4 rfl).2 (by omega) (by decide) dX7_check_124 ?_
      refine g_iadd (pc := 125) C dX7_check_125 ?_
      refine g_aload_n (pc := 126) C dX7_check_126 rfl ?_
      refine g_getr (pc := 127) C fX7_19 rfl hM.1 dX7_check_127 rfl (hM.2 5 rfl).1 ?_
      refine g_iload (pc := 130) C dX7_check_130 rfl ?_
      refine g_ialdN (pc := 132) C rfl (hM.2 5 rfl).2 (by omega) (by decide) dX7_check_132 ?_
      refine g_iadd (pc := 133) C dX7_check_133 ?_
      refine g_aload_n (pc := 134) C dX7_check_134 rfl ?_
      refine g_getr (pc := 135) C fX7_25 rfl hM.1 dX7_check_135 rfl (hM.2 7 rfl).1 ?_
      refine g_iload (pc := 138) C dX7_check_138 rfl ?_
      refine g_ialdN (pc := 140) C rfl (hM.2 7 rfl).2 (by omega) (by decide) dX7_check_140 ?_
      refine g_iadd (pc := 141) C dX7_check_141 ?_
      refine g_icmp_ne (pc := 142) C 149 dX7_check_142 (by decide) (fun h142 => ?_) (fun h142 => ?_)
      ·
        refine g_iconst (pc := 149) C 0 dX7_check_149 (by decide) ?_
        refine g_istore_n (pc := 150) C dX7_check_150 (by decide) ?_
        refine g_iincN (pc := 151) C 1 dX7_check_151 rfl (by decide) (by decide) ?_
        refine g_goto (pc := 154) C 88 dX7_check_154 (by decide) ?_
        exact g_subR (ih (w + 1) (by omega)) ⟨rfl, rfl, by show some (vi 0) = some (vi _); simp only [ckM]; rw [if_neg h101, if_neg h142], rfl, trivial⟩
      ·
        refine g_iconst (pc := 145) C 1 dX7_check_145 (by decide) ?_
        refine g_goto (pc := 146) C 150 dX7_check_146 (by decide) ?_
        refine g_istore_n (pc := 150) C dX7_check_150 (by decide) ?_
        refine g_iincN (pc := 151) C 1 dX7_check_151 rfl (by decide) (by decide) ?_
        refine g_goto (pc := 154) C 88 dX7_check_154 (by decide) ?_
        exact g_subR (ih (w + 1) (by omega)) ⟨rfl, rfl, by show some (vi 1) = some (vi _); simp only [ckM]; rw [if_neg h101, if_pos h142], rfl, trivial⟩
theorem ckM_z (S : Mm) (i : Nat) (b : Int32) (hb : b = 0 ∨ b = 1) : ∀ w, ckM S i b w = 0 ∨ ckM S i b w = 1
  | 0 => hb
  | w + 1 => by
    simp only [ckM]
    split
    · exact Or.inl rfl
    · split
      · exact Or.inr rfl
      · exact Or.inl rfl
def v_X7_check (S : Mm) (lc : Nat → Nat) (i : Nat) : Int32 := if (gsM S i (lc i)) = (S.1 (2, 0, 26) i) then ckM S i 1 6 else ckM S i 0 6
set_option maxHeartbeats 4000000 in
set_option maxRecDepth 100000 in
/-- check(i) -/
theorem c_X7_check (l : Launch) (E : En) (base aw : Nat) (S : Mm) (mc : Nat) (lc : Nat → Nat) (hI : IM S mc lc) (i : Nat) (hi : i < mc) : Cn l E base aw yX7_check cX7_check 5 (some Jvm.ClassFile.FieldType.boolean) 2 0 0 noF S [vr (2, 0, 0), vi (nI i)] (fun r S' => r = some (vi (v_X7_check S lc i)) ∧ S' = S) := by
  have hM := hI.1
  have hmc := hI.2.2.1
  have hlc := (hI.2.2.2 i (by omega)).2
  refine Cn.of (by decide) (Nat.le_of_ble_eq_true rfl) ?_
  intro X Y hl hE hbase haw hfr C B
  subst hl; subst hE; subst hbase; subst haw
  refine g_aload_n (pc := 0) C dX7_check_0 rfl ?_
  refine g_iload_n (pc := 1) C dX7_check_1 rfl ?_
  refine g_callV (pc := 2) C B mX7_112 (c_isM_t _ _ _ _ _ mc lc hI i hi) rfl rfl rfl rfl hM.1 (by decide) ⟨Nat.le_refl _, Nat.le_refl _⟩ (Nat.le_of_ble_eq_true rfl) dX7_check_2 (fun r S' hP => ?_)
  rw [hP.1, hP.2]
  refine g_if_ne (pc := 5) C 10 dX7_check_5 (by decide) (fun _ => ?_) (fun h5 => absurd h5 (by decide))
  refine g_aload_n (pc := 10) C dX7_check_10 rfl ?_
  refine g_getr (pc := 11) C fX7_80 rfl hM.1 dX7_check_11 rfl (hM.2 25 rfl).1 ?_
  refine g_iload_n (pc := 14) C dX7_check_14 rfl ?_
  refine g_ialdN (pc := 15) C rfl (hM.2 25 rfl).2 (by omega) (by decide) dX7_check_15 ?_
  refine g_aload_n (pc := 16) C dX7_check_16 rfl ?_
  refine g_getr (pc := 17) C fX7_77 rfl hM.1 dX7_check_17 rfl (hM.2 24 rfl).1 ?_
  refine g_iload_n (pc := 20) C dX7_check_20 rfl ?_
  refine g_ialdN (pc := 21) C rfl (hM.2 24 rfl).2 (by omega) (by decide) dX7_check_21 ?_
  refine g_iadd (pc := 22) C dX7_check_22 ?_
  refine g_aload_n (pc := 23) C dX7_check_23 rfl ?_
  refine g_getr (pc := 24) C fX7_74 rfl hM.1 dX7_check_24 rfl (hM.2 23 rfl).1 ?_
  refine g_iload_n (pc := 27) C dX7_check_27 rfl ?_
  refine g_ialdN (pc := 28) C rfl (hM.2 23 rfl).2 (by omega) (by decide) dX7_check_28 ?_
  refine g_iadd (pc := 29) C dX7_check_29 ?_
  refine g_istore_n (pc := 30) C dX7_check_30 (by decide) ?_
  refine g_bipush (pc := 31) C 8 dX7_check_31 (by decide) ?_
  refine g_iload_n (pc := 33) C dX7_check_33 rfl ?_
  refine g_imul (pc := 34) C dX7_check_34 ?_
  refine g_eqi (nI (8 * i)) (pk_mul 8 i) ?_
  refine g_istore_n (pc := 35) C dX7_check_35 (by decide) ?_
  refine g_subR (lp_check1 C B hI (by omega) ?_ (lc i) 0 (by omega)) ⟨rfl, rfl, rfl, rfl, trivial⟩
  refine g_iload_n (pc := 66) C dX7_check_66 rfl ?_
  refine g_aload_n (pc := 67) C dX7_check_67 rfl ?_
  refine g_getr (pc := 68) C fX7_83 rfl hM.1 dX7_check_68 rfl (hM.2 26 rfl).1 ?_
  refine g_iload_n (pc := 71) C dX7_check_71 rfl ?_
  refine g_ialdN (pc := 72) C rfl (hM.2 26 rfl).2 (by omega) (by decide) dX7_check_72 ?_
  refine g_icmp_ne (pc := 73) C 80 dX7_check_73 (by decide) (fun h73 => ?_) (fun h73 => ?_)
  ·
    refine g_iconst (pc := 80) C 0 dX7_check_80 (by decide) ?_
    refine g_istore_n (pc := 81) C dX7_check_81 (by decide) ?_
    refine g_bipush (pc := 82) C 6 dX7_check_82 (by decide) ?_
    refine g_iload_n (pc := 84) C dX7_check_84 rfl ?_
    refine g_imul (pc := 85) C dX7_check_85 ?_
    refine g_eqi (nI (6 * i)) (pk_mul 6 i) ?_
    refine g_istore (pc := 86) C dX7_check_86 (by decide) ?_
    refine g_subR (lp_check2 (b0 := 0) C B hM (by omega) ?_ 6 0 rfl) ⟨rfl, rfl, rfl, rfl, trivial⟩
    refine g_iload_n (pc := 157) C dX7_check_157 rfl ?_
    exact g_iret (pc := 158) C B (by rcases ckM_z S i 0 (by decide) 6 with e | e <;> rw [e] <;> rfl) dX7_check_158 (⟨by show some (vi _) = some (vi (v_X7_check S lc i)); unfold v_X7_check; rw [if_neg h73], rfl⟩)
  ·
    refine g_iconst (pc := 76) C 1 dX7_check_76 (by decide) ?_
    refine g_goto (pc := 77) C 81 dX7_check_77 (by decide) ?_
    refine g_istore_n (pc := 81) C dX7_check_81 (by decide) ?_
    refine g_bipush (pc := 82) C 6 dX7_check_82 (by decide) ?_
    refine g_iload_n (pc := 84) C dX7_check_84 rfl ?_
    refine g_imul (pc := 85) C dX7_check_85 ?_
    refine g_eqi (nI (6 * i)) (pk_mul 6 i) ?_
    refine g_istore (pc := 86) C dX7_check_86 (by decide) ?_
    refine g_subR (lp_check2 (b0 := 1) C B hM (by omega) ?_ 6 0 rfl) ⟨rfl, rfl, rfl, rfl, trivial⟩
    refine g_iload_n (pc := 157) C dX7_check_157 rfl ?_
    exact g_iret (pc := 158) C B (by rcases ckM_z S i 1 (by decide) 6 with e | e <;> rw [e] <;> rfl) dX7_check_158 (⟨by show some (vi _) = some (vi (v_X7_check S lc i)); unfold v_X7_check; rw [if_pos h73], rfl⟩)

set_option maxHeartbeats 4000000 in
set_option maxRecDepth 100000 in
/-- foretell of no machine or good -/
theorem c_X7_foretell_b (l : Launch) (E : En) (base aw : Nat) (S : Mm) (mc : Nat) (lc : Nat → Nat) (hI : IM S mc lc) (p0 p1 p2 : Int32) (h : ¬ (okN mc p0 ∧ okN 16 p1)) : Cn l E base aw yX7_foretell cX7_foretell 6 (some Jvm.ClassFile.FieldType.int) 2 0 0 noF S [vr (2, 0, 0), vi p0, vi p1, vi p2] (fun r S' => r = some (vi (-1)) ∧ S' = rfM S 1) := by
  have hM := hI.1
  have hmc := hI.2.2.1
  by_cases hm0 : okN mc p0
  ·
    obtain ⟨i, hi, rfl⟩ := hm0
    have hx : ¬ okN 16 p1 := fun q => h ⟨⟨i, hi, rfl⟩, q⟩
    refine Cn.of (by decide) (Nat.le_of_ble_eq_true rfl) ?_
    intro X Y hl hE hbase haw hfr C B
    subst hl; subst hE; subst hbase; subst haw
    refine g_aload_n (pc := 0) C dX7_foretell_0 rfl ?_
    refine g_iload_n (pc := 1) C dX7_foretell_1 rfl ?_
    refine g_callV (pc := 2) C B mX7_112 (c_isM_t _ _ _ _ _ mc lc hI i hi) rfl rfl rfl rfl hM.1 (by decide) ⟨Nat.le_refl _, Nat.le_refl _⟩ (Nat.le_of_ble_eq_true rfl) dX7_foretell_2 (fun r S' hP => ?_)
    rw [hP.1, hP.2]
    refine g_if_eq (pc := 5) C 18 dX7_foretell_5 (by decide) (fun h5 => absurd h5 (by decide)) (fun _ => ?_)
    refine g_iload_n (pc := 8) C dX7_foretell_8 rfl ?_
    refine g_iconst (pc := 9) C 0 dX7_foretell_9 (by decide) ?_
    refine g_bipush (pc := 10) C 15 dX7_foretell_10 (by decide) ?_
    refine g_callS (pc := 12) C B mX7_108 (c_in_f _ _ _ _ _ _ _ _ (okW_f (n := 15) (by decide) hx)) rfl rfl (by decide) ⟨Nat.le_refl _, Nat.le_refl _⟩ (Nat.le_of_ble_eq_true rfl) dX7_foretell_12 (fun r S' hP => ?_)
    rw [hP.1, hP.2]
    refine g_if_ne (pc := 15) C 24 dX7_foretell_15 (by decide) (fun h15 => absurd (by decide) h15) (fun _ => ?_)
    refine g_aload_n (pc := 18) C dX7_foretell_18 rfl ?_
    refine g_iconst (pc := 19) C (-1) dX7_foretell_19 (by decide) ?_
    refine g_callV (pc := 20) C B mX7_116 (c_mrefuse _ _ _ _ _ hM (-1) 1 (by decide) (by decide)) rfl rfl rfl rfl hM.1 (by decide) ⟨Nat.le_refl _, Nat.le_refl _⟩ (Nat.le_of_ble_eq_true rfl) dX7_foretell_20 (fun r S' hP => ?_)
    rw [hP.1, hP.2]
    exact g_iret (pc := 23) C B rfl dX7_foretell_23 (⟨rfl, rfl⟩)
  ·
    have hx := hm0
    refine Cn.of (by decide) (Nat.le_of_ble_eq_true rfl) ?_
    intro X Y hl hE hbase haw hfr C B
    subst hl; subst hE; subst hbase; subst haw
    refine g_aload_n (pc := 0) C dX7_foretell_0 rfl ?_
    refine g_iload_n (pc := 1) C dX7_foretell_1 rfl ?_
    refine g_callV (pc := 2) C B mX7_112 (c_isM_f _ _ _ _ _ mc lc hI p0 hx) rfl rfl rfl rfl hM.1 (by decide) ⟨Nat.le_refl _, Nat.le_refl _⟩ (Nat.le_of_ble_eq_true rfl) dX7_foretell_2 (fun r S' hP => ?_)
    rw [hP.1, hP.2]
    refine g_if_eq (pc := 5) C 18 dX7_foretell_5 (by decide) (fun _ => ?_) (fun h5 => absurd (by decide) h5)
    refine g_aload_n (pc := 18) C dX7_foretell_18 rfl ?_
    refine g_iconst (pc := 19) C (-1) dX7_foretell_19 (by decide) ?_
    refine g_callV (pc := 20) C B mX7_116 (c_mrefuse _ _ _ _ _ hM (-1) 1 (by decide) (by decide)) rfl rfl rfl rfl hM.1 (by decide) ⟨Nat.le_refl _, Nat.le_refl _⟩ (Nat.le_of_ble_eq_true rfl) dX7_foretell_20 (fun r S' hP => ?_)
    rw [hP.1, hP.2]
    exact g_iret (pc := 23) C B rfl dX7_foretell_23 (⟨rfl, rfl⟩)

set_option maxHeartbeats 4000000 in
set_option maxRecDepth 100000 in
theorem c_X7_foretell_lo (l : Launch) (E : En) (base aw : Nat) (S : Mm) (mc : Nat) (lc : Nat → Nat) (hI : IM S mc lc) (i : Nat) (hi : i < mc) (g : Nat) (hg : g < 16) (p2 : Int32) (hlo : ¬ 0 ≤ p2) : Cn l E base aw yX7_foretell cX7_foretell 6 (some Jvm.ClassFile.FieldType.int) 2 0 0 noF S [vr (2, 0, 0), vi (nI i), vi (nI g), vi p2] (fun r S' => r = some (vi (-4)) ∧ S' = rfM S 4) := by
  have hM := hI.1
  have hmc := hI.2.2.1
  refine Cn.of (by decide) (Nat.le_of_ble_eq_true rfl) ?_
  intro X Y hl hE hbase haw hfr C B
  subst hl; subst hE; subst hbase; subst haw
  refine g_aload_n (pc := 0) C dX7_foretell_0 rfl ?_
  refine g_iload_n (pc := 1) C dX7_foretell_1 rfl ?_
  refine g_callV (pc := 2) C B mX7_112 (c_isM_t _ _ _ _ _ mc lc hI i hi) rfl rfl rfl rfl hM.1 (by decide) ⟨Nat.le_refl _, Nat.le_refl _⟩ (Nat.le_of_ble_eq_true rfl) dX7_foretell_2 (fun r S' hP => ?_)
  rw [hP.1, hP.2]
  refine g_if_eq (pc := 5) C 18 dX7_foretell_5 (by decide) (fun h5 => absurd h5 (by decide)) (fun _ => ?_)
  refine g_iload_n (pc := 8) C dX7_foretell_8 rfl ?_
  refine g_iconst (pc := 9) C 0 dX7_foretell_9 (by decide) ?_
  refine g_bipush (pc := 10) C 15 dX7_foretell_10 (by decide) ?_
  refine g_callS (pc := 12) C B mX7_108 (c_in_t _ _ _ _ _ _ _ _ (okW_t (n := 15) (by omega) (by decide))) rfl rfl (by decide) ⟨Nat.le_refl _, Nat.le_refl _⟩ (Nat.le_of_ble_eq_true rfl) dX7_foretell_12 (fun r S' hP => ?_)
  rw [hP.1, hP.2]
  refine g_if_ne (pc := 15) C 24 dX7_foretell_15 (by decide) (fun _ => ?_) (fun h15 => absurd h15 (by decide))
  refine g_iload_n (pc := 24) C dX7_foretell_24 rfl ?_
  refine g_if_ge (pc := 25) C 35 dX7_foretell_25 (by decide) (fun h25 => absurd h25 hlo) (fun _ => ?_)
  refine g_aload_n (pc := 28) C dX7_foretell_28 rfl ?_
  refine g_bipush (pc := 29) C (-4) dX7_foretell_29 (by decide) ?_
  refine g_callV (pc := 31) C B mX7_116 (c_mrefuse _ _ _ _ _ hM (-4) 4 (by decide) (by decide)) rfl rfl rfl rfl hM.1 (by decide) ⟨Nat.le_refl _, Nat.le_refl _⟩ (Nat.le_of_ble_eq_true rfl) dX7_foretell_31 (fun r S' hP => ?_)
  rw [hP.1, hP.2]
  exact g_iret (pc := 34) C B rfl dX7_foretell_34 (⟨rfl, rfl⟩)

set_option maxHeartbeats 4000000 in
set_option maxRecDepth 100000 in
theorem c_X7_foretell_hi (l : Launch) (E : En) (base aw : Nat) (S : Mm) (mc : Nat) (lc : Nat → Nat) (hI : IM S mc lc) (i : Nat) (hi : i < mc) (g : Nat) (hg : g < 16) (p2 : Int32) (hlo : 0 ≤ p2) (hhi : ¬ p2 ≤ 240) : Cn l E base aw yX7_foretell cX7_foretell 6 (some Jvm.ClassFile.FieldType.int) 2 0 0 noF S [vr (2, 0, 0), vi (nI i), vi (nI g), vi p2] (fun r S' => r = some (vi (-6)) ∧ S' = rfM S 6) := by
  have hM := hI.1
  have hmc := hI.2.2.1
  refine Cn.of (by decide) (Nat.le_of_ble_eq_true rfl) ?_
  intro X Y hl hE hbase haw hfr C B
  subst hl; subst hE; subst hbase; subst haw
  refine g_aload_n (pc := 0) C dX7_foretell_0 rfl ?_
  refine g_iload_n (pc := 1) C dX7_foretell_1 rfl ?_
  refine g_callV (pc := 2) C B mX7_112 (c_isM_t _ _ _ _ _ mc lc hI i hi) rfl rfl rfl rfl hM.1 (by decide) ⟨Nat.le_refl _, Nat.le_refl _⟩ (Nat.le_of_ble_eq_true rfl) dX7_foretell_2 (fun r S' hP => ?_)
  rw [hP.1, hP.2]
  refine g_if_eq (pc := 5) C 18 dX7_foretell_5 (by decide) (fun h5 => absurd h5 (by decide)) (fun _ => ?_)
  refine g_iload_n (pc := 8) C dX7_foretell_8 rfl ?_
  refine g_iconst (pc := 9) C 0 dX7_foretell_9 (by decide) ?_
  refine g_bipush (pc := 10) C 15 dX7_foretell_10 (by decide) ?_
  refine g_callS (pc := 12) C B mX7_108 (c_in_t _ _ _ _ _ _ _ _ (okW_t (n := 15) (by omega) (by decide))) rfl rfl (by decide) ⟨Nat.le_refl _, Nat.le_refl _⟩ (Nat.le_of_ble_eq_true rfl) dX7_foretell_12 (fun r S' hP => ?_)
  rw [hP.1, hP.2]
  refine g_if_ne (pc := 15) C 24 dX7_foretell_15 (by decide) (fun _ => ?_) (fun h15 => absurd h15 (by decide))
  refine g_iload_n (pc := 24) C dX7_foretell_24 rfl ?_
  refine g_if_ge (pc := 25) C 35 dX7_foretell_25 (by decide) (fun _ => ?_) (fun h25 => absurd hlo h25)
  refine g_iload_n (pc := 35) C dX7_foretell_35 rfl ?_
  refine g_sipush (pc := 36) C 240 dX7_foretell_36 (by decide) ?_
  refine g_icmp_le (pc := 39) C 49 dX7_foretell_39 (by decide) (fun h39 => absurd h39 hhi) (fun _ => ?_)
  refine g_aload_n (pc := 42) C dX7_foretell_42 rfl ?_
  refine g_bipush (pc := 43) C (-6) dX7_foretell_43 (by decide) ?_
  refine g_callV (pc := 45) C B mX7_116 (c_mrefuse _ _ _ _ _ hM (-6) 6 (by decide) (by decide)) rfl rfl rfl rfl hM.1 (by decide) ⟨Nat.le_refl _, Nat.le_refl _⟩ (Nat.le_of_ble_eq_true rfl) dX7_foretell_45 (fun r S' hP => ?_)
  rw [hP.1, hP.2]
  exact g_iret (pc := 48) C B rfl dX7_foretell_48 (⟨rfl, rfl⟩)

set_option maxHeartbeats 4000000 in
set_option maxRecDepth 100000 in
theorem lp_foretell {X : Xt} {Y : Yt} {P : Option AV → Mm → Prop} {nm : String}  (C : Cx X Y cX7_foretell 6 RX7) (B : Bx X Y nm (some Jvm.ClassFile.FieldType.int) 2 0 0 P) {S : Mm} {i g h t mc : Nat} {lc : Nat → Nat} (hI : IM S mc lc) (hi : i < mc) (hg : g < 16) (hh : S.1 (2, 0, 0) 0 = nI h) (hh0 : h ≤ 3000) (ht : t ≤ 240) (K : G X Y 0 0 S 85 [(0, vr (2, 0, 0)), (1, vi (nI i)), (2, vi (nI g)), (3, vi (nI t)), (4, vi (fsM S i g h t)), (5, vi (nI t))] []) : ∀ n w, w + n = t → G X Y 0 0 S 55 [(0, vr (2, 0, 0)), (1, vi (nI i)), (2, vi (nI g)), (3, vi (nI t)), (4, vi (fsM S i g h w)), (5, vi (nI w))] [] := by
  intro n
  induction n with
  | zero =>
    intro w hw
    have e : t = w := by omega
    subst e
    have hM := hI.1
    refine g_iload (pc := 55) C dX7_foretell_55 rfl ?_
    refine g_iload_n (pc := 57) C dX7_foretell_57 rfl ?_
    refine g_icmp_ge (pc := 58) C 85 dX7_foretell_58 (by decide) (fun _ => ?_) (fun h58 => absurd ((nI_leI (a := t) (b := t) (by omega) (by omega)).mpr (by omega)) h58)
    exact K
  | succ n ih =>
    intro w hw
    have hM := hI.1
    refine g_iload (pc := 55) C dX7_foretell_55 rfl ?_
    refine g_iload_n (pc := 57) C dX7_foretell_57 rfl ?_
    refine g_icmp_ge (pc := 58) C 85 dX7_foretell_58 (by decide) (fun h58 => absurd h58 (fun q => absurd ((nI_leI (a := t) (b := w) (by omega) (by omega)).mp q) (by omega))) (fun _ => ?_)
    refine g_iload (pc := 61) C dX7_foretell_61 rfl ?_
    refine g_aload_n (pc := 63) C dX7_foretell_63 rfl ?_
    refine g_iload_n (pc := 64) C dX7_foretell_64 rfl ?_
    refine g_iload_n (pc := 65) C dX7_foretell_65 rfl ?_
    refine g_aload_n (pc := 66) C dX7_foretell_66 rfl ?_
    refine g_geti (pc := 67) C fX7_153 rfl hM.1 dX7_foretell_67 rfl ?_
    refine g_eqi (nI h) hh ?_
    refine g_iload (pc := 70) C dX7_foretell_70 rfl ?_
    refine g_iadd (pc := 72) C dX7_foretell_72 ?_
    refine g_eqi (nI (h + w)) (nI_add h w) ?_
    refine g_callV (pc := 73) C B mX7_159 (c_X7_rate _ _ _ _ _ mc lc hI i hi g hg (h + w) (by omega)) rfl rfl rfl rfl hM.1 (by decide) ⟨Nat.le_refl _, Nat.le_refl _⟩ (Nat.le_of_ble_eq_true rfl) dX7_foretell_73 (fun r S' hP => ?_)
    rw [hP.1, hP.2]
    refine g_iadd (pc := 76) C dX7_foretell_76 ?_
    refine g_istore (pc := 77) C dX7_foretell_77 (by decide) ?_
    refine g_iincN (pc := 79) C 1 dX7_foretell_79 rfl (by decide) (by decide) ?_
    refine g_goto (pc := 82) C 55 dX7_foretell_82 (by decide) ?_
    exact g_subR (ih (w + 1) (by omega)) ⟨rfl, rfl, rfl, rfl, rfl, rfl, trivial⟩
set_option maxHeartbeats 4000000 in
set_option maxRecDepth 100000 in
theorem c_X7_foretell (l : Launch) (E : En) (base aw : Nat) (S : Mm) (mc : Nat) (lc : Nat → Nat) (hI : IM S mc lc) (i : Nat) (hi : i < mc) (g : Nat) (hg : g < 16) (h : Nat) (hh : S.1 (2, 0, 0) 0 = nI h) (hh0 : h ≤ 3000) (t : Nat) (ht : t ≤ 240) : Cn l E base aw yX7_foretell cX7_foretell 6 (some Jvm.ClassFile.FieldType.int) 2 0 0 noF S [vr (2, 0, 0), vi (nI i), vi (nI g), vi (nI t)] (fun r S' => r = some (vi (fsM S i g h t)) ∧ S' = S) := by
  have hM := hI.1
  have hmc := hI.2.2.1
  refine Cn.of (by decide) (Nat.le_of_ble_eq_true rfl) ?_
  intro X Y hl hE hbase haw hfr C B
  subst hl; subst hE; subst hbase; subst haw
  refine g_aload_n (pc := 0) C dX7_foretell_0 rfl ?_
  refine g_iload_n (pc := 1) C dX7_foretell_1 rfl ?_
  refine g_callV (pc := 2) C B mX7_112 (c_isM_t _ _ _ _ _ mc lc hI i hi) rfl rfl rfl rfl hM.1 (by decide) ⟨Nat.le_refl _, Nat.le_refl _⟩ (Nat.le_of_ble_eq_true rfl) dX7_foretell_2 (fun r S' hP => ?_)
  rw [hP.1, hP.2]
  refine g_if_eq (pc := 5) C 18 dX7_foretell_5 (by decide) (fun h5 => absurd h5 (by decide)) (fun _ => ?_)
  refine g_iload_n (pc := 8) C dX7_foretell_8 rfl ?_
  refine g_iconst (pc := 9) C 0 dX7_foretell_9 (by decide) ?_
  refine g_bipush (pc := 10) C 15 dX7_foretell_10 (by decide) ?_
  refine g_callS (pc := 12) C B mX7_108 (c_in_t _ _ _ _ _ _ _ _ (okW_t (n := 15) (by omega) (by decide))) rfl rfl (by decide) ⟨Nat.le_refl _, Nat.le_refl _⟩ (Nat.le_of_ble_eq_true rfl) dX7_foretell_12 (fun r S' hP => ?_)
  rw [hP.1, hP.2]
  refine g_if_ne (pc := 15) C 24 dX7_foretell_15 (by decide) (fun _ => ?_) (fun h15 => absurd h15 (by decide))
  refine g_iload_n (pc := 24) C dX7_foretell_24 rfl ?_
  refine g_if_ge (pc := 25) C 35 dX7_foretell_25 (by decide) (fun _ => ?_) (fun h25 => absurd (nI_pos' (by omega)) h25)
  refine g_iload_n (pc := 35) C dX7_foretell_35 rfl ?_
  refine g_sipush (pc := 36) C 240 dX7_foretell_36 (by decide) ?_
  refine g_icmp_le (pc := 39) C 49 dX7_foretell_39 (by decide) (fun _ => ?_) (fun h39 => absurd (nI_le (b := 240) ht (by decide)) h39)
  refine g_iconst (pc := 49) C 0 dX7_foretell_49 (by decide) ?_
  refine g_istore (pc := 50) C dX7_foretell_50 (by decide) ?_
  refine g_iconst (pc := 52) C 0 dX7_foretell_52 (by decide) ?_
  refine g_istore (pc := 53) C dX7_foretell_53 (by decide) ?_
  refine g_subR (lp_foretell C B hI hi hg hh hh0 ht ?_ t 0 (by omega)) ⟨rfl, rfl, rfl, rfl, rfl, rfl, trivial⟩
  refine g_iload (pc := 85) C dX7_foretell_85 rfl ?_
  exact g_iret (pc := 87) C B rfl dX7_foretell_87 (⟨rfl, rfl⟩)

