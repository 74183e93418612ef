set_option maxHeartbeats 4000000 in
set_option maxRecDepth 100000 in
theorem c_X7_count0 (l : Launch) (E : En) (base aw : Nat) (S : Mm) (hM : ShM S) : Cn l E base aw yX7_count cX7_count 4 (some Jvm.ClassFile.FieldType.int) 1 0 0 noF S [vr (2, 0, 0), vi (nI 0)] (fun r S' => r = some (vi (S.1 (2, 0, 0) 0)) ∧ S' = S) := by
  refine Cn.of (by decide) (Nat.le_of_ble_eq_true rfl) ?_
  intro X Y hl hE hbase haw hfr C B
  subst hl; subst hE; subst hbase; subst haw
  refine g_iconst (pc := 0) C 0 dX7_count_0 (by decide) ?_
  refine g_istore_n (pc := 1) C dX7_count_1 (by decide) ?_
  refine g_iload_n (pc := 2) C dX7_count_2 rfl ?_
  refine g_tabIn (pc := 3) (off := 29) C 32 dX7_count_3 (by decide) (by decide) (by decide) (by decide) ?_
  refine g_aload_n (pc := 32) C dX7_count_32 rfl ?_
  refine g_geti (pc := 33) C fX7_153 rfl hM.1 dX7_count_33 rfl ?_
  exact g_iret (pc := 36) C B rfl dX7_count_36 (⟨rfl, rfl⟩)

set_option maxHeartbeats 4000000 in
set_option maxRecDepth 100000 in
theorem c_X7_count1 (l : Launch) (E : En) (base aw : Nat) (S : Mm) (hM : ShM S) : Cn l E base aw yX7_count cX7_count 4 (some Jvm.ClassFile.FieldType.int) 1 0 0 noF S [vr (2, 0, 0), vi (nI 1)] (fun r S' => r = some (vi (S.1 (2, 0, 0) 1)) ∧ S' = S) := by
  refine Cn.of (by decide) (Nat.le_of_ble_eq_true rfl) ?_
  intro X Y hl hE hbase haw hfr C B
  subst hl; subst hE; subst hbase; subst haw
  refine g_iconst (pc := 0) C 0 dX7_count_0 (by decide) ?_
  refine g_istore_n (pc := 1) C dX7_count_1 (by decide) ?_
  refine g_iload_n (pc := 2) C dX7_count_2 rfl ?_
  refine g_tabIn (pc := 3) (off := 34) C 37 dX7_count_3 (by decide) (by decide) (by decide) (by decide) ?_
  refine g_aload_n (pc := 37) C dX7_count_37 rfl ?_
  refine g_geti (pc := 38) C fX7_104 rfl hM.1 dX7_count_38 rfl ?_
  exact g_iret (pc := 41) C B rfl dX7_count_41 (⟨rfl, rfl⟩)

set_option maxHeartbeats 4000000 in
set_option maxRecDepth 100000 in
theorem c_X7_count3 (l : Launch) (E : En) (base aw : Nat) (S : Mm) (hM : ShM S) : Cn l E base aw yX7_count cX7_count 4 (some Jvm.ClassFile.FieldType.int) 1 0 0 noF S [vr (2, 0, 0), vi (nI 3)] (fun r S' => r = some (vi (S.1 (2, 0, 0) 27)) ∧ S' = S) := by
  refine Cn.of (by decide) (Nat.le_of_ble_eq_true rfl) ?_
  intro X Y hl hE hbase haw hfr C B
  subst hl; subst hE; subst hbase; subst haw
  refine g_iconst (pc := 0) C 0 dX7_count_0 (by decide) ?_
  refine g_istore_n (pc := 1) C dX7_count_1 (by decide) ?_
  refine g_iload_n (pc := 2) C dX7_count_2 rfl ?_
  refine g_tabIn (pc := 3) (off := 66) C 69 dX7_count_3 (by decide) (by decide) (by decide) (by decide) ?_
  refine g_aload_n (pc := 69) C dX7_count_69 rfl ?_
  refine g_geti (pc := 70) C fX7_150 rfl hM.1 dX7_count_70 rfl ?_
  exact g_iret (pc := 73) C B rfl dX7_count_73 (⟨rfl, rfl⟩)

set_option maxHeartbeats 4000000 in
set_option maxRecDepth 100000 in
theorem lp_count {X : Xt} {Y : Yt} {P : Option AV → Mm → Prop} {nm : String}  (C : Cx X Y cX7_count 4 RX7) (B : Bx X Y nm (some Jvm.ClassFile.FieldType.int) 1 0 0 P) {S : Mm} {mc : Nat} {lc : Nat → Nat} (hI : IM S mc lc) (K : G X Y 0 0 S 67 [(0, vr (2, 0, 0)), (2, vi (csum (fun z => S.1 (2, 0, 25) z) mc)), (3, vi (nI mc))] []) : ∀ n w, w + n = mc → G X Y 0 0 S 44 [(0, vr (2, 0, 0)), (2, vi (csum (fun z => S.1 (2, 0, 25) z) w)), (3, vi (nI w))] [] := by
  intro n
  induction n with
  | zero =>
    intro w hw
    have e : mc = w := by omega
    subst e
    have hM := hI.1
    have hmc := hI.2.2.1
    refine g_iload_n (pc := 44) C dX7_count_44 rfl ?_
    refine g_aload_n (pc := 45) C dX7_count_45 rfl ?_
    refine g_geti (pc := 46) C fX7_104 rfl hM.1 dX7_count_46 rfl ?_
    refine g_eqi (nI mc) hI.2.1 ?_
    refine g_icmp_ge (pc := 49) C 67 dX7_count_49 (by decide) (fun _ => ?_) (fun h49 => absurd ((nI_leI (a := mc) (b := mc) (by omega) (by omega)).mpr (by omega)) h49)
    exact K
  | succ n ih =>
    intro w hw
    have hM := hI.1
    have hmc := hI.2.2.1
    refine g_iload_n (pc := 44) C dX7_count_44 rfl ?_
    refine g_aload_n (pc := 45) C dX7_count_45 rfl ?_
    refine g_geti (pc := 46) C fX7_104 rfl hM.1 dX7_count_46 rfl ?_
    refine g_eqi (nI mc) hI.2.1 ?_
    refine g_icmp_ge (pc := 49) C 67 dX7_count_49 (by decide) (fun h49 => absurd h49 (fun q => absurd ((nI_leI (a := mc) (b := w) (by omega) (by omega)).mp q) (by omega))) (fun _ => ?_)
    refine g_iload_n (pc := 52) C dX7_count_52 rfl ?_
    refine g_aload_n (pc := 53) C dX7_count_53 rfl ?_
    refine g_getr (pc := 54) C fX7_80 rfl hM.1 dX7_count_54 rfl (hM.2 25 rfl).1 ?_
    refine g_iload_n (pc := 57) C dX7_count_57 rfl ?_
    refine g_ialdN (pc := 58) C rfl (hM.2 25 rfl).2 (by omega) (by decide) dX7_count_58 ?_
    refine g_iadd (pc := 59) C dX7_count_59 ?_
    refine g_istore_n (pc := 60) C dX7_count_60 (by decide) ?_
    refine g_iincN (pc := 61) C 1 dX7_count_61 rfl (by decide) (by decide) ?_
    refine g_goto (pc := 64) C 44 dX7_count_64 (by decide) ?_
    exact g_subR (ih (w + 1) (by omega)) ⟨rfl, rfl, rfl, trivial⟩
set_option maxHeartbeats 4000000 in
set_option maxRecDepth 100000 in
theorem c_X7_count2 (l : Launch) (E : En) (base aw : Nat) (S : Mm) (mc : Nat) (lc : Nat → Nat) (hI : IM S mc lc) : Cn l E base aw yX7_count cX7_count 4 (some Jvm.ClassFile.FieldType.int) 1 0 0 noF S [vr (2, 0, 0), vi (nI 2)] (fun r S' => r = some (vi (csum (fun z => S.1 (2, 0, 25) z) mc)) ∧ S' = S) := by
  have hM := hI.1
  have hmc := hI.2.2.1
  refine Cn.of (by decide) (Nat.le_of_ble_eq_true rfl) ?_
  intro X Y hl hE hbase haw hfr C B
  subst hl; subst hE; subst hbase; subst haw
  refine g_iconst (pc := 0) C 0 dX7_count_0 (by decide) ?_
  refine g_istore_n (pc := 1) C dX7_count_1 (by decide) ?_
  refine g_iload_n (pc := 2) C dX7_count_2 rfl ?_
  refine g_tabIn (pc := 3) (off := 39) C 42 dX7_count_3 (by decide) (by decide) (by decide) (by decide) ?_
  refine g_iconst (pc := 42) C 0 dX7_count_42 (by decide) ?_
  refine g_istore_n (pc := 43) C dX7_count_43 (by decide) ?_
  refine g_subR (lp_count C B hI ?_ mc 0 (by omega)) ⟨rfl, rfl, rfl, trivial⟩
  refine g_iload_n (pc := 67) C dX7_count_67 rfl ?_
  exact g_iret (pc := 68) C B rfl dX7_count_68 (⟨rfl, rfl⟩)

set_option maxHeartbeats 4000000 in
set_option maxRecDepth 100000 in
theorem c_X7_count11 (l : Launch) (E : En) (base aw : Nat) (S : Mm) (hM : ShM S) : Cn l E base aw yX7_count cX7_count 4 (some Jvm.ClassFile.FieldType.int) 1 0 0 noF S [vr (2, 0, 0), vi (nI 11)] (fun r S' => r = some (vi (S.1 (2, 0, 30) 1)) ∧ S' = S) := by
  refine Cn.of (by decide) (Nat.le_of_ble_eq_true rfl) ?_
  intro X Y hl hE hbase haw hfr C B
  subst hl; subst hE; subst hbase; subst haw
  refine g_iconst (pc := 0) C 0 dX7_count_0 (by decide) ?_
  refine g_istore_n (pc := 1) C dX7_count_1 (by decide) ?_
  refine g_iload_n (pc := 2) C dX7_count_2 rfl ?_
  refine g_tabOut (pc := 3) C 74 dX7_count_3 (by decide) (by decide) ?_
  refine g_iload_n (pc := 74) C dX7_count_74 rfl ?_
  refine g_bipush (pc := 75) C 11 dX7_count_75 (by decide) ?_
  refine g_bipush (pc := 77) C 16 dX7_count_77 (by decide) ?_
  refine g_callS (pc := 79) C B mX7_108 (c_in_t _ _ _ _ _ _ _ _ (by decide)) rfl rfl (by decide) ⟨Nat.le_refl _, Nat.le_refl _⟩ (Nat.le_of_ble_eq_true rfl) dX7_count_79 (fun r S' hP => ?_)
  rw [hP.1, hP.2]
  refine g_if_eq (pc := 82) C 97 dX7_count_82 (by decide) (fun h82 => absurd h82 (by decide)) (fun _ => ?_)
  refine g_aload_n (pc := 85) C dX7_count_85 rfl ?_
  refine g_getr (pc := 86) C fX7_92 rfl hM.1 dX7_count_86 rfl (hM.2 30 rfl).1 ?_
  refine g_iload_n (pc := 89) C dX7_count_89 rfl ?_
  refine g_bipush (pc := 90) C 10 dX7_count_90 (by decide) ?_
  refine g_isub (pc := 92) C dX7_count_92 ?_
  refine g_eqi (nI 1) (by decide) ?_
  refine g_ialdN (pc := 93) C rfl (hM.2 30 rfl).2 (by decide) (by decide) dX7_count_93 ?_
  refine g_goto (pc := 94) C 99 dX7_count_94 (by decide) ?_
  exact g_iret (pc := 99) C B rfl dX7_count_99 (⟨rfl, rfl⟩)

set_option maxHeartbeats 4000000 in
set_option maxRecDepth 100000 in
theorem c_X7_count12 (l : Launch) (E : En) (base aw : Nat) (S : Mm) (hM : ShM S) : Cn l E base aw yX7_count cX7_count 4 (some Jvm.ClassFile.FieldType.int) 1 0 0 noF S [vr (2, 0, 0), vi (nI 12)] (fun r S' => r = some (vi (S.1 (2, 0, 30) 2)) ∧ S' = S) := by
  refine Cn.of (by decide) (Nat.le_of_ble_eq_true rfl) ?_
  intro X Y hl hE hbase haw hfr C B
  subst hl; subst hE; subst hbase; subst haw
  refine g_iconst (pc := 0) C 0 dX7_count_0 (by decide) ?_
  refine g_istore_n (pc := 1) C dX7_count_1 (by decide) ?_
  refine g_iload_n (pc := 2) C dX7_count_2 rfl ?_
  refine g_tabOut (pc := 3) C 74 dX7_count_3 (by decide) (by decide) ?_
  refine g_iload_n (pc := 74) C dX7_count_74 rfl ?_
  refine g_bipush (pc := 75) C 11 dX7_count_75 (by decide) ?_
  refine g_bipush (pc := 77) C 16 dX7_count_77 (by decide) ?_
  refine g_callS (pc := 79) C B mX7_108 (c_in_t _ _ _ _ _ _ _ _ (by decide)) rfl rfl (by decide) ⟨Nat.le_refl _, Nat.le_refl _⟩ (Nat.le_of_ble_eq_true rfl) dX7_count_79 (fun r S' hP => ?_)
  rw [hP.1, hP.2]
  refine g_if_eq (pc := 82) C 97 dX7_count_82 (by decide) (fun h82 => absurd h82 (by decide)) (fun _ => ?_)
  refine g_aload_n (pc := 85) C dX7_count_85 rfl ?_
  refine g_getr (pc := 86) C fX7_92 rfl hM.1 dX7_count_86 rfl (hM.2 30 rfl).1 ?_
  refine g_iload_n (pc := 89) C dX7_count_89 rfl ?_
  refine g_bipush (pc := 90) C 10 dX7_count_90 (by decide) ?_
  refine g_isub (pc := 92) C dX7_count_92 ?_
  refine g_eqi (nI 2) (by decide) ?_
  refine g_ialdN (pc := 93) C rfl (hM.2 30 rfl).2 (by decide) (by decide) dX7_count_93 ?_
  refine g_goto (pc := 94) C 99 dX7_count_94 (by decide) ?_
  exact g_iret (pc := 99) C B rfl dX7_count_99 (⟨rfl, rfl⟩)

set_option maxHeartbeats 4000000 in
set_option maxRecDepth 100000 in
theorem c_X7_count13 (l : Launch) (E : En) (base aw : Nat) (S : Mm) (hM : ShM S) : Cn l E base aw yX7_count cX7_count 4 (some Jvm.ClassFile.FieldType.int) 1 0 0 noF S [vr (2, 0, 0), vi (nI 13)] (fun r S' => r = some (vi (S.1 (2, 0, 30) 3)) ∧ S' = S) := by
  refine Cn.of (by decide) (Nat.le_of_ble_eq_true rfl) ?_
  intro X Y hl hE hbase haw hfr C B
  subst hl; subst hE; subst hbase; subst haw
  refine g_iconst (pc := 0) C 0 dX7_count_0 (by decide) ?_
  refine g_istore_n (pc := 1) C dX7_count_1 (by decide) ?_
  refine g_iload_n (pc := 2) C dX7_count_2 rfl ?_
  refine g_tabOut (pc := 3) C 74 dX7_count_3 (by decide) (by decide) ?_
  refine g_iload_n (pc := 74) C dX7_count_74 rfl ?_
  refine g_bipush (pc := 75) C 11 dX7_count_75 (by decide) ?_
  refine g_bipush (pc := 77) C 16 dX7_count_77 (by decide) ?_
  refine g_callS (pc := 79) C B mX7_108 (c_in_t _ _ _ _ _ _ _ _ (by decide)) rfl rfl (by decide) ⟨Nat.le_refl _, Nat.le_refl _⟩ (Nat.le_of_ble_eq_true rfl) dX7_count_79 (fun r S' hP => ?_)
  rw [hP.1, hP.2]
  refine g_if_eq (pc := 82) C 97 dX7_count_82 (by decide) (fun h82 => absurd h82 (by decide)) (fun _ => ?_)
  refine g_aload_n (pc := 85) C dX7_count_85 rfl ?_
  refine g_getr (pc := 86) C fX7_92 rfl hM.1 dX7_count_86 rfl (hM.2 30 rfl).1 ?_
  refine g_iload_n (pc := 89) C dX7_count_89 rfl ?_
  refine g_bipush (pc := 90) C 10 dX7_count_90 (by decide) ?_
  refine g_isub (pc := 92) C dX7_count_92 ?_
  refine g_eqi (nI 3) (by decide) ?_
  refine g_ialdN (pc := 93) C rfl (hM.2 30 rfl).2 (by decide) (by decide) dX7_count_93 ?_
  refine g_goto (pc := 94) C 99 dX7_count_94 (by decide) ?_
  exact g_iret (pc := 99) C B rfl dX7_count_99 (⟨rfl, rfl⟩)

set_option maxHeartbeats 4000000 in
set_option maxRecDepth 100000 in
theorem c_X7_count14 (l : Launch) (E : En) (base aw : Nat) (S : Mm) (hM : ShM S) : Cn l E base aw yX7_count cX7_count 4 (some Jvm.ClassFile.FieldType.int) 1 0 0 noF S [vr (2, 0, 0), vi (nI 14)] (fun r S' => r = some (vi (S.1 (2, 0, 30) 4)) ∧ S' = S) := by
  refine Cn.of (by decide) (Nat.le_of_ble_eq_true rfl) ?_
  intro X Y hl hE hbase haw hfr C B
  subst hl; subst hE; subst hbase; subst haw
  refine g_iconst (pc := 0) C 0 dX7_count_0 (by decide) ?_
  refine g_istore_n (pc := 1) C dX7_count_1 (by decide) ?_
  refine g_iload_n (pc := 2) C dX7_count_2 rfl ?_
  refine g_tabOut (pc := 3) C 74 dX7_count_3 (by decide) (by decide) ?_
  refine g_iload_n (pc := 74) C dX7_count_74 rfl ?_
  refine g_bipush (pc := 75) C 11 dX7_count_75 (by decide) ?_
  refine g_bipush (pc := 77) C 16 dX7_count_77 (by decide) ?_
  refine g_callS (pc := 79) C B mX7_108 (c_in_t _ _ _ _ _ _ _ _ (by decide)) rfl rfl (by decide) ⟨Nat.le_refl _, Nat.le_refl _⟩ (Nat.le_of_ble_eq_true rfl) dX7_count_79 (fun r S' hP => ?_)
  rw [hP.1, hP.2]
  refine g_if_eq (pc := 82) C 97 dX7_count_82 (by decide) (fun h82 => absurd h82 (by decide)) (fun _ => ?_)
  refine g_aload_n (pc := 85) C dX7_count_85 rfl ?_
  refine g_getr (pc := 86) C fX7_92 rfl hM.1 dX7_count_86 rfl (hM.2 30 rfl).1 ?_
  refine g_iload_n (pc := 89) C dX7_count_89 rfl ?_
  refine g_bipush (pc := 90) C 10 dX7_count_90 (by decide) ?_
  refine g_isub (pc := 92) C dX7_count_92 ?_
  refine g_eqi (nI 4) (by decide) ?_
  refine g_ialdN (pc := 93) C rfl (hM.2 30 rfl).2 (by decide) (by decide) dX7_count_93 ?_
  refine g_goto (pc := 94) C 99 dX7_count_94 (by decide) ?_
  exact g_iret (pc := 99) C B rfl dX7_count_99 (⟨rfl, rfl⟩)

set_option maxHeartbeats 4000000 in
set_option maxRecDepth 100000 in
theorem c_X7_count15 (l : Launch) (E : En) (base aw : Nat) (S : Mm) (hM : ShM S) : Cn l E base aw yX7_count cX7_count 4 (some Jvm.ClassFile.FieldType.int) 1 0 0 noF S [vr (2, 0, 0), vi (nI 15)] (fun r S' => r = some (vi (S.1 (2, 0, 30) 5)) ∧ S' = S) := by
  refine Cn.of (by decide) (Nat.le_of_ble_eq_true rfl) ?_
  intro X Y hl hE hbase haw hfr C B
  subst hl; subst hE; subst hbase; subst haw
  refine g_iconst (pc := 0) C 0 dX7_count_0 (by decide) ?_
  refine g_istore_n (pc := 1) C dX7_count_1 (by decide) ?_
  refine g_iload_n (pc := 2) C dX7_count_2 rfl ?_
  refine g_tabOut (pc := 3) C 74 dX7_count_3 (by decide) (by decide) ?_
  refine g_iload_n (pc := 74) C dX7_count_74 rfl ?_
  refine g_bipush (pc := 75) C 11 dX7_count_75 (by decide) ?_
  refine g_bipush (pc := 77) C 16 dX7_count_77 (by decide) ?_
  refine g_callS (pc := 79) C B mX7_108 (c_in_t _ _ _ _ _ _ _ _ (by decide)) rfl rfl (by decide) ⟨Nat.le_refl _, Nat.le_refl _⟩ (Nat.le_of_ble_eq_true rfl) dX7_count_79 (fun r S' hP => ?_)
  rw [hP.1, hP.2]
  refine g_if_eq (pc := 82) C 97 dX7_count_82 (by decide) (fun h82 => absurd h82 (by decide)) (fun _ => ?_)
  refine g_aload_n (pc := 85) C dX7_count_85 rfl ?_
  refine g_getr (pc := 86) C fX7_92 rfl hM.1 dX7_count_86 rfl (hM.2 30 rfl).1 ?_
  refine g_iload_n (pc := 89) C dX7_count_89 rfl ?_
  refine g_bipush (pc := 90) C 10 dX7_count_90 (by decide) ?_
  refine g_isub (pc := 92) C dX7_count_92 ?_
  refine g_eqi (nI 5) (by decide) ?_
  refine g_ialdN (pc := 93) C rfl (hM.2 30 rfl).2 (by decide) (by decide) dX7_count_93 ?_
  refine g_goto (pc := 94) C 99 dX7_count_94 (by decide) ?_
  exact g_iret (pc := 99) C B rfl dX7_count_99 (⟨rfl, rfl⟩)

set_option maxHeartbeats 4000000 in
set_option maxRecDepth 100000 in
theorem c_X7_count16 (l : Launch) (E : En) (base aw : Nat) (S : Mm) (hM : ShM S) : Cn l E base aw yX7_count cX7_count 4 (some Jvm.ClassFile.FieldType.int) 1 0 0 noF S [vr (2, 0, 0), vi (nI 16)] (fun r S' => r = some (vi (S.1 (2, 0, 30) 6)) ∧ S' = S) := by
  refine Cn.of (by decide) (Nat.le_of_ble_eq_true rfl) ?_
  intro X Y hl hE hbase haw hfr C B
  subst hl; subst hE; subst hbase; subst haw
  refine g_iconst (pc := 0) C 0 dX7_count_0 (by decide) ?_
  refine g_istore_n (pc := 1) C dX7_count_1 (by decide) ?_
  refine g_iload_n (pc := 2) C dX7_count_2 rfl ?_
  refine g_tabOut (pc := 3) C 74 dX7_count_3 (by decide) (by decide) ?_
  refine g_iload_n (pc := 74) C dX7_count_74 rfl ?_
  refine g_bipush (pc := 75) C 11 dX7_count_75 (by decide) ?_
  refine g_bipush (pc := 77) C 16 dX7_count_77 (by decide) ?_
  refine g_callS (pc := 79) C B mX7_108 (c_in_t _ _ _ _ _ _ _ _ (by decide)) rfl rfl (by decide) ⟨Nat.le_refl _, Nat.le_refl _⟩ (Nat.le_of_ble_eq_true rfl) dX7_count_79 (fun r S' hP => ?_)
  rw [hP.1, hP.2]
  refine g_if_eq (pc := 82) C 97 dX7_count_82 (by decide) (fun h82 => absurd h82 (by decide)) (fun _ => ?_)
  refine g_aload_n (pc := 85) C dX7_count_85 rfl ?_
  refine g_getr (pc := 86) C fX7_92 rfl hM.1 dX7_count_86 rfl (hM.2 30 rfl).1 ?_
  refine g_iload_n (pc := 89) C dX7_count_89 rfl ?_
  refine g_bipush (pc := 90) C 10 dX7_count_90 (by decide) ?_
  refine g_isub (pc := 92) C dX7_count_92 ?_
  refine g_eqi (nI 6) (by decide) ?_
  refine g_ialdN (pc := 93) C rfl (hM.2 30 rfl).2 (by decide) (by decide) dX7_count_93 ?_
  refine g_goto (pc := 94) C 99 dX7_count_94 (by decide) ?_
  exact g_iret (pc := 99) C B rfl dX7_count_99 (⟨rfl, rfl⟩)

set_option maxHeartbeats 4000000 in
set_option maxRecDepth 100000 in
theorem c_X7_count_w (l : Launch) (E : En) (base aw : Nat) (S : Mm) (hM : ShM S) (p0 : Int32) (hx : ¬ okN 4 p0) (hy : ¬ (11 ≤ p0 ∧ p0 ≤ 16)) : Cn l E base aw yX7_count cX7_count 4 (some Jvm.ClassFile.FieldType.int) 1 0 0 noF S [vr (2, 0, 0), vi p0] (fun r S' => r = some (vi (-9)) ∧ S' = S) := by
  refine Cn.of (by decide) (Nat.le_of_ble_eq_true rfl) ?_
  intro X Y hl hE hbase haw hfr C B
  subst hl; subst hE; subst hbase; subst haw
  refine g_iconst (pc := 0) C 0 dX7_count_0 (by decide) ?_
  refine g_istore_n (pc := 1) C dX7_count_1 (by decide) ?_
  refine g_iload_n (pc := 2) C dX7_count_2 rfl ?_
  refine g_tabOut (pc := 3) C 74 dX7_count_3 (tab_out (n := 3) (by decide) hx) (by decide) ?_
  refine g_iload_n (pc := 74) C dX7_count_74 rfl ?_
  refine g_bipush (pc := 75) C 11 dX7_count_75 (by decide) ?_
  refine g_bipush (pc := 77) C 16 dX7_count_77 (by decide) ?_
  refine g_callS (pc := 79) C B mX7_108 (c_in_f _ _ _ _ _ _ _ _ hy) rfl rfl (by decide) ⟨Nat.le_refl _, Nat.le_refl _⟩ (Nat.le_of_ble_eq_true rfl) dX7_count_79 (fun r S' hP => ?_)
  rw [hP.1, hP.2]
  refine g_if_eq (pc := 82) C 97 dX7_count_82 (by decide) (fun _ => ?_) (fun h82 => absurd (by decide) h82)
  refine g_bipush (pc := 97) C (-9) dX7_count_97 (by decide) ?_
  exact g_iret (pc := 99) C B rfl dX7_count_99 (⟨rfl, rfl⟩)

set_option maxHeartbeats 4000000 in
set_option maxRecDepth 100000 in
theorem c_X7_machineOf_b (l : Launch) (E : En) (base aw : Nat) (S : Mm) (mc : Nat) (lc : Nat → Nat) (hI : IM S mc lc) (p0 p1 : Int32) (hx : ¬ okN mc p0) : Cn l E base aw yX7_machineOf cX7_machineOf 3 (some Jvm.ClassFile.FieldType.int) 2 0 0 noF S [vr (2, 0, 0), vi p0, vi p1] (fun r S' => r = some (vi (1000000000 - (-1))) ∧ S' = rfM S 1) := by
  have hM := hI.1
  have hmc := hI.2.2.1
  refine Cn.of (by decide) (Nat.le_of_ble_eq_true rfl) ?_
  intro X Y hl hE hbase haw hfr C B
  subst hl; subst hE; subst hbase; subst haw
  refine g_aload_n (pc := 0) C dX7_machineOf_0 rfl ?_
  refine g_iload_n (pc := 1) C dX7_machineOf_1 rfl ?_
  refine g_callV (pc := 2) C B mX7_112 (c_isM_f _ _ _ _ _ mc lc hI p0 hx) rfl rfl rfl rfl hM.1 (by decide) ⟨Nat.le_refl _, Nat.le_refl _⟩ (Nat.le_of_ble_eq_true rfl) dX7_machineOf_2 (fun r S' hP => ?_)
  rw [hP.1, hP.2]
  refine g_if_eq (pc := 5) C 18 dX7_machineOf_5 (by decide) (fun _ => ?_) (fun h5 => absurd (by decide) h5)
  refine g_ldc (pc := 18) C 1000000000 dX7_machineOf_18 ctX7_172 ?_
  refine g_aload_n (pc := 20) C dX7_machineOf_20 rfl ?_
  refine g_aload_n (pc := 21) C dX7_machineOf_21 rfl ?_
  refine g_iload_n (pc := 22) C dX7_machineOf_22 rfl ?_
  refine g_callV (pc := 23) C B mX7_112 (c_isM_f _ _ _ _ _ mc lc hI p0 hx) rfl rfl rfl rfl hM.1 (by decide) ⟨Nat.le_refl _, Nat.le_refl _⟩ (Nat.le_of_ble_eq_true rfl) dX7_machineOf_23 (fun r S' hP => ?_)
  rw [hP.1, hP.2]
  refine g_if_eq (pc := 26) C 34 dX7_machineOf_26 (by decide) (fun _ => ?_) (fun h26 => absurd (by decide) h26)
  refine g_iconst (pc := 34) C (-1) dX7_machineOf_34 (by decide) ?_
  refine g_callV (pc := 35) C B mX7_116 (c_mrefuse _ _ _ _ _ hM (-1) 1 (by decide) (by decide)) rfl rfl rfl rfl hM.1 (by decide) ⟨Nat.le_refl _, Nat.le_refl _⟩ (Nat.le_of_ble_eq_true rfl) dX7_machineOf_35 (fun r S' hP => ?_)
  rw [hP.1, hP.2]
  refine g_isub (pc := 38) C dX7_machineOf_38 ?_
  exact g_iret (pc := 39) C B rfl dX7_machineOf_39 (⟨rfl, rfl⟩)

set_option maxHeartbeats 4000000 in
set_option maxRecDepth 100000 in
theorem c_X7_machineOf_w (l : Launch) (E : En) (base aw : Nat) (S : Mm) (mc : Nat) (lc : Nat → Nat) (hI : IM S mc lc) (i : Nat) (hi : i < mc) (p1 : Int32) (hx : ¬ okN 9 p1) : Cn l E base aw yX7_machineOf cX7_machineOf 3 (some Jvm.ClassFile.FieldType.int) 2 0 0 noF S [vr (2, 0, 0), vi (nI i), vi p1] (fun r S' => r = some (vi (1000000000 - (-2))) ∧ S' = rfM S 2) := by
  have hM := hI.1
  have hmc := hI.2.2.1
  refine Cn.of (by decide) (Nat.le_of_ble_eq_true rfl) ?_
  intro X Y hl hE hbase haw hfr C B
  subst hl; subst hE; subst hbase; subst haw
  refine g_aload_n (pc := 0) C dX7_machineOf_0 rfl ?_
  refine g_iload_n (pc := 1) C dX7_machineOf_1 rfl ?_
  refine g_callV (pc := 2) C B mX7_112 (c_isM_t _ _ _ _ _ mc lc hI i hi) rfl rfl rfl rfl hM.1 (by decide) ⟨Nat.le_refl _, Nat.le_refl _⟩ (Nat.le_of_ble_eq_true rfl) dX7_machineOf_2 (fun r S' hP => ?_)
  rw [hP.1, hP.2]
  refine g_if_eq (pc := 5) C 18 dX7_machineOf_5 (by decide) (fun h5 => absurd h5 (by decide)) (fun _ => ?_)
  refine g_iload_n (pc := 8) C dX7_machineOf_8 rfl ?_
  refine g_iconst (pc := 9) C 0 dX7_machineOf_9 (by decide) ?_
  refine g_bipush (pc := 10) C 8 dX7_machineOf_10 (by decide) ?_
  refine g_callS (pc := 12) C B mX7_108 (c_in_f _ _ _ _ _ _ _ _ (okW_f (n := 8) (by decide) hx)) rfl rfl (by decide) ⟨Nat.le_refl _, Nat.le_refl _⟩ (Nat.le_of_ble_eq_true rfl) dX7_machineOf_12 (fun r S' hP => ?_)
  rw [hP.1, hP.2]
  refine g_if_ne (pc := 15) C 40 dX7_machineOf_15 (by decide) (fun h15 => absurd (by decide) h15) (fun _ => ?_)
  refine g_ldc (pc := 18) C 1000000000 dX7_machineOf_18 ctX7_172 ?_
  refine g_aload_n (pc := 20) C dX7_machineOf_20 rfl ?_
  refine g_aload_n (pc := 21) C dX7_machineOf_21 rfl ?_
  refine g_iload_n (pc := 22) C dX7_machineOf_22 rfl ?_
  refine g_callV (pc := 23) C B mX7_112 (c_isM_t _ _ _ _ _ mc lc hI i hi) rfl rfl rfl rfl hM.1 (by decide) ⟨Nat.le_refl _, Nat.le_refl _⟩ (Nat.le_of_ble_eq_true rfl) dX7_machineOf_23 (fun r S' hP => ?_)
  rw [hP.1, hP.2]
  refine g_if_eq (pc := 26) C 34 dX7_machineOf_26 (by decide) (fun h26 => absurd h26 (by decide)) (fun _ => ?_)
  refine g_bipush (pc := 29) C (-2) dX7_machineOf_29 (by decide) ?_
  refine g_goto (pc := 31) C 35 dX7_machineOf_31 (by decide) ?_
  refine g_callV (pc := 35) C B mX7_116 (c_mrefuse _ _ _ _ _ hM (-2) 2 (by decide) (by decide)) rfl rfl rfl rfl hM.1 (by decide) ⟨Nat.le_refl _, Nat.le_refl _⟩ (Nat.le_of_ble_eq_true rfl) dX7_machineOf_35 (fun r S' hP => ?_)
  rw [hP.1, hP.2]
  refine g_isub (pc := 38) C dX7_machineOf_38 ?_
  exact g_iret (pc := 39) C B rfl dX7_machineOf_39 (⟨rfl, rfl⟩)

set_option maxHeartbeats 4000000 in
set_option maxRecDepth 100000 in
theorem c_X7_machineOf0 (l : Launch) (E : En) (base aw : Nat) (S : Mm) (mc : Nat) (lc : Nat → Nat) (hI : IM S mc lc) (i : Nat) (hi : i < mc) : Cn l E base aw yX7_machineOf cX7_machineOf 3 (some Jvm.ClassFile.FieldType.int) 2 0 0 noF S [vr (2, 0, 0), vi (nI i), vi (nI 0)] (fun r S' => r = some (vi (S.1 (2, 0, 2) i)) ∧ S' = S) := by
  have hM := hI.1
  have hmc := hI.2.2.1
  refine Cn.of (by decide) (Nat.le_of_ble_eq_true rfl) ?_
  intro X Y hl hE hbase haw hfr C B
  subst hl; subst hE; subst hbase; subst haw
  refine g_aload_n (pc := 0) C dX7_machineOf_0 rfl ?_
  refine g_iload_n (pc := 1) C dX7_machineOf_1 rfl ?_
  refine g_callV (pc := 2) C B mX7_112 (c_isM_t _ _ _ _ _ mc lc hI i hi) rfl rfl rfl rfl hM.1 (by decide) ⟨Nat.le_refl _, Nat.le_refl _⟩ (Nat.le_of_ble_eq_true rfl) dX7_machineOf_2 (fun r S' hP => ?_)
  rw [hP.1, hP.2]
  refine g_if_eq (pc := 5) C 18 dX7_machineOf_5 (by decide) (fun h5 => absurd h5 (by decide)) (fun _ => ?_)
  refine g_iload_n (pc := 8) C dX7_machineOf_8 rfl ?_
  refine g_iconst (pc := 9) C 0 dX7_machineOf_9 (by decide) ?_
  refine g_bipush (pc := 10) C 8 dX7_machineOf_10 (by decide) ?_
  refine g_callS (pc := 12) C B mX7_108 (c_in_t _ _ _ _ _ _ _ _ (by decide)) rfl rfl (by decide) ⟨Nat.le_refl _, Nat.le_refl _⟩ (Nat.le_of_ble_eq_true rfl) dX7_machineOf_12 (fun r S' hP => ?_)
  rw [hP.1, hP.2]
  refine g_if_ne (pc := 15) C 40 dX7_machineOf_15 (by decide) (fun _ => ?_) (fun h15 => absurd h15 (by decide))
  refine g_iload_n (pc := 40) C dX7_machineOf_40 rfl ?_
  refine g_tabIn (pc := 41) (off := 47) C 88 dX7_machineOf_41 (by decide) (by decide) (by decide) (by decide) ?_
  refine g_aload_n (pc := 88) C dX7_machineOf_88 rfl ?_
  refine g_getr (pc := 89) C fX7_7 rfl hM.1 dX7_machineOf_89 rfl (hM.2 2 rfl).1 ?_
  refine g_iload_n (pc := 92) C dX7_machineOf_92 rfl ?_
  refine g_ialdN (pc := 93) C rfl (hM.2 2 rfl).2 (by omega) (by decide) dX7_machineOf_93 ?_
  exact g_iret (pc := 94) C B rfl dX7_machineOf_94 (⟨rfl, rfl⟩)

set_option maxHeartbeats 4000000 in
set_option maxRecDepth 100000 in
theorem c_X7_machineOf1 (l : Launch) (E : En) (base aw : Nat) (S : Mm) (mc : Nat) (lc : Nat → Nat) (hI : IM S mc lc) (i : Nat) (hi : i < mc) : Cn l E base aw yX7_machineOf cX7_machineOf 3 (some Jvm.ClassFile.FieldType.int) 2 0 0 noF S [vr (2, 0, 0), vi (nI i), vi (nI 1)] (fun r S' => r = some (vi (wsum (fun z => S.1 (2, 0, 3) (6 * i + z)) 6)) ∧ S' = S) := by
  have hM := hI.1
  have hmc := hI.2.2.1
  refine Cn.of (by decide) (Nat.le_of_ble_eq_true rfl) ?_
  intro X Y hl hE hbase haw hfr C B
  subst hl; subst hE; subst hbase; subst haw
  refine g_aload_n (pc := 0) C dX7_machineOf_0 rfl ?_
  refine g_iload_n (pc := 1) C dX7_machineOf_1 rfl ?_
  refine g_callV (pc := 2) C B mX7_112 (c_isM_t _ _ _ _ _ mc lc hI i hi) rfl rfl rfl rfl hM.1 (by decide) ⟨Nat.le_refl _, Nat.le_refl _⟩ (Nat.le_of_ble_eq_true rfl) dX7_machineOf_2 (fun r S' hP => ?_)
  rw [hP.1, hP.2]
  refine g_if_eq (pc := 5) C 18 dX7_machineOf_5 (by decide) (fun h5 => absurd h5 (by decide)) (fun _ => ?_)
  refine g_iload_n (pc := 8) C dX7_machineOf_8 rfl ?_
  refine g_iconst (pc := 9) C 0 dX7_machineOf_9 (by decide) ?_
  refine g_bipush (pc := 10) C 8 dX7_machineOf_10 (by decide) ?_
  refine g_callS (pc := 12) C B mX7_108 (c_in_t _ _ _ _ _ _ _ _ (by decide)) rfl rfl (by decide) ⟨Nat.le_refl _, Nat.le_refl _⟩ (Nat.le_of_ble_eq_true rfl) dX7_machineOf_12 (fun r S' hP => ?_)
  rw [hP.1, hP.2]
  refine g_if_ne (pc := 15) C 40 dX7_machineOf_15 (by decide) (fun _ => ?_) (fun h15 => absurd h15 (by decide))
  refine g_iload_n (pc := 40) C dX7_machineOf_40 rfl ?_
  refine g_tabIn (pc := 41) (off := 54) C 95 dX7_machineOf_41 (by decide) (by decide) (by decide) (by decide) ?_
  refine g_aload_n (pc := 95) C dX7_machineOf_95 rfl ?_
  refine g_aload_n (pc := 96) C dX7_machineOf_96 rfl ?_
  refine g_getr (pc := 97) C fX7_13 rfl hM.1 dX7_machineOf_97 rfl (hM.2 3 rfl).1 ?_
  refine g_iload_n (pc := 100) C dX7_machineOf_100 rfl ?_
  refine g_callV (pc := 101) C B mX7_136 (c_worthIn _ _ _ _ _ i 3 (by omega) (hM.2 3 rfl).2 rfl) rfl rfl rfl rfl hM.1 (by decide) ⟨Nat.le_refl _, Nat.le_refl _⟩ (Nat.le_of_ble_eq_true rfl) dX7_machineOf_101 (fun r S' hP => ?_)
  rw [hP.1, hP.2]
  exact g_iret (pc := 104) C B rfl dX7_machineOf_104 (⟨rfl, rfl⟩)

set_option maxHeartbeats 4000000 in
set_option maxRecDepth 100000 in
theorem c_X7_machineOf2 (l : Launch) (E : En) (base aw : Nat) (S : Mm) (mc : Nat) (lc : Nat → Nat) (hI : IM S mc lc) (i : Nat) (hi : i < mc) : Cn l E base aw yX7_machineOf cX7_machineOf 3 (some Jvm.ClassFile.FieldType.int) 2 0 0 noF S [vr (2, 0, 0), vi (nI i), vi (nI 2)] (fun r S' => r = some (vi (wsum (fun z => S.1 (2, 0, 4) (6 * i + z)) 6)) ∧ S' = S) := by
  have hM := hI.1
  have hmc := hI.2.2.1
  refine Cn.of (by decide) (Nat.le_of_ble_eq_true rfl) ?_
  intro X Y hl hE hbase haw hfr C B
  subst hl; subst hE; subst hbase; subst haw
  refine g_aload_n (pc := 0) C dX7_machineOf_0 rfl ?_
  refine g_iload_n (pc := 1) C dX7_machineOf_1 rfl ?_
  refine g_callV (pc := 2) C B mX7_112 (c_isM_t _ _ _ _ _ mc lc hI i hi) rfl rfl rfl rfl hM.1 (by decide) ⟨Nat.le_refl _, Nat.le_refl _⟩ (Nat.le_of_ble_eq_true rfl) dX7_machineOf_2 (fun r S' hP => ?_)
  rw [hP.1, hP.2]
  refine g_if_eq (pc := 5) C 18 dX7_machineOf_5 (by decide) (fun h5 => absurd h5 (by decide)) (fun _ => ?_)
  refine g_iload_n (pc := 8) C dX7_machineOf_8 rfl ?_
  refine g_iconst (pc := 9) C 0 dX7_machineOf_9 (by decide) ?_
  refine g_bipush (pc := 10) C 8 dX7_machineOf_10 (by decide) ?_
  refine g_callS (pc := 12) C B mX7_108 (c_in_t _ _ _ _ _ _ _ _ (by decide)) rfl rfl (by decide) ⟨Nat.le_refl _, Nat.le_refl _⟩ (Nat.le_of_ble_eq_true rfl) dX7_machineOf_12 (fun r S' hP => ?_)
  rw [hP.1, hP.2]
  refine g_if_ne (pc := 15) C 40 dX7_machineOf_15 (by decide) (fun _ => ?_) (fun h15 => absurd h15 (by decide))
  refine g_iload_n (pc := 40) C dX7_machineOf_40 rfl ?_
  refine g_tabIn (pc := 41) (off := 64) C 105 dX7_machineOf_41 (by decide) (by decide) (by decide) (by decide) ?_
  refine g_aload_n (pc := 105) C dX7_machineOf_105 rfl ?_
  refine g_aload_n (pc := 106) C dX7_machineOf_106 rfl ?_
  refine g_getr (pc := 107) C fX7_16 rfl hM.1 dX7_machineOf_107 rfl (hM.2 4 rfl).1 ?_
  refine g_iload_n (pc := 110) C dX7_machineOf_110 rfl ?_
  refine g_callV (pc := 111) C B mX7_136 (c_worthIn _ _ _ _ _ i 4 (by omega) (hM.2 4 rfl).2 rfl) rfl rfl rfl rfl hM.1 (by decide) ⟨Nat.le_refl _, Nat.le_refl _⟩ (Nat.le_of_ble_eq_true rfl) dX7_machineOf_111 (fun r S' hP => ?_)
  rw [hP.1, hP.2]
  exact g_iret (pc := 114) C B rfl dX7_machineOf_114 (⟨rfl, rfl⟩)

set_option maxHeartbeats 4000000 in
set_option maxRecDepth 100000 in
theorem c_X7_machineOf3 (l : Launch) (E : En) (base aw : Nat) (S : Mm) (mc : Nat) (lc : Nat → Nat) (hI : IM S mc lc) (i : Nat) (hi : i < mc) : Cn l E base aw yX7_machineOf cX7_machineOf 3 (some Jvm.ClassFile.FieldType.int) 2 0 0 noF S [vr (2, 0, 0), vi (nI i), vi (nI 3)] (fun r S' => r = some (vi (wsum (fun z => S.1 (2, 0, 5) (6 * i + z)) 6)) ∧ S' = S) := by
  have hM := hI.1
  have hmc := hI.2.2.1
  refine Cn.of (by decide) (Nat.le_of_ble_eq_true rfl) ?_
  intro X Y hl hE hbase haw hfr C B
  subst hl; subst hE; subst hbase; subst haw
  refine g_aload_n (pc := 0) C dX7_machineOf_0 rfl ?_
  refine g_iload_n (pc := 1) C dX7_machineOf_1 rfl ?_
  refine g_callV (pc := 2) C B mX7_112 (c_isM_t _ _ _ _ _ mc lc hI i hi) rfl rfl rfl rfl hM.1 (by decide) ⟨Nat.le_refl _, Nat.le_refl _⟩ (Nat.le_of_ble_eq_true rfl) dX7_machineOf_2 (fun r S' hP => ?_)
  rw [hP.1, hP.2]
  refine g_if_eq (pc := 5) C 18 dX7_machineOf_5 (by decide) (fun h5 => absurd h5 (by decide)) (fun _ => ?_)
  refine g_iload_n (pc := 8) C dX7_machineOf_8 rfl ?_
  refine g_iconst (pc := 9) C 0 dX7_machineOf_9 (by decide) ?_
  refine g_bipush (pc := 10) C 8 dX7_machineOf_10 (by decide) ?_
  refine g_callS (pc := 12) C B mX7_108 (c_in_t _ _ _ _ _ _ _ _ (by decide)) rfl rfl (by decide) ⟨Nat.le_refl _, Nat.le_refl _⟩ (Nat.le_of_ble_eq_true rfl) dX7_machineOf_12 (fun r S' hP => ?_)
  rw [hP.1, hP.2]
  refine g_if_ne (pc := 15) C 40 dX7_machineOf_15 (by decide) (fun _ => ?_) (fun h15 => absurd h15 (by decide))
  refine g_iload_n (pc := 40) C dX7_machineOf_40 rfl ?_
  refine g_tabIn (pc := 41) (off := 74) C 115 dX7_machineOf_41 (by decide) (by decide) (by decide) (by decide) ?_
  refine g_aload_n (pc := 115) C dX7_machineOf_115 rfl ?_
  refine g_aload_n (pc := 116) C dX7_machineOf_116 rfl ?_
  refine g_getr (pc := 117) C fX7_19 rfl hM.1 dX7_machineOf_117 rfl (hM.2 5 rfl).1 ?_
  refine g_iload_n (pc := 120) C dX7_machineOf_120 rfl ?_
  refine g_callV (pc := 121) C B mX7_136 (c_worthIn _ _ _ _ _ i 5 (by omega) (hM.2 5 rfl).2 rfl) rfl rfl rfl rfl hM.1 (by decide) ⟨Nat.le_refl _, Nat.le_refl _⟩ (Nat.le_of_ble_eq_true rfl) dX7_machineOf_121 (fun r S' hP => ?_)
  rw [hP.1, hP.2]
  exact g_iret (pc := 124) C B rfl dX7_machineOf_124 (⟨rfl, rfl⟩)

set_option maxHeartbeats 4000000 in
set_option maxRecDepth 100000 in
theorem c_X7_machineOf4 (l : Launch) (E : En) (base aw : Nat) (S : Mm) (mc : Nat) (lc : Nat → Nat) (hI : IM S mc lc) (i : Nat) (hi : i < mc) : Cn l E base aw yX7_machineOf cX7_machineOf 3 (some Jvm.ClassFile.FieldType.int) 2 0 0 noF S [vr (2, 0, 0), vi (nI i), vi (nI 4)] (fun r S' => r = some (vi (S.1 (2, 0, 23) i)) ∧ S' = S) := by
  have hM := hI.1
  have hmc := hI.2.2.1
  refine Cn.of (by decide) (Nat.le_of_ble_eq_true rfl) ?_
  intro X Y hl hE hbase haw hfr C B
  subst hl; subst hE; subst hbase; subst haw
  refine g_aload_n (pc := 0) C dX7_machineOf_0 rfl ?_
  refine g_iload_n (pc := 1) C dX7_machineOf_1 rfl ?_
  refine g_callV (pc := 2) C B mX7_112 (c_isM_t _ _ _ _ _ mc lc hI i hi) rfl rfl rfl rfl hM.1 (by decide) ⟨Nat.le_refl _, Nat.le_refl _⟩ (Nat.le_of_ble_eq_true rfl) dX7_machineOf_2 (fun r S' hP => ?_)
  rw [hP.1, hP.2]
  refine g_if_eq (pc := 5) C 18 dX7_machineOf_5 (by decide) (fun h5 => absurd h5 (by decide)) (fun _ => ?_)
  refine g_iload_n (pc := 8) C dX7_machineOf_8 rfl ?_
  refine g_iconst (pc := 9) C 0 dX7_machineOf_9 (by decide) ?_
  refine g_bipush (pc := 10) C 8 dX7_machineOf_10 (by decide) ?_
  refine g_callS (pc := 12) C B mX7_108 (c_in_t _ _ _ _ _ _ _ _ (by decide)) rfl rfl (by decide) ⟨Nat.le_refl _, Nat.le_refl _⟩ (Nat.le_of_ble_eq_true rfl) dX7_machineOf_12 (fun r S' hP => ?_)
  rw [hP.1, hP.2]
  refine g_if_ne (pc := 15) C 40 dX7_machineOf_15 (by decide) (fun _ => ?_) (fun h15 => absurd h15 (by decide))
  refine g_iload_n (pc := 40) C dX7_machineOf_40 rfl ?_
  refine g_tabIn (pc := 41) (off := 84) C 125 dX7_machineOf_41 (by decide) (by decide) (by decide) (by decide) ?_
  refine g_aload_n (pc := 125) C dX7_machineOf_125 rfl ?_
  refine g_getr (pc := 126) C fX7_74 rfl hM.1 dX7_machineOf_126 rfl (hM.2 23 rfl).1 ?_
  refine g_iload_n (pc := 129) C dX7_machineOf_129 rfl ?_
  refine g_ialdN (pc := 130) C rfl (hM.2 23 rfl).2 (by omega) (by decide) dX7_machineOf_130 ?_
  exact g_iret (pc := 131) C B rfl dX7_machineOf_131 (⟨rfl, rfl⟩)

set_option maxHeartbeats 4000000 in
set_option maxRecDepth 100000 in
theorem c_X7_machineOf5 (l : Launch) (E : En) (base aw : Nat) (S : Mm) (mc : Nat) (lc : Nat → Nat) (hI : IM S mc lc) (i : Nat) (hi : i < mc) : Cn l E base aw yX7_machineOf cX7_machineOf 3 (some Jvm.ClassFile.FieldType.int) 2 0 0 noF S [vr (2, 0, 0), vi (nI i), vi (nI 5)] (fun r S' => r = some (vi (S.1 (2, 0, 24) i)) ∧ S' = S) := by
  have hM := hI.1
  have hmc := hI.2.2.1
  refine Cn.of (by decide) (Nat.le_of_ble_eq_true rfl) ?_
  intro X Y hl hE hbase haw hfr C B
  subst hl; subst hE; subst hbase; subst haw
  refine g_aload_n (pc := 0) C dX7_machineOf_0 rfl ?_
  refine g_iload_n (pc := 1) C dX7_machineOf_1 rfl ?_
  refine g_callV (pc := 2) C B mX7_112 (c_isM_t _ _ _ _ _ mc lc hI i hi) rfl rfl rfl rfl hM.1 (by decide) ⟨Nat.le_refl _, Nat.le_refl _⟩ (Nat.le_of_ble_eq_true rfl) dX7_machineOf_2 (fun r S' hP => ?_)
  rw [hP.1, hP.2]
  refine g_if_eq (pc := 5) C 18 dX7_machineOf_5 (by decide) (fun h5 => absurd h5 (by decide)) (fun _ => ?_)
  refine g_iload_n (pc := 8) C dX7_machineOf_8 rfl ?_
  refine g_iconst (pc := 9) C 0 dX7_machineOf_9 (by decide) ?_
  refine g_bipush (pc := 10) C 8 dX7_machineOf_10 (by decide) ?_
  refine g_callS (pc := 12) C B mX7_108 (c_in_t _ _ _ _ _ _ _ _ (by decide)) rfl rfl (by decide) ⟨Nat.le_refl _, Nat.le_refl _⟩ (Nat.le_of_ble_eq_true rfl) dX7_machineOf_12 (fun r S' hP => ?_)
  rw [hP.1, hP.2]
  refine g_if_ne (pc := 15) C 40 dX7_machineOf_15 (by decide) (fun _ => ?_) (fun h15 => absurd h15 (by decide))
  refine g_iload_n (pc := 40) C dX7_machineOf_40 rfl ?_
  refine g_tabIn (pc := 41) (off := 91) C 132 dX7_machineOf_41 (by decide) (by decide) (by decide) (by decide) ?_
  refine g_aload_n (pc := 132) C dX7_machineOf_132 rfl ?_
  refine g_getr (pc := 133) C fX7_77 rfl hM.1 dX7_machineOf_133 rfl (hM.2 24 rfl).1 ?_
  refine g_iload_n (pc := 136) C dX7_machineOf_136 rfl ?_
  refine g_ialdN (pc := 137) C rfl (hM.2 24 rfl).2 (by omega) (by decide) dX7_machineOf_137 ?_
  exact g_iret (pc := 138) C B rfl dX7_machineOf_138 (⟨rfl, rfl⟩)

set_option maxHeartbeats 4000000 in
set_option maxRecDepth 100000 in
theorem c_X7_machineOf6 (l : Launch) (E : En) (base aw : Nat) (S : Mm) (mc : Nat) (lc : Nat → Nat) (hI : IM S mc lc) (i : Nat) (hi : i < mc) : Cn l E base aw yX7_machineOf cX7_machineOf 3 (some Jvm.ClassFile.FieldType.int) 2 0 0 noF S [vr (2, 0, 0), vi (nI i), vi (nI 6)] (fun r S' => r = some (vi (S.1 (2, 0, 25) i)) ∧ S' = S) := by
  have hM := hI.1
  have hmc := hI.2.2.1
  refine Cn.of (by decide) (Nat.le_of_ble_eq_true rfl) ?_
  intro X Y hl hE hbase haw hfr C B
  subst hl; subst hE; subst hbase; subst haw
  refine g_aload_n (pc := 0) C dX7_machineOf_0 rfl ?_
  refine g_iload_n (pc := 1) C dX7_machineOf_1 rfl ?_
  refine g_callV (pc := 2) C B mX7_112 (c_isM_t _ _ _ _ _ mc lc hI i hi) rfl rfl rfl rfl hM.1 (by decide) ⟨Nat.le_refl _, Nat.le_refl _⟩ (Nat.le_of_ble_eq_true rfl) dX7_machineOf_2 (fun r S' hP => ?_)
  rw [hP.1, hP.2]
  refine g_if_eq (pc := 5) C 18 dX7_machineOf_5 (by decide) (fun h5 => absurd h5 (by decide)) (fun _ => ?_)
  refine g_iload_n (pc := 8) C dX7_machineOf_8 rfl ?_
  refine g_iconst (pc := 9) C 0 dX7_machineOf_9 (by decide) ?_
  refine g_bipush (pc := 10) C 8 dX7_machineOf_10 (by decide) ?_
  refine g_callS (pc := 12) C B mX7_108 (c_in_t _ _ _ _ _ _ _ _ (by decide)) rfl rfl (by decide) ⟨Nat.le_refl _, Nat.le_refl _⟩ (Nat.le_of_ble_eq_true rfl) dX7_machineOf_12 (fun r S' hP => ?_)
  rw [hP.1, hP.2]
  refine g_if_ne (pc := 15) C 40 dX7_machineOf_15 (by decide) (fun _ => ?_) (fun h15 => absurd h15 (by decide))
  refine g_iload_n (pc := 40) C dX7_machineOf_40 rfl ?_
  refine g_tabIn (pc := 41) (off := 98) C 139 dX7_machineOf_41 (by decide) (by decide) (by decide) (by decide) ?_
  refine g_aload_n (pc := 139) C dX7_machineOf_139 rfl ?_
  refine g_getr (pc := 140) C fX7_80 rfl hM.1 dX7_machineOf_140 rfl (hM.2 25 rfl).1 ?_
  refine g_iload_n (pc := 143) C dX7_machineOf_143 rfl ?_
  refine g_ialdN (pc := 144) C rfl (hM.2 25 rfl).2 (by omega) (by decide) dX7_machineOf_144 ?_
  exact g_iret (pc := 145) C B rfl dX7_machineOf_145 (⟨rfl, rfl⟩)

set_option maxHeartbeats 4000000 in
set_option maxRecDepth 100000 in
theorem c_X7_machineOf7 (l : Launch) (E : En) (base aw : Nat) (S : Mm) (mc : Nat) (lc : Nat → Nat) (hI : IM S mc lc) (i : Nat) (hi : i < mc) : Cn l E base aw yX7_machineOf cX7_machineOf 3 (some Jvm.ClassFile.FieldType.int) 2 0 0 noF S [vr (2, 0, 0), vi (nI i), vi (nI 7)] (fun r S' => r = some (vi (S.1 (2, 0, 26) i)) ∧ S' = S) := by
  have hM := hI.1
  have hmc := hI.2.2.1
  refine Cn.of (by decide) (Nat.le_of_ble_eq_true rfl) ?_
  intro X Y hl hE hbase haw hfr C B
  subst hl; subst hE; subst hbase; subst haw
  refine g_aload_n (pc := 0) C dX7_machineOf_0 rfl ?_
  refine g_iload_n (pc := 1) C dX7_machineOf_1 rfl ?_
  refine g_callV (pc := 2) C B mX7_112 (c_isM_t _ _ _ _ _ mc lc hI i hi) rfl rfl rfl rfl hM.1 (by decide) ⟨Nat.le_refl _, Nat.le_refl _⟩ (Nat.le_of_ble_eq_true rfl) dX7_machineOf_2 (fun r S' hP => ?_)
  rw [hP.1, hP.2]
  refine g_if_eq (pc := 5) C 18 dX7_machineOf_5 (by decide) (fun h5 => absurd h5 (by decide)) (fun _ => ?_)
  refine g_iload_n (pc := 8) C dX7_machineOf_8 rfl ?_
  refine g_iconst (pc := 9) C 0 dX7_machineOf_9 (by decide) ?_
  refine g_bipush (pc := 10) C 8 dX7_machineOf_10 (by decide) ?_
  refine g_callS (pc := 12) C B mX7_108 (c_in_t _ _ _ _ _ _ _ _ (by decide)) rfl rfl (by decide) ⟨Nat.le_refl _, Nat.le_refl _⟩ (Nat.le_of_ble_eq_true rfl) dX7_machineOf_12 (fun r S' hP => ?_)
  rw [hP.1, hP.2]
  refine g_if_ne (pc := 15) C 40 dX7_machineOf_15 (by decide) (fun _ => ?_) (fun h15 => absurd h15 (by decide))
  refine g_iload_n (pc := 40) C dX7_machineOf_40 rfl ?_
  refine g_tabIn (pc := 41) (off := 105) C 146 dX7_machineOf_41 (by decide) (by decide) (by decide) (by decide) ?_
  refine g_aload_n (pc := 146) C dX7_machineOf_146 rfl ?_
  refine g_getr (pc := 147) C fX7_83 rfl hM.1 dX7_machineOf_147 rfl (hM.2 26 rfl).1 ?_
  refine g_iload_n (pc := 150) C dX7_machineOf_150 rfl ?_
  refine g_ialdN (pc := 151) C rfl (hM.2 26 rfl).2 (by omega) (by decide) dX7_machineOf_151 ?_
  exact g_iret (pc := 152) C B rfl dX7_machineOf_152 (⟨rfl, rfl⟩)

set_option maxHeartbeats 4000000 in
set_option maxRecDepth 100000 in
theorem c_X7_machineOf8 (l : Launch) (E : En) (base aw : Nat) (S : Mm) (mc : Nat) (lc : Nat → Nat) (hI : IM S mc lc) (i : Nat) (hi : i < mc) : Cn l E base aw yX7_machineOf cX7_machineOf 3 (some Jvm.ClassFile.FieldType.int) 2 0 0 noF S [vr (2, 0, 0), vi (nI i), vi (nI 8)] (fun r S' => r = some (vi (S.1 (2, 0, 9) i)) ∧ S' = S) := by
  have hM := hI.1
  have hmc := hI.2.2.1
  refine Cn.of (by decide) (Nat.le_of_ble_eq_true rfl) ?_
  intro X Y hl hE hbase haw hfr C B
  subst hl; subst hE; subst hbase; subst haw
  refine g_aload_n (pc := 0) C dX7_machineOf_0 rfl ?_
  refine g_iload_n (pc := 1) C dX7_machineOf_1 rfl ?_
  refine g_callV (pc := 2) C B mX7_112 (c_isM_t _ _ _ _ _ mc lc hI i hi) rfl rfl rfl rfl hM.1 (by decide) ⟨Nat.le_refl _, Nat.le_refl _⟩ (Nat.le_of_ble_eq_true rfl) dX7_machineOf_2 (fun r S' hP => ?_)
  rw [hP.1, hP.2]
  refine g_if_eq (pc := 5) C 18 dX7_machineOf_5 (by decide) (fun h5 => absurd h5 (by decide)) (fun _ => ?_)
  refine g_iload_n (pc := 8) C dX7_machineOf_8 rfl ?_
  refine g_iconst (pc := 9) C 0 dX7_machineOf_9 (by decide) ?_
  refine g_bipush (pc := 10) C 8 dX7_machineOf_10 (by decide) ?_
  refine g_callS (pc := 12) C B mX7_108 (c_in_t _ _ _ _ _ _ _ _ (by decide)) rfl rfl (by decide) ⟨Nat.le_refl _, Nat.le_refl _⟩ (Nat.le_of_ble_eq_true rfl) dX7_machineOf_12 (fun r S' hP => ?_)
  rw [hP.1, hP.2]
  refine g_if_ne (pc := 15) C 40 dX7_machineOf_15 (by decide) (fun _ => ?_) (fun h15 => absurd h15 (by decide))
  refine g_iload_n (pc := 40) C dX7_machineOf_40 rfl ?_
  refine g_tabOut (pc := 41) C 153 dX7_machineOf_41 (by decide) (by decide) ?_
  refine g_aload_n (pc := 153) C dX7_machineOf_153 rfl ?_
  refine g_getr (pc := 154) C fX7_32 rfl hM.1 dX7_machineOf_154 rfl (hM.2 9 rfl).1 ?_
  refine g_iload_n (pc := 157) C dX7_machineOf_157 rfl ?_
  refine g_ialdN (pc := 158) C rfl (hM.2 9 rfl).2 (by omega) (by decide) dX7_machineOf_158 ?_
  exact g_iret (pc := 159) C B rfl dX7_machineOf_159 (⟨rfl, rfl⟩)

set_option maxHeartbeats 4000000 in
set_option maxRecDepth 100000 in
/-- when of no lane -/
theorem c_X7_when_b (l : Launch) (E : En) (base aw : Nat) (S : Mm) (mc : Nat) (lc : Nat → Nat) (hI : IM S mc lc) (p0 p1 : Int32) (h : ¬ (okL mc lc p0 p1)) : Cn l E base aw yX7_when cX7_when 7 (some Jvm.ClassFile.FieldType.int) 3 0 0 noF S [vr (2, 0, 0), vi p0, vi p1] (fun r S' => r = some (vi (-1)) ∧ S' = rfM S 1) := by
  have hM := hI.1
  have hmc := hI.2.2.1
  have hx : ¬ okL mc lc p0 p1 := fun q => h q
  refine Cn.of (by decide) (Nat.le_of_ble_eq_true rfl) ?_
  intro X Y hl hE hbase haw hfr C B
  subst hl; subst hE; subst hbase; subst haw
  refine g_aload_n (pc := 0) C dX7_when_0 rfl ?_
  refine g_iload_n (pc := 1) C dX7_when_1 rfl ?_
  refine g_iload_n (pc := 2) C dX7_when_2 rfl ?_
  refine g_callV (pc := 3) C B mX7_123 (c_isL_f _ _ _ _ _ mc lc hI p0 p1 hx) rfl rfl rfl rfl hM.1 (by decide) ⟨Nat.le_refl _, Nat.le_refl _⟩ (Nat.le_of_ble_eq_true rfl) dX7_when_3 (fun r S' hP => ?_)
  rw [hP.1, hP.2]
  refine g_if_ne (pc := 6) C 15 dX7_when_6 (by decide) (fun h6 => absurd (by decide) h6) (fun _ => ?_)
  refine g_aload_n (pc := 9) C dX7_when_9 rfl ?_
  refine g_iconst (pc := 10) C (-1) dX7_when_10 (by decide) ?_
  refine g_callV (pc := 11) C B mX7_116 (c_mrefuse _ _ _ _ _ hM (-1) 1 (by decide) (by decide)) rfl rfl rfl rfl hM.1 (by decide) ⟨Nat.le_refl _, Nat.le_refl _⟩ (Nat.le_of_ble_eq_true rfl) dX7_when_11 (fun r S' hP => ?_)
  rw [hP.1, hP.2]
  exact g_iret (pc := 14) C B rfl dX7_when_14 (⟨rfl, rfl⟩)

set_option maxHeartbeats 4000000 in
set_option maxRecDepth 100000 in
theorem lp_when1 {X : Xt} {Y : Yt} {P : Option AV → Mm → Prop} {nm : String}  (C : Cx X Y cX7_when 7 RX7) (B : Bx X Y nm (some Jvm.ClassFile.FieldType.int) 3 0 0 P) {S : Mm} {i mc g : Nat} {lc : Nat → Nat} (hI : IM S mc lc) (hi : i < mc) (hg : g < 16) (K : G X Y 0 0 S 87 [(0, vr (2, 0, 0)), (1, vi (nI i)), (3, vi (nI g)), (4, vi (stM S i (nI g) (lc i))), (5, vi (nI (lc i)))] []) : ∀ n w, w + n = lc i → G X Y 0 0 S 33 [(0, vr (2, 0, 0)), (1, vi (nI i)), (3, vi (nI g)), (4, vi (stM S i (nI g) w)), (5, vi (nI w))] [] := by
  intro n
  induction n with
  | zero =>
    intro w hw
    have e : lc i = w := by omega
    subst e
    have hM := hI.1
    have hmc := hI.2.2.1
    have hlc := (hI.2.2.2 i (by omega)).2
    refine g_iload (pc := 33) C dX7_when_33 rfl ?_
    refine g_aload_n (pc := 35) C dX7_when_35 rfl ?_
    refine g_getr (pc := 36) C fX7_7 rfl hM.1 dX7_when_36 rfl (hM.2 2 rfl).1 ?_
    refine g_iload_n (pc := 39) C dX7_when_39 rfl ?_
    refine g_ialdN (pc := 40) C rfl (hM.2 2 rfl).2 (by omega) (by decide) dX7_when_40 ?_
    refine g_eqi (nI (lc i)) (hI.2.2.2 i (by omega)).1 ?_
    refine g_icmp_ge (pc := 41) C 87 dX7_when_41 (by decide) (fun _ => ?_) (fun h41 => absurd ((nI_leI (a := lc i) (b := lc i) (by omega) (by omega)).mpr (by omega)) h41)
    exact K
  | succ n ih =>
    intro w hw
    have hM := hI.1
    have hmc := hI.2.2.1
    have hlc := (hI.2.2.2 i (by omega)).2
    refine g_iload (pc := 33) C dX7_when_33 rfl ?_
    refine g_aload_n (pc := 35) C dX7_when_35 rfl ?_
    refine g_getr (pc := 36) C fX7_7 rfl hM.1 dX7_when_36 rfl (hM.2 2 rfl).1 ?_
    refine g_iload_n (pc := 39) C dX7_when_39 rfl ?_
    refine g_ialdN (pc := 40) C rfl (hM.2 2 rfl).2 (by omega) (by decide) dX7_when_40 ?_
    refine g_eqi (nI (lc i)) (hI.2.2.2 i (by omega)).1 ?_
    refine g_icmp_ge (pc := 41) C 87 dX7_when_41 (by decide) (fun h41 => absurd h41 (fun q => absurd ((nI_leI (a := lc i) (b := w) (by omega) (by omega)).mp q) (by omega))) (fun _ => ?_)
    refine g_iload (pc := 44) C dX7_when_44 rfl ?_
    refine g_aload_n (pc := 46) C dX7_when_46 rfl ?_
    refine g_getr (pc := 47) C fX7_35 rfl hM.1 dX7_when_47 rfl (hM.2 10 rfl).1 ?_
    refine g_bipush (pc := 50) C 8 dX7_when_50 (by decide) ?_
    refine g_iload_n (pc := 52) C dX7_when_52 rfl ?_
    refine g_imul (pc := 53) C dX7_when_53 ?_
    refine g_eqi (nI (8 * i)) (pk_mul 8 i) ?_
    refine g_iload (pc := 54) C dX7_when_54 rfl ?_
    refine g_iadd (pc := 56) C dX7_when_56 ?_
    refine g_eqi (nI ((8 * i) + w)) (nI_add (8 * i) w) ?_
    refine g_ialdN (pc := 57) C rfl (hM.2 10 rfl).2 (by omega) (by decide) dX7_when_57 ?_
    refine g_iload_n (pc := 58) C dX7_when_58 rfl ?_
    refine g_icmp_ne (pc := 59) C 77 dX7_when_59 (by decide) (fun h59 => ?_) (fun h59 => ?_)
    ·
      refine g_iconst (pc := 77) C 0 dX7_when_77 (by decide) ?_
      refine g_iadd (pc := 78) C dX7_when_78 ?_
      refine g_istore (pc := 79) C dX7_when_79 (by decide) ?_
      refine g_iincN (pc := 81) C 1 dX7_when_81 rfl (by decide) (by decide) ?_
      refine g_goto (pc := 84) C 33 dX7_when_84 (by decide) ?_
      exact g_subR (ih (w + 1) (by omega)) ⟨rfl, rfl, rfl, by show some (vi _) = some (vi _); simp only [stM]; rw [if_neg h59], rfl, trivial⟩
    ·
      refine g_aload_n (pc := 62) C dX7_when_62 rfl ?_
      refine g_getr (pc := 63) C fX7_44 rfl hM.1 dX7_when_63 rfl (hM.2 13 rfl).1 ?_
      refine g_bipush (pc := 66) C 8 dX7_when_66 (by decide) ?_
      refine g_iload_n (pc := 68) C dX7_when_68 rfl ?_
      refine g_imul (pc := 69) C dX7_when_69 ?_
      refine g_eqi (nI (8 * i)) (pk_mul 8 i) ?_
      refine g_iload (pc := 70) C dX7_when_70 rfl ?_
      refine g_iadd (pc := 72) C dX7_when_72 ?_
      refine g_eqi (nI ((8 * i) + w)) (nI_add (8 * i) w) ?_
      refine g_ialdN (pc := 73) C rfl (hM.2 13 rfl).2 (by omega) (by decide) dX7_when_73 ?_
      refine g_goto (pc := 74) C 78 dX7_when_74 (by decide) ?_
      refine g_iadd (pc := 78) C dX7_when_78 ?_
      refine g_istore (pc := 79) C dX7_when_79 (by decide) ?_
      refine g_iincN (pc := 81) C 1 dX7_when_81 rfl (by decide) (by decide) ?_
      refine g_goto (pc := 84) C 33 dX7_when_84 (by decide) ?_
      exact g_subR (ih (w + 1) (by omega)) ⟨rfl, rfl, rfl, by show some (vi _) = some (vi _); simp only [stM]; rw [if_pos h59], rfl, trivial⟩
set_option maxHeartbeats 4000000 in
set_option maxRecDepth 100000 in
theorem lp_when2 {X : Xt} {Y : Yt} {P : Option AV → Mm → Prop} {nm : String} (C : Cx X Y cX7_when 7 RX7) (B : Bx X Y nm (some .int) 3 0 0 P) {S : Mm} {i h mc g : Nat} {lc : Nat → Nat} (hI : IM S mc lc) (hi : i < mc) (hg : g < 16) {all : Int32} (hh : S.1 (2, 0, 0) 0 = nI h) (hh0 : h ≤ 3000) : ∀ (f c : Nat) (s : Int32), 1 ≤ c → c + f = 241 → P (some (vi (whM S i g h all f c s))) S → G X Y 0 0 S 100 [(0, vr (2, 0, 0)), (1, vi (nI i)), (3, vi (nI g)), (4, vi (all)), (5, vi (s)), (6, vi (nI c))] [] := by
  have hM := hI.1
  have hmc := hI.2.2.1
  intro f
  induction f with
  | zero =>
    intro c s hc1 hc hP0
    have e : 241 = c := by omega
    subst e
    refine g_iload (pc := 100) C dX7_when_100 rfl ?_
    refine g_sipush (pc := 102) C 240 dX7_when_102 (by decide) ?_
    refine g_icmp_gt (pc := 105) C 148 dX7_when_105 (by decide) (fun _ => ?_) (fun h105 => absurd ((nI_ltI (a := 240) (b := 241) (by omega) (by omega)).mpr (by omega)) h105)
    refine g_bipush (pc := 148) C (-9) dX7_when_148 (by decide) ?_
    exact g_iret (pc := 150) C B rfl dX7_when_150 (hP0)
  | succ f ih =>
    intro c s hc1 hc hP0
    refine g_iload (pc := 100) C dX7_when_100 rfl ?_
    refine g_sipush (pc := 102) C 240 dX7_when_102 (by decide) ?_
    refine g_icmp_gt (pc := 105) C 148 dX7_when_105 (by decide) (fun h105 => absurd h105 (fun q => absurd ((nI_ltI (a := 240) (b := c) (by omega) (by omega)).mp q) (by omega))) (fun _ => ?_)
    refine g_iload (pc := 108) C dX7_when_108 rfl ?_
    refine g_aload_n (pc := 110) C dX7_when_110 rfl ?_
    refine g_iload_n (pc := 111) C dX7_when_111 rfl ?_
    refine g_iload_n (pc := 112) C dX7_when_112 rfl ?_
    refine g_aload_n (pc := 113) C dX7_when_113 rfl ?_
    refine g_geti (pc := 114) C fX7_153 rfl hM.1 dX7_when_114 rfl ?_
    refine g_eqi (nI h) hh ?_
    refine g_iload (pc := 117) C dX7_when_117 rfl ?_
    refine g_iadd (pc := 119) C dX7_when_119 ?_
    refine g_eqi (nI (h + c)) (nI_add h c) ?_
    refine g_iconst (pc := 120) C 1 dX7_when_120 (by decide) ?_
    refine g_isub (pc := 121) C dX7_when_121 ?_
    refine g_eqi (nI (h + c - 1)) (pk_sub (a := h + c) (b := 1) (by omega)) ?_
    refine g_callV (pc := 122) C B mX7_159 (c_X7_rate _ _ _ _ _ mc lc hI i hi g hg (h + c - 1) (by omega)) rfl rfl rfl rfl hM.1 (by decide) ⟨Nat.le_refl _, Nat.le_refl _⟩ (Nat.le_of_ble_eq_true rfl) dX7_when_122 (fun r S' hP => ?_)
    rw [hP.1, hP.2]
    refine g_iadd (pc := 125) C dX7_when_125 ?_
    refine g_istore (pc := 126) C dX7_when_126 (by decide) ?_
    refine g_iload (pc := 128) C dX7_when_128 rfl ?_
    refine g_sipush (pc := 130) C 1000 dX7_when_130 (by decide) ?_
    refine g_iload (pc := 133) C dX7_when_133 rfl ?_
    refine g_imul (pc := 135) C dX7_when_135 ?_
    refine g_icmp_lt (pc := 136) C 142 dX7_when_136 (by decide) (fun h136 => ?_) (fun h136 => ?_)
    ·
      refine g_iincN (pc := 142) C 1 dX7_when_142 rfl (by decide) (by decide) ?_
      refine g_goto (pc := 145) C 100 dX7_when_145 (by decide) ?_
      refine g_subR (ih (c + 1) (s + v_X7_rate S i g (h + c - 1)) (by omega) (by omega) (by rw [whM, if_pos h136] at hP0; exact hP0)) ⟨rfl, rfl, rfl, rfl, rfl, rfl, trivial⟩
    ·
      refine g_iload (pc := 139) C dX7_when_139 rfl ?_
      exact g_iret (pc := 141) C B rfl dX7_when_141 (by rw [whM, if_neg h136] at hP0; exact hP0)
def v_X7_when (S : Mm) (lc : Nat → Nat) (i g h : Nat) : Int32 := if (stM S i (nI g) (lc i)) = 0 then 0 else whM S i g h (stM S i (nI g) (lc i)) 240 1 0
set_option maxHeartbeats 4000000 in
set_option maxRecDepth 100000 in
/-- when(i, j) -/
theorem c_X7_when (l : Launch) (E : En) (base aw : Nat) (S : Mm) (mc : Nat) (lc : Nat → Nat) (hI : IM S mc lc) (i : Nat) (hi : i < mc) (j : Nat) (hj : j < lc i) (g : Nat) (hgd : S.1 (2, 0, 10) (8 * i + j) = nI g) (hg : g < 16) (h : Nat) (hh : S.1 (2, 0, 0) 0 = nI h) (hh0 : h ≤ 3000) : Cn l E base aw yX7_when cX7_when 7 (some Jvm.ClassFile.FieldType.int) 3 0 0 noF S [vr (2, 0, 0), vi (nI i), vi (nI j)] (fun r S' => r = some (vi (v_X7_when S lc i g h)) ∧ S' = S) := by
  have hM := hI.1
  have hmc := hI.2.2.1
  have hlc := (hI.2.2.2 i (by omega)).2
  refine Cn.of (by decide) (Nat.le_of_ble_eq_true rfl) ?_
  intro X Y hl hE hbase haw hfr C B
  subst hl; subst hE; subst hbase; subst haw
  refine g_aload_n (pc := 0) C dX7_when_0 rfl ?_
  refine g_iload_n (pc := 1) C dX7_when_1 rfl ?_
  refine g_iload_n (pc := 2) C dX7_when_2 rfl ?_
  refine g_callV (pc := 3) C B mX7_123 (c_isL_t _ _ _ _ _ mc lc hI i hi j hj) rfl rfl rfl rfl hM.1 (by decide) ⟨Nat.le_refl _, Nat.le_refl _⟩ (Nat.le_of_ble_eq_true rfl) dX7_when_3 (fun r S' hP => ?_)
  rw [hP.1, hP.2]
  refine g_if_ne (pc := 6) C 15 dX7_when_6 (by decide) (fun _ => ?_) (fun h6 => absurd h6 (by decide))
  refine g_aload_n (pc := 15) C dX7_when_15 rfl ?_
  refine g_getr (pc := 16) C fX7_35 rfl hM.1 dX7_when_16 rfl (hM.2 10 rfl).1 ?_
  refine g_bipush (pc := 19) C 8 dX7_when_19 (by decide) ?_
  refine g_iload_n (pc := 21) C dX7_when_21 rfl ?_
  refine g_imul (pc := 22) C dX7_when_22 ?_
  refine g_eqi (nI (8 * i)) (pk_mul 8 i) ?_
  refine g_iload_n (pc := 23) C dX7_when_23 rfl ?_
  refine g_iadd (pc := 24) C dX7_when_24 ?_
  refine g_eqi (nI ((8 * i) + j)) (nI_add (8 * i) j) ?_
  refine g_ialdN (pc := 25) C rfl (hM.2 10 rfl).2 (by omega) (by decide) dX7_when_25 ?_
  refine g_eqi (nI g) hgd ?_
  refine g_istore_n (pc := 26) C dX7_when_26 (by decide) ?_
  refine g_iconst (pc := 27) C 0 dX7_when_27 (by decide) ?_
  refine g_istore (pc := 28) C dX7_when_28 (by decide) ?_
  refine g_iconst (pc := 30) C 0 dX7_when_30 (by decide) ?_
  refine g_istore (pc := 31) C dX7_when_31 (by decide) ?_
  refine g_subR (lp_when1 C B hI hi hg ?_ (lc i) 0 (by omega)) ⟨rfl, rfl, rfl, rfl, rfl, trivial⟩
  refine g_iload (pc := 87) C dX7_when_87 rfl ?_
  refine g_if_ne (pc := 89) C 94 dX7_when_89 (by decide) (fun h89 => ?_) (fun h89 => ?_)
  ·
    refine g_iconst (pc := 94) C 0 dX7_when_94 (by decide) ?_
    refine g_istore (pc := 95) C dX7_when_95 (by decide) ?_
    refine g_iconst (pc := 97) C 1 dX7_when_97 (by decide) ?_
    refine g_istore (pc := 98) C dX7_when_98 (by decide) ?_
    exact g_subR (lp_when2 C B hI hi hg hh hh0 240 1 0 (by decide) rfl (⟨by show some (vi _) = some (vi _); unfold v_X7_when; rw [if_neg h89], rfl⟩)) ⟨rfl, rfl, rfl, rfl, rfl, rfl, trivial⟩
  ·
    refine g_iconst (pc := 92) C 0 dX7_when_92 (by decide) ?_
    exact g_iret (pc := 93) C B rfl dX7_when_93 (⟨by show some (vi _) = some (vi (v_X7_when S lc i g h)); unfold v_X7_when; rw [if_pos h89], rfl⟩)

set_option maxHeartbeats 4000000 in
set_option maxRecDepth 100000 in
theorem lp_po1 {X : Xt} {Y : Yt} {P : Option AV → Mm → Prop} {nm : String}  (C : Cx X Y cX7_passOne 5 RX7) (B : Bx X Y nm (none) 3 0 0 P) {S : Mm} {mc : Nat} {lc : Nat → Nat} (hI : IM S mc lc) {i g : Nat} (hi : i < mc) (hg : g < 16) (K : G X Y 0 0 S 76 [(0, vr (2, 0, 0)), (1, vi (nI i)), (2, vi (nI g)), (3, vi (isM S i g (lc i))), (4, vi (nI (lc i)))] []) : ∀ n w, w + n = lc i → G X Y 0 0 S 23 [(0, vr (2, 0, 0)), (1, vi (nI i)), (2, vi (nI g)), (3, vi (isM S i g w)), (4, vi (nI w))] [] := by
  intro n
  induction n with
  | zero =>
    intro w hw
    have e : lc i = w := by omega
    subst e
    have hM := hI.1
    have hmc := hI.2.2.1
    have hlc := (hI.2.2.2 i (by omega)).2
    refine g_iload (pc := 23) C dX7_passOne_23 rfl ?_
    refine g_aload_n (pc := 25) C dX7_passOne_25 rfl ?_
    refine g_getr (pc := 26) C fX7_7 rfl hM.1 dX7_passOne_26 rfl (hM.2 2 rfl).1 ?_
    refine g_iload_n (pc := 29) C dX7_passOne_29 rfl ?_
    refine g_ialdN (pc := 30) C rfl (hM.2 2 rfl).2 (by omega) (by decide) dX7_passOne_30 ?_
    refine g_eqi (nI (lc i)) (hI.2.2.2 i (by omega)).1 ?_
    refine g_icmp_ge (pc := 31) C 76 dX7_passOne_31 (by decide) (fun _ => ?_) (fun h31 => absurd ((nI_leI (a := lc i) (b := lc i) (by omega) (by omega)).mpr (by omega)) h31)
    exact K
  | succ n ih =>
    intro w hw
    have hM := hI.1
    have hmc := hI.2.2.1
    have hlc := (hI.2.2.2 i (by omega)).2
    refine g_iload (pc := 23) C dX7_passOne_23 rfl ?_
    refine g_aload_n (pc := 25) C dX7_passOne_25 rfl ?_
    refine g_getr (pc := 26) C fX7_7 rfl hM.1 dX7_passOne_26 rfl (hM.2 2 rfl).1 ?_
    refine g_iload_n (pc := 29) C dX7_passOne_29 rfl ?_
    refine g_ialdN (pc := 30) C rfl (hM.2 2 rfl).2 (by omega) (by decide) dX7_passOne_30 ?_
    refine g_eqi (nI (lc i)) (hI.2.2.2 i (by omega)).1 ?_
    refine g_icmp_ge (pc := 31) C 76 dX7_passOne_31 (by decide) (fun h31 => absurd h31 (fun q => absurd ((nI_leI (a := lc i) (b := w) (by omega) (by omega)).mp q) (by omega))) (fun _ => ?_)
    refine g_iload_n (pc := 34) C dX7_passOne_34 rfl ?_
    refine g_if_ne (pc := 35) C 64 dX7_passOne_35 (by decide) (fun h35 => ?_) (fun h35 => ?_)
    ·
      refine g_iconst (pc := 64) C 1 dX7_passOne_64 (by decide) ?_
      refine g_goto (pc := 65) C 69 dX7_passOne_65 (by decide) ?_
      refine g_istore_n (pc := 69) C dX7_passOne_69 (by decide) ?_
      refine g_iincN (pc := 70) C 1 dX7_passOne_70 rfl (by decide) (by decide) ?_
      refine g_goto (pc := 73) C 23 dX7_passOne_73 (by decide) ?_
      exact g_subR (ih (w + 1) (by omega)) ⟨rfl, rfl, rfl, by show some (vi 1) = some (vi _); simp only [isM]; rw [if_neg h35], rfl, trivial⟩
    ·
      refine g_aload_n (pc := 38) C dX7_passOne_38 rfl ?_
      refine g_getr (pc := 39) C fX7_35 rfl hM.1 dX7_passOne_39 rfl (hM.2 10 rfl).1 ?_
      refine g_bipush (pc := 42) C 8 dX7_passOne_42 (by decide) ?_
      refine g_iload_n (pc := 44) C dX7_passOne_44 rfl ?_
      refine g_imul (pc := 45) C dX7_passOne_45 ?_
      refine g_eqi (nI (8 * i)) (pk_mul 8 i) ?_
      refine g_iload (pc := 46) C dX7_passOne_46 rfl ?_
      refine g_iadd (pc := 48) C dX7_passOne_48 ?_
      refine g_eqi (nI ((8 * i) + w)) (nI_add (8 * i) w) ?_
      refine g_ialdN (pc := 49) C rfl (hM.2 10 rfl).2 (by omega) (by decide) dX7_passOne_49 ?_
      refine g_iload_n (pc := 50) C dX7_passOne_50 rfl ?_
      refine g_icmp_ne (pc := 51) C 68 dX7_passOne_51 (by decide) (fun h51 => ?_) (fun h51 => ?_)
      ·
        refine g_iconst (pc := 68) C 0 dX7_passOne_68 (by decide) ?_
        refine g_istore_n (pc := 69) C dX7_passOne_69 (by decide) ?_
        refine g_iincN (pc := 70) C 1 dX7_passOne_70 rfl (by decide) (by decide) ?_
        refine g_goto (pc := 73) C 23 dX7_passOne_73 (by decide) ?_
        exact g_subR (ih (w + 1) (by omega)) ⟨rfl, rfl, rfl, by show some (vi 0) = some (vi _); simp only [isM]; rw [if_pos h35, if_neg h51], rfl, trivial⟩
      ·
        refine g_aload_n (pc := 54) C dX7_passOne_54 rfl ?_
        refine g_iload_n (pc := 55) C dX7_passOne_55 rfl ?_
        refine g_iload (pc := 56) C dX7_passOne_56 rfl ?_
        refine g_callV (pc := 58) C B mX7_147 (c_X7_sells _ _ _ _ _ mc lc hI i hi w (by omega)) rfl rfl rfl rfl hM.1 (by decide) ⟨Nat.le_refl _, Nat.le_refl _⟩ (Nat.le_of_ble_eq_true rfl) dX7_passOne_58 (fun r S' hP => ?_)
        rw [hP.1, hP.2]
        refine g_if_eq (pc := 61) C 68 dX7_passOne_61 (by decide) (fun h61 => ?_) (fun h61 => ?_)
        ·
          refine g_iconst (pc := 68) C 0 dX7_passOne_68 (by decide) ?_
          refine g_istore_n (pc := 69) C dX7_passOne_69 (by decide) ?_
          refine g_iincN (pc := 70) C 1 dX7_passOne_70 rfl (by decide) (by decide) ?_
          refine g_goto (pc := 73) C 23 dX7_passOne_73 (by decide) ?_
          exact g_subR (ih (w + 1) (by omega)) ⟨rfl, rfl, rfl, by show some (vi 0) = some (vi _); simp only [isM]; rw [if_pos h35, if_pos h51, if_pos h61], rfl, trivial⟩
        ·
          refine g_iconst (pc := 64) C 1 dX7_passOne_64 (by decide) ?_
          refine g_goto (pc := 65) C 69 dX7_passOne_65 (by decide) ?_
          refine g_istore_n (pc := 69) C dX7_passOne_69 (by decide) ?_
          refine g_iincN (pc := 70) C 1 dX7_passOne_70 rfl (by decide) (by decide) ?_
          refine g_goto (pc := 73) C 23 dX7_passOne_73 (by decide) ?_
          exact g_subR (ih (w + 1) (by omega)) ⟨rfl, rfl, rfl, by show some (vi 1) = some (vi _); simp only [isM]; rw [if_pos h35, if_pos h51, if_neg h61], rfl, trivial⟩
set_option maxHeartbeats 4000000 in
set_option maxRecDepth 100000 in
theorem lp_po2 {X : Xt} {Y : Yt} {P : Option AV → Mm → Prop} {nm : String}  (C : Cx X Y cX7_passOne 5 RX7) (B : Bx X Y nm (none) 3 0 0 P) {S : Mm} {mc : Nat} {lc : Nat → Nat} (hI0 : IM S mc lc) {i h : Nat} (hi : i < mc) (hh1 : S.1 (2, 0, 0) 0 = nI h) (hh0 : h < 2 ^ 30) (K : G X Y 0 0 (thG S lc i (h % 24) 16) 117 [(0, vr (2, 0, 0)), (1, vi (nI i)), (2, vi (nI 16))] []) : ∀ n w, w + n = 16 → G X Y 0 0 (thG S lc i (h % 24) w) 12 [(0, vr (2, 0, 0)), (1, vi (nI i)), (2, vi (nI w))] [] := by
  intro n
  induction n with
  | zero =>
    intro w hw
    have e : 16 = w := by omega
    subst e
    have hI : IM (thG S lc i (h % 24) 16) mc lc := thG_I i (h % 24) 16 hI0
    have hM := hI.1
    have hmc := hI.2.2.1
    have hlc := (hI.2.2.2 i (by omega)).2
    have hh : (thG S lc i (h % 24) 16).1 (2, 0, 0) 0 = nI h := ((thG_but S lc i (h % 24) 16).2 _ _ (fun q => by cases q)).trans hh1
    refine g_iload_n (pc := 12) C dX7_passOne_12 rfl ?_
    refine g_bipush (pc := 13) C 16 dX7_passOne_13 (by decide) ?_
    refine g_icmp_ge (pc := 15) C 117 dX7_passOne_15 (by decide) (fun _ => ?_) (fun h15 => absurd ((nI_leI (a := 16) (b := 16) (by omega) (by omega)).mpr (by omega)) h15)
    exact K
  | succ n ih =>
    intro w hw
    have hI : IM (thG S lc i (h % 24) w) mc lc := thG_I i (h % 24) w hI0
    have hM := hI.1
    have hmc := hI.2.2.1
    have hlc := (hI.2.2.2 i (by omega)).2
    have hh : (thG S lc i (h % 24) w).1 (2, 0, 0) 0 = nI h := ((thG_but S lc i (h % 24) w).2 _ _ (fun q => by cases q)).trans hh1
    refine g_iload_n (pc := 12) C dX7_passOne_12 rfl ?_
    refine g_bipush (pc := 13) C 16 dX7_passOne_13 (by decide) ?_
    refine g_icmp_ge (pc := 15) C 117 dX7_passOne_15 (by decide) (fun h15 => absurd h15 (fun q => absurd ((nI_leI (a := 16) (b := w) (by omega) (by omega)).mp q) (by omega))) (fun _ => ?_)
    refine g_iconst (pc := 18) C 0 dX7_passOne_18 (by decide) ?_
    refine g_istore_n (pc := 19) C dX7_passOne_19 (by decide) ?_
    refine g_iconst (pc := 20) C 0 dX7_passOne_20 (by decide) ?_
    refine g_istore (pc := 21) C dX7_passOne_21 (by decide) ?_
    refine g_subR (lp_po1 C B hI hi (by omega) ?_ (lc i) 0 (by omega)) ⟨rfl, rfl, rfl, rfl, rfl, trivial⟩
    refine g_aload_n (pc := 76) C dX7_passOne_76 rfl ?_
    refine g_getr (pc := 77) C fX7_71 rfl hM.1 dX7_passOne_77 rfl (hM.2 22 rfl).1 ?_
    refine g_sipush (pc := 80) C 384 dX7_passOne_80 (by decide) ?_
    refine g_iload_n (pc := 83) C dX7_passOne_83 rfl ?_
    refine g_imul (pc := 84) C dX7_passOne_84 ?_
    refine g_eqi (nI (384 * i)) (pk_mul 384 i) ?_
    refine g_bipush (pc := 85) C 24 dX7_passOne_85 (by decide) ?_
    refine g_iload_n (pc := 87) C dX7_passOne_87 rfl ?_
    refine g_imul (pc := 88) C dX7_passOne_88 ?_
    refine g_eqi (nI (24 * w)) (pk_mul 24 w) ?_
    refine g_iadd (pc := 89) C dX7_passOne_89 ?_
    refine g_eqi (nI ((384 * i) + (24 * w))) (nI_add (384 * i) (24 * w)) ?_
    refine g_aload_n (pc := 90) C dX7_passOne_90 rfl ?_
    refine g_geti (pc := 91) C fX7_153 rfl hM.1 dX7_passOne_91 rfl ?_
    refine g_eqi (nI h) hh ?_
    refine g_bipush (pc := 94) C 24 dX7_passOne_94 (by decide) ?_
    refine g_irem (pc := 96) C dX7_passOne_96 (by decide) ?_
    refine g_eqi (nI (h % 24)) (pk_rem (a := h) (d := 24) (by omega) (by decide) (by decide)) ?_
    refine g_iadd (pc := 97) C dX7_passOne_97 ?_
    refine g_eqi (nI (((384 * i) + (24 * w)) + (h % 24))) (nI_add ((384 * i) + (24 * w)) (h % 24)) ?_
    refine g_dup2 (pc := 98) C dX7_passOne_98 ?_
    refine g_ialdN (pc := 99) C rfl (hM.2 22 rfl).2 (by omega) (by decide) dX7_passOne_99 ?_
    refine g_iload_n (pc := 100) C dX7_passOne_100 rfl ?_
    refine g_if_eq (pc := 101) C 108 dX7_passOne_101 (by decide) (fun h101 => ?_) (fun h101 => ?_)
    ·
      refine g_iconst (pc := 108) C 0 dX7_passOne_108 (by decide) ?_
      refine g_iadd (pc := 109) C dX7_passOne_109 ?_
      refine g_iastN (pc := 110) C rfl (hM.2 22 rfl).2 (by omega) (by decide) dX7_passOne_110 ?_
      refine g_iincN (pc := 111) C 1 dX7_passOne_111 rfl (by decide) (by decide) ?_
      refine g_goto (pc := 114) C 12 dX7_passOne_114 (by decide) ?_
      refine g_eqS (S' := thG S lc i (h % 24) ((w + 1))) (by simp only [thG]; rw [if_pos h101]) ?_
      exact g_subR (ih (w + 1) (by omega)) ⟨rfl, rfl, rfl, trivial⟩
    ·
      refine g_iconst (pc := 104) C 1 dX7_passOne_104 (by decide) ?_
      refine g_goto (pc := 105) C 109 dX7_passOne_105 (by decide) ?_
      refine g_iadd (pc := 109) C dX7_passOne_109 ?_
      refine g_iastN (pc := 110) C rfl (hM.2 22 rfl).2 (by omega) (by decide) dX7_passOne_110 ?_
      refine g_iincN (pc := 111) C 1 dX7_passOne_111 rfl (by decide) (by decide) ?_
      refine g_goto (pc := 114) C 12 dX7_passOne_114 (by decide) ?_
      refine g_eqS (S' := thG S lc i (h % 24) ((w + 1))) (by simp only [thG]; rw [if_neg h101]) ?_
      exact g_subR (ih (w + 1) (by omega)) ⟨rfl, rfl, rfl, trivial⟩
set_option maxHeartbeats 4000000 in
set_option maxRecDepth 100000 in
theorem lp_po3 {X : Xt} {Y : Yt} {P : Option AV → Mm → Prop} {nm : String}  (C : Cx X Y cX7_passOne 5 RX7) (B : Bx X Y nm (none) 3 0 0 P) {S : Mm} {mc : Nat} {lc : Nat → Nat} (hI0 : IM S mc lc) {h : Nat} (hh1 : S.1 (2, 0, 0) 0 = nI h) (hh0 : h < 2 ^ 30) (K : G X Y 0 0 (thM S lc (h % 24) mc) 123 [(0, vr (2, 0, 0)), (1, vi (nI mc))] []) : ∀ n w, w + n = mc → G X Y 0 0 (thM S lc (h % 24) w) 2 [(0, vr (2, 0, 0)), (1, vi (nI w))] [] := by
  intro n
  induction n with
  | zero =>
    intro w hw
    have e : mc = w := by omega
    subst e
    have hI : IM (thM S lc (h % 24) mc) mc lc := thM_I (h % 24) mc hI0
    have hM := hI.1
    have hmc := hI.2.2.1
    have hh : (thM S lc (h % 24) mc).1 (2, 0, 0) 0 = nI h := ((thM_but S lc (h % 24) mc).2 _ _ (fun q => by cases q)).trans hh1
    refine g_iload_n (pc := 2) C dX7_passOne_2 rfl ?_
    refine g_aload_n (pc := 3) C dX7_passOne_3 rfl ?_
    refine g_geti (pc := 4) C fX7_104 rfl hM.1 dX7_passOne_4 rfl ?_
    refine g_eqi (nI mc) hI.2.1 ?_
    refine g_icmp_ge (pc := 7) C 123 dX7_passOne_7 (by decide) (fun _ => ?_) (fun h7 => absurd ((nI_leI (a := mc) (b := mc) (by omega) (by omega)).mpr (by omega)) h7)
    exact K
  | succ n ih =>
    intro w hw
    have hI : IM (thM S lc (h % 24) w) mc lc := thM_I (h % 24) w hI0
    have hM := hI.1
    have hmc := hI.2.2.1
    have hh : (thM S lc (h % 24) w).1 (2, 0, 0) 0 = nI h := ((thM_but S lc (h % 24) w).2 _ _ (fun q => by cases q)).trans hh1
    refine g_iload_n (pc := 2) C dX7_passOne_2 rfl ?_
    refine g_aload_n (pc := 3) C dX7_passOne_3 rfl ?_
    refine g_geti (pc := 4) C fX7_104 rfl hM.1 dX7_passOne_4 rfl ?_
    refine g_eqi (nI mc) hI.2.1 ?_
    refine g_icmp_ge (pc := 7) C 123 dX7_passOne_7 (by decide) (fun h7 => absurd h7 (fun q => absurd ((nI_leI (a := mc) (b := w) (by omega) (by omega)).mp q) (by omega))) (fun _ => ?_)
    refine g_iconst (pc := 10) C 0 dX7_passOne_10 (by decide) ?_
    refine g_istore_n (pc := 11) C dX7_passOne_11 (by decide) ?_
    refine g_subR (lp_po2 C B hI (by omega) hh hh0 ?_ 16 0 rfl) ⟨rfl, rfl, rfl, trivial⟩
    refine g_iincN (pc := 117) C 1 dX7_passOne_117 rfl (by decide) (by decide) ?_
    refine g_goto (pc := 120) C 2 dX7_passOne_120 (by decide) ?_
    exact g_subR (ih (w + 1) (by omega)) ⟨rfl, rfl, trivial⟩
set_option maxHeartbeats 4000000 in
set_option maxRecDepth 100000 in
theorem lp_po4 {X : Xt} {Y : Yt} {P : Option AV → Mm → Prop} {nm : String}  (C : Cx X Y cX7_passOne 5 RX7) (B : Bx X Y nm (none) 3 0 0 P) {S : Mm} {mc : Nat} {lc : Nat → Nat} (hI0 : IM S mc lc) {i : Nat} (hi : i < mc) (K : G X Y 0 0 (pwL S i (lc i)) 242 [(0, vr (2, 0, 0)), (1, vi (nI i)), (2, vi (nI (8 * i + lc i)))] []) : ∀ n w, w + n = lc i → G X Y 0 0 (pwL S i w) 171 [(0, vr (2, 0, 0)), (1, vi (nI i)), (2, vi (nI (8 * i + w)))] [] := by
  intro n
  induction n with
  | zero =>
    intro w hw
    have e : lc i = w := by omega
    subst e
    have hI : IM (pwL S i (lc i)) mc lc := pwL_I i (lc i) hI0
    have hM := hI.1
    have hmc := hI.2.2.1
    have hlc := (hI.2.2.2 i (by omega)).2
    refine g_iload_n (pc := 171) C dX7_passOne_171 rfl ?_
    refine g_bipush (pc := 172) C 8 dX7_passOne_172 (by decide) ?_
    refine g_iload_n (pc := 174) C dX7_passOne_174 rfl ?_
    refine g_imul (pc := 175) C dX7_passOne_175 ?_
    refine g_eqi (nI (8 * i)) (pk_mul 8 i) ?_
    refine g_aload_n (pc := 176) C dX7_passOne_176 rfl ?_
    refine g_getr (pc := 177) C fX7_7 rfl hM.1 dX7_passOne_177 rfl (hM.2 2 rfl).1 ?_
    refine g_iload_n (pc := 180) C dX7_passOne_180 rfl ?_
    refine g_ialdN (pc := 181) C rfl (hM.2 2 rfl).2 (by omega) (by decide) dX7_passOne_181 ?_
    refine g_eqi (nI (lc i)) (hI.2.2.2 i (by omega)).1 ?_
    refine g_iadd (pc := 182) C dX7_passOne_182 ?_
    refine g_eqi (nI ((8 * i) + (lc i))) (nI_add (8 * i) (lc i)) ?_
    refine g_icmp_ge (pc := 183) C 242 dX7_passOne_183 (by decide) (fun _ => ?_) (fun h183 => absurd ((nI_leI (a := 8 * i + lc i) (b := 8 * i + lc i) (by omega) (by omega)).mpr (by omega)) h183)
    exact K
  | succ n ih =>
    intro w hw
    have hI : IM (pwL S i (w)) mc lc := pwL_I i (w) hI0
    have hM := hI.1
    have hmc := hI.2.2.1
    have hlc := (hI.2.2.2 i (by omega)).2
    refine g_iload_n (pc := 171) C dX7_passOne_171 rfl ?_
    refine g_bipush (pc := 172) C 8 dX7_passOne_172 (by decide) ?_
    refine g_iload_n (pc := 174) C dX7_passOne_174 rfl ?_
    refine g_imul (pc := 175) C dX7_passOne_175 ?_
    refine g_eqi (nI (8 * i)) (pk_mul 8 i) ?_
    refine g_aload_n (pc := 176) C dX7_passOne_176 rfl ?_
    refine g_getr (pc := 177) C fX7_7 rfl hM.1 dX7_passOne_177 rfl (hM.2 2 rfl).1 ?_
    refine g_iload_n (pc := 180) C dX7_passOne_180 rfl ?_
    refine g_ialdN (pc := 181) C rfl (hM.2 2 rfl).2 (by omega) (by decide) dX7_passOne_181 ?_
    refine g_eqi (nI (lc i)) (hI.2.2.2 i (by omega)).1 ?_
    refine g_iadd (pc := 182) C dX7_passOne_182 ?_
    refine g_eqi (nI ((8 * i) + (lc i))) (nI_add (8 * i) (lc i)) ?_
    refine g_icmp_ge (pc := 183) C 242 dX7_passOne_183 (by decide) (fun h183 => absurd h183 (fun q => absurd ((nI_leI (a := 8 * i + lc i) (b := 8 * i + w) (by omega) (by omega)).mp q) (by omega))) (fun _ => ?_)
    refine g_aload_n (pc := 186) C dX7_passOne_186 rfl ?_
    refine g_getr (pc := 187) C fX7_28 rfl hM.1 dX7_passOne_187 rfl (hM.2 8 rfl).1 ?_
    refine g_iload_n (pc := 190) C dX7_passOne_190 rfl ?_
    refine g_baldN (pc := 191) C rfl (hM.2 8 rfl).2 (by omega) (by decide) dX7_passOne_191 ?_
    refine g_eqi (S.1 (2, 0, 8) i) ((pwL_but S i w).2 _ _ (fun q => by cases q)) ?_
    refine g_if_eq (pc := 192) C 236 dX7_passOne_192 (by decide) (fun h192 => ?_) (fun h192 => ?_)
    ·
      refine g_iincN (pc := 236) C 1 dX7_passOne_236 rfl (by decide) (by decide) ?_
      refine g_goto (pc := 239) C 171 dX7_passOne_239 (by decide) ?_
      refine g_eqS (S' := pwL S i ((w + 1))) (by simp only [pwL]; rw [if_pos h192]) ?_
      exact g_subR (ih (w + 1) (by omega)) ⟨rfl, rfl, rfl, trivial⟩
    ·
      refine g_aload_n (pc := 195) C dX7_passOne_195 rfl ?_
      refine g_getr (pc := 196) C fX7_47 rfl hM.1 dX7_passOne_196 rfl (hM.2 14 rfl).1 ?_
      refine g_iload_n (pc := 199) C dX7_passOne_199 rfl ?_
      refine g_ialdN (pc := 200) C rfl (hM.2 14 rfl).2 (by omega) (by decide) dX7_passOne_200 ?_
      refine g_eqi (S.1 (2, 0, 14) (8 * i + w)) ((pwL_but S i w).2 _ _ (fun q => by cases q)) ?_
      refine g_iconst (pc := 201) C 2 dX7_passOne_201 (by decide) ?_
      refine g_icmp_ne (pc := 202) C 236 dX7_passOne_202 (by decide) (fun h202 => ?_) (fun h202 => ?_)
      ·
        refine g_iincN (pc := 236) C 1 dX7_passOne_236 rfl (by decide) (by decide) ?_
        refine g_goto (pc := 239) C 171 dX7_passOne_239 (by decide) ?_
        refine g_eqS (S' := pwL S i ((w + 1))) (by simp only [pwL]; rw [if_neg h192, if_neg h202]) ?_
        exact g_subR (ih (w + 1) (by omega)) ⟨rfl, rfl, rfl, trivial⟩
      ·
        refine g_aload_n (pc := 205) C dX7_passOne_205 rfl ?_
        refine g_getr (pc := 206) C fX7_32 rfl hM.1 dX7_passOne_206 rfl (hM.2 9 rfl).1 ?_
        refine g_iload_n (pc := 209) C dX7_passOne_209 rfl ?_
        refine g_ialdN (pc := 210) C rfl (hM.2 9 rfl).2 (by omega) (by decide) dX7_passOne_210 ?_
        refine g_eqi (S.1 (2, 0, 9) i) ((pwL_but S i w).2 _ _ (fun q => by cases q)) ?_
        refine g_aload_n (pc := 211) C dX7_passOne_211 rfl ?_
        refine g_getr (pc := 212) C fX7_50 rfl hM.1 dX7_passOne_212 rfl (hM.2 15 rfl).1 ?_
        refine g_iload_n (pc := 215) C dX7_passOne_215 rfl ?_
        refine g_ialdN (pc := 216) C rfl (hM.2 15 rfl).2 (by omega) (by decide) dX7_passOne_216 ?_
        refine g_eqi (S.1 (2, 0, 15) (8 * i + w)) ((pwL_but S i w).2 _ _ (fun q => by cases q)) ?_
        refine g_icmp_le (pc := 217) C 236 dX7_passOne_217 (by decide) (fun h217 => ?_) (fun h217 => ?_)
        ·
          refine g_iincN (pc := 236) C 1 dX7_passOne_236 rfl (by decide) (by decide) ?_
          refine g_goto (pc := 239) C 171 dX7_passOne_239 (by decide) ?_
          refine g_eqS (S' := pwL S i ((w + 1))) (by simp only [pwL]; rw [if_neg h192, if_pos h202, if_pos h217]) ?_
          exact g_subR (ih (w + 1) (by omega)) ⟨rfl, rfl, rfl, trivial⟩
        ·
          refine g_aload_n (pc := 220) C dX7_passOne_220 rfl ?_
          refine g_getr (pc := 221) C fX7_44 rfl hM.1 dX7_passOne_221 rfl (hM.2 13 rfl).1 ?_
          refine g_iload_n (pc := 224) C dX7_passOne_224 rfl ?_
          refine g_ialdN (pc := 225) C rfl (hM.2 13 rfl).2 (by omega) (by decide) dX7_passOne_225 ?_
          refine g_eqi (S.1 (2, 0, 13) (8 * i + w)) ((pwL_but S i w).2 _ _ (fun q => by cases q)) ?_
          refine g_if_le (pc := 226) C 236 dX7_passOne_226 (by decide) (fun h226 => ?_) (fun h226 => ?_)
          ·
            refine g_iincN (pc := 236) C 1 dX7_passOne_236 rfl (by decide) (by decide) ?_
            refine g_goto (pc := 239) C 171 dX7_passOne_239 (by decide) ?_
            refine g_eqS (S' := pwL S i ((w + 1))) (by simp only [pwL]; rw [if_neg h192, if_pos h202, if_neg h217, if_pos h226]) ?_
            exact g_subR (ih (w + 1) (by omega)) ⟨rfl, rfl, rfl, trivial⟩
          ·
            refine g_aload_n (pc := 229) C dX7_passOne_229 rfl ?_
            refine g_getr (pc := 230) C fX7_62 rfl hM.1 dX7_passOne_230 rfl (hM.2 19 rfl).1 ?_
            refine g_iload_n (pc := 233) C dX7_passOne_233 rfl ?_
            refine g_iconst (pc := 234) C 1 dX7_passOne_234 (by decide) ?_
            refine g_bastN (pc := 235) C rfl (hM.2 19 rfl).2 (by omega) (by decide) (Or.inr rfl) dX7_passOne_235 ?_
            refine g_iincN (pc := 236) C 1 dX7_passOne_236 rfl (by decide) (by decide) ?_
            refine g_goto (pc := 239) C 171 dX7_passOne_239 (by decide) ?_
            refine g_eqS (S' := pwL S i ((w + 1))) (by simp only [pwL]; rw [if_neg h192, if_pos h202, if_neg h217, if_neg h226]) ?_
            exact g_subR (ih (w + 1) (by omega)) ⟨rfl, rfl, rfl, trivial⟩
set_option maxHeartbeats 4000000 in
set_option maxRecDepth 100000 in
theorem lp_po5 {X : Xt} {Y : Yt} {P : Option AV → Mm → Prop} {nm : String}  (C : Cx X Y cX7_passOne 5 RX7) (B : Bx X Y nm (none) 3 0 0 P) {S : Mm} {mc : Nat} {lc : Nat → Nat} (hI0 : IM S mc lc) (K : G X Y 0 0 (pwM S lc mc) 248 [(0, vr (2, 0, 0)), (1, vi (nI mc))] []) : ∀ n w, w + n = mc → G X Y 0 0 (pwM S lc w) 135 [(0, vr (2, 0, 0)), (1, vi (nI w))] [] := by
  intro n
  induction n with
  | zero =>
    intro w hw
    have e : mc = w := by omega
    subst e
    have hI : IM (pwM S lc mc) mc lc := pwM_I mc hI0
    have hM := hI.1
    have hmc := hI.2.2.1
    refine g_iload_n (pc := 135) C dX7_passOne_135 rfl ?_
    refine g_aload_n (pc := 136) C dX7_passOne_136 rfl ?_
    refine g_geti (pc := 137) C fX7_104 rfl hM.1 dX7_passOne_137 rfl ?_
    refine g_eqi (nI mc) hI.2.1 ?_
    refine g_icmp_ge (pc := 140) C 248 dX7_passOne_140 (by decide) (fun _ => ?_) (fun h140 => absurd ((nI_leI (a := mc) (b := mc) (by omega) (by omega)).mpr (by omega)) h140)
    exact K
  | succ n ih =>
    intro w hw
    have hI : IM (pwM S lc w) mc lc := pwM_I w hI0
    have hM := hI.1
    have hmc := hI.2.2.1
    refine g_iload_n (pc := 135) C dX7_passOne_135 rfl ?_
    refine g_aload_n (pc := 136) C dX7_passOne_136 rfl ?_
    refine g_geti (pc := 137) C fX7_104 rfl hM.1 dX7_passOne_137 rfl ?_
    refine g_eqi (nI mc) hI.2.1 ?_
    refine g_icmp_ge (pc := 140) C 248 dX7_passOne_140 (by decide) (fun h140 => absurd h140 (fun q => absurd ((nI_leI (a := mc) (b := w) (by omega) (by omega)).mp q) (by omega))) (fun _ => ?_)
    refine g_aload_n (pc := 143) C dX7_passOne_143 rfl ?_
    refine g_getr (pc := 144) C fX7_32 rfl hM.1 dX7_passOne_144 rfl (hM.2 9 rfl).1 ?_
    refine g_iload_n (pc := 147) C dX7_passOne_147 rfl ?_
    refine g_dup2 (pc := 148) C dX7_passOne_148 ?_
    refine g_ialdN (pc := 149) C rfl (hM.2 9 rfl).2 (by omega) (by decide) dX7_passOne_149 ?_
    refine g_aload_n (pc := 150) C dX7_passOne_150 rfl ?_
    refine g_getr (pc := 151) C fX7_28 rfl hM.1 dX7_passOne_151 rfl (hM.2 8 rfl).1 ?_
    refine g_iload_n (pc := 154) C dX7_passOne_154 rfl ?_
    refine g_baldN (pc := 155) C rfl (hM.2 8 rfl).2 (by omega) (by decide) dX7_passOne_155 ?_
    refine g_if_eq (pc := 156) C 163 dX7_passOne_156 (by decide) (fun h156 => ?_) (fun h156 => ?_)
    ·
      refine g_iconst (pc := 163) C 0 dX7_passOne_163 (by decide) ?_
      refine g_iadd (pc := 164) C dX7_passOne_164 ?_
      refine g_iastN (pc := 165) C rfl (hM.2 9 rfl).2 (by omega) (by decide) dX7_passOne_165 ?_
      refine g_bipush (pc := 166) C 8 dX7_passOne_166 (by decide) ?_
      refine g_iload_n (pc := 168) C dX7_passOne_168 rfl ?_
      refine g_imul (pc := 169) C dX7_passOne_169 ?_
      refine g_eqi (nI (8 * w)) (pk_mul 8 w) ?_
      refine g_istore_n (pc := 170) C dX7_passOne_170 (by decide) ?_
      refine g_eqS (S' := pw1 (pwM S lc w) w) (by unfold pw1; rw [if_pos h156]) ?_
      refine g_subR (lp_po4 C B (pw1_I w hI) (by omega) ?_ (lc w) 0 (by omega)) ⟨rfl, rfl, rfl, trivial⟩
      refine g_iincN (pc := 242) C 1 dX7_passOne_242 rfl (by decide) (by decide) ?_
      refine g_goto (pc := 245) C 135 dX7_passOne_245 (by decide) ?_
      exact g_subR (ih (w + 1) (by omega)) ⟨rfl, rfl, trivial⟩
    ·
      refine g_iconst (pc := 159) C 1 dX7_passOne_159 (by decide) ?_
      refine g_goto (pc := 160) C 164 dX7_passOne_160 (by decide) ?_
      refine g_iadd (pc := 164) C dX7_passOne_164 ?_
      refine g_iastN (pc := 165) C rfl (hM.2 9 rfl).2 (by omega) (by decide) dX7_passOne_165 ?_
      refine g_bipush (pc := 166) C 8 dX7_passOne_166 (by decide) ?_
      refine g_iload_n (pc := 168) C dX7_passOne_168 rfl ?_
      refine g_imul (pc := 169) C dX7_passOne_169 ?_
      refine g_eqi (nI (8 * w)) (pk_mul 8 w) ?_
      refine g_istore_n (pc := 170) C dX7_passOne_170 (by decide) ?_
      refine g_eqS (S' := pw1 (pwM S lc w) w) (by unfold pw1; rw [if_neg h156]) ?_
      refine g_subR (lp_po4 C B (pw1_I w hI) (by omega) ?_ (lc w) 0 (by omega)) ⟨rfl, rfl, rfl, trivial⟩
      refine g_iincN (pc := 242) C 1 dX7_passOne_242 rfl (by decide) (by decide) ?_
      refine g_goto (pc := 245) C 135 dX7_passOne_245 (by decide) ?_
      exact g_subR (ih (w + 1) (by omega)) ⟨rfl, rfl, trivial⟩
set_option maxHeartbeats 4000000 in
set_option maxRecDepth 100000 in
/-- passOne() -/
theorem c_passOne (l : Launch) (E : En) (base aw : Nat) (S : Mm) (mc : Nat) (lc : Nat → Nat) (hI : IM S mc lc) (h : Nat) (hh : S.1 (2, 0, 0) 0 = nI h) (hh0 : h ≤ 3000) : Cn l E base aw yX7_passOne cX7_passOne 5 (none) 3 0 0 noF S [vr (2, 0, 0)] (fun r S' => r = none ∧ S' = poM S mc lc h) := by
  have hM := hI.1
  have hmc := hI.2.2.1
  refine Cn.of (by decide) (Nat.le_of_ble_eq_true rfl) ?_
  intro X Y hl hE hbase haw hfr C B
  subst hl; subst hE; subst hbase; subst haw
  refine g_iconst (pc := 0) C 0 dX7_passOne_0 (by decide) ?_
  refine g_istore_n (pc := 1) C dX7_passOne_1 (by decide) ?_
  refine g_subR (lp_po3 C B hI hh (by omega) ?_ mc 0 (by omega)) ⟨rfl, rfl, trivial⟩
  have hI1 := thM_I (h % 24) mc hI
  have hM := hI1.1
  have hh : (thM S lc (h % 24) mc).1 (2, 0, 0) 0 = nI h := ((thM_but S lc (h % 24) mc).2 _ _ (fun q => by cases q)).trans hh
  refine g_aload_n (pc := 123) C dX7_passOne_123 rfl ?_
  refine g_dup (pc := 124) C dX7_passOne_124 ?_
  refine g_geti (pc := 125) C fX7_153 rfl hM.1 dX7_passOne_125 rfl ?_
  refine g_eqi (nI h) hh ?_
  refine g_iconst (pc := 128) C 1 dX7_passOne_128 (by decide) ?_
  refine g_iadd (pc := 129) C dX7_passOne_129 ?_
  refine g_eqi (nI (h + 1)) (nI_add h 1) ?_
  refine g_puti (pc := 130) C fX7_153 (Or.inl fm7_0) rfl hM.1 dX7_passOne_130 (Or.inl rfl) ?_
  refine g_iconst (pc := 133) C 0 dX7_passOne_133 (by decide) ?_
  refine g_istore_n (pc := 134) C dX7_passOne_134 (by decide) ?_
  refine g_subR (lp_po5 C B (hour_I hI1) ?_ mc 0 (by omega)) ⟨rfl, rfl, trivial⟩
  exact g_vret (pc := 248) C B dX7_passOne_248 (⟨rfl, rfl⟩)

set_option maxHeartbeats 4000000 in
set_option maxRecDepth 100000 in
theorem c_X7_hours_lo (l : Launch) (E : En) (base aw : Nat) (S : Mm) (mc : Nat) (lc : Nat → Nat) (hI : IM S mc lc) (h : Nat) (hh : S.1 (2, 0, 0) 0 = nI h) (hh0 : h ≤ 3000) (p0 : Int32) (hlo : ¬ 1 ≤ p0) : Cn l E base aw yX7_hours cX7_hours 3 (some Jvm.ClassFile.FieldType.int) 4 0 0 noF S [vr (2, 0, 0), vi p0] (fun r S' => r = some (vi (-4)) ∧ S' = rfM S 4) := by
  have hM := hI.1
  have hmc := hI.2.2.1
  refine Cn.of (by decide) (Nat.le_of_ble_eq_true rfl) ?_
  intro X Y hl hE hbase haw hfr C B
  subst hl; subst hE; subst hbase; subst haw
  refine g_iload_n (pc := 0) C dX7_hours_0 rfl ?_
  refine g_iconst (pc := 1) C 1 dX7_hours_1 (by decide) ?_
  refine g_icmp_ge (pc := 2) C 12 dX7_hours_2 (by decide) (fun h2 => absurd h2 hlo) (fun _ => ?_)
  refine g_aload_n (pc := 5) C dX7_hours_5 rfl ?_
  refine g_bipush (pc := 6) C (-4) dX7_hours_6 (by decide) ?_
  refine g_callV (pc := 8) C B mX7_116 (c_mrefuse _ _ _ _ _ hM (-4) 4 (by decide) (by decide)) rfl rfl rfl rfl hM.1 (by decide) ⟨Nat.le_refl _, Nat.le_refl _⟩ (Nat.le_of_ble_eq_true rfl) dX7_hours_8 (fun r S' hP => ?_)
  rw [hP.1, hP.2]
  exact g_iret (pc := 11) C B rfl dX7_hours_11 (⟨rfl, rfl⟩)

set_option maxHeartbeats 4000000 in
set_option maxRecDepth 100000 in
theorem c_X7_hours_hi (l : Launch) (E : En) (base aw : Nat) (S : Mm) (mc : Nat) (lc : Nat → Nat) (hI : IM S mc lc) (h : Nat) (hh : S.1 (2, 0, 0) 0 = nI h) (hh0 : h ≤ 3000) (p0 : Int32) (hlo : 1 ≤ p0) (hhi : ¬ p0 ≤ nI (3000 - h)) : Cn l E base aw yX7_hours cX7_hours 3 (some Jvm.ClassFile.FieldType.int) 4 0 0 noF S [vr (2, 0, 0), vi p0] (fun r S' => r = some (vi (-6)) ∧ S' = rfM S 6) := by
  have hM := hI.1
  have hmc := hI.2.2.1
  refine Cn.of (by decide) (Nat.le_of_ble_eq_true rfl) ?_
  intro X Y hl hE hbase haw hfr C B
  subst hl; subst hE; subst hbase; subst haw
  refine g_iload_n (pc := 0) C dX7_hours_0 rfl ?_
  refine g_iconst (pc := 1) C 1 dX7_hours_1 (by decide) ?_
  refine g_icmp_ge (pc := 2) C 12 dX7_hours_2 (by decide) (fun _ => ?_) (fun h2 => absurd hlo h2)
  refine g_iload_n (pc := 12) C dX7_hours_12 rfl ?_
  refine g_sipush (pc := 13) C 3000 dX7_hours_13 (by decide) ?_
  refine g_aload_n (pc := 16) C dX7_hours_16 rfl ?_
  refine g_geti (pc := 17) C fX7_153 rfl hM.1 dX7_hours_17 rfl ?_
  refine g_isub (pc := 20) C dX7_hours_20 ?_
  refine g_eqi (nI (3000 - h)) (by rw [hh]; exact pk_sub (a := 3000) (b := h) hh0) ?_
  refine g_icmp_le (pc := 21) C 31 dX7_hours_21 (by decide) (fun h21 => absurd h21 hhi) (fun _ => ?_)
  refine g_aload_n (pc := 24) C dX7_hours_24 rfl ?_
  refine g_bipush (pc := 25) C (-6) dX7_hours_25 (by decide) ?_
  refine g_callV (pc := 27) C B mX7_116 (c_mrefuse _ _ _ _ _ hM (-6) 6 (by decide) (by decide)) rfl rfl rfl rfl hM.1 (by decide) ⟨Nat.le_refl _, Nat.le_refl _⟩ (Nat.le_of_ble_eq_true rfl) dX7_hours_27 (fun r S' hP => ?_)
  rw [hP.1, hP.2]
  exact g_iret (pc := 30) C B rfl dX7_hours_30 (⟨rfl, rfl⟩)

set_option maxHeartbeats 4000000 in
set_option maxRecDepth 100000 in
theorem lp_hours {X : Xt} {Y : Yt} {P : Option AV → Mm → Prop} {nm : String}  (C : Cx X Y cX7_hours 3 RX7) (B : Bx X Y nm (some Jvm.ClassFile.FieldType.int) 4 0 0 P) {S : Mm} {mc : Nat} {lc : Nat → Nat} (hI0 : IM S mc lc) {h t : Nat} (hh1 : S.1 (2, 0, 0) 0 = nI h) (ht : h + t ≤ 3000) (K : G X Y 0 0 (hrM S mc lc h t) 48 [(0, vr (2, 0, 0)), (1, vi (nI t)), (2, vi (nI t))] []) : ∀ n w, w + n = t → G X Y 0 0 (hrM S mc lc h w) 33 [(0, vr (2, 0, 0)), (1, vi (nI t)), (2, vi (nI w))] [] := by
  intro n
  induction n with
  | zero =>
    intro w hw
    have e : t = w := by omega
    subst e
    have hI : IM (hrM S mc lc h t) mc lc := hrM_I h hI0 t
    have hM := hI.1
    have hh := hrM_h (mc := mc) (lc := lc) hh1 t
    refine g_iload_n (pc := 33) C dX7_hours_33 rfl ?_
    refine g_iload_n (pc := 34) C dX7_hours_34 rfl ?_
    refine g_icmp_ge (pc := 35) C 48 dX7_hours_35 (by decide) (fun _ => ?_) (fun h35 => absurd ((nI_leI (a := t) (b := t) (by omega) (by omega)).mpr (by omega)) h35)
    exact K
  | succ n ih =>
    intro w hw
    have hI : IM (hrM S mc lc h w) mc lc := hrM_I h hI0 w
    have hM := hI.1
    have hh := hrM_h (mc := mc) (lc := lc) hh1 w
    refine g_iload_n (pc := 33) C dX7_hours_33 rfl ?_
    refine g_iload_n (pc := 34) C dX7_hours_34 rfl ?_
    refine g_icmp_ge (pc := 35) C 48 dX7_hours_35 (by decide) (fun h35 => absurd h35 (fun q => absurd ((nI_leI (a := t) (b := w) (by omega) (by omega)).mp q) (by omega))) (fun _ => ?_)
    refine g_aload_n (pc := 38) C dX7_hours_38 rfl ?_
    refine g_callV (pc := 39) C B mX7_156 (c_passOne _ _ _ _ _ mc lc hI (h + w) hh (by omega)) rfl rfl rfl rfl hM.1 (by decide) ⟨Nat.le_refl _, Nat.le_refl _⟩ (Nat.le_of_ble_eq_true rfl) dX7_hours_39 (fun r S' hP => ?_)
    rw [hP.1, hP.2]
    refine g_iincN (pc := 42) C 1 dX7_hours_42 rfl (by decide) (by decide) ?_
    refine g_goto (pc := 45) C 33 dX7_hours_45 (by decide) ?_
    exact g_subR (ih (w + 1) (by omega)) ⟨rfl, rfl, rfl, trivial⟩
set_option maxHeartbeats 4000000 in
set_option maxRecDepth 100000 in
theorem c_X7_hours (l : Launch) (E : En) (base aw : Nat) (S : Mm) (mc : Nat) (lc : Nat → Nat) (hI : IM S mc lc) (h : Nat) (hh : S.1 (2, 0, 0) 0 = nI h) (hh0 : h ≤ 3000) (t : Nat) (ht0 : 1 ≤ t) (ht : h + t ≤ 3000) : Cn l E base aw yX7_hours cX7_hours 3 (some Jvm.ClassFile.FieldType.int) 4 0 0 noF S [vr (2, 0, 0), vi (nI t)] (fun r S' => r = some (vi (nI (h + t))) ∧ S' = hrM S mc lc h t) := by
  have hM := hI.1
  have hmc := hI.2.2.1
  refine Cn.of (by decide) (Nat.le_of_ble_eq_true rfl) ?_
  intro X Y hl hE hbase haw hfr C B
  subst hl; subst hE; subst hbase; subst haw
  refine g_iload_n (pc := 0) C dX7_hours_0 rfl ?_
  refine g_iconst (pc := 1) C 1 dX7_hours_1 (by decide) ?_
  refine g_icmp_ge (pc := 2) C 12 dX7_hours_2 (by decide) (fun _ => ?_) (fun h2 => absurd ((nI_leI (a := 1) (b := t) (by omega) (by omega)).mpr (by omega)) h2)
  refine g_iload_n (pc := 12) C dX7_hours_12 rfl ?_
  refine g_sipush (pc := 13) C 3000 dX7_hours_13 (by decide) ?_
  refine g_aload_n (pc := 16) C dX7_hours_16 rfl ?_
  refine g_geti (pc := 17) C fX7_153 rfl hM.1 dX7_hours_17 rfl ?_
  refine g_isub (pc := 20) C dX7_hours_20 ?_
  refine g_eqi (nI (3000 - h)) (by rw [hh]; exact pk_sub (a := 3000) (b := h) hh0) ?_
  refine g_icmp_le (pc := 21) C 31 dX7_hours_21 (by decide) (fun _ => ?_) (fun h21 => absurd ((nI_leI (a := t) (b := 3000 - h) (by omega) (by omega)).mpr (by omega)) h21)
  refine g_iconst (pc := 31) C 0 dX7_hours_31 (by decide) ?_
  refine g_istore_n (pc := 32) C dX7_hours_32 (by decide) ?_
  refine g_subR (lp_hours C B hI hh ht ?_ t 0 (by omega)) ⟨rfl, rfl, rfl, trivial⟩
  have hM := (hrM_I h hI t).1
  refine g_aload_n (pc := 48) C dX7_hours_48 rfl ?_
  refine g_geti (pc := 49) C fX7_153 rfl hM.1 dX7_hours_49 rfl ?_
  exact g_iret (pc := 52) C B rfl dX7_hours_52 (⟨congrArg (fun z => some (vi z)) (hrM_h hh t), rfl⟩)

