set_option maxHeartbeats 4000000 in
set_option maxRecDepth 100000 in
/-- in(v, low, high) -/
theorem c_in (l : Launch) (E : En) (base aw : Nat) (S : Mm) (v lo hi : Int32) : Cn l E base aw yX7_in cX7_in 3 (some Jvm.ClassFile.FieldType.boolean) 0 0 0 noF S [vi v, vi lo, vi hi] (fun r S' => r = some (vi (if lo ≤ v ∧ v ≤ hi then 1 else 0)) ∧ S' = S) := by
  refine Cn.of (by decide) (Nat.le_of_ble_eq_true rfl) ?_
  intro X Y hl hE hbase haw hfr C B
  subst hl; subst hE; subst hbase; subst haw
  refine g_iload_n (pc := 0) C dX7_in_0 rfl ?_
  refine g_iload_n (pc := 1) C dX7_in_1 rfl ?_
  refine g_icmp_lt (pc := 2) C 14 dX7_in_2 (by decide) (fun h2 => ?_) (fun h2 => ?_)
  ·
    refine g_iconst (pc := 14) C 0 dX7_in_14 (by decide) ?_
    exact g_iret (pc := 15) C B rfl dX7_in_15 (⟨by rw [if_neg (fun q => Int32.not_lt.mpr q.1 h2)], rfl⟩)
  ·
    refine g_iload_n (pc := 5) C dX7_in_5 rfl ?_
    refine g_iload_n (pc := 6) C dX7_in_6 rfl ?_
    refine g_icmp_gt (pc := 7) C 14 dX7_in_7 (by decide) (fun h7 => ?_) (fun h7 => ?_)
    ·
      refine g_iconst (pc := 14) C 0 dX7_in_14 (by decide) ?_
      exact g_iret (pc := 15) C B rfl dX7_in_15 (⟨by rw [if_neg (fun q => Int32.not_lt.mpr q.2 h7)], rfl⟩)
    ·
      refine g_iconst (pc := 10) C 1 dX7_in_10 (by decide) ?_
      refine g_goto (pc := 11) C 15 dX7_in_11 (by decide) ?_
      exact g_iret (pc := 15) C B rfl dX7_in_15 (⟨by rw [if_pos ⟨Int32.not_lt.mp h2, Int32.not_lt.mp h7⟩], rfl⟩)

set_option maxHeartbeats 4000000 in
set_option maxRecDepth 100000 in
/-- refuse(c), c = -k -/
theorem c_mrefuse (l : Launch) (E : En) (base aw : Nat) (S : Mm) (hM : ShM S) (c : Int32) (k : Nat) (hc : -c = nI k) (hk : k < 7) : Cn l E base aw yX7_refuse cX7_refuse 2 (some Jvm.ClassFile.FieldType.int) 0 0 0 noF S [vr (2, 0, 0), vi c] (fun r S' => r = some (vi c) ∧ S' = rfM S k) := by
  refine Cn.of (by decide) (Nat.le_of_ble_eq_true rfl) ?_
  intro X Y hl hE hbase haw hfr C B
  subst hl; subst hE; subst hbase; subst haw
  refine g_aload_n (pc := 0) C dX7_refuse_0 rfl ?_
  refine g_getr (pc := 1) C fX7_92 rfl hM.1 dX7_refuse_1 rfl (hM.2 30 rfl).1 ?_
  refine g_iload_n (pc := 4) C dX7_refuse_4 rfl ?_
  refine g_ineg (pc := 5) C dX7_refuse_5 ?_
  refine g_dup2 (pc := 6) C dX7_refuse_6 ?_
  refine g_iald (pc := 7) C rfl (hM.2 30 rfl).2 (by rw [hc]; exact vp_in_nI hk (by decide)) dX7_refuse_7 ?_
  refine g_iconst (pc := 8) C 1 dX7_refuse_8 (by decide) ?_
  refine g_iadd (pc := 9) C dX7_refuse_9 ?_
  refine g_iast (pc := 10) C rfl (hM.2 30 rfl).2 (by rw [hc]; exact vp_in_nI hk (by decide)) dX7_refuse_10 ?_
  refine g_iload_n (pc := 11) C dX7_refuse_11 rfl ?_
  exact g_iret (pc := 12) C B rfl dX7_refuse_12 (⟨rfl, by rw [hc, cl k (by omega)]; rfl⟩)

set_option maxHeartbeats 4000000 in
set_option maxRecDepth 100000 in
/-- worthOf(k) -/
theorem c_mworth (l : Launch) (E : En) (base aw : Nat) (S : Mm) (k : Nat) (hk : k < 6) : Cn l E base aw yX7_worthOf cX7_worthOf 1 (some Jvm.ClassFile.FieldType.int) 0 0 0 noF S [vi (nI k)] (fun r S' => r = some (vi (wths k)) ∧ S' = S) := by
  refine Cn.of (by decide) (Nat.le_of_ble_eq_true rfl) ?_
  intro X Y hl hE hbase haw hfr C B
  subst hl; subst hE; subst hbase; subst haw
  rcases (show k = 0 ∨ k = 1 ∨ k = 2 ∨ k = 3 ∨ k = 4 ∨ k = 5 by omega) with rfl | rfl | rfl | rfl | rfl | rfl
  ·
    refine g_iload_n (pc := 0) C dX7_worthOf_0 rfl ?_
    refine g_if_ne (pc := 1) C 10 dX7_worthOf_1 (by decide) (fun h1 => absurd (by decide) h1) (fun _ => ?_)
    refine g_sipush (pc := 4) C 500 dX7_worthOf_4 (by decide) ?_
    refine g_goto (pc := 7) C 53 dX7_worthOf_7 (by decide) ?_
    exact g_iret (pc := 53) C B rfl dX7_worthOf_53 (⟨rfl, rfl⟩)
  ·
    refine g_iload_n (pc := 0) C dX7_worthOf_0 rfl ?_
    refine g_if_ne (pc := 1) C 10 dX7_worthOf_1 (by decide) (fun _ => ?_) (fun h1 => absurd h1 (by decide))
    refine g_iload_n (pc := 10) C dX7_worthOf_10 rfl ?_
    refine g_iconst (pc := 11) C 1 dX7_worthOf_11 (by decide) ?_
    refine g_icmp_ne (pc := 12) C 21 dX7_worthOf_12 (by decide) (fun h12 => absurd (by decide) h12) (fun _ => ?_)
    refine g_sipush (pc := 15) C 200 dX7_worthOf_15 (by decide) ?_
    refine g_goto (pc := 18) C 53 dX7_worthOf_18 (by decide) ?_
    exact g_iret (pc := 53) C B rfl dX7_worthOf_53 (⟨rfl, rfl⟩)
  ·
    refine g_iload_n (pc := 0) C dX7_worthOf_0 rfl ?_
    refine g_if_ne (pc := 1) C 10 dX7_worthOf_1 (by decide) (fun _ => ?_) (fun h1 => absurd h1 (by decide))
    refine g_iload_n (pc := 10) C dX7_worthOf_10 rfl ?_
    refine g_iconst (pc := 11) C 1 dX7_worthOf_11 (by decide) ?_
    refine g_icmp_ne (pc := 12) C 21 dX7_worthOf_12 (by decide) (fun _ => ?_) (fun h12 => absurd h12 (by decide))
    refine g_iload_n (pc := 21) C dX7_worthOf_21 rfl ?_
    refine g_iconst (pc := 22) C 2 dX7_worthOf_22 (by decide) ?_
    refine g_icmp_ne (pc := 23) C 31 dX7_worthOf_23 (by decide) (fun h23 => absurd (by decide) h23) (fun _ => ?_)
    refine g_bipush (pc := 26) C 100 dX7_worthOf_26 (by decide) ?_
    refine g_goto (pc := 28) C 53 dX7_worthOf_28 (by decide) ?_
    exact g_iret (pc := 53) C B rfl dX7_worthOf_53 (⟨rfl, rfl⟩)
  ·
    refine g_iload_n (pc := 0) C dX7_worthOf_0 rfl ?_
    refine g_if_ne (pc := 1) C 10 dX7_worthOf_1 (by decide) (fun _ => ?_) (fun h1 => absurd h1 (by decide))
    refine g_iload_n (pc := 10) C dX7_worthOf_10 rfl ?_
    refine g_iconst (pc := 11) C 1 dX7_worthOf_11 (by decide) ?_
    refine g_icmp_ne (pc := 12) C 21 dX7_worthOf_12 (by decide) (fun _ => ?_) (fun h12 => absurd h12 (by decide))
    refine g_iload_n (pc := 21) C dX7_worthOf_21 rfl ?_
    refine g_iconst (pc := 22) C 2 dX7_worthOf_22 (by decide) ?_
    refine g_icmp_ne (pc := 23) C 31 dX7_worthOf_23 (by decide) (fun _ => ?_) (fun h23 => absurd h23 (by decide))
    refine g_iload_n (pc := 31) C dX7_worthOf_31 rfl ?_
    refine g_iconst (pc := 32) C 3 dX7_worthOf_32 (by decide) ?_
    refine g_icmp_ne (pc := 33) C 41 dX7_worthOf_33 (by decide) (fun h33 => absurd (by decide) h33) (fun _ => ?_)
    refine g_bipush (pc := 36) C 50 dX7_worthOf_36 (by decide) ?_
    refine g_goto (pc := 38) C 53 dX7_worthOf_38 (by decide) ?_
    exact g_iret (pc := 53) C B rfl dX7_worthOf_53 (⟨rfl, rfl⟩)
  ·
    refine g_iload_n (pc := 0) C dX7_worthOf_0 rfl ?_
    refine g_if_ne (pc := 1) C 10 dX7_worthOf_1 (by decide) (fun _ => ?_) (fun h1 => absurd h1 (by decide))
    refine g_iload_n (pc := 10) C dX7_worthOf_10 rfl ?_
    refine g_iconst (pc := 11) C 1 dX7_worthOf_11 (by decide) ?_
    refine g_icmp_ne (pc := 12) C 21 dX7_worthOf_12 (by decide) (fun _ => ?_) (fun h12 => absurd h12 (by decide))
    refine g_iload_n (pc := 21) C dX7_worthOf_21 rfl ?_
    refine g_iconst (pc := 22) C 2 dX7_worthOf_22 (by decide) ?_
    refine g_icmp_ne (pc := 23) C 31 dX7_worthOf_23 (by decide) (fun _ => ?_) (fun h23 => absurd h23 (by decide))
    refine g_iload_n (pc := 31) C dX7_worthOf_31 rfl ?_
    refine g_iconst (pc := 32) C 3 dX7_worthOf_32 (by decide) ?_
    refine g_icmp_ne (pc := 33) C 41 dX7_worthOf_33 (by decide) (fun _ => ?_) (fun h33 => absurd h33 (by decide))
    refine g_iload_n (pc := 41) C dX7_worthOf_41 rfl ?_
    refine g_iconst (pc := 42) C 4 dX7_worthOf_42 (by decide) ?_
    refine g_icmp_ne (pc := 43) C 51 dX7_worthOf_43 (by decide) (fun h43 => absurd (by decide) h43) (fun _ => ?_)
    refine g_bipush (pc := 46) C 20 dX7_worthOf_46 (by decide) ?_
    refine g_goto (pc := 48) C 53 dX7_worthOf_48 (by decide) ?_
    exact g_iret (pc := 53) C B rfl dX7_worthOf_53 (⟨rfl, rfl⟩)
  ·
    refine g_iload_n (pc := 0) C dX7_worthOf_0 rfl ?_
    refine g_if_ne (pc := 1) C 10 dX7_worthOf_1 (by decide) (fun _ => ?_) (fun h1 => absurd h1 (by decide))
    refine g_iload_n (pc := 10) C dX7_worthOf_10 rfl ?_
    refine g_iconst (pc := 11) C 1 dX7_worthOf_11 (by decide) ?_
    refine g_icmp_ne (pc := 12) C 21 dX7_worthOf_12 (by decide) (fun _ => ?_) (fun h12 => absurd h12 (by decide))
    refine g_iload_n (pc := 21) C dX7_worthOf_21 rfl ?_
    refine g_iconst (pc := 22) C 2 dX7_worthOf_22 (by decide) ?_
    refine g_icmp_ne (pc := 23) C 31 dX7_worthOf_23 (by decide) (fun _ => ?_) (fun h23 => absurd h23 (by decide))
    refine g_iload_n (pc := 31) C dX7_worthOf_31 rfl ?_
    refine g_iconst (pc := 32) C 3 dX7_worthOf_32 (by decide) ?_
    refine g_icmp_ne (pc := 33) C 41 dX7_worthOf_33 (by decide) (fun _ => ?_) (fun h33 => absurd h33 (by decide))
    refine g_iload_n (pc := 41) C dX7_worthOf_41 rfl ?_
    refine g_iconst (pc := 42) C 4 dX7_worthOf_42 (by decide) ?_
    refine g_icmp_ne (pc := 43) C 51 dX7_worthOf_43 (by decide) (fun _ => ?_) (fun h43 => absurd h43 (by decide))
    refine g_bipush (pc := 51) C 10 dX7_worthOf_51 (by decide) ?_
    exact g_iret (pc := 53) C B rfl dX7_worthOf_53 (⟨rfl, rfl⟩)

set_option maxHeartbeats 4000000 in
set_option maxRecDepth 100000 in
/-- isBelow(p) -/
theorem c_mbelow (l : Launch) (E : En) (base aw : Nat) (S : Mm) (p : Int32) : Cn l E base aw yX7_isBelow cX7_isBelow 1 (some Jvm.ClassFile.FieldType.boolean) 0 0 0 noF S [vi p] (fun r S' => r = some (vi (if p < 10 ∨ ¬ p - p / 10 * 10 = 0 then 1 else 0)) ∧ S' = S) := by
  refine Cn.of (by decide) (Nat.le_of_ble_eq_true rfl) ?_
  intro X Y hl hE hbase haw hfr C B
  subst hl; subst hE; subst hbase; subst haw
  refine g_iload_n (pc := 0) C dX7_isBelow_0 rfl ?_
  refine g_bipush (pc := 1) C 10 dX7_isBelow_1 (by decide) ?_
  refine g_icmp_lt (pc := 3) C 13 dX7_isBelow_3 (by decide) (fun h3 => ?_) (fun h3 => ?_)
  ·
    refine g_iconst (pc := 13) C 1 dX7_isBelow_13 (by decide) ?_
    refine g_goto (pc := 14) C 18 dX7_isBelow_14 (by decide) ?_
    exact g_iret (pc := 18) C B rfl dX7_isBelow_18 (⟨by rw [if_pos (Or.inl h3)], rfl⟩)
  ·
    refine g_iload_n (pc := 6) C dX7_isBelow_6 rfl ?_
    refine g_bipush (pc := 7) C 10 dX7_isBelow_7 (by decide) ?_
    refine g_irem (pc := 9) C dX7_isBelow_9 (by decide) ?_
    refine g_if_eq (pc := 10) C 17 dX7_isBelow_10 (by decide) (fun h10 => ?_) (fun h10 => ?_)
    ·
      refine g_iconst (pc := 17) C 0 dX7_isBelow_17 (by decide) ?_
      exact g_iret (pc := 18) C B rfl dX7_isBelow_18 (⟨by rw [if_neg (fun q => q.elim h3 (fun z => z h10))], rfl⟩)
    ·
      refine g_iconst (pc := 13) C 1 dX7_isBelow_13 (by decide) ?_
      refine g_goto (pc := 14) C 18 dX7_isBelow_14 (by decide) ?_
      exact g_iret (pc := 18) C B rfl dX7_isBelow_18 (⟨by rw [if_pos (Or.inr h10)], rfl⟩)

set_option maxHeartbeats 4000000 in
set_option maxRecDepth 100000 in
/-- isMachine, of one that is -/
theorem c_isM_t (l : Launch) (E : En) (base aw : Nat) (S : Mm) (mc : Nat) (lc : Nat → Nat) (hI : IM S mc lc) (i : Nat) (hi : i < mc) : Cn l E base aw yX7_isMachine cX7_isMachine 2 (some Jvm.ClassFile.FieldType.boolean) 1 0 0 noF S [vr (2, 0, 0), vi (nI i)] (fun r S' => r = some (vi 1) ∧ S' = S) := by
  refine Cn.of (by decide) (Nat.le_of_ble_eq_true rfl) ?_
  intro X Y hl hE hbase haw hfr C B
  subst hl; subst hE; subst hbase; subst haw
  have hM := hI.1
  refine g_iload_n (pc := 0) C dX7_isMachine_0 rfl ?_
  refine g_iconst (pc := 1) C 0 dX7_isMachine_1 (by decide) ?_
  refine g_aload_n (pc := 2) C dX7_isMachine_2 rfl ?_
  refine g_geti (pc := 3) C fX7_104 rfl hM.1 dX7_isMachine_3 rfl ?_
  refine g_iconst (pc := 6) C 1 dX7_isMachine_6 (by decide) ?_
  refine g_isub (pc := 7) C dX7_isMachine_7 ?_
  refine g_callS (pc := 8) C B mX7_108 (c_in _ _ _ _ _ _ _ _) rfl rfl (by decide) ⟨Nat.le_refl _, Nat.le_refl _⟩ (Nat.le_of_ble_eq_true rfl) dX7_isMachine_8 (fun r S' hP => ?_)
  obtain ⟨rfl, rfl⟩ := hP
  exact g_iret (pc := 11) C B (by rw [hI.2.1, if_pos (in_t hi (by have := hI.2.2.1; omega))]; rfl) dX7_isMachine_11 (⟨by rw [hI.2.1, if_pos (in_t hi (by have := hI.2.2.1; omega))], rfl⟩)

set_option maxHeartbeats 4000000 in
set_option maxRecDepth 100000 in
/-- isMachine, of one that is none -/
theorem c_isM_f (l : Launch) (E : En) (base aw : Nat) (S : Mm) (mc : Nat) (lc : Nat → Nat) (hI : IM S mc lc) (x : Int32) (hx : ¬ okN mc x) : Cn l E base aw yX7_isMachine cX7_isMachine 2 (some Jvm.ClassFile.FieldType.boolean) 1 0 0 noF S [vr (2, 0, 0), vi x] (fun r S' => r = some (vi 0) ∧ S' = S) := by
  refine Cn.of (by decide) (Nat.le_of_ble_eq_true rfl) ?_
  intro X Y hl hE hbase haw hfr C B
  subst hl; subst hE; subst hbase; subst haw
  have hM := hI.1
  refine g_iload_n (pc := 0) C dX7_isMachine_0 rfl ?_
  refine g_iconst (pc := 1) C 0 dX7_isMachine_1 (by decide) ?_
  refine g_aload_n (pc := 2) C dX7_isMachine_2 rfl ?_
  refine g_geti (pc := 3) C fX7_104 rfl hM.1 dX7_isMachine_3 rfl ?_
  refine g_iconst (pc := 6) C 1 dX7_isMachine_6 (by decide) ?_
  refine g_isub (pc := 7) C dX7_isMachine_7 ?_
  refine g_callS (pc := 8) C B mX7_108 (c_in _ _ _ _ _ _ _ _) rfl rfl (by decide) ⟨Nat.le_refl _, Nat.le_refl _⟩ (Nat.le_of_ble_eq_true rfl) dX7_isMachine_8 (fun r S' hP => ?_)
  obtain ⟨rfl, rfl⟩ := hP
  exact g_iret (pc := 11) C B (by rw [hI.2.1, if_neg (in_f (by have := hI.2.2.1; omega) hx)]; rfl) dX7_isMachine_11 (⟨by rw [hI.2.1, if_neg (in_f (by have := hI.2.2.1; omega) hx)], rfl⟩)
