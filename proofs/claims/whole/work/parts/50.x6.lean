def pwX (U : Mm) (i n : Nat) : Mm := if U.1 (1, i, 0) 4 = 0 then psX (wI U (1, i, 0) 5 (U.1 (1, i, 0) 5 + 1)) i n else U
theorem c_powX (l : Launch) (E : En) (base aw : Nat) (S : Mm) (i n : Nat) (hm : MSh S i n) (hn : S.1 (1, i, 0) 3 = nI n) : Cn l E base aw yX3_passHourOfPower cX3_passHourOfPower 3 (none) 1 0 0 noF S [vr (1, i, 0)] (fun r S' => r = none ∧ S' = pwX S i n) := by
  unfold pwX
  by_cases hp : S.1 (1, i, 0) 4 = 0
  · rw [if_pos hp]; exact c_pow0 l E base aw S i n hm hn hp
  · rw [if_neg hp]; exact c_pow1 l E base aw S i n hm hn hp
set_option maxHeartbeats 400000 in
set_option maxRecDepth 100000 in
theorem lp_pass {X : Xt} {Y : Yt} {P : Option AV → Mm → Prop} {nm : String}  (C : Cx X Y cX6_passHour 4 RX6) (B : Bx X Y nm (none) 3 0 0 P) {S : Mm} {mc : Nat} {lc : Nat → Nat} {gdm : Nat → Nat → Nat} {h : Nat} (hI0 : IX S mc lc) (hG0 : GdX S mc lc gdm) (hh0 : h ≤ 3000) (K : G X Y 0 0 (phL (wI S (0, 0, 0) 7 (nI (h + 1))) lc gdm (h % 24) mc) 53 [(0, vr (0, 0, 0)), (1, vi (nI (h % 24))), (2, vi (nI mc))] []) : ∀ n9 w, w + n9 = mc → G X Y 0 0 (phL (wI S (0, 0, 0) 7 (nI (h + 1))) lc gdm (h % 24) w) 20 [(0, vr (0, 0, 0)), (1, vi (nI (h % 24))), (2, vi (nI w))] [] := by
  intro n9
  induction n9 with
  | zero =>
    intro w hw
    have e : mc = w := by omega
    subst e
    have hb : but fHr S (phL (wI S (0, 0, 0) 7 (nI (h + 1))) lc gdm (h % 24) (mc)) := (but.rf.wI (Or.inr (Or.inr (Or.inr ⟨rfl, rfl⟩)))).tr (phL_but _ lc gdm (h % 24) mc)
    have hI := hb.hrI hI0
    have hG := hb.hrG hG0
    have hX := hI.1
    have hmc := hX.m6
    refine g_iload_n (pc := 20) C dX6_passHour_20 rfl ?_
    refine g_aload_n (pc := 21) C dX6_passHour_21 rfl ?_
    refine g_geti (pc := 22) C fX6_48 rfl (hX.1 0 (by decide)) dX6_passHour_22 rfl ?_
    refine g_eqi (nI mc) hI.2.1 ?_
    refine g_icmp_ge (pc := 25) C 53 dX6_passHour_25 (by decide) (fun _ => ?_) (fun h25 => absurd ((nI_leI (a := mc) (b := mc) (by omega) (by omega)).mpr (by omega)) h25)
    exact K
  | succ n9 ih =>
    intro w hw
    have hb : but fHr S (phL (wI S (0, 0, 0) 7 (nI (h + 1))) lc gdm (h % 24) (w)) := (but.rf.wI (Or.inr (Or.inr (Or.inr ⟨rfl, rfl⟩)))).tr (phL_but _ lc gdm (h % 24) w)
    have hI := hb.hrI hI0
    have hG := hb.hrG hG0
    have hX := hI.1
    have hmc := hX.m6
    refine g_iload_n (pc := 20) C dX6_passHour_20 rfl ?_
    refine g_aload_n (pc := 21) C dX6_passHour_21 rfl ?_
    refine g_geti (pc := 22) C fX6_48 rfl (hX.1 0 (by decide)) dX6_passHour_22 rfl ?_
    refine g_eqi (nI mc) hI.2.1 ?_
    refine g_icmp_ge (pc := 25) C 53 dX6_passHour_25 (by decide) (fun h25 => absurd h25 (fun q => absurd ((nI_leI (a := mc) (b := w) (by omega) (by omega)).mp q) (by omega))) (fun _ => ?_)
    refine g_aload_n (pc := 28) C dX6_passHour_28 rfl ?_
    refine g_iload_n (pc := 29) C dX6_passHour_29 rfl ?_
    refine g_callV (pc := 30) C B mX6_57 (c_mAt_t _ _ _ _ _ mc lc hI w (by omega)) rfl rfl rfl rfl (hX.1 0 (by decide)) (by decide) ⟨Nat.le_refl _, Nat.le_refl _⟩ (Nat.le_of_ble_eq_true rfl) dX6_passHour_30 (fun rr SS hP => ?_)
    rw [hP.1, hP.2]
    have hm := hI.1.ms (show w < mc by omega)
    have hn := hI.2.2 w (by omega)
    refine g_astore_n (pc := 33) C dX6_passHour_33 (by decide) ?_
    refine g_aload_n (pc := 34) C dX6_passHour_34 rfl ?_
    refine g_ifnull (pc := 35) C 47 dX6_passHour_35 (by decide) (fun h => by cases h) (fun _ _ => ?_)
    refine g_aload_n (pc := 38) C dX6_passHour_38 rfl ?_
    refine g_iload_n (pc := 39) C dX6_passHour_39 rfl ?_
    refine g_callV (pc := 40) C B mX6_253 (c_note _ _ _ _ _ w (lc w) hm hn (gdm w) (hG w (by omega)) (h % 24) (by omega)) rfl rfl rfl rfl (hm.1 0 (by decide)) (by decide) ⟨Nat.le_refl _, Nat.le_refl _⟩ (Nat.le_of_ble_eq_true rfl) dX6_passHour_40 (fun rr SS hP => ?_)
    rw [hP.1, hP.2]
    have hm := hm.same (ntX_but (phL (wI S (0, 0, 0) 7 (nI (h + 1))) lc gdm (h % 24) w) w (lc w) (gdm w) (h % 24) (lc w)).1
    have hn := ((ntX_but (phL (wI S (0, 0, 0) 7 (nI (h + 1))) lc gdm (h % 24) w) w (lc w) (gdm w) (h % 24) (lc w)).2 (1, w, 0) 3 (fun q => by cases q)).trans hn
    refine g_aload_n (pc := 43) C dX6_passHour_43 rfl ?_
    refine g_callV (pc := 44) C B mX6_256 (c_powX _ _ _ _ _ w (lc w) hm hn) rfl rfl rfl rfl (hm.1 0 (by decide)) (by decide) ⟨Nat.le_refl _, Nat.le_refl _⟩ (Nat.le_of_ble_eq_true rfl) dX6_passHour_44 (fun rr SS hP => ?_)
    rw [hP.1, hP.2]
    refine g_iincN (pc := 47) C 1 dX6_passHour_47 rfl (by decide) (by decide) ?_
    refine g_goto (pc := 50) C 20 dX6_passHour_50 (by decide) ?_
    exact g_subR (ih (w + 1) (by omega)) ⟨rfl, rfl, rfl, trivial⟩
set_option maxHeartbeats 400000 in
set_option maxRecDepth 100000 in
theorem c_pass (l : Launch) (E : En) (base aw : Nat) (S : Mm) (mc : Nat) (lc : Nat → Nat) (hI : IX S mc lc) (gdm : Nat → Nat → Nat) (hG : GdX S mc lc gdm) (h : Nat) (hh : S.1 (0, 0, 0) 7 = nI h) (hh0 : h ≤ 3000) : Cn l E base aw yX6_passHour cX6_passHour 4 (none) 3 0 0 noF S [vr (0, 0, 0)] (fun r S' => r = none ∧ S' = phX S mc lc gdm h) := by
  have hX := hI.1
  have hmc := hX.m6
  refine Cn.of (by decide) (Nat.le_of_ble_eq_true rfl) ?_
  intro X Y hl hE hbase haw hfr C B
  subst hl; subst hE; subst hbase; subst haw
  refine g_aload_n (pc := 0) C dX6_passHour_0 rfl ?_
  refine g_geti (pc := 1) C fX6_183 rfl (hX.1 0 (by decide)) dX6_passHour_1 rfl ?_
  refine g_eqi (nI (h)) hh ?_
  refine g_bipush (pc := 4) C 24 dX6_passHour_4 (by decide) ?_
  refine g_irem (pc := 6) C dX6_passHour_6 (by decide) ?_
  refine g_eqi (nI (h % 24)) (pk_rem (a := h) (d := 24) (by omega) (by decide) (by decide)) ?_
  refine g_istore_n (pc := 7) C dX6_passHour_7 (by decide) ?_
  refine g_aload_n (pc := 8) C dX6_passHour_8 rfl ?_
  refine g_dup (pc := 9) C dX6_passHour_9 ?_
  refine g_geti (pc := 10) C fX6_183 rfl (hX.1 0 (by decide)) dX6_passHour_10 rfl ?_
  refine g_eqi (nI (h)) hh ?_
  refine g_iconst (pc := 13) C 1 dX6_passHour_13 (by decide) ?_
  refine g_iadd (pc := 14) C dX6_passHour_14 ?_
  refine g_eqi (nI (h + 1)) (nI_add h 1) ?_
  refine g_puti (pc := 15) C fX6_183 (Or.inl fm6_7) rfl (hX.1 0 (by decide)) dX6_passHour_15 (Or.inl rfl) ?_
  refine g_iconst (pc := 18) C 0 dX6_passHour_18 (by decide) ?_
  refine g_istore_n (pc := 19) C dX6_passHour_19 (by decide) ?_
  refine g_subR (lp_pass C B hI hG hh0 ?_ mc 0 (by omega)) ⟨rfl, rfl, rfl, trivial⟩
  exact g_vret (pc := 53) C B dX6_passHour_53 (⟨rfl, rfl⟩)

set_option maxHeartbeats 400000 in
set_option maxRecDepth 100000 in
theorem c_X6_hours_lo (l : Launch) (E : En) (base aw : Nat) (S : Mm) (mc : Nat) (lc : Nat → Nat) (hI : IX S mc lc) (p0 : Int32) (hlo : ¬ 1 ≤ p0) : Cn l E base aw yX6_hours cX6_hours 3 (some Jvm.ClassFile.FieldType.int) 4 0 0 noF S [vr (0, 0, 0), vi p0] (fun r S' => r = some (vi (-4)) ∧ S' = rfX S 4) := by
  have hX := hI.1
  have hmc := hX.m6
  refine Cn.of (by decide) (Nat.le_of_ble_eq_true rfl) ?_
  intro X Y hl hE hbase haw hfr C B
  subst hl; subst hE; subst hbase; subst haw
  refine g_iload_n (pc := 0) C dX6_hours_0 rfl ?_
  refine g_iconst (pc := 1) C 1 dX6_hours_1 (by decide) ?_
  refine g_icmp_ge (pc := 2) C 12 dX6_hours_2 (by decide) (fun h2 => absurd h2 hlo) (fun _ => ?_)
  refine g_aload_n (pc := 5) C dX6_hours_5 rfl ?_
  refine g_bipush (pc := 6) C (-4) dX6_hours_6 (by decide) ?_
  refine g_callV (pc := 8) C B mX6_52 (c_xrefuse _ _ _ _ _ mc lc hX (-4) 4 (by decide) (by decide) (by decide)) rfl rfl rfl rfl (hX.1 0 (by decide)) (by decide) ⟨Nat.le_refl _, Nat.le_refl _⟩ (Nat.le_of_ble_eq_true rfl) dX6_hours_8 (fun rr SS hP => ?_)
  rw [hP.1, hP.2]
  exact g_iret (pc := 11) C B rfl dX6_hours_11 (⟨rfl, rfl⟩)

set_option maxHeartbeats 400000 in
set_option maxRecDepth 100000 in
theorem c_X6_hours_hi (l : Launch) (E : En) (base aw : Nat) (S : Mm) (mc : Nat) (lc : Nat → Nat) (hI : IX S mc lc) (h : Nat) (hh : S.1 (0, 0, 0) 7 = nI h) (hh0 : h ≤ 3000) (p0 : Int32) (hlo : 1 ≤ p0) (hhi : ¬ p0 ≤ nI (3000 - h)) : Cn l E base aw yX6_hours cX6_hours 3 (some Jvm.ClassFile.FieldType.int) 4 0 0 noF S [vr (0, 0, 0), vi p0] (fun r S' => r = some (vi (-6)) ∧ S' = rfX S 6) := by
  have hX := hI.1
  have hmc := hX.m6
  refine Cn.of (by decide) (Nat.le_of_ble_eq_true rfl) ?_
  intro X Y hl hE hbase haw hfr C B
  subst hl; subst hE; subst hbase; subst haw
  refine g_iload_n (pc := 0) C dX6_hours_0 rfl ?_
  refine g_iconst (pc := 1) C 1 dX6_hours_1 (by decide) ?_
  refine g_icmp_ge (pc := 2) C 12 dX6_hours_2 (by decide) (fun _ => ?_) (fun h2 => absurd hlo h2)
  refine g_iload_n (pc := 12) C dX6_hours_12 rfl ?_
  refine g_sipush (pc := 13) C 3000 dX6_hours_13 (by decide) ?_
  refine g_aload_n (pc := 16) C dX6_hours_16 rfl ?_
  refine g_geti (pc := 17) C fX6_183 rfl (hX.1 0 (by decide)) dX6_hours_17 rfl ?_
  refine g_isub (pc := 20) C dX6_hours_20 ?_
  refine g_eqi (nI (3000 - h)) (by rw [hh]; exact pk_sub (a := 3000) (b := h) (by omega)) ?_
  refine g_icmp_le (pc := 21) C 31 dX6_hours_21 (by decide) (fun h21 => absurd h21 hhi) (fun _ => ?_)
  refine g_aload_n (pc := 24) C dX6_hours_24 rfl ?_
  refine g_bipush (pc := 25) C (-6) dX6_hours_25 (by decide) ?_
  refine g_callV (pc := 27) C B mX6_52 (c_xrefuse _ _ _ _ _ mc lc hX (-6) 6 (by decide) (by decide) (by decide)) rfl rfl rfl rfl (hX.1 0 (by decide)) (by decide) ⟨Nat.le_refl _, Nat.le_refl _⟩ (Nat.le_of_ble_eq_true rfl) dX6_hours_27 (fun rr SS hP => ?_)
  rw [hP.1, hP.2]
  exact g_iret (pc := 30) C B rfl dX6_hours_30 (⟨rfl, rfl⟩)

set_option maxHeartbeats 400000 in
set_option maxRecDepth 100000 in
theorem lp_hoursX {X : Xt} {Y : Yt} {P : Option AV → Mm → Prop} {nm : String}  (C : Cx X Y cX6_hours 3 RX6) (B : Bx X Y nm (some Jvm.ClassFile.FieldType.int) 4 0 0 P) {S : Mm} {mc : Nat} {lc : Nat → Nat} {gdm : Nat → Nat → Nat} {h t : Nat} (hI0 : IX S mc lc) (hG0 : GdX S mc lc gdm) (hh1 : S.1 (0, 0, 0) 7 = nI h) (ht : h + t ≤ 3000) (K : G X Y 0 0 (hrX S mc lc gdm h t) 48 [(0, vr (0, 0, 0)), (1, vi (nI t)), (2, vi (nI t))] []) : ∀ n9 w, w + n9 = t → G X Y 0 0 (hrX S mc lc gdm h w) 33 [(0, vr (0, 0, 0)), (1, vi (nI t)), (2, vi (nI w))] [] := by
  intro n9
  induction n9 with
  | zero =>
    intro w hw
    have e : t = w := by omega
    subst e
    have hb := hrX_but S mc lc gdm h t
    have hI := hb.hrI hI0
    have hG := hb.hrG hG0
    have hX := hI.1
    have hh := hrX_h (mc := mc) (lc := lc) (gdm := gdm) hh1 t
    refine g_iload_n (pc := 33) C dX6_hours_33 rfl ?_
    refine g_iload_n (pc := 34) C dX6_hours_34 rfl ?_
    refine g_icmp_ge (pc := 35) C 48 dX6_hours_35 (by decide) (fun _ => ?_) (fun h35 => absurd ((nI_leI (a := t) (b := t) (by omega) (by omega)).mpr (by omega)) h35)
    exact K
  | succ n9 ih =>
    intro w hw
    have hb := hrX_but S mc lc gdm h w
    have hI := hb.hrI hI0
    have hG := hb.hrG hG0
    have hX := hI.1
    have hh := hrX_h (mc := mc) (lc := lc) (gdm := gdm) hh1 w
    refine g_iload_n (pc := 33) C dX6_hours_33 rfl ?_
    refine g_iload_n (pc := 34) C dX6_hours_34 rfl ?_
    refine g_icmp_ge (pc := 35) C 48 dX6_hours_35 (by decide) (fun h35 => absurd h35 (fun q => absurd ((nI_leI (a := t) (b := w) (by omega) (by omega)).mp q) (by omega))) (fun _ => ?_)
    refine g_aload_n (pc := 38) C dX6_hours_38 rfl ?_
    refine g_callV (pc := 39) C B mX6_204 (c_pass _ _ _ _ _ mc lc hI gdm hG (h + w) hh (by omega)) rfl rfl rfl rfl (hX.1 0 (by decide)) (by decide) ⟨Nat.le_refl _, Nat.le_refl _⟩ (Nat.le_of_ble_eq_true rfl) dX6_hours_39 (fun rr SS hP => ?_)
    rw [hP.1, hP.2]
    refine g_iincN (pc := 42) C 1 dX6_hours_42 rfl (by decide) (by decide) ?_
    refine g_goto (pc := 45) C 33 dX6_hours_45 (by decide) ?_
    exact g_subR (ih (w + 1) (by omega)) ⟨rfl, rfl, rfl, trivial⟩
set_option maxHeartbeats 400000 in
set_option maxRecDepth 100000 in
theorem c_X6_hours (l : Launch) (E : En) (base aw : Nat) (S : Mm) (mc : Nat) (lc : Nat → Nat) (hI : IX S mc lc) (gdm : Nat → Nat → Nat) (hG : GdX S mc lc gdm) (h : Nat) (hh : S.1 (0, 0, 0) 7 = nI h) (hh0 : h ≤ 3000) (t : Nat) (ht0 : 1 ≤ t) (ht : h + t ≤ 3000) : Cn l E base aw yX6_hours cX6_hours 3 (some Jvm.ClassFile.FieldType.int) 4 0 0 noF S [vr (0, 0, 0), vi (nI t)] (fun r S' => r = some (vi (nI (h + t))) ∧ S' = hrX S mc lc gdm h t) := by
  have hX := hI.1
  have hmc := hX.m6
  refine Cn.of (by decide) (Nat.le_of_ble_eq_true rfl) ?_
  intro X Y hl hE hbase haw hfr C B
  subst hl; subst hE; subst hbase; subst haw
  refine g_iload_n (pc := 0) C dX6_hours_0 rfl ?_
  refine g_iconst (pc := 1) C 1 dX6_hours_1 (by decide) ?_
  refine g_icmp_ge (pc := 2) C 12 dX6_hours_2 (by decide) (fun _ => ?_) (fun h2 => absurd ((nI_leI (a := 1) (b := t) (by omega) (by omega)).mpr (by omega)) h2)
  refine g_iload_n (pc := 12) C dX6_hours_12 rfl ?_
  refine g_sipush (pc := 13) C 3000 dX6_hours_13 (by decide) ?_
  refine g_aload_n (pc := 16) C dX6_hours_16 rfl ?_
  refine g_geti (pc := 17) C fX6_183 rfl (hX.1 0 (by decide)) dX6_hours_17 rfl ?_
  refine g_isub (pc := 20) C dX6_hours_20 ?_
  refine g_eqi (nI (3000 - h)) (by rw [hh]; exact pk_sub (a := 3000) (b := h) (by omega)) ?_
  refine g_icmp_le (pc := 21) C 31 dX6_hours_21 (by decide) (fun _ => ?_) (fun h21 => absurd ((nI_leI (a := t) (b := 3000 - h) (by omega) (by omega)).mpr (by omega)) h21)
  refine g_iconst (pc := 31) C 0 dX6_hours_31 (by decide) ?_
  refine g_istore_n (pc := 32) C dX6_hours_32 (by decide) ?_
  refine g_subR (lp_hoursX C B hI hG hh ht ?_ t 0 (by omega)) ⟨rfl, rfl, rfl, trivial⟩
  have hX := ((hrX_but S mc lc gdm h t).hrI hI).1
  refine g_aload_n (pc := 48) C dX6_hours_48 rfl ?_
  refine g_geti (pc := 49) C fX6_183 rfl (hX.1 0 (by decide)) dX6_hours_49 rfl ?_
  exact g_iret (pc := 52) C B rfl dX6_hours_52 (⟨congrArg (fun z => some (vi z)) (hrX_h hh t), rfl⟩)

set_option maxHeartbeats 400000 in
set_option maxRecDepth 100000 in
theorem c_X6_change_b (l : Launch) (E : En) (base aw : Nat) (S : Mm) (mc : Nat) (lc : Nat → Nat) (hI : IX S mc lc) (p0 p1 : Int32) (hx : ¬ okN mc p0) : Cn l E base aw yX6_change cX6_change 4 (some Jvm.ClassFile.FieldType.int) 4 0 0 noF S [vr (0, 0, 0), vi p0, vi p1] (fun r S' => r = some (vi (-1)) ∧ S' = rfX S 1) := by
  have hX := hI.1
  have hmc := hX.m6
  refine Cn.of (by decide) (Nat.le_of_ble_eq_true rfl) ?_
  intro X Y hl hE hbase haw hfr C B
  subst hl; subst hE; subst hbase; subst haw
  refine g_aload_n (pc := 0) C dX6_change_0 rfl ?_
  refine g_iload_n (pc := 1) C dX6_change_1 rfl ?_
  refine g_callV (pc := 2) C B mX6_57 (c_mAt_f _ _ _ _ _ mc lc hI p0 hx) rfl rfl rfl rfl (hX.1 0 (by decide)) (by decide) ⟨Nat.le_refl _, Nat.le_refl _⟩ (Nat.le_of_ble_eq_true rfl) dX6_change_2 (fun rr SS hP => ?_)
  rw [hP.1, hP.2]
  refine g_astore_n (pc := 5) C dX6_change_5 (by decide) ?_
  refine g_aload_n (pc := 6) C dX6_change_6 rfl ?_
  refine g_ifnonnull (pc := 7) C 16 dX6_change_7 (by decide) (fun _ h => by cases h) (fun _ => ?_)
  refine g_aload_n (pc := 10) C dX6_change_10 rfl ?_
  refine g_iconst (pc := 11) C (-1) dX6_change_11 (by decide) ?_
  refine g_callV (pc := 12) C B mX6_52 (c_xrefuse _ _ _ _ _ mc lc hX (-1) 1 (by decide) (by decide) (by decide)) rfl rfl rfl rfl (hX.1 0 (by decide)) (by decide) ⟨Nat.le_refl _, Nat.le_refl _⟩ (Nat.le_of_ble_eq_true rfl) dX6_change_12 (fun rr SS hP => ?_)
  rw [hP.1, hP.2]
  exact g_iret (pc := 15) C B rfl dX6_change_15 (⟨rfl, rfl⟩)

set_option maxHeartbeats 400000 in
set_option maxRecDepth 100000 in
theorem c_X6_change_lo (l : Launch) (E : En) (base aw : Nat) (S : Mm) (mc : Nat) (lc : Nat → Nat) (hI : IX S mc lc) (i : Nat) (hi : i < mc) (p1 : Int32) (hlo : ¬ 0 ≤ p1) : Cn l E base aw yX6_change cX6_change 4 (some Jvm.ClassFile.FieldType.int) 4 0 0 noF S [vr (0, 0, 0), vi (nI i), vi p1] (fun r S' => r = some (vi (-4)) ∧ S' = rfX S 4) := by
  have hX := hI.1
  have hmc := hX.m6
  have hm := hX.ms hi
  have hn := hI.2.2 i hi
  have hn8 := hm.n8
  refine Cn.of (by decide) (Nat.le_of_ble_eq_true rfl) ?_
  intro X Y hl hE hbase haw hfr C B
  subst hl; subst hE; subst hbase; subst haw
  refine g_aload_n (pc := 0) C dX6_change_0 rfl ?_
  refine g_iload_n (pc := 1) C dX6_change_1 rfl ?_
  refine g_callV (pc := 2) C B mX6_57 (c_mAt_t _ _ _ _ _ mc lc hI i hi) rfl rfl rfl rfl (hX.1 0 (by decide)) (by decide) ⟨Nat.le_refl _, Nat.le_refl _⟩ (Nat.le_of_ble_eq_true rfl) dX6_change_2 (fun rr SS hP => ?_)
  rw [hP.1, hP.2]
  refine g_astore_n (pc := 5) C dX6_change_5 (by decide) ?_
  refine g_aload_n (pc := 6) C dX6_change_6 rfl ?_
  refine g_ifnonnull (pc := 7) C 16 dX6_change_7 (by decide) (fun _ _ => ?_) (fun h => by cases h)
  refine g_iload_n (pc := 16) C dX6_change_16 rfl ?_
  refine g_if_ge (pc := 17) C 27 dX6_change_17 (by decide) (fun h17 => absurd h17 hlo) (fun _ => ?_)
  refine g_aload_n (pc := 20) C dX6_change_20 rfl ?_
  refine g_bipush (pc := 21) C (-4) dX6_change_21 (by decide) ?_
  refine g_callV (pc := 23) C B mX6_52 (c_xrefuse _ _ _ _ _ mc lc hX (-4) 4 (by decide) (by decide) (by decide)) rfl rfl rfl rfl (hX.1 0 (by decide)) (by decide) ⟨Nat.le_refl _, Nat.le_refl _⟩ (Nat.le_of_ble_eq_true rfl) dX6_change_23 (fun rr SS hP => ?_)
  rw [hP.1, hP.2]
  exact g_iret (pc := 26) C B rfl dX6_change_26 (⟨rfl, rfl⟩)

set_option maxHeartbeats 400000 in
set_option maxRecDepth 100000 in
theorem c_X6_change_hi (l : Launch) (E : En) (base aw : Nat) (S : Mm) (mc : Nat) (lc : Nat → Nat) (hI : IX S mc lc) (i : Nat) (hi : i < mc) (p1 : Int32) (hlo : 0 ≤ p1) (hhi : ¬ p1 ≤ 20000) : Cn l E base aw yX6_change cX6_change 4 (some Jvm.ClassFile.FieldType.int) 4 0 0 noF S [vr (0, 0, 0), vi (nI i), vi p1] (fun r S' => r = some (vi (-6)) ∧ S' = rfX S 6) := by
  have hX := hI.1
  have hmc := hX.m6
  have hm := hX.ms hi
  have hn := hI.2.2 i hi
  have hn8 := hm.n8
  refine Cn.of (by decide) (Nat.le_of_ble_eq_true rfl) ?_
  intro X Y hl hE hbase haw hfr C B
  subst hl; subst hE; subst hbase; subst haw
  refine g_aload_n (pc := 0) C dX6_change_0 rfl ?_
  refine g_iload_n (pc := 1) C dX6_change_1 rfl ?_
  refine g_callV (pc := 2) C B mX6_57 (c_mAt_t _ _ _ _ _ mc lc hI i hi) rfl rfl rfl rfl (hX.1 0 (by decide)) (by decide) ⟨Nat.le_refl _, Nat.le_refl _⟩ (Nat.le_of_ble_eq_true rfl) dX6_change_2 (fun rr SS hP => ?_)
  rw [hP.1, hP.2]
  refine g_astore_n (pc := 5) C dX6_change_5 (by decide) ?_
  refine g_aload_n (pc := 6) C dX6_change_6 rfl ?_
  refine g_ifnonnull (pc := 7) C 16 dX6_change_7 (by decide) (fun _ _ => ?_) (fun h => by cases h)
  refine g_iload_n (pc := 16) C dX6_change_16 rfl ?_
  refine g_if_ge (pc := 17) C 27 dX6_change_17 (by decide) (fun _ => ?_) (fun h17 => absurd hlo h17)
  refine g_iload_n (pc := 27) C dX6_change_27 rfl ?_
  refine g_sipush (pc := 28) C 20000 dX6_change_28 (by decide) ?_
  refine g_icmp_le (pc := 31) C 41 dX6_change_31 (by decide) (fun h31 => absurd h31 hhi) (fun _ => ?_)
  refine g_aload_n (pc := 34) C dX6_change_34 rfl ?_
  refine g_bipush (pc := 35) C (-6) dX6_change_35 (by decide) ?_
  refine g_callV (pc := 37) C B mX6_52 (c_xrefuse _ _ _ _ _ mc lc hX (-6) 6 (by decide) (by decide) (by decide)) rfl rfl rfl rfl (hX.1 0 (by decide)) (by decide) ⟨Nat.le_refl _, Nat.le_refl _⟩ (Nat.le_of_ble_eq_true rfl) dX6_change_37 (fun rr SS hP => ?_)
  rw [hP.1, hP.2]
  exact g_iret (pc := 40) C B rfl dX6_change_40 (⟨rfl, rfl⟩)

set_option maxHeartbeats 400000 in
set_option maxRecDepth 100000 in
theorem c_X6_change (l : Launch) (E : En) (base aw : Nat) (S : Mm) (mc : Nat) (lc : Nat → Nat) (hI : IX S mc lc) (i : Nat) (hi : i < mc) (t : Nat) (ht : t ≤ 20000) (hv : Nat → Nat) (hhv : ∀ w, w < 6 → S.1 (1, i, 3) w + S.1 (1, i, 5) w = nI (hv w) ∧ hv w ≤ 1000) : Cn l E base aw yX6_change cX6_change 4 (some Jvm.ClassFile.FieldType.int) 4 0 0 noF S [vr (0, 0, 0), vi (nI i), vi (nI t)] (fun r S' => r = some (vi (fewV hv t 16)) ∧ S' = fewM S hv t 16) := by
  have hX := hI.1
  have hmc := hX.m6
  have hm := hX.ms hi
  have hn := hI.2.2 i hi
  have hn8 := hm.n8
  have hc : ChS S := ⟨hX.1 5 (by decide), hX.1 6 (by decide), hX.1 7 (by decide), hX.c0, hX.c1⟩
  refine Cn.of (by decide) (Nat.le_of_ble_eq_true rfl) ?_
  intro X Y hl hE hbase haw hfr C B
  subst hl; subst hE; subst hbase; subst haw
  refine g_aload_n (pc := 0) C dX6_change_0 rfl ?_
  refine g_iload_n (pc := 1) C dX6_change_1 rfl ?_
  refine g_callV (pc := 2) C B mX6_57 (c_mAt_t _ _ _ _ _ mc lc hI i hi) rfl rfl rfl rfl (hX.1 0 (by decide)) (by decide) ⟨Nat.le_refl _, Nat.le_refl _⟩ (Nat.le_of_ble_eq_true rfl) dX6_change_2 (fun rr SS hP => ?_)
  rw [hP.1, hP.2]
  refine g_astore_n (pc := 5) C dX6_change_5 (by decide) ?_
  refine g_aload_n (pc := 6) C dX6_change_6 rfl ?_
  refine g_ifnonnull (pc := 7) C 16 dX6_change_7 (by decide) (fun _ _ => ?_) (fun h => by cases h)
  refine g_iload_n (pc := 16) C dX6_change_16 rfl ?_
  refine g_if_ge (pc := 17) C 27 dX6_change_17 (by decide) (fun _ => ?_) (fun h17 => absurd (nI_pos' (by omega)) h17)
  refine g_iload_n (pc := 27) C dX6_change_27 rfl ?_
  refine g_sipush (pc := 28) C 20000 dX6_change_28 (by decide) ?_
  refine g_icmp_le (pc := 31) C 41 dX6_change_31 (by decide) (fun _ => ?_) (fun h31 => absurd (nI_le (b := 20000) ht (by decide)) h31)
  refine g_aload_n (pc := 41) C dX6_change_41 rfl ?_
  refine g_getr (pc := 42) C fX6_37 rfl (hX.1 0 (by decide)) dX6_change_42 rfl hX.r4 ?_
  refine g_aload_n (pc := 45) C dX6_change_45 rfl ?_
  refine g_getr (pc := 46) C fX6_91 rfl (hm.1 0 (by decide)) dX6_change_46 rfl hm.r1 ?_
  refine g_iload_n (pc := 49) C dX6_change_49 rfl ?_
  refine g_callV (pc := 50) C B mX6_163 (c_fewest _ _ _ _ _ i (lc i) hm hc hv hhv t ht) rfl rfl rfl rfl (hX.1 5 (by decide)) (by decide) ⟨Nat.le_refl _, Nat.le_refl _⟩ (Nat.le_of_ble_eq_true rfl) dX6_change_50 (fun rr SS hP => ?_)
  rw [hP.1, hP.2]
  exact g_iret (pc := 53) C B rfl dX6_change_53 (⟨rfl, rfl⟩)

set_option maxHeartbeats 400000 in
set_option maxRecDepth 100000 in
theorem c_X6_choose_b (l : Launch) (E : En) (base aw : Nat) (S : Mm) (mc : Nat) (lc : Nat → Nat) (hI : IX S mc lc) (p0 p1 : Int32) (h : ¬ okL mc lc p0 p1) : Cn l E base aw yX6_choose cX6_choose 7 (some Jvm.ClassFile.FieldType.int) 4 0 0 noF S [vr (0, 0, 0), vi p0, vi p1] (fun r S' => r = some (vi (-1)) ∧ S' = rfX S 1) := by
  have hX := hI.1
  have hmc := hX.m6
  by_cases hmm : okN mc p0
  ·
    obtain ⟨i, hi, rfl⟩ := hmm
    have hm := hX.ms hi
    have hn := hI.2.2 i hi
    refine Cn.of (by decide) (Nat.le_of_ble_eq_true rfl) ?_
    intro X Y hl hE hbase haw hfr C B
    subst hl; subst hE; subst hbase; subst haw
    refine g_aload_n (pc := 0) C dX6_choose_0 rfl ?_
    refine g_iload_n (pc := 1) C dX6_choose_1 rfl ?_
    refine g_callV (pc := 2) C B mX6_57 (c_mAt_t _ _ _ _ _ mc lc hI i hi) rfl rfl rfl rfl (hX.1 0 (by decide)) (by decide) ⟨Nat.le_refl _, Nat.le_refl _⟩ (Nat.le_of_ble_eq_true rfl) dX6_choose_2 (fun rr SS hP => ?_)
    rw [hP.1, hP.2]
    refine g_astore_n (pc := 5) C dX6_choose_5 (by decide) ?_
    refine g_aload_n (pc := 6) C dX6_choose_6 rfl ?_
    refine g_iload_n (pc := 7) C dX6_choose_7 rfl ?_
    refine g_iload_n (pc := 8) C dX6_choose_8 rfl ?_
    refine g_callV (pc := 9) C B mX6_81 (c_lAt_f _ _ _ _ _ mc lc hI (nI i) p1 h) rfl rfl rfl rfl (hX.1 0 (by decide)) (by decide) ⟨Nat.le_refl _, Nat.le_refl _⟩ (Nat.le_of_ble_eq_true rfl) dX6_choose_9 (fun rr SS hP => ?_)
    rw [hP.1, hP.2]
    refine g_astore (pc := 12) C dX6_choose_12 (by decide) ?_
    refine g_aload_n (pc := 14) C dX6_choose_14 rfl ?_
    refine g_ifnull (pc := 15) C 23 dX6_choose_15 (by decide) (fun h => by cases h) (fun _ _ => ?_)
    refine g_aload (pc := 18) C dX6_choose_18 rfl ?_
    refine g_ifnonnull (pc := 20) C 29 dX6_choose_20 (by decide) (fun _ h => by cases h) (fun _ => ?_)
    refine g_aload_n (pc := 23) C dX6_choose_23 rfl ?_
    refine g_iconst (pc := 24) C (-1) dX6_choose_24 (by decide) ?_
    refine g_callV (pc := 25) C B mX6_52 (c_xrefuse _ _ _ _ _ mc lc hX (-1) 1 (by decide) (by decide) (by decide)) rfl rfl rfl rfl (hX.1 0 (by decide)) (by decide) ⟨Nat.le_refl _, Nat.le_refl _⟩ (Nat.le_of_ble_eq_true rfl) dX6_choose_25 (fun rr SS hP => ?_)
    rw [hP.1, hP.2]
    exact g_iret (pc := 28) C B rfl dX6_choose_28 (⟨rfl, rfl⟩)
  ·
    have hx := hmm
    refine Cn.of (by decide) (Nat.le_of_ble_eq_true rfl) ?_
    intro X Y hl hE hbase haw hfr C B
    subst hl; subst hE; subst hbase; subst haw
    refine g_aload_n (pc := 0) C dX6_choose_0 rfl ?_
    refine g_iload_n (pc := 1) C dX6_choose_1 rfl ?_
    refine g_callV (pc := 2) C B mX6_57 (c_mAt_f _ _ _ _ _ mc lc hI p0 hx) rfl rfl rfl rfl (hX.1 0 (by decide)) (by decide) ⟨Nat.le_refl _, Nat.le_refl _⟩ (Nat.le_of_ble_eq_true rfl) dX6_choose_2 (fun rr SS hP => ?_)
    rw [hP.1, hP.2]
    refine g_astore_n (pc := 5) C dX6_choose_5 (by decide) ?_
    refine g_aload_n (pc := 6) C dX6_choose_6 rfl ?_
    refine g_iload_n (pc := 7) C dX6_choose_7 rfl ?_
    refine g_iload_n (pc := 8) C dX6_choose_8 rfl ?_
    refine g_callV (pc := 9) C B mX6_81 (c_lAt_f _ _ _ _ _ mc lc hI p0 p1 h) rfl rfl rfl rfl (hX.1 0 (by decide)) (by decide) ⟨Nat.le_refl _, Nat.le_refl _⟩ (Nat.le_of_ble_eq_true rfl) dX6_choose_9 (fun rr SS hP => ?_)
    rw [hP.1, hP.2]
    refine g_astore (pc := 12) C dX6_choose_12 (by decide) ?_
    refine g_aload_n (pc := 14) C dX6_choose_14 rfl ?_
    refine g_ifnull (pc := 15) C 23 dX6_choose_15 (by decide) (fun _ => ?_) (fun _ h => by cases h)
    refine g_aload_n (pc := 23) C dX6_choose_23 rfl ?_
    refine g_iconst (pc := 24) C (-1) dX6_choose_24 (by decide) ?_
    refine g_callV (pc := 25) C B mX6_52 (c_xrefuse _ _ _ _ _ mc lc hX (-1) 1 (by decide) (by decide) (by decide)) rfl rfl rfl rfl (hX.1 0 (by decide)) (by decide) ⟨Nat.le_refl _, Nat.le_refl _⟩ (Nat.le_of_ble_eq_true rfl) dX6_choose_25 (fun rr SS hP => ?_)
    rw [hP.1, hP.2]
    exact g_iret (pc := 28) C B rfl dX6_choose_28 (⟨rfl, rfl⟩)

set_option maxHeartbeats 400000 in
set_option maxRecDepth 100000 in
theorem c_X6_choose_3 (l : Launch) (E : En) (base aw : Nat) (S : Mm) (mc : Nat) (lc : Nat → Nat) (hI : IX S mc lc) (i : Nat) (hi : i < mc) (j : Nat) (hj : j < lc i) (hs : v_src S i j (lc i) = 0) : Cn l E base aw yX6_choose cX6_choose 7 (some Jvm.ClassFile.FieldType.int) 4 0 0 noF S [vr (0, 0, 0), vi (nI i), vi (nI j)] (fun r S' => r = some (vi (-3)) ∧ S' = rfX S 3) := by
  have hX := hI.1
  have hmc := hX.m6
  have hm := hX.ms hi
  have hn := hI.2.2 i hi
  have hn8 := hm.n8
  refine Cn.of (by decide) (Nat.le_of_ble_eq_true rfl) ?_
  intro X Y hl hE hbase haw hfr C B
  subst hl; subst hE; subst hbase; subst haw
  refine g_aload_n (pc := 0) C dX6_choose_0 rfl ?_
  refine g_iload_n (pc := 1) C dX6_choose_1 rfl ?_
  refine g_callV (pc := 2) C B mX6_57 (c_mAt_t _ _ _ _ _ mc lc hI i hi) rfl rfl rfl rfl (hX.1 0 (by decide)) (by decide) ⟨Nat.le_refl _, Nat.le_refl _⟩ (Nat.le_of_ble_eq_true rfl) dX6_choose_2 (fun rr SS hP => ?_)
  rw [hP.1, hP.2]
  refine g_astore_n (pc := 5) C dX6_choose_5 (by decide) ?_
  refine g_aload_n (pc := 6) C dX6_choose_6 rfl ?_
  refine g_iload_n (pc := 7) C dX6_choose_7 rfl ?_
  refine g_iload_n (pc := 8) C dX6_choose_8 rfl ?_
  refine g_callV (pc := 9) C B mX6_81 (c_lAt_t _ _ _ _ _ mc lc hI i hi j hj) rfl rfl rfl rfl (hX.1 0 (by decide)) (by decide) ⟨Nat.le_refl _, Nat.le_refl _⟩ (Nat.le_of_ble_eq_true rfl) dX6_choose_9 (fun rr SS hP => ?_)
  rw [hP.1, hP.2]
  refine g_astore (pc := 12) C dX6_choose_12 (by decide) ?_
  refine g_aload_n (pc := 14) C dX6_choose_14 rfl ?_
  refine g_ifnull (pc := 15) C 23 dX6_choose_15 (by decide) (fun h => by cases h) (fun _ _ => ?_)
  refine g_aload (pc := 18) C dX6_choose_18 rfl ?_
  refine g_ifnonnull (pc := 20) C 29 dX6_choose_20 (by decide) (fun _ _ => ?_) (fun h => by cases h)
  refine g_aload_n (pc := 29) C dX6_choose_29 rfl ?_
  refine g_iload_n (pc := 30) C dX6_choose_30 rfl ?_
  refine g_callV (pc := 31) C B mX6_159 (c_src0 _ _ _ _ _ i (lc i) hm hn j hj hs) rfl rfl rfl rfl (hm.1 0 (by decide)) (by decide) ⟨Nat.le_refl _, Nat.le_refl _⟩ (Nat.le_of_ble_eq_true rfl) dX6_choose_31 (fun rr SS hP => ?_)
  rw [hP.1, hP.2]
  refine g_astore (pc := 34) C dX6_choose_34 (by decide) ?_
  refine g_aload (pc := 36) C dX6_choose_36 rfl ?_
  refine g_ifnonnull (pc := 38) C 48 dX6_choose_38 (by decide) (fun _ h => by cases h) (fun _ => ?_)
  refine g_aload_n (pc := 41) C dX6_choose_41 rfl ?_
  refine g_bipush (pc := 42) C (-3) dX6_choose_42 (by decide) ?_
  refine g_callV (pc := 44) C B mX6_52 (c_xrefuse _ _ _ _ _ mc lc hX (-3) 3 (by decide) (by decide) (by decide)) rfl rfl rfl rfl (hX.1 0 (by decide)) (by decide) ⟨Nat.le_refl _, Nat.le_refl _⟩ (Nat.le_of_ble_eq_true rfl) dX6_choose_44 (fun rr SS hP => ?_)
  rw [hP.1, hP.2]
  exact g_iret (pc := 47) C B rfl dX6_choose_47 (⟨rfl, rfl⟩)

theorem msX_2 (S : Mm) (i j : Nat) : (msX S i j).2 = S.2 := by
  unfold msX; split <;> rfl
set_option maxHeartbeats 400000 in
set_option maxRecDepth 100000 in
theorem c_X6_choose_51 (l : Launch) (E : En) (base aw : Nat) (S : Mm) (mc : Nat) (lc : Nat → Nat) (hI : IX S mc lc) (i : Nat) (hi : i < mc) (j : Nat) (hj : j < lc i) (hs : v_src S i j (lc i) = 1) (hb : ¬ 0 ≤ wsum (S.1 (1, i, 5)) 6 - S.1 (3, i, j) 4) : Cn l E base aw yX6_choose cX6_choose 7 (some Jvm.ClassFile.FieldType.int) 4 0 0 noF S [vr (0, 0, 0), vi (nI i), vi (nI j)] (fun r S' => r = some (vi (-5)) ∧ S' = rfX S 5) := by
  have hX := hI.1
  have hmc := hX.m6
  have hm := hX.ms hi
  have hn := hI.2.2 i hi
  have hn8 := hm.n8
  have hc : ChS S := ⟨hX.1 5 (by decide), hX.1 6 (by decide), hX.1 7 (by decide), hX.c0, hX.c1⟩
  refine Cn.of (by decide) (Nat.le_of_ble_eq_true rfl) ?_
  intro X Y hl hE hbase haw hfr C B
  subst hl; subst hE; subst hbase; subst haw
  refine g_aload_n (pc := 0) C dX6_choose_0 rfl ?_
  refine g_iload_n (pc := 1) C dX6_choose_1 rfl ?_
  refine g_callV (pc := 2) C B mX6_57 (c_mAt_t _ _ _ _ _ mc lc hI i hi) rfl rfl rfl rfl (hX.1 0 (by decide)) (by decide) ⟨Nat.le_refl _, Nat.le_refl _⟩ (Nat.le_of_ble_eq_true rfl) dX6_choose_2 (fun rr SS hP => ?_)
  rw [hP.1, hP.2]
  refine g_astore_n (pc := 5) C dX6_choose_5 (by decide) ?_
  refine g_aload_n (pc := 6) C dX6_choose_6 rfl ?_
  refine g_iload_n (pc := 7) C dX6_choose_7 rfl ?_
  refine g_iload_n (pc := 8) C dX6_choose_8 rfl ?_
  refine g_callV (pc := 9) C B mX6_81 (c_lAt_t _ _ _ _ _ mc lc hI i hi j hj) rfl rfl rfl rfl (hX.1 0 (by decide)) (by decide) ⟨Nat.le_refl _, Nat.le_refl _⟩ (Nat.le_of_ble_eq_true rfl) dX6_choose_9 (fun rr SS hP => ?_)
  rw [hP.1, hP.2]
  refine g_astore (pc := 12) C dX6_choose_12 (by decide) ?_
  refine g_aload_n (pc := 14) C dX6_choose_14 rfl ?_
  refine g_ifnull (pc := 15) C 23 dX6_choose_15 (by decide) (fun h => by cases h) (fun _ _ => ?_)
  refine g_aload (pc := 18) C dX6_choose_18 rfl ?_
  refine g_ifnonnull (pc := 20) C 29 dX6_choose_20 (by decide) (fun _ _ => ?_) (fun h => by cases h)
  refine g_aload_n (pc := 29) C dX6_choose_29 rfl ?_
  refine g_iload_n (pc := 30) C dX6_choose_30 rfl ?_
  refine g_callV (pc := 31) C B mX6_159 (c_src1 _ _ _ _ _ i (lc i) hm hn j hj hs) rfl rfl rfl rfl (hm.1 0 (by decide)) (by decide) ⟨Nat.le_refl _, Nat.le_refl _⟩ (Nat.le_of_ble_eq_true rfl) dX6_choose_31 (fun rr SS hP => ?_)
  rw [hP.1, hP.2]
  refine g_astore (pc := 34) C dX6_choose_34 (by decide) ?_
  refine g_aload (pc := 36) C dX6_choose_36 rfl ?_
  refine g_ifnonnull (pc := 38) C 48 dX6_choose_38 (by decide) (fun _ _ => ?_) (fun h => by cases h)
  refine g_aload_n (pc := 48) C dX6_choose_48 rfl ?_
  refine g_getr (pc := 49) C fX6_91 rfl (hm.1 0 (by decide)) dX6_choose_49 rfl hm.r1 ?_
  refine g_getr (pc := 52) C fX6_148 rfl (hm.1 2 (by decide)) dX6_choose_52 rfl hm.t2 ?_
  refine g_callS (pc := 55) C B mX6_151 (c_xworth _ _ _ _ _ (1, i, 5) rfl (hm.1 5 (by decide))) rfl rfl (by decide) ⟨Nat.le_refl _, Nat.le_refl _⟩ (Nat.le_of_ble_eq_true rfl) dX6_choose_55 (fun rr SS hP => ?_)
  rw [hP.1, hP.2]
  refine g_aload (pc := 58) C dX6_choose_58 rfl ?_
  refine g_geti (pc := 60) C fX6_85 rfl (hm.ln (by omega)) dX6_choose_60 rfl ?_
  refine g_isub (pc := 63) C dX6_choose_63 ?_
  refine g_istore (pc := 64) C dX6_choose_64 (by decide) ?_
  refine g_iload (pc := 66) C dX6_choose_66 rfl ?_
  refine g_if_ge (pc := 68) C 78 dX6_choose_68 (by decide) (fun h68 => absurd h68 hb) (fun _ => ?_)
  refine g_aload_n (pc := 71) C dX6_choose_71 rfl ?_
  refine g_bipush (pc := 72) C (-5) dX6_choose_72 (by decide) ?_
  refine g_callV (pc := 74) C B mX6_52 (c_xrefuse _ _ _ _ _ mc lc hX (-5) 5 (by decide) (by decide) (by decide)) rfl rfl rfl rfl (hX.1 0 (by decide)) (by decide) ⟨Nat.le_refl _, Nat.le_refl _⟩ (Nat.le_of_ble_eq_true rfl) dX6_choose_74 (fun rr SS hP => ?_)
  rw [hP.1, hP.2]
  exact g_iret (pc := 77) C B rfl dX6_choose_77 (⟨rfl, rfl⟩)

set_option maxHeartbeats 400000 in
set_option maxRecDepth 100000 in
theorem c_X6_choose_61 (l : Launch) (E : En) (base aw : Nat) (S : Mm) (mc : Nat) (lc : Nat → Nat) (hI : IX S mc lc) (i : Nat) (hi : i < mc) (j : Nat) (hj : j < lc i) (hs : v_src S i j (lc i) = 1) (t : Nat) (hb : wsum (S.1 (1, i, 5)) 6 - S.1 (3, i, j) 4 = nI t) (ht : t ≤ 20000) (hv : Nat → Nat) (hhv : ∀ w, w < 6 → S.1 (1, i, 3) w + S.1 (1, i, 5) w = nI (hv w) ∧ hv w ≤ 1000) (hf : fewV hv t 16 = -9) : Cn l E base aw yX6_choose cX6_choose 7 (some Jvm.ClassFile.FieldType.int) 4 0 0 noF S [vr (0, 0, 0), vi (nI i), vi (nI j)] (fun r S' => r = some (vi (-6)) ∧ S' = rfX (fewM S hv t 16) 6) := by
  have hX := hI.1
  have hmc := hX.m6
  have hm := hX.ms hi
  have hn := hI.2.2 i hi
  have hn8 := hm.n8
  have hc : ChS S := ⟨hX.1 5 (by decide), hX.1 6 (by decide), hX.1 7 (by decide), hX.c0, hX.c1⟩
  refine Cn.of (by decide) (Nat.le_of_ble_eq_true rfl) ?_
  intro X Y hl hE hbase haw hfr C B
  subst hl; subst hE; subst hbase; subst haw
  refine g_aload_n (pc := 0) C dX6_choose_0 rfl ?_
  refine g_iload_n (pc := 1) C dX6_choose_1 rfl ?_
  refine g_callV (pc := 2) C B mX6_57 (c_mAt_t _ _ _ _ _ mc lc hI i hi) rfl rfl rfl rfl (hX.1 0 (by decide)) (by decide) ⟨Nat.le_refl _, Nat.le_refl _⟩ (Nat.le_of_ble_eq_true rfl) dX6_choose_2 (fun rr SS hP => ?_)
  rw [hP.1, hP.2]
  refine g_astore_n (pc := 5) C dX6_choose_5 (by decide) ?_
  refine g_aload_n (pc := 6) C dX6_choose_6 rfl ?_
  refine g_iload_n (pc := 7) C dX6_choose_7 rfl ?_
  refine g_iload_n (pc := 8) C dX6_choose_8 rfl ?_
  refine g_callV (pc := 9) C B mX6_81 (c_lAt_t _ _ _ _ _ mc lc hI i hi j hj) rfl rfl rfl rfl (hX.1 0 (by decide)) (by decide) ⟨Nat.le_refl _, Nat.le_refl _⟩ (Nat.le_of_ble_eq_true rfl) dX6_choose_9 (fun rr SS hP => ?_)
  rw [hP.1, hP.2]
  refine g_astore (pc := 12) C dX6_choose_12 (by decide) ?_
  refine g_aload_n (pc := 14) C dX6_choose_14 rfl ?_
  refine g_ifnull (pc := 15) C 23 dX6_choose_15 (by decide) (fun h => by cases h) (fun _ _ => ?_)
  refine g_aload (pc := 18) C dX6_choose_18 rfl ?_
  refine g_ifnonnull (pc := 20) C 29 dX6_choose_20 (by decide) (fun _ _ => ?_) (fun h => by cases h)
  refine g_aload_n (pc := 29) C dX6_choose_29 rfl ?_
  refine g_iload_n (pc := 30) C dX6_choose_30 rfl ?_
  refine g_callV (pc := 31) C B mX6_159 (c_src1 _ _ _ _ _ i (lc i) hm hn j hj hs) rfl rfl rfl rfl (hm.1 0 (by decide)) (by decide) ⟨Nat.le_refl _, Nat.le_refl _⟩ (Nat.le_of_ble_eq_true rfl) dX6_choose_31 (fun rr SS hP => ?_)
  rw [hP.1, hP.2]
  refine g_astore (pc := 34) C dX6_choose_34 (by decide) ?_
  refine g_aload (pc := 36) C dX6_choose_36 rfl ?_
  refine g_ifnonnull (pc := 38) C 48 dX6_choose_38 (by decide) (fun _ _ => ?_) (fun h => by cases h)
  refine g_aload_n (pc := 48) C dX6_choose_48 rfl ?_
  refine g_getr (pc := 49) C fX6_91 rfl (hm.1 0 (by decide)) dX6_choose_49 rfl hm.r1 ?_
  refine g_getr (pc := 52) C fX6_148 rfl (hm.1 2 (by decide)) dX6_choose_52 rfl hm.t2 ?_
  refine g_callS (pc := 55) C B mX6_151 (c_xworth _ _ _ _ _ (1, i, 5) rfl (hm.1 5 (by decide))) rfl rfl (by decide) ⟨Nat.le_refl _, Nat.le_refl _⟩ (Nat.le_of_ble_eq_true rfl) dX6_choose_55 (fun rr SS hP => ?_)
  rw [hP.1, hP.2]
  refine g_aload (pc := 58) C dX6_choose_58 rfl ?_
  refine g_geti (pc := 60) C fX6_85 rfl (hm.ln (by omega)) dX6_choose_60 rfl ?_
  refine g_isub (pc := 63) C dX6_choose_63 ?_
  refine g_eqi (nI (t)) hb ?_
  refine g_istore (pc := 64) C dX6_choose_64 (by decide) ?_
  refine g_iload (pc := 66) C dX6_choose_66 rfl ?_
  refine g_if_ge (pc := 68) C 78 dX6_choose_68 (by decide) (fun _ => ?_) (fun h68 => absurd (nI_pos' (by omega)) h68)
  refine g_aload_n (pc := 78) C dX6_choose_78 rfl ?_
  refine g_getr (pc := 79) C fX6_37 rfl (hX.1 0 (by decide)) dX6_choose_79 rfl hX.r4 ?_
  refine g_aload_n (pc := 82) C dX6_choose_82 rfl ?_
  refine g_getr (pc := 83) C fX6_91 rfl (hm.1 0 (by decide)) dX6_choose_83 rfl hm.r1 ?_
  refine g_iload (pc := 86) C dX6_choose_86 rfl ?_
  refine g_callV (pc := 88) C B mX6_163 (c_fewest _ _ _ _ _ i (lc i) hm hc hv hhv t ht) rfl rfl rfl rfl (hX.1 5 (by decide)) (by decide) ⟨Nat.le_refl _, Nat.le_refl _⟩ (Nat.le_of_ble_eq_true rfl) dX6_choose_88 (fun rr SS hP => ?_)
  rw [hP.1, hP.2]
  have hE := fewM_but S hv t 16
  have hX := hX.same hE.1
  have hm := hm.same hE.1
  refine g_bipush (pc := 91) C (-9) dX6_choose_91 (by decide) ?_
  refine g_icmp_ne (pc := 93) C 103 dX6_choose_93 (by decide) (fun h93 => absurd hf h93) (fun _ => ?_)
  refine g_aload_n (pc := 96) C dX6_choose_96 rfl ?_
  refine g_bipush (pc := 97) C (-6) dX6_choose_97 (by decide) ?_
  refine g_callV (pc := 99) C B mX6_52 (c_xrefuse _ _ _ _ _ mc lc hX (-6) 6 (by decide) (by decide) (by decide)) rfl rfl rfl rfl (hX.1 0 (by decide)) (by decide) ⟨Nat.le_refl _, Nat.le_refl _⟩ (Nat.le_of_ble_eq_true rfl) dX6_choose_99 (fun rr SS hP => ?_)
  rw [hP.1, hP.2]
  exact g_iret (pc := 102) C B rfl dX6_choose_102 (⟨rfl, rfl⟩)

set_option maxHeartbeats 400000 in
set_option maxRecDepth 100000 in
theorem c_X6_choose_71 (l : Launch) (E : En) (base aw : Nat) (S : Mm) (mc : Nat) (lc : Nat → Nat) (hI : IX S mc lc) (i : Nat) (hi : i < mc) (j : Nat) (hj : j < lc i) (hs : v_src S i j (lc i) = 1) (t : Nat) (hb : wsum (S.1 (1, i, 5)) 6 - S.1 (3, i, j) 4 = nI t) (ht : t ≤ 20000) (hv : Nat → Nat) (hhv : ∀ w, w < 6 → S.1 (1, i, 3) w + S.1 (1, i, 5) w = nI (hv w) ∧ hv w ≤ 1000) (hf : ¬ fewV hv t 16 = -9) (hst : ¬ S.1 (3, i, j) 6 ≤ 0) : Cn l E base aw yX6_choose cX6_choose 7 (some Jvm.ClassFile.FieldType.int) 4 0 0 noF S [vr (0, 0, 0), vi (nI i), vi (nI j)] (fun r S' => r = some (vi (-7)) ∧ S' = wI (wI (gbX (msX (fewM S hv t 16) i j) i 6) (1, i, 2) 7 0) (0, 0, 0) 8 ((wI (gbX (msX (fewM S hv t 16) i j) i 6) (1, i, 2) 7 0).1 (0, 0, 0) 8 + 1)) := by
  have hX := hI.1
  have hmc := hX.m6
  have hm := hX.ms hi
  have hn := hI.2.2 i hi
  have hn8 := hm.n8
  have hc : ChS S := ⟨hX.1 5 (by decide), hX.1 6 (by decide), hX.1 7 (by decide), hX.c0, hX.c1⟩
  refine Cn.of (by decide) (Nat.le_of_ble_eq_true rfl) ?_
  intro X Y hl hE hbase haw hfr C B
  subst hl; subst hE; subst hbase; subst haw
  refine g_aload_n (pc := 0) C dX6_choose_0 rfl ?_
  refine g_iload_n (pc := 1) C dX6_choose_1 rfl ?_
  refine g_callV (pc := 2) C B mX6_57 (c_mAt_t _ _ _ _ _ mc lc hI i hi) rfl rfl rfl rfl (hX.1 0 (by decide)) (by decide) ⟨Nat.le_refl _, Nat.le_refl _⟩ (Nat.le_of_ble_eq_true rfl) dX6_choose_2 (fun rr SS hP => ?_)
  rw [hP.1, hP.2]
  refine g_astore_n (pc := 5) C dX6_choose_5 (by decide) ?_
  refine g_aload_n (pc := 6) C dX6_choose_6 rfl ?_
  refine g_iload_n (pc := 7) C dX6_choose_7 rfl ?_
  refine g_iload_n (pc := 8) C dX6_choose_8 rfl ?_
  refine g_callV (pc := 9) C B mX6_81 (c_lAt_t _ _ _ _ _ mc lc hI i hi j hj) rfl rfl rfl rfl (hX.1 0 (by decide)) (by decide) ⟨Nat.le_refl _, Nat.le_refl _⟩ (Nat.le_of_ble_eq_true rfl) dX6_choose_9 (fun rr SS hP => ?_)
  rw [hP.1, hP.2]
  refine g_astore (pc := 12) C dX6_choose_12 (by decide) ?_
  refine g_aload_n (pc := 14) C dX6_choose_14 rfl ?_
  refine g_ifnull (pc := 15) C 23 dX6_choose_15 (by decide) (fun h => by cases h) (fun _ _ => ?_)
  refine g_aload (pc := 18) C dX6_choose_18 rfl ?_
  refine g_ifnonnull (pc := 20) C 29 dX6_choose_20 (by decide) (fun _ _ => ?_) (fun h => by cases h)
  refine g_aload_n (pc := 29) C dX6_choose_29 rfl ?_
  refine g_iload_n (pc := 30) C dX6_choose_30 rfl ?_
  refine g_callV (pc := 31) C B mX6_159 (c_src1 _ _ _ _ _ i (lc i) hm hn j hj hs) rfl rfl rfl rfl (hm.1 0 (by decide)) (by decide) ⟨Nat.le_refl _, Nat.le_refl _⟩ (Nat.le_of_ble_eq_true rfl) dX6_choose_31 (fun rr SS hP => ?_)
  rw [hP.1, hP.2]
  refine g_astore (pc := 34) C dX6_choose_34 (by decide) ?_
  refine g_aload (pc := 36) C dX6_choose_36 rfl ?_
  refine g_ifnonnull (pc := 38) C 48 dX6_choose_38 (by decide) (fun _ _ => ?_) (fun h => by cases h)
  refine g_aload_n (pc := 48) C dX6_choose_48 rfl ?_
  refine g_getr (pc := 49) C fX6_91 rfl (hm.1 0 (by decide)) dX6_choose_49 rfl hm.r1 ?_
  refine g_getr (pc := 52) C fX6_148 rfl (hm.1 2 (by decide)) dX6_choose_52 rfl hm.t2 ?_
  refine g_callS (pc := 55) C B mX6_151 (c_xworth _ _ _ _ _ (1, i, 5) rfl (hm.1 5 (by decide))) rfl rfl (by decide) ⟨Nat.le_refl _, Nat.le_refl _⟩ (Nat.le_of_ble_eq_true rfl) dX6_choose_55 (fun rr SS hP => ?_)
  rw [hP.1, hP.2]
  refine g_aload (pc := 58) C dX6_choose_58 rfl ?_
  refine g_geti (pc := 60) C fX6_85 rfl (hm.ln (by omega)) dX6_choose_60 rfl ?_
  refine g_isub (pc := 63) C dX6_choose_63 ?_
  refine g_eqi (nI (t)) hb ?_
  refine g_istore (pc := 64) C dX6_choose_64 (by decide) ?_
  refine g_iload (pc := 66) C dX6_choose_66 rfl ?_
  refine g_if_ge (pc := 68) C 78 dX6_choose_68 (by decide) (fun _ => ?_) (fun h68 => absurd (nI_pos' (by omega)) h68)
  refine g_aload_n (pc := 78) C dX6_choose_78 rfl ?_
  refine g_getr (pc := 79) C fX6_37 rfl (hX.1 0 (by decide)) dX6_choose_79 rfl hX.r4 ?_
  refine g_aload_n (pc := 82) C dX6_choose_82 rfl ?_
  refine g_getr (pc := 83) C fX6_91 rfl (hm.1 0 (by decide)) dX6_choose_83 rfl hm.r1 ?_
  refine g_iload (pc := 86) C dX6_choose_86 rfl ?_
  refine g_callV (pc := 88) C B mX6_163 (c_fewest _ _ _ _ _ i (lc i) hm hc hv hhv t ht) rfl rfl rfl rfl (hX.1 5 (by decide)) (by decide) ⟨Nat.le_refl _, Nat.le_refl _⟩ (Nat.le_of_ble_eq_true rfl) dX6_choose_88 (fun rr SS hP => ?_)
  rw [hP.1, hP.2]
  have hE := fewM_but S hv t 16
  have hX := hX.same hE.1
  have hm := hm.same hE.1
  refine g_bipush (pc := 91) C (-9) dX6_choose_91 (by decide) ?_
  refine g_icmp_ne (pc := 93) C 103 dX6_choose_93 (by decide) (fun _ => ?_) (fun h93 => absurd h93 hf)
  refine g_aload (pc := 103) C dX6_choose_103 rfl ?_
  refine g_geti (pc := 105) C fX6_107 rfl (hm.ln (by omega)) dX6_choose_105 rfl ?_
  refine g_eqi (S.1 (3, i, j) 6) (hE.2 _ _ (fun q => by rcases q with q | q <;> cases q)) ?_
  refine g_if_le (pc := 108) C 137 dX6_choose_108 (by decide) (fun h108 => absurd h108 hst) (fun _ => ?_)
  refine g_aload (pc := 111) C dX6_choose_111 rfl ?_
  refine g_callV (pc := 113) C B mX6_167 (c_missX _ _ _ _ _ i j (hm.ln (by omega))) rfl rfl rfl rfl (hm.ln (by omega)) (by decide) ⟨Nat.le_refl _, Nat.le_refl _⟩ (Nat.le_of_ble_eq_true rfl) dX6_choose_113 (fun rr SS hP => ?_)
  rw [hP.1, hP.2]
  have hX := hX.same (msX_2 (fewM S hv t 16) i j)
  have hm := hm.same (msX_2 (fewM S hv t 16) i j)
  refine g_aload_n (pc := 116) C dX6_choose_116 rfl ?_
  refine g_getr (pc := 117) C fX6_91 rfl (hm.1 0 (by decide)) dX6_choose_117 rfl hm.r1 ?_
  refine g_callV (pc := 120) C B mX6_155 (c_giveBack _ _ _ _ _ i (lc i) hm) rfl rfl rfl rfl (hm.1 2 (by decide)) (by decide) ⟨Nat.le_refl _, Nat.le_refl _⟩ (Nat.le_of_ble_eq_true rfl) dX6_choose_120 (fun rr SS hP => ?_)
  rw [hP.1, hP.2]
  have hX := hX.same (gbX_2 (msX (fewM S hv t 16) i j) i 6)
  refine g_pop (pc := 123) C dX6_choose_123 ?_
  refine g_aload_n (pc := 124) C dX6_choose_124 rfl ?_
  refine g_dup (pc := 125) C dX6_choose_125 ?_
  refine g_geti (pc := 126) C fX6_170 rfl (hX.1 0 (by decide)) dX6_choose_126 rfl ?_
  refine g_iconst (pc := 129) C 1 dX6_choose_129 (by decide) ?_
  refine g_iadd (pc := 130) C dX6_choose_130 ?_
  refine g_puti (pc := 131) C fX6_170 (Or.inl fm6_8) rfl (hX.1 0 (by decide)) dX6_choose_131 (Or.inl rfl) ?_
  refine g_bipush (pc := 134) C (-7) dX6_choose_134 (by decide) ?_
  exact g_iret (pc := 136) C B rfl dX6_choose_136 (⟨rfl, rfl⟩)

def fcX1 (S : Mm) (hv : Nat → Nat) (t i j g h : Nat) : Mm := wI (wI (wI (wI (fewM S hv t 16) (3, i, j) 5 ((fewM S hv t 16).1 (3, i, j) 5 - 1)) (3, i, j) 7 0) (1, i, 0) 8 ((wI (wI (fewM S hv t 16) (3, i, j) 5 ((fewM S hv t 16).1 (3, i, j) 5 - 1)) (3, i, j) 7 0).1 (1, i, 0) 8 + 1)) (1, i, 11) (g * 24 + h % 24) ((wI (wI (wI (fewM S hv t 16) (3, i, j) 5 ((fewM S hv t 16).1 (3, i, j) 5 - 1)) (3, i, j) 7 0) (1, i, 0) 8 ((wI (wI (fewM S hv t 16) (3, i, j) 5 ((fewM S hv t 16).1 (3, i, j) 5 - 1)) (3, i, j) 7 0).1 (1, i, 0) 8 + 1)).1 (1, i, 11) (g * 24 + h % 24) + 1)
set_option maxHeartbeats 400000 in
set_option maxRecDepth 100000 in
theorem c_X6_choose_f1 (l : Launch) (E : En) (base aw : Nat) (S : Mm) (mc : Nat) (lc : Nat → Nat) (hI : IX S mc lc) (i : Nat) (hi : i < mc) (j : Nat) (hj : j < lc i) (hs : v_src S i j (lc i) = 1) (t : Nat) (hb : wsum (S.1 (1, i, 5)) 6 - S.1 (3, i, j) 4 = nI t) (ht : t ≤ 20000) (hv : Nat → Nat) (hhv : ∀ w, w < 6 → S.1 (1, i, 3) w + S.1 (1, i, 5) w = nI (hv w) ∧ hv w ≤ 1000) (hf : ¬ fewV hv t 16 = -9) (hst : S.1 (3, i, j) 6 ≤ 0) (g : Nat) (hgd : S.1 (3, i, j) 0 = nI g) (hg : g < 16) (h : Nat) (hh : S.1 (0, 0, 0) 7 = nI h) (hh0 : h ≤ 3000) : Cn l E base aw yX6_choose cX6_choose 7 (some Jvm.ClassFile.FieldType.int) 4 0 0 noF S [vr (0, 0, 0), vi (nI i), vi (nI j)] (fun r S' => r = some (vi (nI t)) ∧ S' = cpyI (wI (seX (fcX1 S hv t i j g h) i 6) (1, i, 2) 7 0) (0, 0, 7) (0, 0, 4) 6) := by
  have hX := hI.1
  have hmc := hX.m6
  have hm := hX.ms hi
  have hn := hI.2.2 i hi
  have hn8 := hm.n8
  have hc : ChS S := ⟨hX.1 5 (by decide), hX.1 6 (by decide), hX.1 7 (by decide), hX.c0, hX.c1⟩
  refine Cn.of (by decide) (Nat.le_of_ble_eq_true rfl) ?_
  intro X Y hl hE hbase haw hfr C B
  subst hl; subst hE; subst hbase; subst haw
  refine g_aload_n (pc := 0) C dX6_choose_0 rfl ?_
  refine g_iload_n (pc := 1) C dX6_choose_1 rfl ?_
  refine g_callV (pc := 2) C B mX6_57 (c_mAt_t _ _ _ _ _ mc lc hI i hi) rfl rfl rfl rfl (hX.1 0 (by decide)) (by decide) ⟨Nat.le_refl _, Nat.le_refl _⟩ (Nat.le_of_ble_eq_true rfl) dX6_choose_2 (fun rr SS hP => ?_)
  rw [hP.1, hP.2]
  refine g_astore_n (pc := 5) C dX6_choose_5 (by decide) ?_
  refine g_aload_n (pc := 6) C dX6_choose_6 rfl ?_
  refine g_iload_n (pc := 7) C dX6_choose_7 rfl ?_
  refine g_iload_n (pc := 8) C dX6_choose_8 rfl ?_
  refine g_callV (pc := 9) C B mX6_81 (c_lAt_t _ _ _ _ _ mc lc hI i hi j hj) rfl rfl rfl rfl (hX.1 0 (by decide)) (by decide) ⟨Nat.le_refl _, Nat.le_refl _⟩ (Nat.le_of_ble_eq_true rfl) dX6_choose_9 (fun rr SS hP => ?_)
  rw [hP.1, hP.2]
  refine g_astore (pc := 12) C dX6_choose_12 (by decide) ?_
  refine g_aload_n (pc := 14) C dX6_choose_14 rfl ?_
  refine g_ifnull (pc := 15) C 23 dX6_choose_15 (by decide) (fun h => by cases h) (fun _ _ => ?_)
  refine g_aload (pc := 18) C dX6_choose_18 rfl ?_
  refine g_ifnonnull (pc := 20) C 29 dX6_choose_20 (by decide) (fun _ _ => ?_) (fun h => by cases h)
  refine g_aload_n (pc := 29) C dX6_choose_29 rfl ?_
  refine g_iload_n (pc := 30) C dX6_choose_30 rfl ?_
  refine g_callV (pc := 31) C B mX6_159 (c_src1 _ _ _ _ _ i (lc i) hm hn j hj hs) rfl rfl rfl rfl (hm.1 0 (by decide)) (by decide) ⟨Nat.le_refl _, Nat.le_refl _⟩ (Nat.le_of_ble_eq_true rfl) dX6_choose_31 (fun rr SS hP => ?_)
  rw [hP.1, hP.2]
  refine g_astore (pc := 34) C dX6_choose_34 (by decide) ?_
  refine g_aload (pc := 36) C dX6_choose_36 rfl ?_
  refine g_ifnonnull (pc := 38) C 48 dX6_choose_38 (by decide) (fun _ _ => ?_) (fun h => by cases h)
  refine g_aload_n (pc := 48) C dX6_choose_48 rfl ?_
  refine g_getr (pc := 49) C fX6_91 rfl (hm.1 0 (by decide)) dX6_choose_49 rfl hm.r1 ?_
  refine g_getr (pc := 52) C fX6_148 rfl (hm.1 2 (by decide)) dX6_choose_52 rfl hm.t2 ?_
  refine g_callS (pc := 55) C B mX6_151 (c_xworth _ _ _ _ _ (1, i, 5) rfl (hm.1 5 (by decide))) rfl rfl (by decide) ⟨Nat.le_refl _, Nat.le_refl _⟩ (Nat.le_of_ble_eq_true rfl) dX6_choose_55 (fun rr SS hP => ?_)
  rw [hP.1, hP.2]
  refine g_aload (pc := 58) C dX6_choose_58 rfl ?_
  refine g_geti (pc := 60) C fX6_85 rfl (hm.ln (by omega)) dX6_choose_60 rfl ?_
  refine g_isub (pc := 63) C dX6_choose_63 ?_
  refine g_eqi (nI (t)) hb ?_
  refine g_istore (pc := 64) C dX6_choose_64 (by decide) ?_
  refine g_iload (pc := 66) C dX6_choose_66 rfl ?_
  refine g_if_ge (pc := 68) C 78 dX6_choose_68 (by decide) (fun _ => ?_) (fun h68 => absurd (nI_pos' (by omega)) h68)
  refine g_aload_n (pc := 78) C dX6_choose_78 rfl ?_
  refine g_getr (pc := 79) C fX6_37 rfl (hX.1 0 (by decide)) dX6_choose_79 rfl hX.r4 ?_
  refine g_aload_n (pc := 82) C dX6_choose_82 rfl ?_
  refine g_getr (pc := 83) C fX6_91 rfl (hm.1 0 (by decide)) dX6_choose_83 rfl hm.r1 ?_
  refine g_iload (pc := 86) C dX6_choose_86 rfl ?_
  refine g_callV (pc := 88) C B mX6_163 (c_fewest _ _ _ _ _ i (lc i) hm hc hv hhv t ht) rfl rfl rfl rfl (hX.1 5 (by decide)) (by decide) ⟨Nat.le_refl _, Nat.le_refl _⟩ (Nat.le_of_ble_eq_true rfl) dX6_choose_88 (fun rr SS hP => ?_)
  rw [hP.1, hP.2]
  have hE := fewM_but S hv t 16
  have hX := hX.same hE.1
  have hm := hm.same hE.1
  refine g_bipush (pc := 91) C (-9) dX6_choose_91 (by decide) ?_
  refine g_icmp_ne (pc := 93) C 103 dX6_choose_93 (by decide) (fun _ => ?_) (fun h93 => absurd h93 hf)
  refine g_aload (pc := 103) C dX6_choose_103 rfl ?_
  refine g_geti (pc := 105) C fX6_107 rfl (hm.ln (by omega)) dX6_choose_105 rfl ?_
  refine g_eqi (S.1 (3, i, j) 6) (hE.2 _ _ (fun q => by rcases q with q | q <;> cases q)) ?_
  refine g_if_le (pc := 108) C 137 dX6_choose_108 (by decide) (fun _ => ?_) (fun h108 => absurd hst h108)
  refine g_aload (pc := 137) C dX6_choose_137 rfl ?_
  refine g_dup (pc := 139) C dX6_choose_139 ?_
  refine g_geti (pc := 140) C fX6_129 rfl (hm.ln (by omega)) dX6_choose_140 rfl ?_
  refine g_iconst (pc := 143) C 1 dX6_choose_143 (by decide) ?_
  refine g_isub (pc := 144) C dX6_choose_144 ?_
  refine g_puti (pc := 145) C fX6_129 (Or.inl fm2_5) rfl (hm.ln (by omega)) dX6_choose_145 (Or.inl rfl) ?_
  refine g_aload (pc := 148) C dX6_choose_148 rfl ?_
  refine g_iconst (pc := 150) C 0 dX6_choose_150 (by decide) ?_
  refine g_puti (pc := 151) C fX6_114 (Or.inl fm2_7) rfl (hm.ln (by omega)) dX6_choose_151 (Or.inl rfl) ?_
  refine g_aload_n (pc := 154) C dX6_choose_154 rfl ?_
  refine g_dup (pc := 155) C dX6_choose_155 ?_
  refine g_geti (pc := 156) C fX6_173 rfl (hm.1 0 (by decide)) dX6_choose_156 rfl ?_
  refine g_iconst (pc := 159) C 1 dX6_choose_159 (by decide) ?_
  refine g_iadd (pc := 160) C dX6_choose_160 ?_
  refine g_puti (pc := 161) C fX6_173 (Or.inl fm3_8) rfl (hm.1 0 (by decide)) dX6_choose_161 (Or.inl rfl) ?_
  refine g_aload_n (pc := 164) C dX6_choose_164 rfl ?_
  refine g_getr (pc := 165) C fX6_176 rfl (hm.1 0 (by decide)) dX6_choose_165 rfl hm.r2 ?_
  refine g_aload (pc := 168) C dX6_choose_168 rfl ?_
  refine g_geti (pc := 170) C fX6_180 rfl (hm.ln (by omega)) dX6_choose_170 rfl ?_
  refine g_eqi (nI (g)) ((wI_ne (fun q => by cases q.1)).trans ((wI_ne (fun q => by cases q.2)).trans ((wI_ne (fun q => by cases q.2)).trans ((hE.2 _ _ (fun q => by rcases q with q | q <;> cases q)).trans hgd)))) ?_
  refine g_aload_n (pc := 173) C dX6_choose_173 rfl ?_
  refine g_geti (pc := 174) C fX6_183 rfl (hX.1 0 (by decide)) dX6_choose_174 rfl ?_
  refine g_eqi (nI (h)) ((wI_ne (fun q => by cases q.1)).trans ((wI_ne (fun q => by cases q.1)).trans ((wI_ne (fun q => by cases q.1)).trans ((hE.2 _ _ (fun q => by rcases q with q | q <;> cases q)).trans hh)))) ?_
  refine g_bipush (pc := 177) C 24 dX6_choose_177 (by decide) ?_
  refine g_irem (pc := 179) C dX6_choose_179 (by decide) ?_
  refine g_eqi (nI (h % 24)) (pk_rem (a := h) (d := 24) (by omega) (by decide) (by decide)) ?_
  refine g_callV (pc := 180) C B mX6_186 (c_countSale _ _ _ _ (wI (wI (wI (fewM S hv t 16) (3, i, j) 5 (((fewM S hv t 16).1 (3, i, j) 5) - 1)) (3, i, j) 7 0) (1, i, 0) 8 (((wI (wI (fewM S hv t 16) (3, i, j) 5 (((fewM S hv t 16).1 (3, i, j) 5) - 1)) (3, i, j) 7 0).1 (1, i, 0) 8) + 1)) i (lc i) hm g hg (h % 24) (by omega)) rfl rfl rfl rfl (hm.1 10 (by decide)) (by decide) ⟨Nat.le_refl _, Nat.le_refl _⟩ (Nat.le_of_ble_eq_true rfl) dX6_choose_180 (fun rr SS hP => ?_)
  rw [hP.1, hP.2]
  refine g_eqS (S' := fcX1 S hv t i j g h) rfl ?_
  refine g_aload_n (pc := 183) C dX6_choose_183 rfl ?_
  refine g_getr (pc := 184) C fX6_91 rfl (hm.1 0 (by decide)) dX6_choose_184 rfl hm.r1 ?_
  refine g_aload_n (pc := 187) C dX6_choose_187 rfl ?_
  refine g_getr (pc := 188) C fX6_37 rfl (hX.1 0 (by decide)) dX6_choose_188 rfl hX.r4 ?_
  refine g_getr (pc := 191) C fX6_191 rfl (hX.1 5 (by decide)) dX6_choose_191 rfl hX.c1 ?_
  refine g_callV (pc := 194) C B mX6_194 (c_settle _ _ _ _ (fcX1 S hv t i j g h) i (lc i) hm (hX.1 7 (by decide))) rfl rfl rfl rfl (hm.1 2 (by decide)) (by decide) ⟨Nat.le_refl _, Nat.le_refl _⟩ (Nat.le_of_ble_eq_true rfl) dX6_choose_194 (fun rr SS hP => ?_)
  rw [hP.1, hP.2]
  have hX := hX.same (seX_2 (fcX1 S hv t i j g h) i 6)
  refine g_aload_n (pc := 197) C dX6_choose_197 rfl ?_
  refine g_getr (pc := 198) C fX6_37 rfl (hX.1 0 (by decide)) dX6_choose_198 rfl hX.r4 ?_
  refine g_getr (pc := 201) C fX6_191 rfl (hX.1 5 (by decide)) dX6_choose_201 rfl hX.c1 ?_
  refine g_iconst (pc := 204) C 0 dX6_choose_204 (by decide) ?_
  refine g_aload_n (pc := 205) C dX6_choose_205 rfl ?_
  refine g_getr (pc := 206) C fX6_31 rfl (hX.1 0 (by decide)) dX6_choose_206 rfl hX.r3 ?_
  refine g_iconst (pc := 209) C 0 dX6_choose_209 (by decide) ?_
  refine g_aload_n (pc := 210) C dX6_choose_210 rfl ?_
  refine g_getr (pc := 211) C fX6_31 rfl (hX.1 0 (by decide)) dX6_choose_211 rfl hX.r3 ?_
  refine g_alen (pc := 214) C rfl (by decide) (hX.1 4 (by decide)) dX6_choose_214 ?_
  refine g_copy (pc := 215) C (k0 := (0, 0, 7)) (k1 := (0, 0, 4)) rfl rfl (hX.1 7 (by decide)) (hX.1 4 (by decide)) (by decide) cpX6_198 cp_n cp_s cp_i (by rw [B.1]; decide) rfl dX6_choose_215 ?_
  refine g_iload (pc := 218) C dX6_choose_218 rfl ?_
  exact g_iret (pc := 220) C B rfl dX6_choose_220 (⟨rfl, rfl⟩)

theorem src_next {S : Mm} {i j n : Nat} (h : v_src S i j n = 2) : j + 1 < n := by
  by_cases hj : j + 1 < n
  · exact hj
  · unfold v_src at h
    simp only [hj, if_false] at h
    split at h
    · split at h
      · split at h <;> exact absurd h (by decide)
      · exact absurd h (by decide)
    · exact absurd h (by decide)
set_option maxHeartbeats 400000 in
set_option maxRecDepth 100000 in
theorem c_X6_choose_52 (l : Launch) (E : En) (base aw : Nat) (S : Mm) (mc : Nat) (lc : Nat → Nat) (hI : IX S mc lc) (i : Nat) (hi : i < mc) (j : Nat) (hj : j < lc i) (hs : v_src S i j (lc i) = 2) (hb : ¬ 0 ≤ wsum (S.1 (1, i, 5)) 6 - S.1 (3, i, j) 4) : Cn l E base aw yX6_choose cX6_choose 7 (some Jvm.ClassFile.FieldType.int) 4 0 0 noF S [vr (0, 0, 0), vi (nI i), vi (nI j)] (fun r S' => r = some (vi (-5)) ∧ S' = rfX S 5) := by
  have hX := hI.1
  have hmc := hX.m6
  have hm := hX.ms hi
  have hn := hI.2.2 i hi
  have hn8 := hm.n8
  have hc : ChS S := ⟨hX.1 5 (by decide), hX.1 6 (by decide), hX.1 7 (by decide), hX.c0, hX.c1⟩
  have hj1 : j + 1 < lc i := src_next hs
  refine Cn.of (by decide) (Nat.le_of_ble_eq_true rfl) ?_
  intro X Y hl hE hbase haw hfr C B
  subst hl; subst hE; subst hbase; subst haw
  refine g_aload_n (pc := 0) C dX6_choose_0 rfl ?_
  refine g_iload_n (pc := 1) C dX6_choose_1 rfl ?_
  refine g_callV (pc := 2) C B mX6_57 (c_mAt_t _ _ _ _ _ mc lc hI i hi) rfl rfl rfl rfl (hX.1 0 (by decide)) (by decide) ⟨Nat.le_refl _, Nat.le_refl _⟩ (Nat.le_of_ble_eq_true rfl) dX6_choose_2 (fun rr SS hP => ?_)
  rw [hP.1, hP.2]
  refine g_astore_n (pc := 5) C dX6_choose_5 (by decide) ?_
  refine g_aload_n (pc := 6) C dX6_choose_6 rfl ?_
  refine g_iload_n (pc := 7) C dX6_choose_7 rfl ?_
  refine g_iload_n (pc := 8) C dX6_choose_8 rfl ?_
  refine g_callV (pc := 9) C B mX6_81 (c_lAt_t _ _ _ _ _ mc lc hI i hi j hj) rfl rfl rfl rfl (hX.1 0 (by decide)) (by decide) ⟨Nat.le_refl _, Nat.le_refl _⟩ (Nat.le_of_ble_eq_true rfl) dX6_choose_9 (fun rr SS hP => ?_)
  rw [hP.1, hP.2]
  refine g_astore (pc := 12) C dX6_choose_12 (by decide) ?_
  refine g_aload_n (pc := 14) C dX6_choose_14 rfl ?_
  refine g_ifnull (pc := 15) C 23 dX6_choose_15 (by decide) (fun h => by cases h) (fun _ _ => ?_)
  refine g_aload (pc := 18) C dX6_choose_18 rfl ?_
  refine g_ifnonnull (pc := 20) C 29 dX6_choose_20 (by decide) (fun _ _ => ?_) (fun h => by cases h)
  refine g_aload_n (pc := 29) C dX6_choose_29 rfl ?_
  refine g_iload_n (pc := 30) C dX6_choose_30 rfl ?_
  refine g_callV (pc := 31) C B mX6_159 (c_src2 _ _ _ _ _ i (lc i) hm hn j hj hs) rfl rfl rfl rfl (hm.1 0 (by decide)) (by decide) ⟨Nat.le_refl _, Nat.le_refl _⟩ (Nat.le_of_ble_eq_true rfl) dX6_choose_31 (fun rr SS hP => ?_)
  rw [hP.1, hP.2]
  refine g_astore (pc := 34) C dX6_choose_34 (by decide) ?_
  refine g_aload (pc := 36) C dX6_choose_36 rfl ?_
  refine g_ifnonnull (pc := 38) C 48 dX6_choose_38 (by decide) (fun _ _ => ?_) (fun h => by cases h)
  refine g_aload_n (pc := 48) C dX6_choose_48 rfl ?_
  refine g_getr (pc := 49) C fX6_91 rfl (hm.1 0 (by decide)) dX6_choose_49 rfl hm.r1 ?_
  refine g_getr (pc := 52) C fX6_148 rfl (hm.1 2 (by decide)) dX6_choose_52 rfl hm.t2 ?_
  refine g_callS (pc := 55) C B mX6_151 (c_xworth _ _ _ _ _ (1, i, 5) rfl (hm.1 5 (by decide))) rfl rfl (by decide) ⟨Nat.le_refl _, Nat.le_refl _⟩ (Nat.le_of_ble_eq_true rfl) dX6_choose_55 (fun rr SS hP => ?_)
  rw [hP.1, hP.2]
  refine g_aload (pc := 58) C dX6_choose_58 rfl ?_
  refine g_geti (pc := 60) C fX6_85 rfl (hm.ln (by omega)) dX6_choose_60 rfl ?_
  refine g_isub (pc := 63) C dX6_choose_63 ?_
  refine g_istore (pc := 64) C dX6_choose_64 (by decide) ?_
  refine g_iload (pc := 66) C dX6_choose_66 rfl ?_
  refine g_if_ge (pc := 68) C 78 dX6_choose_68 (by decide) (fun h68 => absurd h68 hb) (fun _ => ?_)
  refine g_aload_n (pc := 71) C dX6_choose_71 rfl ?_
  refine g_bipush (pc := 72) C (-5) dX6_choose_72 (by decide) ?_
  refine g_callV (pc := 74) C B mX6_52 (c_xrefuse _ _ _ _ _ mc lc hX (-5) 5 (by decide) (by decide) (by decide)) rfl rfl rfl rfl (hX.1 0 (by decide)) (by decide) ⟨Nat.le_refl _, Nat.le_refl _⟩ (Nat.le_of_ble_eq_true rfl) dX6_choose_74 (fun rr SS hP => ?_)
  rw [hP.1, hP.2]
  exact g_iret (pc := 77) C B rfl dX6_choose_77 (⟨rfl, rfl⟩)

set_option maxHeartbeats 400000 in
set_option maxRecDepth 100000 in
theorem c_X6_choose_62 (l : Launch) (E : En) (base aw : Nat) (S : Mm) (mc : Nat) (lc : Nat → Nat) (hI : IX S mc lc) (i : Nat) (hi : i < mc) (j : Nat) (hj : j < lc i) (hs : v_src S i j (lc i) = 2) (t : Nat) (hb : wsum (S.1 (1, i, 5)) 6 - S.1 (3, i, j) 4 = nI t) (ht : t ≤ 20000) (hv : Nat → Nat) (hhv : ∀ w, w < 6 → S.1 (1, i, 3) w + S.1 (1, i, 5) w = nI (hv w) ∧ hv w ≤ 1000) (hf : fewV hv t 16 = -9) : Cn l E base aw yX6_choose cX6_choose 7 (some Jvm.ClassFile.FieldType.int) 4 0 0 noF S [vr (0, 0, 0), vi (nI i), vi (nI j)] (fun r S' => r = some (vi (-6)) ∧ S' = rfX (fewM S hv t 16) 6) := by
  have hX := hI.1
  have hmc := hX.m6
  have hm := hX.ms hi
  have hn := hI.2.2 i hi
  have hn8 := hm.n8
  have hc : ChS S := ⟨hX.1 5 (by decide), hX.1 6 (by decide), hX.1 7 (by decide), hX.c0, hX.c1⟩
  have hj1 : j + 1 < lc i := src_next hs
  refine Cn.of (by decide) (Nat.le_of_ble_eq_true rfl) ?_
  intro X Y hl hE hbase haw hfr C B
  subst hl; subst hE; subst hbase; subst haw
  refine g_aload_n (pc := 0) C dX6_choose_0 rfl ?_
  refine g_iload_n (pc := 1) C dX6_choose_1 rfl ?_
  refine g_callV (pc := 2) C B mX6_57 (c_mAt_t _ _ _ _ _ mc lc hI i hi) rfl rfl rfl rfl (hX.1 0 (by decide)) (by decide) ⟨Nat.le_refl _, Nat.le_refl _⟩ (Nat.le_of_ble_eq_true rfl) dX6_choose_2 (fun rr SS hP => ?_)
  rw [hP.1, hP.2]
  refine g_astore_n (pc := 5) C dX6_choose_5 (by decide) ?_
  refine g_aload_n (pc := 6) C dX6_choose_6 rfl ?_
  refine g_iload_n (pc := 7) C dX6_choose_7 rfl ?_
  refine g_iload_n (pc := 8) C dX6_choose_8 rfl ?_
  refine g_callV (pc := 9) C B mX6_81 (c_lAt_t _ _ _ _ _ mc lc hI i hi j hj) rfl rfl rfl rfl (hX.1 0 (by decide)) (by decide) ⟨Nat.le_refl _, Nat.le_refl _⟩ (Nat.le_of_ble_eq_true rfl) dX6_choose_9 (fun rr SS hP => ?_)
  rw [hP.1, hP.2]
  refine g_astore (pc := 12) C dX6_choose_12 (by decide) ?_
  refine g_aload_n (pc := 14) C dX6_choose_14 rfl ?_
  refine g_ifnull (pc := 15) C 23 dX6_choose_15 (by decide) (fun h => by cases h) (fun _ _ => ?_)
  refine g_aload (pc := 18) C dX6_choose_18 rfl ?_
  refine g_ifnonnull (pc := 20) C 29 dX6_choose_20 (by decide) (fun _ _ => ?_) (fun h => by cases h)
  refine g_aload_n (pc := 29) C dX6_choose_29 rfl ?_
  refine g_iload_n (pc := 30) C dX6_choose_30 rfl ?_
  refine g_callV (pc := 31) C B mX6_159 (c_src2 _ _ _ _ _ i (lc i) hm hn j hj hs) rfl rfl rfl rfl (hm.1 0 (by decide)) (by decide) ⟨Nat.le_refl _, Nat.le_refl _⟩ (Nat.le_of_ble_eq_true rfl) dX6_choose_31 (fun rr SS hP => ?_)
  rw [hP.1, hP.2]
  refine g_astore (pc := 34) C dX6_choose_34 (by decide) ?_
  refine g_aload (pc := 36) C dX6_choose_36 rfl ?_
  refine g_ifnonnull (pc := 38) C 48 dX6_choose_38 (by decide) (fun _ _ => ?_) (fun h => by cases h)
  refine g_aload_n (pc := 48) C dX6_choose_48 rfl ?_
  refine g_getr (pc := 49) C fX6_91 rfl (hm.1 0 (by decide)) dX6_choose_49 rfl hm.r1 ?_
  refine g_getr (pc := 52) C fX6_148 rfl (hm.1 2 (by decide)) dX6_choose_52 rfl hm.t2 ?_
  refine g_callS (pc := 55) C B mX6_151 (c_xworth _ _ _ _ _ (1, i, 5) rfl (hm.1 5 (by decide))) rfl rfl (by decide) ⟨Nat.le_refl _, Nat.le_refl _⟩ (Nat.le_of_ble_eq_true rfl) dX6_choose_55 (fun rr SS hP => ?_)
  rw [hP.1, hP.2]
  refine g_aload (pc := 58) C dX6_choose_58 rfl ?_
  refine g_geti (pc := 60) C fX6_85 rfl (hm.ln (by omega)) dX6_choose_60 rfl ?_
  refine g_isub (pc := 63) C dX6_choose_63 ?_
  refine g_eqi (nI (t)) hb ?_
  refine g_istore (pc := 64) C dX6_choose_64 (by decide) ?_
  refine g_iload (pc := 66) C dX6_choose_66 rfl ?_
  refine g_if_ge (pc := 68) C 78 dX6_choose_68 (by decide) (fun _ => ?_) (fun h68 => absurd (nI_pos' (by omega)) h68)
  refine g_aload_n (pc := 78) C dX6_choose_78 rfl ?_
  refine g_getr (pc := 79) C fX6_37 rfl (hX.1 0 (by decide)) dX6_choose_79 rfl hX.r4 ?_
  refine g_aload_n (pc := 82) C dX6_choose_82 rfl ?_
  refine g_getr (pc := 83) C fX6_91 rfl (hm.1 0 (by decide)) dX6_choose_83 rfl hm.r1 ?_
  refine g_iload (pc := 86) C dX6_choose_86 rfl ?_
  refine g_callV (pc := 88) C B mX6_163 (c_fewest _ _ _ _ _ i (lc i) hm hc hv hhv t ht) rfl rfl rfl rfl (hX.1 5 (by decide)) (by decide) ⟨Nat.le_refl _, Nat.le_refl _⟩ (Nat.le_of_ble_eq_true rfl) dX6_choose_88 (fun rr SS hP => ?_)
  rw [hP.1, hP.2]
  have hE := fewM_but S hv t 16
  have hX := hX.same hE.1
  have hm := hm.same hE.1
  refine g_bipush (pc := 91) C (-9) dX6_choose_91 (by decide) ?_
  refine g_icmp_ne (pc := 93) C 103 dX6_choose_93 (by decide) (fun h93 => absurd hf h93) (fun _ => ?_)
  refine g_aload_n (pc := 96) C dX6_choose_96 rfl ?_
  refine g_bipush (pc := 97) C (-6) dX6_choose_97 (by decide) ?_
  refine g_callV (pc := 99) C B mX6_52 (c_xrefuse _ _ _ _ _ mc lc hX (-6) 6 (by decide) (by decide) (by decide)) rfl rfl rfl rfl (hX.1 0 (by decide)) (by decide) ⟨Nat.le_refl _, Nat.le_refl _⟩ (Nat.le_of_ble_eq_true rfl) dX6_choose_99 (fun rr SS hP => ?_)
  rw [hP.1, hP.2]
  exact g_iret (pc := 102) C B rfl dX6_choose_102 (⟨rfl, rfl⟩)

set_option maxHeartbeats 400000 in
set_option maxRecDepth 100000 in
theorem c_X6_choose_72 (l : Launch) (E : En) (base aw : Nat) (S : Mm) (mc : Nat) (lc : Nat → Nat) (hI : IX S mc lc) (i : Nat) (hi : i < mc) (j : Nat) (hj : j < lc i) (hs : v_src S i j (lc i) = 2) (t : Nat) (hb : wsum (S.1 (1, i, 5)) 6 - S.1 (3, i, j) 4 = nI t) (ht : t ≤ 20000) (hv : Nat → Nat) (hhv : ∀ w, w < 6 → S.1 (1, i, 3) w + S.1 (1, i, 5) w = nI (hv w) ∧ hv w ≤ 1000) (hf : ¬ fewV hv t 16 = -9) (hst : ¬ S.1 (3, i, j) 6 ≤ 0) : Cn l E base aw yX6_choose cX6_choose 7 (some Jvm.ClassFile.FieldType.int) 4 0 0 noF S [vr (0, 0, 0), vi (nI i), vi (nI j)] (fun r S' => r = some (vi (-7)) ∧ S' = wI (wI (gbX (msX (fewM S hv t 16) i j) i 6) (1, i, 2) 7 0) (0, 0, 0) 8 ((wI (gbX (msX (fewM S hv t 16) i j) i 6) (1, i, 2) 7 0).1 (0, 0, 0) 8 + 1)) := by
  have hX := hI.1
  have hmc := hX.m6
  have hm := hX.ms hi
  have hn := hI.2.2 i hi
  have hn8 := hm.n8
  have hc : ChS S := ⟨hX.1 5 (by decide), hX.1 6 (by decide), hX.1 7 (by decide), hX.c0, hX.c1⟩
  have hj1 : j + 1 < lc i := src_next hs
  refine Cn.of (by decide) (Nat.le_of_ble_eq_true rfl) ?_
  intro X Y hl hE hbase haw hfr C B
  subst hl; subst hE; subst hbase; subst haw
  refine g_aload_n (pc := 0) C dX6_choose_0 rfl ?_
  refine g_iload_n (pc := 1) C dX6_choose_1 rfl ?_
  refine g_callV (pc := 2) C B mX6_57 (c_mAt_t _ _ _ _ _ mc lc hI i hi) rfl rfl rfl rfl (hX.1 0 (by decide)) (by decide) ⟨Nat.le_refl _, Nat.le_refl _⟩ (Nat.le_of_ble_eq_true rfl) dX6_choose_2 (fun rr SS hP => ?_)
  rw [hP.1, hP.2]
  refine g_astore_n (pc := 5) C dX6_choose_5 (by decide) ?_
  refine g_aload_n (pc := 6) C dX6_choose_6 rfl ?_
  refine g_iload_n (pc := 7) C dX6_choose_7 rfl ?_
  refine g_iload_n (pc := 8) C dX6_choose_8 rfl ?_
  refine g_callV (pc := 9) C B mX6_81 (c_lAt_t _ _ _ _ _ mc lc hI i hi j hj) rfl rfl rfl rfl (hX.1 0 (by decide)) (by decide) ⟨Nat.le_refl _, Nat.le_refl _⟩ (Nat.le_of_ble_eq_true rfl) dX6_choose_9 (fun rr SS hP => ?_)
  rw [hP.1, hP.2]
  refine g_astore (pc := 12) C dX6_choose_12 (by decide) ?_
  refine g_aload_n (pc := 14) C dX6_choose_14 rfl ?_
  refine g_ifnull (pc := 15) C 23 dX6_choose_15 (by decide) (fun h => by cases h) (fun _ _ => ?_)
  refine g_aload (pc := 18) C dX6_choose_18 rfl ?_
  refine g_ifnonnull (pc := 20) C 29 dX6_choose_20 (by decide) (fun _ _ => ?_) (fun h => by cases h)
  refine g_aload_n (pc := 29) C dX6_choose_29 rfl ?_
  refine g_iload_n (pc := 30) C dX6_choose_30 rfl ?_
  refine g_callV (pc := 31) C B mX6_159 (c_src2 _ _ _ _ _ i (lc i) hm hn j hj hs) rfl rfl rfl rfl (hm.1 0 (by decide)) (by decide) ⟨Nat.le_refl _, Nat.le_refl _⟩ (Nat.le_of_ble_eq_true rfl) dX6_choose_31 (fun rr SS hP => ?_)
  rw [hP.1, hP.2]
  refine g_astore (pc := 34) C dX6_choose_34 (by decide) ?_
  refine g_aload (pc := 36) C dX6_choose_36 rfl ?_
  refine g_ifnonnull (pc := 38) C 48 dX6_choose_38 (by decide) (fun _ _ => ?_) (fun h => by cases h)
  refine g_aload_n (pc := 48) C dX6_choose_48 rfl ?_
  refine g_getr (pc := 49) C fX6_91 rfl (hm.1 0 (by decide)) dX6_choose_49 rfl hm.r1 ?_
  refine g_getr (pc := 52) C fX6_148 rfl (hm.1 2 (by decide)) dX6_choose_52 rfl hm.t2 ?_
  refine g_callS (pc := 55) C B mX6_151 (c_xworth _ _ _ _ _ (1, i, 5) rfl (hm.1 5 (by decide))) rfl rfl (by decide) ⟨Nat.le_refl _, Nat.le_refl _⟩ (Nat.le_of_ble_eq_true rfl) dX6_choose_55 (fun rr SS hP => ?_)
  rw [hP.1, hP.2]
  refine g_aload (pc := 58) C dX6_choose_58 rfl ?_
  refine g_geti (pc := 60) C fX6_85 rfl (hm.ln (by omega)) dX6_choose_60 rfl ?_
  refine g_isub (pc := 63) C dX6_choose_63 ?_
  refine g_eqi (nI (t)) hb ?_
  refine g_istore (pc := 64) C dX6_choose_64 (by decide) ?_
  refine g_iload (pc := 66) C dX6_choose_66 rfl ?_
  refine g_if_ge (pc := 68) C 78 dX6_choose_68 (by decide) (fun _ => ?_) (fun h68 => absurd (nI_pos' (by omega)) h68)
  refine g_aload_n (pc := 78) C dX6_choose_78 rfl ?_
  refine g_getr (pc := 79) C fX6_37 rfl (hX.1 0 (by decide)) dX6_choose_79 rfl hX.r4 ?_
  refine g_aload_n (pc := 82) C dX6_choose_82 rfl ?_
  refine g_getr (pc := 83) C fX6_91 rfl (hm.1 0 (by decide)) dX6_choose_83 rfl hm.r1 ?_
  refine g_iload (pc := 86) C dX6_choose_86 rfl ?_
  refine g_callV (pc := 88) C B mX6_163 (c_fewest _ _ _ _ _ i (lc i) hm hc hv hhv t ht) rfl rfl rfl rfl (hX.1 5 (by decide)) (by decide) ⟨Nat.le_refl _, Nat.le_refl _⟩ (Nat.le_of_ble_eq_true rfl) dX6_choose_88 (fun rr SS hP => ?_)
  rw [hP.1, hP.2]
  have hE := fewM_but S hv t 16
  have hX := hX.same hE.1
  have hm := hm.same hE.1
  refine g_bipush (pc := 91) C (-9) dX6_choose_91 (by decide) ?_
  refine g_icmp_ne (pc := 93) C 103 dX6_choose_93 (by decide) (fun _ => ?_) (fun h93 => absurd h93 hf)
  refine g_aload (pc := 103) C dX6_choose_103 rfl ?_
  refine g_geti (pc := 105) C fX6_107 rfl (hm.ln (by omega)) dX6_choose_105 rfl ?_
  refine g_eqi (S.1 (3, i, j) 6) (hE.2 _ _ (fun q => by rcases q with q | q <;> cases q)) ?_
  refine g_if_le (pc := 108) C 137 dX6_choose_108 (by decide) (fun h108 => absurd h108 hst) (fun _ => ?_)
  refine g_aload (pc := 111) C dX6_choose_111 rfl ?_
  refine g_callV (pc := 113) C B mX6_167 (c_missX _ _ _ _ _ i j (hm.ln (by omega))) rfl rfl rfl rfl (hm.ln (by omega)) (by decide) ⟨Nat.le_refl _, Nat.le_refl _⟩ (Nat.le_of_ble_eq_true rfl) dX6_choose_113 (fun rr SS hP => ?_)
  rw [hP.1, hP.2]
  have hX := hX.same (msX_2 (fewM S hv t 16) i j)
  have hm := hm.same (msX_2 (fewM S hv t 16) i j)
  refine g_aload_n (pc := 116) C dX6_choose_116 rfl ?_
  refine g_getr (pc := 117) C fX6_91 rfl (hm.1 0 (by decide)) dX6_choose_117 rfl hm.r1 ?_
  refine g_callV (pc := 120) C B mX6_155 (c_giveBack _ _ _ _ _ i (lc i) hm) rfl rfl rfl rfl (hm.1 2 (by decide)) (by decide) ⟨Nat.le_refl _, Nat.le_refl _⟩ (Nat.le_of_ble_eq_true rfl) dX6_choose_120 (fun rr SS hP => ?_)
  rw [hP.1, hP.2]
  have hX := hX.same (gbX_2 (msX (fewM S hv t 16) i j) i 6)
  refine g_pop (pc := 123) C dX6_choose_123 ?_
  refine g_aload_n (pc := 124) C dX6_choose_124 rfl ?_
  refine g_dup (pc := 125) C dX6_choose_125 ?_
  refine g_geti (pc := 126) C fX6_170 rfl (hX.1 0 (by decide)) dX6_choose_126 rfl ?_
  refine g_iconst (pc := 129) C 1 dX6_choose_129 (by decide) ?_
  refine g_iadd (pc := 130) C dX6_choose_130 ?_
  refine g_puti (pc := 131) C fX6_170 (Or.inl fm6_8) rfl (hX.1 0 (by decide)) dX6_choose_131 (Or.inl rfl) ?_
  refine g_bipush (pc := 134) C (-7) dX6_choose_134 (by decide) ?_
  exact g_iret (pc := 136) C B rfl dX6_choose_136 (⟨rfl, rfl⟩)

def fcX2 (S : Mm) (hv : Nat → Nat) (t i j g h : Nat) : Mm := wI (wI (wI (wI (fewM S hv t 16) (3, i, j + 1) 5 ((fewM S hv t 16).1 (3, i, j + 1) 5 - 1)) (3, i, j) 7 0) (1, i, 0) 8 ((wI (wI (fewM S hv t 16) (3, i, j + 1) 5 ((fewM S hv t 16).1 (3, i, j + 1) 5 - 1)) (3, i, j) 7 0).1 (1, i, 0) 8 + 1)) (1, i, 11) (g * 24 + h % 24) ((wI (wI (wI (fewM S hv t 16) (3, i, j + 1) 5 ((fewM S hv t 16).1 (3, i, j + 1) 5 - 1)) (3, i, j) 7 0) (1, i, 0) 8 ((wI (wI (fewM S hv t 16) (3, i, j + 1) 5 ((fewM S hv t 16).1 (3, i, j + 1) 5 - 1)) (3, i, j) 7 0).1 (1, i, 0) 8 + 1)).1 (1, i, 11) (g * 24 + h % 24) + 1)
set_option maxHeartbeats 400000 in
set_option maxRecDepth 100000 in
theorem c_X6_choose_f2 (l : Launch) (E : En) (base aw : Nat) (S : Mm) (mc : Nat) (lc : Nat → Nat) (hI : IX S mc lc) (i : Nat) (hi : i < mc) (j : Nat) (hj : j < lc i) (hs : v_src S i j (lc i) = 2) (t : Nat) (hb : wsum (S.1 (1, i, 5)) 6 - S.1 (3, i, j) 4 = nI t) (ht : t ≤ 20000) (hv : Nat → Nat) (hhv : ∀ w, w < 6 → S.1 (1, i, 3) w + S.1 (1, i, 5) w = nI (hv w) ∧ hv w ≤ 1000) (hf : ¬ fewV hv t 16 = -9) (hst : S.1 (3, i, j) 6 ≤ 0) (g : Nat) (hgd : S.1 (3, i, j) 0 = nI g) (hg : g < 16) (h : Nat) (hh : S.1 (0, 0, 0) 7 = nI h) (hh0 : h ≤ 3000) : Cn l E base aw yX6_choose cX6_choose 7 (some Jvm.ClassFile.FieldType.int) 4 0 0 noF S [vr (0, 0, 0), vi (nI i), vi (nI j)] (fun r S' => r = some (vi (nI t)) ∧ S' = cpyI (wI (seX (fcX2 S hv t i j g h) i 6) (1, i, 2) 7 0) (0, 0, 7) (0, 0, 4) 6) := by
  have hX := hI.1
  have hmc := hX.m6
  have hm := hX.ms hi
  have hn := hI.2.2 i hi
  have hn8 := hm.n8
  have hc : ChS S := ⟨hX.1 5 (by decide), hX.1 6 (by decide), hX.1 7 (by decide), hX.c0, hX.c1⟩
  have hj1 : j + 1 < lc i := src_next hs
  refine Cn.of (by decide) (Nat.le_of_ble_eq_true rfl) ?_
  intro X Y hl hE hbase haw hfr C B
  subst hl; subst hE; subst hbase; subst haw
  refine g_aload_n (pc := 0) C dX6_choose_0 rfl ?_
  refine g_iload_n (pc := 1) C dX6_choose_1 rfl ?_
  refine g_callV (pc := 2) C B mX6_57 (c_mAt_t _ _ _ _ _ mc lc hI i hi) rfl rfl rfl rfl (hX.1 0 (by decide)) (by decide) ⟨Nat.le_refl _, Nat.le_refl _⟩ (Nat.le_of_ble_eq_true rfl) dX6_choose_2 (fun rr SS hP => ?_)
  rw [hP.1, hP.2]
  refine g_astore_n (pc := 5) C dX6_choose_5 (by decide) ?_
  refine g_aload_n (pc := 6) C dX6_choose_6 rfl ?_
  refine g_iload_n (pc := 7) C dX6_choose_7 rfl ?_
  refine g_iload_n (pc := 8) C dX6_choose_8 rfl ?_
  refine g_callV (pc := 9) C B mX6_81 (c_lAt_t _ _ _ _ _ mc lc hI i hi j hj) rfl rfl rfl rfl (hX.1 0 (by decide)) (by decide) ⟨Nat.le_refl _, Nat.le_refl _⟩ (Nat.le_of_ble_eq_true rfl) dX6_choose_9 (fun rr SS hP => ?_)
  rw [hP.1, hP.2]
  refine g_astore (pc := 12) C dX6_choose_12 (by decide) ?_
  refine g_aload_n (pc := 14) C dX6_choose_14 rfl ?_
  refine g_ifnull (pc := 15) C 23 dX6_choose_15 (by decide) (fun h => by cases h) (fun _ _ => ?_)
  refine g_aload (pc := 18) C dX6_choose_18 rfl ?_
  refine g_ifnonnull (pc := 20) C 29 dX6_choose_20 (by decide) (fun _ _ => ?_) (fun h => by cases h)
  refine g_aload_n (pc := 29) C dX6_choose_29 rfl ?_
  refine g_iload_n (pc := 30) C dX6_choose_30 rfl ?_
  refine g_callV (pc := 31) C B mX6_159 (c_src2 _ _ _ _ _ i (lc i) hm hn j hj hs) rfl rfl rfl rfl (hm.1 0 (by decide)) (by decide) ⟨Nat.le_refl _, Nat.le_refl _⟩ (Nat.le_of_ble_eq_true rfl) dX6_choose_31 (fun rr SS hP => ?_)
  rw [hP.1, hP.2]
  refine g_astore (pc := 34) C dX6_choose_34 (by decide) ?_
  refine g_aload (pc := 36) C dX6_choose_36 rfl ?_
  refine g_ifnonnull (pc := 38) C 48 dX6_choose_38 (by decide) (fun _ _ => ?_) (fun h => by cases h)
  refine g_aload_n (pc := 48) C dX6_choose_48 rfl ?_
  refine g_getr (pc := 49) C fX6_91 rfl (hm.1 0 (by decide)) dX6_choose_49 rfl hm.r1 ?_
  refine g_getr (pc := 52) C fX6_148 rfl (hm.1 2 (by decide)) dX6_choose_52 rfl hm.t2 ?_
  refine g_callS (pc := 55) C B mX6_151 (c_xworth _ _ _ _ _ (1, i, 5) rfl (hm.1 5 (by decide))) rfl rfl (by decide) ⟨Nat.le_refl _, Nat.le_refl _⟩ (Nat.le_of_ble_eq_true rfl) dX6_choose_55 (fun rr SS hP => ?_)
  rw [hP.1, hP.2]
  refine g_aload (pc := 58) C dX6_choose_58 rfl ?_
  refine g_geti (pc := 60) C fX6_85 rfl (hm.ln (by omega)) dX6_choose_60 rfl ?_
  refine g_isub (pc := 63) C dX6_choose_63 ?_
  refine g_eqi (nI (t)) hb ?_
  refine g_istore (pc := 64) C dX6_choose_64 (by decide) ?_
  refine g_iload (pc := 66) C dX6_choose_66 rfl ?_
  refine g_if_ge (pc := 68) C 78 dX6_choose_68 (by decide) (fun _ => ?_) (fun h68 => absurd (nI_pos' (by omega)) h68)
  refine g_aload_n (pc := 78) C dX6_choose_78 rfl ?_
  refine g_getr (pc := 79) C fX6_37 rfl (hX.1 0 (by decide)) dX6_choose_79 rfl hX.r4 ?_
  refine g_aload_n (pc := 82) C dX6_choose_82 rfl ?_
  refine g_getr (pc := 83) C fX6_91 rfl (hm.1 0 (by decide)) dX6_choose_83 rfl hm.r1 ?_
  refine g_iload (pc := 86) C dX6_choose_86 rfl ?_
  refine g_callV (pc := 88) C B mX6_163 (c_fewest _ _ _ _ _ i (lc i) hm hc hv hhv t ht) rfl rfl rfl rfl (hX.1 5 (by decide)) (by decide) ⟨Nat.le_refl _, Nat.le_refl _⟩ (Nat.le_of_ble_eq_true rfl) dX6_choose_88 (fun rr SS hP => ?_)
  rw [hP.1, hP.2]
  have hE := fewM_but S hv t 16
  have hX := hX.same hE.1
  have hm := hm.same hE.1
  refine g_bipush (pc := 91) C (-9) dX6_choose_91 (by decide) ?_
  refine g_icmp_ne (pc := 93) C 103 dX6_choose_93 (by decide) (fun _ => ?_) (fun h93 => absurd h93 hf)
  refine g_aload (pc := 103) C dX6_choose_103 rfl ?_
  refine g_geti (pc := 105) C fX6_107 rfl (hm.ln (by omega)) dX6_choose_105 rfl ?_
  refine g_eqi (S.1 (3, i, j) 6) (hE.2 _ _ (fun q => by rcases q with q | q <;> cases q)) ?_
  refine g_if_le (pc := 108) C 137 dX6_choose_108 (by decide) (fun _ => ?_) (fun h108 => absurd hst h108)
  refine g_aload (pc := 137) C dX6_choose_137 rfl ?_
  refine g_dup (pc := 139) C dX6_choose_139 ?_
  refine g_geti (pc := 140) C fX6_129 rfl (hm.ln (by omega)) dX6_choose_140 rfl ?_
  refine g_iconst (pc := 143) C 1 dX6_choose_143 (by decide) ?_
  refine g_isub (pc := 144) C dX6_choose_144 ?_
  refine g_puti (pc := 145) C fX6_129 (Or.inl fm2_5) rfl (hm.ln (by omega)) dX6_choose_145 (Or.inl rfl) ?_
  refine g_aload (pc := 148) C dX6_choose_148 rfl ?_
  refine g_iconst (pc := 150) C 0 dX6_choose_150 (by decide) ?_
  refine g_puti (pc := 151) C fX6_114 (Or.inl fm2_7) rfl (hm.ln (by omega)) dX6_choose_151 (Or.inl rfl) ?_
  refine g_aload_n (pc := 154) C dX6_choose_154 rfl ?_
  refine g_dup (pc := 155) C dX6_choose_155 ?_
  refine g_geti (pc := 156) C fX6_173 rfl (hm.1 0 (by decide)) dX6_choose_156 rfl ?_
  refine g_iconst (pc := 159) C 1 dX6_choose_159 (by decide) ?_
  refine g_iadd (pc := 160) C dX6_choose_160 ?_
  refine g_puti (pc := 161) C fX6_173 (Or.inl fm3_8) rfl (hm.1 0 (by decide)) dX6_choose_161 (Or.inl rfl) ?_
  refine g_aload_n (pc := 164) C dX6_choose_164 rfl ?_
  refine g_getr (pc := 165) C fX6_176 rfl (hm.1 0 (by decide)) dX6_choose_165 rfl hm.r2 ?_
  refine g_aload (pc := 168) C dX6_choose_168 rfl ?_
  refine g_geti (pc := 170) C fX6_180 rfl (hm.ln (by omega)) dX6_choose_170 rfl ?_
  refine g_eqi (nI (g)) ((wI_ne (fun q => by cases q.1)).trans ((wI_ne (fun q => by cases q.2)).trans ((wI_ne (fun q => by cases q.2)).trans ((hE.2 _ _ (fun q => by rcases q with q | q <;> cases q)).trans hgd)))) ?_
  refine g_aload_n (pc := 173) C dX6_choose_173 rfl ?_
  refine g_geti (pc := 174) C fX6_183 rfl (hX.1 0 (by decide)) dX6_choose_174 rfl ?_
  refine g_eqi (nI (h)) ((wI_ne (fun q => by cases q.1)).trans ((wI_ne (fun q => by cases q.1)).trans ((wI_ne (fun q => by cases q.1)).trans ((hE.2 _ _ (fun q => by rcases q with q | q <;> cases q)).trans hh)))) ?_
  refine g_bipush (pc := 177) C 24 dX6_choose_177 (by decide) ?_
  refine g_irem (pc := 179) C dX6_choose_179 (by decide) ?_
  refine g_eqi (nI (h % 24)) (pk_rem (a := h) (d := 24) (by omega) (by decide) (by decide)) ?_
  refine g_callV (pc := 180) C B mX6_186 (c_countSale _ _ _ _ (wI (wI (wI (fewM S hv t 16) (3, i, j + 1) 5 (((fewM S hv t 16).1 (3, i, j + 1) 5) - 1)) (3, i, j) 7 0) (1, i, 0) 8 (((wI (wI (fewM S hv t 16) (3, i, j + 1) 5 (((fewM S hv t 16).1 (3, i, j + 1) 5) - 1)) (3, i, j) 7 0).1 (1, i, 0) 8) + 1)) i (lc i) hm g hg (h % 24) (by omega)) rfl rfl rfl rfl (hm.1 10 (by decide)) (by decide) ⟨Nat.le_refl _, Nat.le_refl _⟩ (Nat.le_of_ble_eq_true rfl) dX6_choose_180 (fun rr SS hP => ?_)
  rw [hP.1, hP.2]
  refine g_eqS (S' := fcX2 S hv t i j g h) rfl ?_
  refine g_aload_n (pc := 183) C dX6_choose_183 rfl ?_
  refine g_getr (pc := 184) C fX6_91 rfl (hm.1 0 (by decide)) dX6_choose_184 rfl hm.r1 ?_
  refine g_aload_n (pc := 187) C dX6_choose_187 rfl ?_
  refine g_getr (pc := 188) C fX6_37 rfl (hX.1 0 (by decide)) dX6_choose_188 rfl hX.r4 ?_
  refine g_getr (pc := 191) C fX6_191 rfl (hX.1 5 (by decide)) dX6_choose_191 rfl hX.c1 ?_
  refine g_callV (pc := 194) C B mX6_194 (c_settle _ _ _ _ (fcX2 S hv t i j g h) i (lc i) hm (hX.1 7 (by decide))) rfl rfl rfl rfl (hm.1 2 (by decide)) (by decide) ⟨Nat.le_refl _, Nat.le_refl _⟩ (Nat.le_of_ble_eq_true rfl) dX6_choose_194 (fun rr SS hP => ?_)
  rw [hP.1, hP.2]
  have hX := hX.same (seX_2 (fcX2 S hv t i j g h) i 6)
  refine g_aload_n (pc := 197) C dX6_choose_197 rfl ?_
  refine g_getr (pc := 198) C fX6_37 rfl (hX.1 0 (by decide)) dX6_choose_198 rfl hX.r4 ?_
  refine g_getr (pc := 201) C fX6_191 rfl (hX.1 5 (by decide)) dX6_choose_201 rfl hX.c1 ?_
  refine g_iconst (pc := 204) C 0 dX6_choose_204 (by decide) ?_
  refine g_aload_n (pc := 205) C dX6_choose_205 rfl ?_
  refine g_getr (pc := 206) C fX6_31 rfl (hX.1 0 (by decide)) dX6_choose_206 rfl hX.r3 ?_
  refine g_iconst (pc := 209) C 0 dX6_choose_209 (by decide) ?_
  refine g_aload_n (pc := 210) C dX6_choose_210 rfl ?_
  refine g_getr (pc := 211) C fX6_31 rfl (hX.1 0 (by decide)) dX6_choose_211 rfl hX.r3 ?_
  refine g_alen (pc := 214) C rfl (by decide) (hX.1 4 (by decide)) dX6_choose_214 ?_
  refine g_copy (pc := 215) C (k0 := (0, 0, 7)) (k1 := (0, 0, 4)) rfl rfl (hX.1 7 (by decide)) (hX.1 4 (by decide)) (by decide) cpX6_198 cp_n cp_s cp_i (by rw [B.1]; decide) rfl dX6_choose_215 ?_
  refine g_iload (pc := 218) C dX6_choose_218 rfl ?_
  exact g_iret (pc := 220) C B rfl dX6_choose_220 (⟨rfl, rfl⟩)

