set_option maxHeartbeats 400000 in
set_option maxRecDepth 100000 in
theorem lp_ld1 {X : Xt} {Y : Yt} {P : Option AV → Mm → Prop} {nm : String}  (C : Cx X Y cX7_load 8 RX7) (B : Bx X Y nm (some Jvm.ClassFile.FieldType.int) 3 0 0 P) {S : Mm} {i room : Nat} (hM0 : ShM S) (ht : room ≤ 200) (K : G X Y 0 0 (lzM S ((room + 1))) 63 [(0, vr (2, 0, 0)), (1, vi (nI i)), (2, vi (nI room)), (3, vi (nI ((room + 1))))] []) : ∀ n w, w + n = (room + 1) → G X Y 0 0 (lzM S w) 41 [(0, vr (2, 0, 0)), (1, vi (nI i)), (2, vi (nI room)), (3, vi (nI w))] [] := by
  intro n
  induction n with
  | zero =>
    intro w hw
    have e : (room + 1) = w := by omega
    subst e
    have hM : ShM (lzM S (room + 1)) := hM0.same (lzM_but S (room + 1)).1
    refine g_iload_n (pc := 41) C dX7_load_41 rfl ?_
    refine g_iload_n (pc := 42) C dX7_load_42 rfl ?_
    refine g_icmp_gt (pc := 43) C 63 dX7_load_43 (by decide) (fun _ => ?_) (fun h43 => absurd ((nI_ltI (a := room) (b := (room + 1)) (by omega) (by omega)).mpr (by omega)) h43)
    exact K
  | succ n ih =>
    intro w hw
    have hM : ShM (lzM S w) := hM0.same (lzM_but S w).1
    refine g_iload_n (pc := 41) C dX7_load_41 rfl ?_
    refine g_iload_n (pc := 42) C dX7_load_42 rfl ?_
    refine g_icmp_gt (pc := 43) C 63 dX7_load_43 (by decide) (fun h43 => absurd h43 (fun q => absurd ((nI_ltI (a := room) (b := w) (by omega) (by omega)).mp q) (by omega))) (fun _ => ?_)
    refine g_aload_n (pc := 46) C dX7_load_46 rfl ?_
    refine g_getr (pc := 47) C fX7_101 rfl hM.1 dX7_load_47 rfl (hM.2 33 rfl).1 ?_
    refine g_sipush (pc := 50) C 1608 dX7_load_50 (by decide) ?_
    refine g_iload_n (pc := 53) C dX7_load_53 rfl ?_
    refine g_iadd (pc := 54) C dX7_load_54 ?_
    refine g_eqi (nI (1608 + w)) (nI_add 1608 w) ?_
    refine g_iconst (pc := 55) C 0 dX7_load_55 (by decide) ?_
    refine g_iastN (pc := 56) C rfl (hM.2 33 rfl).2 (by omega) (by decide) dX7_load_56 ?_
    refine g_iincN (pc := 57) C 1 dX7_load_57 rfl (by decide) (by decide) ?_
    refine g_goto (pc := 60) C 41 dX7_load_60 (by decide) ?_
    exact g_subR (ih (w + 1) (by omega)) ⟨rfl, rfl, rfl, rfl, trivial⟩
set_option maxHeartbeats 400000 in
set_option maxRecDepth 100000 in
theorem lp_ld4 {X : Xt} {Y : Yt} {P : Option AV → Mm → Prop} {nm : String} (C : Cx X Y cX7_load 8 RX7) (B : Bx X Y nm (some .int) 3 0 0 P) {T : Mm} {i room w r : Nat} {Fn : Nat → Nat} {mc : Nat} {lc : Nat → Nat} {gd mt sz gn : Nat → Nat} (hI : IM T mc lc) (hi : i < mc) (hL : LdH T gd mt sz gn i) (hr : r ≤ room) (ht : room ≤ 200) (hw : w < 8) (hF : ∀ a, a ≤ room → T.1 (2, 0, 33) (201 * (w + 1) + a) = nI (Fn a)) (hFn : ∀ a, Fn a ≤ 800000000) (K : G X Y 0 0 T 168 [(0, vr (2, 0, 0)), (1, vi (nI i)), (2, vi (nI room)), (3, vi (nI w)), (4, vi (nI r)), (5, vi (nI (mxN Fn (sz w) (gn w) r ((min (mt w) (r / sz w) + 1))))), (6, vi (nI ((min (mt w) (r / sz w) + 1))))] []) : ∀ n c, c + n = min (mt w) (r / sz w) + 1 → G X Y 0 0 T 85 [(0, vr (2, 0, 0)), (1, vi (nI i)), (2, vi (nI room)), (3, vi (nI w)), (4, vi (nI r)), (5, vi (nI (mxN Fn (sz w) (gn w) r c))), (6, vi (nI c))] [] := by
  have hM := hI.1
  have hmc := hI.2.2.1
  have hs := (hL.2.2.1 w hw).2
  have hm := (hL.2.1 w hw).2
  have hg := (hL.2.2.2 w hw).1
  intro n
  induction n with
  | zero =>
    intro c hc
    have hcase : mt w < c ∨ (c ≤ mt w ∧ r < c * sz w ∧ c * sz w ≤ 3000) := by
      rcases Nat.lt_or_ge (r / sz w) (mt w) with q | q
      · have e : c = r / sz w + 1 := by rw [Nat.min_eq_right (Nat.le_of_lt q)] at hc; omega
        refine Or.inr ⟨by omega, ?_, ?_⟩
        · rw [e]; exact (Nat.div_lt_iff_lt_mul hs.1).mp (Nat.lt_succ_self _)
        · rw [e, Nat.succ_mul]; have := Nat.div_mul_le_self r (sz w); omega
      · rw [Nat.min_eq_left q] at hc; exact Or.inl (by omega)
    have ec : c = min (mt w) (r / sz w) + 1 := by omega
    have hc9 : c ≤ 21 := by have := Nat.min_le_left (mt w) (r / sz w); omega
    rw [← ec] at K
    rcases hcase with hcase | ⟨h1, h2, h3⟩
    ·
      refine g_iload (pc := 85) C dX7_load_85 rfl ?_
      refine g_aload_n (pc := 87) C dX7_load_87 rfl ?_
      refine g_iload_n (pc := 88) C dX7_load_88 rfl ?_
      refine g_iload_n (pc := 89) C dX7_load_89 rfl ?_
      refine g_callV (pc := 90) C B mX7_163 (c_X7_mayTake _ _ _ _ _ mc lc hI i hi w (by omega)) rfl rfl rfl rfl hM.1 (by decide) ⟨Nat.le_refl _, Nat.le_refl _⟩ (Nat.le_of_ble_eq_true rfl) dX7_load_90 (fun rr SS hP => ?_)
      rw [hP.1, hP.2]
      refine g_eqi (nI (mt w)) (hL.2.1 w (by omega)).1 ?_
      refine g_icmp_gt (pc := 93) C 168 dX7_load_93 (by decide) (fun _ => ?_) (fun h93 => absurd ((nI_ltI (a := mt w) (b := c) (by omega) (by omega)).mpr (by omega)) h93)
      exact K
    ·
      refine g_iload (pc := 85) C dX7_load_85 rfl ?_
      refine g_aload_n (pc := 87) C dX7_load_87 rfl ?_
      refine g_iload_n (pc := 88) C dX7_load_88 rfl ?_
      refine g_iload_n (pc := 89) C dX7_load_89 rfl ?_
      refine g_callV (pc := 90) C B mX7_163 (c_X7_mayTake _ _ _ _ _ mc lc hI i hi w (by omega)) rfl rfl rfl rfl hM.1 (by decide) ⟨Nat.le_refl _, Nat.le_refl _⟩ (Nat.le_of_ble_eq_true rfl) dX7_load_90 (fun rr SS hP => ?_)
      rw [hP.1, hP.2]
      refine g_eqi (nI (mt w)) (hL.2.1 w (by omega)).1 ?_
      refine g_icmp_gt (pc := 93) C 168 dX7_load_93 (by decide) (fun h93 => absurd h93 (fun q => absurd ((nI_ltI (a := mt w) (b := c) (by omega) (by omega)).mp q) (by omega))) (fun _ => ?_)
      refine g_iload (pc := 96) C dX7_load_96 rfl ?_
      refine g_aload_n (pc := 98) C dX7_load_98 rfl ?_
      refine g_iload_n (pc := 99) C dX7_load_99 rfl ?_
      refine g_iload_n (pc := 100) C dX7_load_100 rfl ?_
      refine g_callV (pc := 101) C B mX7_166 (c_X7_sizeAt _ _ _ _ _ mc lc hI gd hL.1 i hi w (by omega)) rfl rfl rfl rfl hM.1 (by decide) ⟨Nat.le_refl _, Nat.le_refl _⟩ (Nat.le_of_ble_eq_true rfl) dX7_load_101 (fun rr SS hP => ?_)
      rw [hP.1, hP.2]
      refine g_eqi (nI (sz w)) (hL.2.2.1 w (by omega)).1 ?_
      refine g_imul (pc := 104) C dX7_load_104 ?_
      refine g_eqi (nI (c * (sz w))) (pk_mul c (sz w)) ?_
      refine g_iload (pc := 105) C dX7_load_105 rfl ?_
      refine g_icmp_gt (pc := 107) C 168 dX7_load_107 (by decide) (fun _ => ?_) (fun h107 => absurd ((nI_ltI (a := r) (b := c * sz w) (by omega) (by omega)).mpr (by omega)) h107)
      exact K
  | succ n ih =>
    intro c hc
    have hm1 := Nat.min_le_left (mt w) (r / sz w)
    have hm2 := Nat.min_le_right (mt w) (r / sz w)
    have hcb : c * sz w ≤ r := (Nat.le_div_iff_mul_le hs.1).mp (by omega)
    have hf1 := hFn (r - c * sz w)
    have hcg : c * gn w ≤ 20 * 5000000 := Nat.mul_le_mul (by omega) hg
    have hf2 : mxN Fn (sz w) (gn w) r c ≤ 900000000 := mxN_le c (fun c9 h9 => by have q1 : c9 * gn w ≤ 20 * 5000000 := Nat.mul_le_mul (by omega) hg; have q2 := hFn (r - c9 * sz w); omega)
    refine g_iload (pc := 85) C dX7_load_85 rfl ?_
    refine g_aload_n (pc := 87) C dX7_load_87 rfl ?_
    refine g_iload_n (pc := 88) C dX7_load_88 rfl ?_
    refine g_iload_n (pc := 89) C dX7_load_89 rfl ?_
    refine g_callV (pc := 90) C B mX7_163 (c_X7_mayTake _ _ _ _ _ mc lc hI i hi w (by omega)) rfl rfl rfl rfl hM.1 (by decide) ⟨Nat.le_refl _, Nat.le_refl _⟩ (Nat.le_of_ble_eq_true rfl) dX7_load_90 (fun rr SS hP => ?_)
    rw [hP.1, hP.2]
    refine g_eqi (nI (mt w)) (hL.2.1 w (by omega)).1 ?_
    refine g_icmp_gt (pc := 93) C 168 dX7_load_93 (by decide) (fun h93 => absurd h93 (fun q => absurd ((nI_ltI (a := mt w) (b := c) (by omega) (by omega)).mp q) (by omega))) (fun _ => ?_)
    refine g_iload (pc := 96) C dX7_load_96 rfl ?_
    refine g_aload_n (pc := 98) C dX7_load_98 rfl ?_
    refine g_iload_n (pc := 99) C dX7_load_99 rfl ?_
    refine g_iload_n (pc := 100) C dX7_load_100 rfl ?_
    refine g_callV (pc := 101) C B mX7_166 (c_X7_sizeAt _ _ _ _ _ mc lc hI gd hL.1 i hi w (by omega)) rfl rfl rfl rfl hM.1 (by decide) ⟨Nat.le_refl _, Nat.le_refl _⟩ (Nat.le_of_ble_eq_true rfl) dX7_load_101 (fun rr SS hP => ?_)
    rw [hP.1, hP.2]
    refine g_eqi (nI (sz w)) (hL.2.2.1 w (by omega)).1 ?_
    refine g_imul (pc := 104) C dX7_load_104 ?_
    refine g_eqi (nI (c * (sz w))) (pk_mul c (sz w)) ?_
    refine g_iload (pc := 105) C dX7_load_105 rfl ?_
    refine g_icmp_gt (pc := 107) C 168 dX7_load_107 (by decide) (fun h107 => absurd h107 (fun q => absurd ((nI_ltI (a := r) (b := c * sz w) (by omega) (by omega)).mp q) (by omega))) (fun _ => ?_)
    refine g_aload_n (pc := 110) C dX7_load_110 rfl ?_
    refine g_iload_n (pc := 111) C dX7_load_111 rfl ?_
    refine g_iload_n (pc := 112) C dX7_load_112 rfl ?_
    refine g_iload (pc := 113) C dX7_load_113 rfl ?_
    refine g_callV (pc := 115) C B mX7_169 (c_X7_worthAt _ _ _ _ _ mc lc hI gd hL.1 i hi w (by omega) (nI c)) rfl rfl rfl rfl hM.1 (by decide) ⟨Nat.le_refl _, Nat.le_refl _⟩ (Nat.le_of_ble_eq_true rfl) dX7_load_115 (fun rr SS hP => ?_)
    rw [hP.1, hP.2]
    refine g_eqi (nI (c * gn w)) ((hL.2.2.2 w (by omega)).2 c (by omega)) ?_
    refine g_aload_n (pc := 118) C dX7_load_118 rfl ?_
    refine g_getr (pc := 119) C fX7_101 rfl hM.1 dX7_load_119 rfl (hM.2 33 rfl).1 ?_
    refine g_sipush (pc := 122) C 201 dX7_load_122 (by decide) ?_
    refine g_iload_n (pc := 125) C dX7_load_125 rfl ?_
    refine g_iconst (pc := 126) C 1 dX7_load_126 (by decide) ?_
    refine g_iadd (pc := 127) C dX7_load_127 ?_
    refine g_eqi (nI (w + 1)) (nI_add w 1) ?_
    refine g_imul (pc := 128) C dX7_load_128 ?_
    refine g_eqi (nI (201 * (w + 1))) (pk_mul 201 (w + 1)) ?_
    refine g_iload (pc := 129) C dX7_load_129 rfl ?_
    refine g_iadd (pc := 131) C dX7_load_131 ?_
    refine g_eqi (nI ((201 * (w + 1)) + r)) (nI_add (201 * (w + 1)) r) ?_
    refine g_iload (pc := 132) C dX7_load_132 rfl ?_
    refine g_aload_n (pc := 134) C dX7_load_134 rfl ?_
    refine g_iload_n (pc := 135) C dX7_load_135 rfl ?_
    refine g_iload_n (pc := 136) C dX7_load_136 rfl ?_
    refine g_callV (pc := 137) C B mX7_166 (c_X7_sizeAt _ _ _ _ _ mc lc hI gd hL.1 i hi w (by omega)) rfl rfl rfl rfl hM.1 (by decide) ⟨Nat.le_refl _, Nat.le_refl _⟩ (Nat.le_of_ble_eq_true rfl) dX7_load_137 (fun rr SS hP => ?_)
    rw [hP.1, hP.2]
    refine g_eqi (nI (sz w)) (hL.2.2.1 w (by omega)).1 ?_
    refine g_imul (pc := 140) C dX7_load_140 ?_
    refine g_eqi (nI (c * (sz w))) (pk_mul c (sz w)) ?_
    refine g_isub (pc := 141) C dX7_load_141 ?_
    refine g_eqi (nI (201 * (w + 1) + r - c * sz w)) (pk_sub (a := 201 * (w + 1) + r) (b := c * sz w) (by omega)) ?_
    refine g_ialdN (pc := 142) C rfl (hM.2 33 rfl).2 (by omega) (by decide) dX7_load_142 ?_
    refine g_eqi (nI (Fn (r - c * sz w))) (by rw [show 201 * (w + 1) + r - c * sz w = 201 * (w + 1) + (r - c * sz w) by omega]; exact hF _ (by omega)) ?_
    refine g_iadd (pc := 143) C dX7_load_143 ?_
    refine g_eqi (nI ((c * gn w) + (Fn (r - c * sz w)))) (nI_add (c * gn w) (Fn (r - c * sz w))) ?_
    refine g_istore (pc := 144) C dX7_load_144 (by decide) ?_
    refine g_iload (pc := 146) C dX7_load_146 rfl ?_
    refine g_iload (pc := 148) C dX7_load_148 rfl ?_
    refine g_icmp_le (pc := 150) C 158 dX7_load_150 (by decide) (fun h150 => ?_) (fun h150 => ?_)
    ·
      refine g_iload (pc := 158) C dX7_load_158 rfl ?_
      refine g_istore (pc := 160) C dX7_load_160 (by decide) ?_
      refine g_iincN (pc := 162) C 1 dX7_load_162 rfl (by decide) (by decide) ?_
      refine g_goto (pc := 165) C 85 dX7_load_165 (by decide) ?_
      exact g_subR (ih (c + 1) (by omega)) ⟨rfl, rfl, rfl, rfl, rfl, by show some (vi _) = some (vi _); rw [mxN, if_pos ((nI_leI (a := c * gn w + Fn (r - c * sz w)) (b := mxN Fn (sz w) (gn w) r c) (by omega) (by omega)).mp h150)], rfl, trivial⟩
    ·
      refine g_iload (pc := 153) C dX7_load_153 rfl ?_
      refine g_goto (pc := 155) C 160 dX7_load_155 (by decide) ?_
      refine g_istore (pc := 160) C dX7_load_160 (by decide) ?_
      refine g_iincN (pc := 162) C 1 dX7_load_162 rfl (by decide) (by decide) ?_
      refine g_goto (pc := 165) C 85 dX7_load_165 (by decide) ?_
      exact g_subR (ih (c + 1) (by omega)) ⟨rfl, rfl, rfl, rfl, rfl, by show some (vi _) = some (vi _); rw [mxN, if_neg (fun q => h150 ((nI_leI (a := c * gn w + Fn (r - c * sz w)) (b := mxN Fn (sz w) (gn w) r c) (by omega) (by omega)).mpr q))], rfl, trivial⟩
set_option maxHeartbeats 400000 in
set_option maxRecDepth 100000 in
theorem lp_ld3 {X : Xt} {Y : Yt} {P : Option AV → Mm → Prop} {nm : String}  (C : Cx X Y cX7_load 8 RX7) (B : Bx X Y nm (some Jvm.ClassFile.FieldType.int) 3 0 0 P) {T : Mm} {i room w : Nat} {Fn : Nat → Nat} {mc : Nat} {lc : Nat → Nat} {gd mt sz gn : Nat → Nat} (hI0 : IM T mc lc) (hi : i < mc) (hL0 : LdH T gd mt sz gn i) (ht : room ≤ 200) (hw : w < 8) (hF : ∀ a, a ≤ room → T.1 (2, 0, 33) (201 * (w + 1) + a) = nI (Fn a)) (hFn : ∀ a, Fn a ≤ 800000000) (K : G X Y 0 0 (lqM T w Fn (sz w) (gn w) (mt w) ((room + 1))) 189 [(0, vr (2, 0, 0)), (1, vi (nI i)), (2, vi (nI room)), (3, vi (nI w)), (4, vi (nI ((room + 1))))] []) : ∀ n r, r + n = (room + 1) → G X Y 0 0 (lqM T w Fn (sz w) (gn w) (mt w) r) 73 [(0, vr (2, 0, 0)), (1, vi (nI i)), (2, vi (nI room)), (3, vi (nI w)), (4, vi (nI r))] [] := by
  intro n
  induction n with
  | zero =>
    intro r hw9
    have e : (room + 1) = r := by omega
    subst e
    have hbt := lqM_but T w Fn (sz w) (gn w) (mt w) (room + 1)
    have hI := IM.ld hbt hI0
    have hL := LdH.but hbt hL0
    have hM := hI.1
    refine g_iload (pc := 73) C dX7_load_73 rfl ?_
    refine g_iload_n (pc := 75) C dX7_load_75 rfl ?_
    refine g_icmp_gt (pc := 76) C 189 dX7_load_76 (by decide) (fun _ => ?_) (fun h76 => absurd ((nI_ltI (a := room) (b := (room + 1)) (by omega) (by omega)).mpr (by omega)) h76)
    exact K
  | succ n ih =>
    intro r hw9
    have hbt := lqM_but T w Fn (sz w) (gn w) (mt w) r
    have hI := IM.ld hbt hI0
    have hL := LdH.but hbt hL0
    have hM := hI.1
    refine g_iload (pc := 73) C dX7_load_73 rfl ?_
    refine g_iload_n (pc := 75) C dX7_load_75 rfl ?_
    refine g_icmp_gt (pc := 76) C 189 dX7_load_76 (by decide) (fun h76 => absurd h76 (fun q => absurd ((nI_ltI (a := room) (b := r) (by omega) (by omega)).mp q) (by omega))) (fun _ => ?_)
    refine g_iconst (pc := 79) C 0 dX7_load_79 (by decide) ?_
    refine g_istore (pc := 80) C dX7_load_80 (by decide) ?_
    refine g_iconst (pc := 82) C 0 dX7_load_82 (by decide) ?_
    refine g_istore (pc := 83) C dX7_load_83 (by decide) ?_
    refine g_subR (lp_ld4 (Fn := Fn) C B hI hi hL (by omega) ht hw (fun a9 h9 => (lqM_up _ _ _ _ _ _ _ _ (Or.inr (by omega))).trans (hF a9 h9)) hFn ?_ (min (mt w) (r / sz w) + 1) 0 (by omega)) ⟨rfl, rfl, rfl, rfl, rfl, rfl, rfl, trivial⟩
    refine g_aload_n (pc := 168) C dX7_load_168 rfl ?_
    refine g_getr (pc := 169) C fX7_101 rfl hM.1 dX7_load_169 rfl (hM.2 33 rfl).1 ?_
    refine g_sipush (pc := 172) C 201 dX7_load_172 (by decide) ?_
    refine g_iload_n (pc := 175) C dX7_load_175 rfl ?_
    refine g_imul (pc := 176) C dX7_load_176 ?_
    refine g_eqi (nI (201 * w)) (pk_mul 201 w) ?_
    refine g_iload (pc := 177) C dX7_load_177 rfl ?_
    refine g_iadd (pc := 179) C dX7_load_179 ?_
    refine g_eqi (nI ((201 * w) + r)) (nI_add (201 * w) r) ?_
    refine g_iload (pc := 180) C dX7_load_180 rfl ?_
    refine g_iastN (pc := 182) C rfl (hM.2 33 rfl).2 (by omega) (by decide) dX7_load_182 ?_
    refine g_iincN (pc := 183) C 1 dX7_load_183 rfl (by decide) (by decide) ?_
    refine g_goto (pc := 186) C 73 dX7_load_186 (by decide) ?_
    exact g_subR (ih (r + 1) (by omega)) ⟨rfl, rfl, rfl, rfl, rfl, trivial⟩
set_option maxHeartbeats 400000 in
set_option maxRecDepth 100000 in
theorem lp_ld2 {X : Xt} {Y : Yt} {P : Option AV → Mm → Prop} {nm : String} (C : Cx X Y cX7_load 8 RX7) (B : Bx X Y nm (some .int) 3 0 0 P) {S : Mm} {i room : Nat} {mc : Nat} {lc : Nat → Nat} {gd mt sz gn : Nat → Nat} (hI0 : IM S mc lc) (hi : i < mc) (hL0 : LdH S gd mt sz gn i) (ht : room ≤ 200) (h0 : ∀ a, a ≤ room → S.1 (2, 0, 33) (1608 + a) = nI (ldR mt sz gn 0 a)) (K : G X Y 0 0 (lwM S mt sz gn room 8) 195 [(0, vr (2, 0, 0)), (1, vi (nI i)), (2, vi (nI room)), (3, vi (wv8 8))] []) : ∀ n k, k + n = 8 → G X Y 0 0 (lwM S mt sz gn room k) 66 [(0, vr (2, 0, 0)), (1, vi (nI i)), (2, vi (nI room)), (3, vi (wv8 k))] [] := by
  intro n
  induction n with
  | zero =>
    intro k hk
    have e : 8 = k := by omega
    subst e
    refine g_iload_n (pc := 66) C dX7_load_66 rfl ?_
    refine g_if_lt (pc := 67) C 195 dX7_load_67 (by decide) (fun _ => ?_) (fun h67 => absurd (by decide) h67)
    exact K
  | succ n ih =>
    intro k hk
    have hbt := lwM_but S mt sz gn room k
    have hI := IM.ld hbt hI0
    have hL := LdH.but hbt hL0
    have ew : wv8 k = nI (7 - k) := by unfold wv8; rw [if_pos (by omega)]
    rw [ew]
    refine g_iload_n (pc := 66) C dX7_load_66 rfl ?_
    refine g_if_lt (pc := 67) C 195 dX7_load_67 (by decide) (fun h67 => absurd h67 (nI_pos (by omega))) (fun _ => ?_)
    refine g_iconst (pc := 70) C 0 dX7_load_70 (by decide) ?_
    refine g_istore (pc := 71) C dX7_load_71 (by decide) ?_
    refine g_subR (lp_ld3 (Fn := ldR mt sz gn k) C B hI hi hL ht (by omega) (fun a9 h9 => by have q := lwM_at S mt sz gn ht h0 k (by omega) k (Nat.le_refl _) a9 h9; rw [show 8 - k = 7 - k + 1 by omega] at q; exact q) (fun a9 => Nat.le_trans (ldR_le (fun l hl => (hL0.2.1 l hl).2) (fun l hl => (hL0.2.2.2 l hl).1) k (by omega) a9) (by omega)) ?_ (room + 1) 0 (by omega)) ⟨rfl, rfl, rfl, rfl, rfl, trivial⟩
    refine g_iinc (pc := 189) C (-1) dX7_load_189 rfl (by decide) (by decide) ?_
    refine g_goto (pc := 192) C 66 dX7_load_192 (by decide) ?_
    exact g_subR (ih (k + 1) (by omega)) ⟨rfl, rfl, rfl, congrArg (fun z => some (vi z)) (wv8_s k (by omega)), trivial⟩
set_option maxHeartbeats 400000 in
set_option maxRecDepth 100000 in
theorem lp_ld6 {X : Xt} {Y : Yt} {P : Option AV → Mm → Prop} {nm : String} (C : Cx X Y cX7_load 8 RX7) (B : Bx X Y nm (some .int) 3 0 0 P) {T : Mm} {i room w left tot : Nat} {wo : Int32} {Fn : Nat → Nat} {mc : Nat} {lc : Nat → Nat} {gd mt sz gn : Nat → Nat} (hI : IM T mc lc) (hi : i < mc) (hL : LdH T gd mt sz gn i) (hlf : left ≤ room) (ht : room ≤ 200) (hw : w < 8) (hF : ∀ a, a ≤ room → T.1 (2, 0, 33) (201 * (w + 1) + a) = nI (Fn a)) (hFn : ∀ a, Fn a ≤ 800000000) (hT : T.1 (2, 0, 33) (201 * w + left) = nI tot) (htot : tot ≤ 800000000) : ∀ c, c ≤ min (mt w) (left / sz w) → (∃ c', c' ≤ c ∧ c' * gn w + Fn (left - c' * sz w) = tot) → G X Y 0 0 T 305 [(0, vr (2, 0, 0)), (1, vi (nI i)), (2, vi (nI room)), (3, vi (nI left)), (4, vi (wo)), (5, vi (nI w)), (6, vi (nI (exL Fn tot (sz w) (gn w) left c)))] [] → G X Y 0 0 T 247 [(0, vr (2, 0, 0)), (1, vi (nI i)), (2, vi (nI room)), (3, vi (nI left)), (4, vi (wo)), (5, vi (nI w)), (6, vi (nI c))] [] := by
  have hM := hI.1
  have hmc := hI.2.2.1
  have hs := (hL.2.2.1 w hw).2
  have hm := (hL.2.1 w hw).2
  have hg := (hL.2.2.2 w hw).1
  intro c
  induction c with
  | zero =>
    intro hc0 hex K
    have hf1 := hFn (left - 0 * sz w)
    have hit : 0 * gn w + Fn (left - 0 * sz w) = tot := by
      obtain ⟨c9, g1, g2⟩ := hex
      have e : c9 = 0 := by omega
      subst e
      exact g2
    refine g_aload_n (pc := 247) C dX7_load_247 rfl ?_
    refine g_iload_n (pc := 248) C dX7_load_248 rfl ?_
    refine g_iload (pc := 249) C dX7_load_249 rfl ?_
    refine g_iload (pc := 251) C dX7_load_251 rfl ?_
    refine g_callV (pc := 253) C B mX7_169 (c_X7_worthAt _ _ _ _ _ mc lc hI gd hL.1 i hi w (by omega) (nI 0)) rfl rfl rfl rfl hM.1 (by decide) ⟨Nat.le_refl _, Nat.le_refl _⟩ (Nat.le_of_ble_eq_true rfl) dX7_load_253 (fun rr SS hP => ?_)
    rw [hP.1, hP.2]
    refine g_eqi (nI (0 * gn w)) ((hL.2.2.2 w (by omega)).2 0 (by omega)) ?_
    refine g_aload_n (pc := 256) C dX7_load_256 rfl ?_
    refine g_getr (pc := 257) C fX7_101 rfl hM.1 dX7_load_257 rfl (hM.2 33 rfl).1 ?_
    refine g_sipush (pc := 260) C 201 dX7_load_260 (by decide) ?_
    refine g_iload (pc := 263) C dX7_load_263 rfl ?_
    refine g_iconst (pc := 265) C 1 dX7_load_265 (by decide) ?_
    refine g_iadd (pc := 266) C dX7_load_266 ?_
    refine g_eqi (nI (w + 1)) (nI_add w 1) ?_
    refine g_imul (pc := 267) C dX7_load_267 ?_
    refine g_eqi (nI (201 * (w + 1))) (pk_mul 201 (w + 1)) ?_
    refine g_iload_n (pc := 268) C dX7_load_268 rfl ?_
    refine g_iadd (pc := 269) C dX7_load_269 ?_
    refine g_eqi (nI ((201 * (w + 1)) + left)) (nI_add (201 * (w + 1)) left) ?_
    refine g_iload (pc := 270) C dX7_load_270 rfl ?_
    refine g_aload_n (pc := 272) C dX7_load_272 rfl ?_
    refine g_iload_n (pc := 273) C dX7_load_273 rfl ?_
    refine g_iload (pc := 274) C dX7_load_274 rfl ?_
    refine g_callV (pc := 276) C B mX7_166 (c_X7_sizeAt _ _ _ _ _ mc lc hI gd hL.1 i hi w (by omega)) rfl rfl rfl rfl hM.1 (by decide) ⟨Nat.le_refl _, Nat.le_refl _⟩ (Nat.le_of_ble_eq_true rfl) dX7_load_276 (fun rr SS hP => ?_)
    rw [hP.1, hP.2]
    refine g_eqi (nI (sz w)) (hL.2.2.1 w (by omega)).1 ?_
    refine g_imul (pc := 279) C dX7_load_279 ?_
    refine g_eqi (nI (0 * (sz w))) (pk_mul 0 (sz w)) ?_
    refine g_isub (pc := 280) C dX7_load_280 ?_
    refine g_eqi (nI (201 * (w + 1) + left - 0 * sz w)) (pk_sub (a := 201 * (w + 1) + left) (b := 0 * sz w) (by omega)) ?_
    refine g_ialdN (pc := 281) C rfl (hM.2 33 rfl).2 (by omega) (by decide) dX7_load_281 ?_
    refine g_eqi (nI (Fn (left - 0 * sz w))) (by rw [show 201 * (w + 1) + left - 0 * sz w = 201 * (w + 1) + (left - 0 * sz w) by omega]; exact hF _ (by omega)) ?_
    refine g_iadd (pc := 282) C dX7_load_282 ?_
    refine g_eqi (nI ((0 * gn w) + (Fn (left - 0 * sz w)))) (nI_add (0 * gn w) (Fn (left - 0 * sz w))) ?_
    refine g_aload_n (pc := 283) C dX7_load_283 rfl ?_
    refine g_getr (pc := 284) C fX7_101 rfl hM.1 dX7_load_284 rfl (hM.2 33 rfl).1 ?_
    refine g_sipush (pc := 287) C 201 dX7_load_287 (by decide) ?_
    refine g_iload (pc := 290) C dX7_load_290 rfl ?_
    refine g_imul (pc := 292) C dX7_load_292 ?_
    refine g_eqi (nI (201 * w)) (pk_mul 201 w) ?_
    refine g_iload_n (pc := 293) C dX7_load_293 rfl ?_
    refine g_iadd (pc := 294) C dX7_load_294 ?_
    refine g_eqi (nI ((201 * w) + left)) (nI_add (201 * w) left) ?_
    refine g_ialdN (pc := 295) C rfl (hM.2 33 rfl).2 (by omega) (by decide) dX7_load_295 ?_
    refine g_eqi (nI (tot)) hT ?_
    refine g_icmp_eq (pc := 296) C 305 dX7_load_296 (by decide) (fun _ => ?_) (fun h296 => absurd ((nI_eq (a := 0 * gn w + Fn (left - 0 * sz w)) (b := tot) (by omega) (by omega)).mpr (by omega)) h296)
    exact K
  | succ c ih =>
    intro hc0 hex K
    have hm1 := Nat.min_le_left (mt w) (left / sz w)
    have hm2 := Nat.min_le_right (mt w) (left / sz w)
    have hcb : (c + 1) * sz w ≤ left := (Nat.le_div_iff_mul_le hs.1).mp (by omega)
    have hcg : (c + 1) * gn w ≤ 20 * 5000000 := Nat.mul_le_mul (by omega) hg
    have hf1 := hFn (left - (c + 1) * sz w)
    by_cases hit : (c + 1) * gn w + Fn (left - (c + 1) * sz w) = tot
    ·
      rw [exL, if_pos hit] at K
      refine g_aload_n (pc := 247) C dX7_load_247 rfl ?_
      refine g_iload_n (pc := 248) C dX7_load_248 rfl ?_
      refine g_iload (pc := 249) C dX7_load_249 rfl ?_
      refine g_iload (pc := 251) C dX7_load_251 rfl ?_
      refine g_callV (pc := 253) C B mX7_169 (c_X7_worthAt _ _ _ _ _ mc lc hI gd hL.1 i hi w (by omega) (nI (c + 1))) rfl rfl rfl rfl hM.1 (by decide) ⟨Nat.le_refl _, Nat.le_refl _⟩ (Nat.le_of_ble_eq_true rfl) dX7_load_253 (fun rr SS hP => ?_)
      rw [hP.1, hP.2]
      refine g_eqi (nI ((c + 1) * gn w)) ((hL.2.2.2 w (by omega)).2 (c + 1) (by omega)) ?_
      refine g_aload_n (pc := 256) C dX7_load_256 rfl ?_
      refine g_getr (pc := 257) C fX7_101 rfl hM.1 dX7_load_257 rfl (hM.2 33 rfl).1 ?_
      refine g_sipush (pc := 260) C 201 dX7_load_260 (by decide) ?_
      refine g_iload (pc := 263) C dX7_load_263 rfl ?_
      refine g_iconst (pc := 265) C 1 dX7_load_265 (by decide) ?_
      refine g_iadd (pc := 266) C dX7_load_266 ?_
      refine g_eqi (nI (w + 1)) (nI_add w 1) ?_
      refine g_imul (pc := 267) C dX7_load_267 ?_
      refine g_eqi (nI (201 * (w + 1))) (pk_mul 201 (w + 1)) ?_
      refine g_iload_n (pc := 268) C dX7_load_268 rfl ?_
      refine g_iadd (pc := 269) C dX7_load_269 ?_
      refine g_eqi (nI ((201 * (w + 1)) + left)) (nI_add (201 * (w + 1)) left) ?_
      refine g_iload (pc := 270) C dX7_load_270 rfl ?_
      refine g_aload_n (pc := 272) C dX7_load_272 rfl ?_
      refine g_iload_n (pc := 273) C dX7_load_273 rfl ?_
      refine g_iload (pc := 274) C dX7_load_274 rfl ?_
      refine g_callV (pc := 276) C B mX7_166 (c_X7_sizeAt _ _ _ _ _ mc lc hI gd hL.1 i hi w (by omega)) rfl rfl rfl rfl hM.1 (by decide) ⟨Nat.le_refl _, Nat.le_refl _⟩ (Nat.le_of_ble_eq_true rfl) dX7_load_276 (fun rr SS hP => ?_)
      rw [hP.1, hP.2]
      refine g_eqi (nI (sz w)) (hL.2.2.1 w (by omega)).1 ?_
      refine g_imul (pc := 279) C dX7_load_279 ?_
      refine g_eqi (nI ((c + 1) * (sz w))) (pk_mul (c + 1) (sz w)) ?_
      refine g_isub (pc := 280) C dX7_load_280 ?_
      refine g_eqi (nI (201 * (w + 1) + left - (c + 1) * sz w)) (pk_sub (a := 201 * (w + 1) + left) (b := (c + 1) * sz w) (by omega)) ?_
      refine g_ialdN (pc := 281) C rfl (hM.2 33 rfl).2 (by omega) (by decide) dX7_load_281 ?_
      refine g_eqi (nI (Fn (left - (c + 1) * sz w))) (by rw [show 201 * (w + 1) + left - (c + 1) * sz w = 201 * (w + 1) + (left - (c + 1) * sz w) by omega]; exact hF _ (by omega)) ?_
      refine g_iadd (pc := 282) C dX7_load_282 ?_
      refine g_eqi (nI (((c + 1) * gn w) + (Fn (left - (c + 1) * sz w)))) (nI_add ((c + 1) * gn w) (Fn (left - (c + 1) * sz w))) ?_
      refine g_aload_n (pc := 283) C dX7_load_283 rfl ?_
      refine g_getr (pc := 284) C fX7_101 rfl hM.1 dX7_load_284 rfl (hM.2 33 rfl).1 ?_
      refine g_sipush (pc := 287) C 201 dX7_load_287 (by decide) ?_
      refine g_iload (pc := 290) C dX7_load_290 rfl ?_
      refine g_imul (pc := 292) C dX7_load_292 ?_
      refine g_eqi (nI (201 * w)) (pk_mul 201 w) ?_
      refine g_iload_n (pc := 293) C dX7_load_293 rfl ?_
      refine g_iadd (pc := 294) C dX7_load_294 ?_
      refine g_eqi (nI ((201 * w) + left)) (nI_add (201 * w) left) ?_
      refine g_ialdN (pc := 295) C rfl (hM.2 33 rfl).2 (by omega) (by decide) dX7_load_295 ?_
      refine g_eqi (nI (tot)) hT ?_
      refine g_icmp_eq (pc := 296) C 305 dX7_load_296 (by decide) (fun _ => ?_) (fun h296 => absurd ((nI_eq (a := (c + 1) * gn w + Fn (left - (c + 1) * sz w)) (b := tot) (by omega) (by omega)).mpr (by omega)) h296)
      exact K
    ·
      rw [exL, if_neg hit] at K
      refine g_aload_n (pc := 247) C dX7_load_247 rfl ?_
      refine g_iload_n (pc := 248) C dX7_load_248 rfl ?_
      refine g_iload (pc := 249) C dX7_load_249 rfl ?_
      refine g_iload (pc := 251) C dX7_load_251 rfl ?_
      refine g_callV (pc := 253) C B mX7_169 (c_X7_worthAt _ _ _ _ _ mc lc hI gd hL.1 i hi w (by omega) (nI (c + 1))) rfl rfl rfl rfl hM.1 (by decide) ⟨Nat.le_refl _, Nat.le_refl _⟩ (Nat.le_of_ble_eq_true rfl) dX7_load_253 (fun rr SS hP => ?_)
      rw [hP.1, hP.2]
      refine g_eqi (nI ((c + 1) * gn w)) ((hL.2.2.2 w (by omega)).2 (c + 1) (by omega)) ?_
      refine g_aload_n (pc := 256) C dX7_load_256 rfl ?_
      refine g_getr (pc := 257) C fX7_101 rfl hM.1 dX7_load_257 rfl (hM.2 33 rfl).1 ?_
      refine g_sipush (pc := 260) C 201 dX7_load_260 (by decide) ?_
      refine g_iload (pc := 263) C dX7_load_263 rfl ?_
      refine g_iconst (pc := 265) C 1 dX7_load_265 (by decide) ?_
      refine g_iadd (pc := 266) C dX7_load_266 ?_
      refine g_eqi (nI (w + 1)) (nI_add w 1) ?_
      refine g_imul (pc := 267) C dX7_load_267 ?_
      refine g_eqi (nI (201 * (w + 1))) (pk_mul 201 (w + 1)) ?_
      refine g_iload_n (pc := 268) C dX7_load_268 rfl ?_
      refine g_iadd (pc := 269) C dX7_load_269 ?_
      refine g_eqi (nI ((201 * (w + 1)) + left)) (nI_add (201 * (w + 1)) left) ?_
      refine g_iload (pc := 270) C dX7_load_270 rfl ?_
      refine g_aload_n (pc := 272) C dX7_load_272 rfl ?_
      refine g_iload_n (pc := 273) C dX7_load_273 rfl ?_
      refine g_iload (pc := 274) C dX7_load_274 rfl ?_
      refine g_callV (pc := 276) C B mX7_166 (c_X7_sizeAt _ _ _ _ _ mc lc hI gd hL.1 i hi w (by omega)) rfl rfl rfl rfl hM.1 (by decide) ⟨Nat.le_refl _, Nat.le_refl _⟩ (Nat.le_of_ble_eq_true rfl) dX7_load_276 (fun rr SS hP => ?_)
      rw [hP.1, hP.2]
      refine g_eqi (nI (sz w)) (hL.2.2.1 w (by omega)).1 ?_
      refine g_imul (pc := 279) C dX7_load_279 ?_
      refine g_eqi (nI ((c + 1) * (sz w))) (pk_mul (c + 1) (sz w)) ?_
      refine g_isub (pc := 280) C dX7_load_280 ?_
      refine g_eqi (nI (201 * (w + 1) + left - (c + 1) * sz w)) (pk_sub (a := 201 * (w + 1) + left) (b := (c + 1) * sz w) (by omega)) ?_
      refine g_ialdN (pc := 281) C rfl (hM.2 33 rfl).2 (by omega) (by decide) dX7_load_281 ?_
      refine g_eqi (nI (Fn (left - (c + 1) * sz w))) (by rw [show 201 * (w + 1) + left - (c + 1) * sz w = 201 * (w + 1) + (left - (c + 1) * sz w) by omega]; exact hF _ (by omega)) ?_
      refine g_iadd (pc := 282) C dX7_load_282 ?_
      refine g_eqi (nI (((c + 1) * gn w) + (Fn (left - (c + 1) * sz w)))) (nI_add ((c + 1) * gn w) (Fn (left - (c + 1) * sz w))) ?_
      refine g_aload_n (pc := 283) C dX7_load_283 rfl ?_
      refine g_getr (pc := 284) C fX7_101 rfl hM.1 dX7_load_284 rfl (hM.2 33 rfl).1 ?_
      refine g_sipush (pc := 287) C 201 dX7_load_287 (by decide) ?_
      refine g_iload (pc := 290) C dX7_load_290 rfl ?_
      refine g_imul (pc := 292) C dX7_load_292 ?_
      refine g_eqi (nI (201 * w)) (pk_mul 201 w) ?_
      refine g_iload_n (pc := 293) C dX7_load_293 rfl ?_
      refine g_iadd (pc := 294) C dX7_load_294 ?_
      refine g_eqi (nI ((201 * w) + left)) (nI_add (201 * w) left) ?_
      refine g_ialdN (pc := 295) C rfl (hM.2 33 rfl).2 (by omega) (by decide) dX7_load_295 ?_
      refine g_eqi (nI (tot)) hT ?_
      refine g_icmp_eq (pc := 296) C 305 dX7_load_296 (by decide) (fun h296 => absurd h296 (fun q => absurd ((nI_eq (a := (c + 1) * gn w + Fn (left - (c + 1) * sz w)) (b := tot) (by omega) (by omega)).mp q) (by omega))) (fun _ => ?_)
      refine g_iinc (pc := 299) C (-1) dX7_load_299 rfl (by decide) (by decide) ?_
      refine g_goto (pc := 302) C 247 dX7_load_302 (by decide) ?_
      have hex2 : ∃ c', c' ≤ c ∧ c' * gn w + Fn (left - c' * sz w) = tot := by
        obtain ⟨c9, g1, g2⟩ := hex
        by_cases e : c9 = c + 1
        · subst e; exact absurd g2 hit
        · exact ⟨c9, by omega, g2⟩
      exact g_subR (ih (by omega) hex2 K) ⟨rfl, rfl, rfl, rfl, rfl, rfl, congrArg (fun z => some (vi z)) (pk_m1 c), trivial⟩
set_option maxHeartbeats 400000 in
set_option maxRecDepth 100000 in
theorem lp_ld5 {X : Xt} {Y : Yt} {P : Option AV → Mm → Prop} {nm : String}  (C : Cx X Y cX7_load 8 RX7) (B : Bx X Y nm (some Jvm.ClassFile.FieldType.int) 3 0 0 P) {T : Mm} {i room : Nat} {mc : Nat} {lc : Nat → Nat} {gd mt sz gn : Nat → Nat} (hI0 : IM T mc lc) (hi : i < mc) (hL0 : LdH T gd mt sz gn i) (ht : room ≤ 200) (htab : ∀ w, w ≤ 8 → ∀ a, a ≤ room → T.1 (2, 0, 33) (201 * w + a) = nI (ldR mt sz gn (8 - w) a)) (K : G X Y 0 0 (lcM T mt sz gn room 8) 353 [(0, vr (2, 0, 0)), (1, vi (nI i)), (2, vi (nI room)), (3, vi (nI (llN mt sz gn room 8))), (4, vi (lvI T i mt sz gn room 8)), (5, vi (nI 8))] []) : ∀ n w, w + n = 8 → G X Y 0 0 (lcM T mt sz gn room w) 203 [(0, vr (2, 0, 0)), (1, vi (nI i)), (2, vi (nI room)), (3, vi (nI (llN mt sz gn room w))), (4, vi (lvI T i mt sz gn room w)), (5, vi (nI w))] [] := by
  intro n
  induction n with
  | zero =>
    intro w hw
    have e : 8 = w := by omega
    subst e
    refine g_iload (pc := 203) C dX7_load_203 rfl ?_
    refine g_bipush (pc := 205) C 8 dX7_load_205 (by decide) ?_
    refine g_icmp_ge (pc := 207) C 353 dX7_load_207 (by decide) (fun _ => ?_) (fun h207 => absurd ((nI_leI (a := 8) (b := 8) (by omega) (by omega)).mpr (by omega)) h207)
    exact K
  | succ n ih =>
    intro w hw
    have hbt := lcM_but T mt sz gn room w
    have hI := IM.ld hbt hI0
    have hL := LdH.but hbt hL0
    have hM := hI.1
    have hmc := hI.2.2.1
    have hs := (hL0.2.2.1 w (by omega)).2
    have hm := (hL0.2.1 w (by omega)).2
    have hlf := llN_le mt sz gn room w
    have hdl := Nat.div_le_self (llN mt sz gn room w) (sz w)
    refine g_iload (pc := 203) C dX7_load_203 rfl ?_
    refine g_bipush (pc := 205) C 8 dX7_load_205 (by decide) ?_
    refine g_icmp_ge (pc := 207) C 353 dX7_load_207 (by decide) (fun h207 => absurd h207 (fun q => absurd ((nI_leI (a := 8) (b := w) (by omega) (by omega)).mp q) (by omega))) (fun _ => ?_)
    refine g_iload_n (pc := 210) C dX7_load_210 rfl ?_
    refine g_aload_n (pc := 211) C dX7_load_211 rfl ?_
    refine g_iload_n (pc := 212) C dX7_load_212 rfl ?_
    refine g_iload (pc := 213) C dX7_load_213 rfl ?_
    refine g_callV (pc := 215) C B mX7_166 (c_X7_sizeAt _ _ _ _ _ mc lc hI gd hL.1 i hi w (by omega)) rfl rfl rfl rfl hM.1 (by decide) ⟨Nat.le_refl _, Nat.le_refl _⟩ (Nat.le_of_ble_eq_true rfl) dX7_load_215 (fun rr SS hP => ?_)
    rw [hP.1, hP.2]
    refine g_eqi (nI (sz w)) (hL.2.2.1 w (by omega)).1 ?_
    refine g_idiv (pc := 218) C dX7_load_218 (nI_ne0 hs.1 (by omega)) ?_
    refine g_eqi (nI (llN mt sz gn room w / sz w)) (pk_div (a := llN mt sz gn room w) (d := sz w) (by omega) hs.1 (by omega)) ?_
    refine g_istore (pc := 219) C dX7_load_219 (by decide) ?_
    refine g_iload (pc := 221) C dX7_load_221 rfl ?_
    refine g_aload_n (pc := 223) C dX7_load_223 rfl ?_
    refine g_iload_n (pc := 224) C dX7_load_224 rfl ?_
    refine g_iload (pc := 225) C dX7_load_225 rfl ?_
    refine g_callV (pc := 227) C B mX7_163 (c_X7_mayTake _ _ _ _ _ mc lc hI i hi w (by omega)) rfl rfl rfl rfl hM.1 (by decide) ⟨Nat.le_refl _, Nat.le_refl _⟩ (Nat.le_of_ble_eq_true rfl) dX7_load_227 (fun rr SS hP => ?_)
    rw [hP.1, hP.2]
    refine g_eqi (nI (mt w)) (hL.2.1 w (by omega)).1 ?_
    refine g_icmp_ge (pc := 230) C 238 dX7_load_230 (by decide) (fun h230 => ?_) (fun h230 => ?_)
    ·
      refine g_aload_n (pc := 238) C dX7_load_238 rfl ?_
      refine g_iload_n (pc := 239) C dX7_load_239 rfl ?_
      refine g_iload (pc := 240) C dX7_load_240 rfl ?_
      refine g_callV (pc := 242) C B mX7_163 (c_X7_mayTake _ _ _ _ _ mc lc hI i hi w (by omega)) rfl rfl rfl rfl hM.1 (by decide) ⟨Nat.le_refl _, Nat.le_refl _⟩ (Nat.le_of_ble_eq_true rfl) dX7_load_242 (fun rr SS hP => ?_)
      rw [hP.1, hP.2]
      refine g_eqi (nI (mt w)) (hL.2.1 w (by omega)).1 ?_
      refine g_istore (pc := 245) C dX7_load_245 (by decide) ?_
      refine g_subR (lp_ld6 (w := w) (left := llN mt sz gn room w) (Fn := ldR mt sz gn (7 - w)) (tot := ldR mt sz gn (8 - w) (llN mt sz gn room w)) C B hI hi hL hlf ht (by omega) (fun a9 h9 => by rw [lcM_tab, htab (w + 1) (by omega) a9 h9, show 8 - (w + 1) = 7 - w by omega]) (fun a9 => Nat.le_trans (ldR_le (fun l hl => (hL0.2.1 l hl).2) (fun l hl => (hL0.2.2.2 l hl).1) (7 - w) (by omega) a9) (by omega)) (by rw [lcM_tab]; exact htab w (by omega) _ hlf) (Nat.le_trans (ldR_le (fun l hl => (hL0.2.1 l hl).2) (fun l hl => (hL0.2.2.2 l hl).1) (8 - w) (by omega) _) (by omega)) (min (mt w) (llN mt sz gn room w / sz w)) (Nat.le_refl _) (ld_att mt sz gn w _ (by omega)) ?_) ⟨rfl, rfl, rfl, rfl, rfl, rfl, congrArg (fun z => some (vi (nI z))) ((Nat.min_eq_left ((nI_leI (a := mt w) (b := llN mt sz gn room w / sz w) (by omega) (by omega)).mp h230)).symm), trivial⟩
      have hcl := clN_le mt sz gn w (llN mt sz gn room w) hs.1
      refine g_aload_n (pc := 305) C dX7_load_305 rfl ?_
      refine g_getr (pc := 306) C fX7_89 rfl hM.1 dX7_load_306 rfl (hM.2 29 rfl).1 ?_
      refine g_iload (pc := 309) C dX7_load_309 rfl ?_
      refine g_iload (pc := 311) C dX7_load_311 rfl ?_
      refine g_iastN (pc := 313) C rfl (hM.2 29 rfl).2 (by omega) (by decide) dX7_load_313 ?_
      have hb9 := lcM_but T mt sz gn room (w + 1)
      have hI := IM.ld hb9 hI0
      have hL := LdH.but hb9 hL0
      have hM := hI.1
      show G X Y 0 0 (lcM T mt sz gn room (w + 1)) _ _ _
      refine g_iload (pc := 314) C dX7_load_314 rfl ?_
      refine g_iload (pc := 316) C dX7_load_316 rfl ?_
      refine g_aload_n (pc := 318) C dX7_load_318 rfl ?_
      refine g_getr (pc := 319) C fX7_38 rfl hM.1 dX7_load_319 rfl (hM.2 11 rfl).1 ?_
      refine g_bipush (pc := 322) C 8 dX7_load_322 (by decide) ?_
      refine g_iload_n (pc := 324) C dX7_load_324 rfl ?_
      refine g_imul (pc := 325) C dX7_load_325 ?_
      refine g_eqi (nI (8 * i)) (pk_mul 8 i) ?_
      refine g_iload (pc := 326) C dX7_load_326 rfl ?_
      refine g_iadd (pc := 328) C dX7_load_328 ?_
      refine g_eqi (nI ((8 * i) + w)) (nI_add (8 * i) w) ?_
      refine g_ialdN (pc := 329) C rfl (hM.2 11 rfl).2 (by omega) (by decide) dX7_load_329 ?_
      refine g_eqi (T.1 (2, 0, 11) (8 * i + w)) (hbt.2 (2, 0, 11) (8 * i + w) (fun q => by rcases q with q | q <;> cases q)) ?_
      refine g_imul (pc := 330) C dX7_load_330 ?_
      refine g_iadd (pc := 331) C dX7_load_331 ?_
      refine g_istore (pc := 332) C dX7_load_332 (by decide) ?_
      refine g_iload_n (pc := 334) C dX7_load_334 rfl ?_
      refine g_iload (pc := 335) C dX7_load_335 rfl ?_
      refine g_aload_n (pc := 337) C dX7_load_337 rfl ?_
      refine g_iload_n (pc := 338) C dX7_load_338 rfl ?_
      refine g_iload (pc := 339) C dX7_load_339 rfl ?_
      refine g_callV (pc := 341) C B mX7_166 (c_X7_sizeAt _ _ _ _ _ mc lc hI gd hL.1 i hi w (by omega)) rfl rfl rfl rfl hM.1 (by decide) ⟨Nat.le_refl _, Nat.le_refl _⟩ (Nat.le_of_ble_eq_true rfl) dX7_load_341 (fun rr SS hP => ?_)
      rw [hP.1, hP.2]
      refine g_eqi (nI (sz w)) (hL.2.2.1 w (by omega)).1 ?_
      refine g_imul (pc := 344) C dX7_load_344 ?_
      refine g_eqi (nI ((clN mt sz gn w (llN mt sz gn room w)) * (sz w))) (pk_mul (clN mt sz gn w (llN mt sz gn room w)) (sz w)) ?_
      refine g_isub (pc := 345) C dX7_load_345 ?_
      refine g_eqi (nI (llN mt sz gn room w - clN mt sz gn w (llN mt sz gn room w) * sz w)) (pk_sub (a := llN mt sz gn room w) (b := clN mt sz gn w (llN mt sz gn room w) * sz w) hcl.2) ?_
      refine g_istore_n (pc := 346) C dX7_load_346 (by decide) ?_
      refine g_iincN (pc := 347) C 1 dX7_load_347 rfl (by decide) (by decide) ?_
      refine g_goto (pc := 350) C 203 dX7_load_350 (by decide) ?_
      exact g_subR (ih (w + 1) (by omega)) ⟨rfl, rfl, rfl, rfl, rfl, rfl, trivial⟩
    ·
      refine g_iload (pc := 233) C dX7_load_233 rfl ?_
      refine g_goto (pc := 235) C 245 dX7_load_235 (by decide) ?_
      refine g_istore (pc := 245) C dX7_load_245 (by decide) ?_
      refine g_subR (lp_ld6 (w := w) (left := llN mt sz gn room w) (Fn := ldR mt sz gn (7 - w)) (tot := ldR mt sz gn (8 - w) (llN mt sz gn room w)) C B hI hi hL hlf ht (by omega) (fun a9 h9 => by rw [lcM_tab, htab (w + 1) (by omega) a9 h9, show 8 - (w + 1) = 7 - w by omega]) (fun a9 => Nat.le_trans (ldR_le (fun l hl => (hL0.2.1 l hl).2) (fun l hl => (hL0.2.2.2 l hl).1) (7 - w) (by omega) a9) (by omega)) (by rw [lcM_tab]; exact htab w (by omega) _ hlf) (Nat.le_trans (ldR_le (fun l hl => (hL0.2.1 l hl).2) (fun l hl => (hL0.2.2.2 l hl).1) (8 - w) (by omega) _) (by omega)) (min (mt w) (llN mt sz gn room w / sz w)) (Nat.le_refl _) (ld_att mt sz gn w _ (by omega)) ?_) ⟨rfl, rfl, rfl, rfl, rfl, rfl, congrArg (fun z => some (vi (nI z))) ((Nat.min_eq_right (Nat.le_of_lt (Nat.not_le.mp (fun q => h230 ((nI_leI (a := mt w) (b := llN mt sz gn room w / sz w) (by omega) (by omega)).mpr q))))).symm), trivial⟩
      have hcl := clN_le mt sz gn w (llN mt sz gn room w) hs.1
      refine g_aload_n (pc := 305) C dX7_load_305 rfl ?_
      refine g_getr (pc := 306) C fX7_89 rfl hM.1 dX7_load_306 rfl (hM.2 29 rfl).1 ?_
      refine g_iload (pc := 309) C dX7_load_309 rfl ?_
      refine g_iload (pc := 311) C dX7_load_311 rfl ?_
      refine g_iastN (pc := 313) C rfl (hM.2 29 rfl).2 (by omega) (by decide) dX7_load_313 ?_
      have hb9 := lcM_but T mt sz gn room (w + 1)
      have hI := IM.ld hb9 hI0
      have hL := LdH.but hb9 hL0
      have hM := hI.1
      show G X Y 0 0 (lcM T mt sz gn room (w + 1)) _ _ _
      refine g_iload (pc := 314) C dX7_load_314 rfl ?_
      refine g_iload (pc := 316) C dX7_load_316 rfl ?_
      refine g_aload_n (pc := 318) C dX7_load_318 rfl ?_
      refine g_getr (pc := 319) C fX7_38 rfl hM.1 dX7_load_319 rfl (hM.2 11 rfl).1 ?_
      refine g_bipush (pc := 322) C 8 dX7_load_322 (by decide) ?_
      refine g_iload_n (pc := 324) C dX7_load_324 rfl ?_
      refine g_imul (pc := 325) C dX7_load_325 ?_
      refine g_eqi (nI (8 * i)) (pk_mul 8 i) ?_
      refine g_iload (pc := 326) C dX7_load_326 rfl ?_
      refine g_iadd (pc := 328) C dX7_load_328 ?_
      refine g_eqi (nI ((8 * i) + w)) (nI_add (8 * i) w) ?_
      refine g_ialdN (pc := 329) C rfl (hM.2 11 rfl).2 (by omega) (by decide) dX7_load_329 ?_
      refine g_eqi (T.1 (2, 0, 11) (8 * i + w)) (hbt.2 (2, 0, 11) (8 * i + w) (fun q => by rcases q with q | q <;> cases q)) ?_
      refine g_imul (pc := 330) C dX7_load_330 ?_
      refine g_iadd (pc := 331) C dX7_load_331 ?_
      refine g_istore (pc := 332) C dX7_load_332 (by decide) ?_
      refine g_iload_n (pc := 334) C dX7_load_334 rfl ?_
      refine g_iload (pc := 335) C dX7_load_335 rfl ?_
      refine g_aload_n (pc := 337) C dX7_load_337 rfl ?_
      refine g_iload_n (pc := 338) C dX7_load_338 rfl ?_
      refine g_iload (pc := 339) C dX7_load_339 rfl ?_
      refine g_callV (pc := 341) C B mX7_166 (c_X7_sizeAt _ _ _ _ _ mc lc hI gd hL.1 i hi w (by omega)) rfl rfl rfl rfl hM.1 (by decide) ⟨Nat.le_refl _, Nat.le_refl _⟩ (Nat.le_of_ble_eq_true rfl) dX7_load_341 (fun rr SS hP => ?_)
      rw [hP.1, hP.2]
      refine g_eqi (nI (sz w)) (hL.2.2.1 w (by omega)).1 ?_
      refine g_imul (pc := 344) C dX7_load_344 ?_
      refine g_eqi (nI ((clN mt sz gn w (llN mt sz gn room w)) * (sz w))) (pk_mul (clN mt sz gn w (llN mt sz gn room w)) (sz w)) ?_
      refine g_isub (pc := 345) C dX7_load_345 ?_
      refine g_eqi (nI (llN mt sz gn room w - clN mt sz gn w (llN mt sz gn room w) * sz w)) (pk_sub (a := llN mt sz gn room w) (b := clN mt sz gn w (llN mt sz gn room w) * sz w) hcl.2) ?_
      refine g_istore_n (pc := 346) C dX7_load_346 (by decide) ?_
      refine g_iincN (pc := 347) C 1 dX7_load_347 rfl (by decide) (by decide) ?_
      refine g_goto (pc := 350) C 203 dX7_load_350 (by decide) ?_
      exact g_subR (ih (w + 1) (by omega)) ⟨rfl, rfl, rfl, rfl, rfl, rfl, trivial⟩
set_option maxHeartbeats 400000 in
set_option maxRecDepth 100000 in
/-- load of no machine -/
theorem c_X7_load_b (l : Launch) (E : En) (base aw : Nat) (S : Mm) (mc : Nat) (lc : Nat → Nat) (hI : IM S mc lc) (p0 p1 : Int32) (h : ¬ (okN mc p0)) : Cn l E base aw yX7_load cX7_load 8 (some Jvm.ClassFile.FieldType.int) 3 0 0 noF S [vr (2, 0, 0), vi p0, vi p1] (fun r S' => r = some (vi (-1)) ∧ S' = rfM S 1) := by
  have hM := hI.1
  have hmc := hI.2.2.1
  have hx : ¬ okN mc p0 := fun q => h q
  refine Cn.of (by decide) (Nat.le_of_ble_eq_true rfl) ?_
  intro X Y hl hE hbase haw hfr C B
  subst hl; subst hE; subst hbase; subst haw
  refine g_aload_n (pc := 0) C dX7_load_0 rfl ?_
  refine g_iload_n (pc := 1) C dX7_load_1 rfl ?_
  refine g_callV (pc := 2) C B mX7_112 (c_isM_f _ _ _ _ _ mc lc hI p0 hx) rfl rfl rfl rfl hM.1 (by decide) ⟨Nat.le_refl _, Nat.le_refl _⟩ (Nat.le_of_ble_eq_true rfl) dX7_load_2 (fun rr SS hP => ?_)
  rw [hP.1, hP.2]
  refine g_if_ne (pc := 5) C 14 dX7_load_5 (by decide) (fun h5 => absurd (by decide) h5) (fun _ => ?_)
  refine g_aload_n (pc := 8) C dX7_load_8 rfl ?_
  refine g_iconst (pc := 9) C (-1) dX7_load_9 (by decide) ?_
  refine g_callV (pc := 10) C B mX7_116 (c_mrefuse _ _ _ _ _ hM (-1) 1 (by decide) (by decide)) rfl rfl rfl rfl hM.1 (by decide) ⟨Nat.le_refl _, Nat.le_refl _⟩ (Nat.le_of_ble_eq_true rfl) dX7_load_10 (fun rr SS hP => ?_)
  rw [hP.1, hP.2]
  exact g_iret (pc := 13) C B rfl dX7_load_13 (⟨rfl, rfl⟩)

set_option maxHeartbeats 400000 in
set_option maxRecDepth 100000 in
theorem c_X7_load_lo (l : Launch) (E : En) (base aw : Nat) (S : Mm) (mc : Nat) (lc : Nat → Nat) (hI : IM S mc lc) (i : Nat) (hi : i < mc) (p1 : Int32) (hlo : ¬ 0 ≤ p1) : Cn l E base aw yX7_load cX7_load 8 (some Jvm.ClassFile.FieldType.int) 3 0 0 noF S [vr (2, 0, 0), vi (nI i), vi p1] (fun r S' => r = some (vi (-4)) ∧ S' = rfM S 4) := by
  have hM := hI.1
  have hmc := hI.2.2.1
  refine Cn.of (by decide) (Nat.le_of_ble_eq_true rfl) ?_
  intro X Y hl hE hbase haw hfr C B
  subst hl; subst hE; subst hbase; subst haw
  refine g_aload_n (pc := 0) C dX7_load_0 rfl ?_
  refine g_iload_n (pc := 1) C dX7_load_1 rfl ?_
  refine g_callV (pc := 2) C B mX7_112 (c_isM_t _ _ _ _ _ mc lc hI i hi) rfl rfl rfl rfl hM.1 (by decide) ⟨Nat.le_refl _, Nat.le_refl _⟩ (Nat.le_of_ble_eq_true rfl) dX7_load_2 (fun rr SS hP => ?_)
  rw [hP.1, hP.2]
  refine g_if_ne (pc := 5) C 14 dX7_load_5 (by decide) (fun _ => ?_) (fun h5 => absurd h5 (by decide))
  refine g_iload_n (pc := 14) C dX7_load_14 rfl ?_
  refine g_if_ge (pc := 15) C 25 dX7_load_15 (by decide) (fun h15 => absurd h15 hlo) (fun _ => ?_)
  refine g_aload_n (pc := 18) C dX7_load_18 rfl ?_
  refine g_bipush (pc := 19) C (-4) dX7_load_19 (by decide) ?_
  refine g_callV (pc := 21) C B mX7_116 (c_mrefuse _ _ _ _ _ hM (-4) 4 (by decide) (by decide)) rfl rfl rfl rfl hM.1 (by decide) ⟨Nat.le_refl _, Nat.le_refl _⟩ (Nat.le_of_ble_eq_true rfl) dX7_load_21 (fun rr SS hP => ?_)
  rw [hP.1, hP.2]
  exact g_iret (pc := 24) C B rfl dX7_load_24 (⟨rfl, rfl⟩)

set_option maxHeartbeats 400000 in
set_option maxRecDepth 100000 in
theorem c_X7_load_hi (l : Launch) (E : En) (base aw : Nat) (S : Mm) (mc : Nat) (lc : Nat → Nat) (hI : IM S mc lc) (i : Nat) (hi : i < mc) (p1 : Int32) (hlo : 0 ≤ p1) (hhi : ¬ p1 ≤ 200) : Cn l E base aw yX7_load cX7_load 8 (some Jvm.ClassFile.FieldType.int) 3 0 0 noF S [vr (2, 0, 0), vi (nI i), vi p1] (fun r S' => r = some (vi (-6)) ∧ S' = rfM S 6) := by
  have hM := hI.1
  have hmc := hI.2.2.1
  refine Cn.of (by decide) (Nat.le_of_ble_eq_true rfl) ?_
  intro X Y hl hE hbase haw hfr C B
  subst hl; subst hE; subst hbase; subst haw
  refine g_aload_n (pc := 0) C dX7_load_0 rfl ?_
  refine g_iload_n (pc := 1) C dX7_load_1 rfl ?_
  refine g_callV (pc := 2) C B mX7_112 (c_isM_t _ _ _ _ _ mc lc hI i hi) rfl rfl rfl rfl hM.1 (by decide) ⟨Nat.le_refl _, Nat.le_refl _⟩ (Nat.le_of_ble_eq_true rfl) dX7_load_2 (fun rr SS hP => ?_)
  rw [hP.1, hP.2]
  refine g_if_ne (pc := 5) C 14 dX7_load_5 (by decide) (fun _ => ?_) (fun h5 => absurd h5 (by decide))
  refine g_iload_n (pc := 14) C dX7_load_14 rfl ?_
  refine g_if_ge (pc := 15) C 25 dX7_load_15 (by decide) (fun _ => ?_) (fun h15 => absurd hlo h15)
  refine g_iload_n (pc := 25) C dX7_load_25 rfl ?_
  refine g_sipush (pc := 26) C 200 dX7_load_26 (by decide) ?_
  refine g_icmp_le (pc := 29) C 39 dX7_load_29 (by decide) (fun h29 => absurd h29 hhi) (fun _ => ?_)
  refine g_aload_n (pc := 32) C dX7_load_32 rfl ?_
  refine g_bipush (pc := 33) C (-6) dX7_load_33 (by decide) ?_
  refine g_callV (pc := 35) C B mX7_116 (c_mrefuse _ _ _ _ _ hM (-6) 6 (by decide) (by decide)) rfl rfl rfl rfl hM.1 (by decide) ⟨Nat.le_refl _, Nat.le_refl _⟩ (Nat.le_of_ble_eq_true rfl) dX7_load_35 (fun rr SS hP => ?_)
  rw [hP.1, hP.2]
  exact g_iret (pc := 38) C B rfl dX7_load_38 (⟨rfl, rfl⟩)

set_option maxHeartbeats 400000 in
set_option maxRecDepth 100000 in
theorem c_X7_load (l : Launch) (E : En) (base aw : Nat) (S : Mm) (mc : Nat) (lc : Nat → Nat) (hI : IM S mc lc) (i : Nat) (hi : i < mc) (room : Nat) (ht : room ≤ 200) (gd mt sz gn : Nat → Nat) (hL : LdH S gd mt sz gn i) : Cn l E base aw yX7_load cX7_load 8 (some Jvm.ClassFile.FieldType.int) 3 0 0 noF S [vr (2, 0, 0), vi (nI i), vi (nI room)] (fun r S' => r = some (vi (lvI (ltM S mt sz gn room) i mt sz gn room 8)) ∧ S' = lcM (ltM S mt sz gn room) mt sz gn room 8) := by
  have hM := hI.1
  have hmc := hI.2.2.1
  refine Cn.of (by decide) (Nat.le_of_ble_eq_true rfl) ?_
  intro X Y hl hE hbase haw hfr C B
  subst hl; subst hE; subst hbase; subst haw
  refine g_aload_n (pc := 0) C dX7_load_0 rfl ?_
  refine g_iload_n (pc := 1) C dX7_load_1 rfl ?_
  refine g_callV (pc := 2) C B mX7_112 (c_isM_t _ _ _ _ _ mc lc hI i hi) rfl rfl rfl rfl hM.1 (by decide) ⟨Nat.le_refl _, Nat.le_refl _⟩ (Nat.le_of_ble_eq_true rfl) dX7_load_2 (fun rr SS hP => ?_)
  rw [hP.1, hP.2]
  refine g_if_ne (pc := 5) C 14 dX7_load_5 (by decide) (fun _ => ?_) (fun h5 => absurd h5 (by decide))
  refine g_iload_n (pc := 14) C dX7_load_14 rfl ?_
  refine g_if_ge (pc := 15) C 25 dX7_load_15 (by decide) (fun _ => ?_) (fun h15 => absurd (nI_pos' (by omega)) h15)
  refine g_iload_n (pc := 25) C dX7_load_25 rfl ?_
  refine g_sipush (pc := 26) C 200 dX7_load_26 (by decide) ?_
  refine g_icmp_le (pc := 29) C 39 dX7_load_29 (by decide) (fun _ => ?_) (fun h29 => absurd (nI_le (b := 200) ht (by decide)) h29)
  refine g_iconst (pc := 39) C 0 dX7_load_39 (by decide) ?_
  refine g_istore_n (pc := 40) C dX7_load_40 (by decide) ?_
  refine g_subR (lp_ld1 C B hM ht ?_ (room + 1) 0 (by omega)) ⟨rfl, rfl, rfl, rfl, trivial⟩
  have hb1 := lzM_but S (room + 1)
  refine g_bipush (pc := 63) C 7 dX7_load_63 (by decide) ?_
  refine g_istore_n (pc := 65) C dX7_load_65 (by decide) ?_
  refine g_subR (lp_ld2 C B (IM.ld hb1 hI) hi (LdH.but hb1 hL) ht (fun a h9 => lzM_at _ (room + 1) a (by omega)) ?_ 8 0 rfl) ⟨rfl, rfl, rfl, rfl, trivial⟩
  have hb2 := ltM_but S mt sz gn room
  show G X Y 0 0 (ltM S mt sz gn room) _ _ _
  refine g_iload_n (pc := 195) C dX7_load_195 rfl ?_
  refine g_istore_n (pc := 196) C dX7_load_196 (by decide) ?_
  refine g_iconst (pc := 197) C 0 dX7_load_197 (by decide) ?_
  refine g_istore (pc := 198) C dX7_load_198 (by decide) ?_
  refine g_iconst (pc := 200) C 0 dX7_load_200 (by decide) ?_
  refine g_istore (pc := 201) C dX7_load_201 (by decide) ?_
  refine g_subR (lp_ld5 C B (IM.ld hb2 hI) hi (LdH.but hb2 hL) ht (fun w hw a ha => ltM_at S mt sz gn ht w hw a ha) ?_ 8 0 rfl) ⟨rfl, rfl, rfl, rfl, rfl, rfl, trivial⟩
  refine g_iload (pc := 353) C dX7_load_353 rfl ?_
  exact g_iret (pc := 355) C B rfl dX7_load_355 (⟨rfl, rfl⟩)

