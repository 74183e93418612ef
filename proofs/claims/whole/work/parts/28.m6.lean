theorem byN_le (w : Nat) : byN w ≤ 50 := by unfold byN; split <;> decide
set_option maxHeartbeats 400000 in
set_option maxRecDepth 100000 in
theorem lp_fc1 {X : Xt} {Y : Yt} {P : Option AV → Mm → Prop} {nm : String}  (C : Cx X Y cX7_findChange 11 RX7) (B : Bx X Y nm (some Jvm.ClassFile.FieldType.int) 1 0 0 P) {S : Mm} {i t : Nat} (hM0 : ShM S) (K : G X Y 0 0 (czM S 6) 21 [(0, vr (2, 0, 0)), (1, vi (nI i)), (2, vi (nI t)), (3, vi (nI 6))] []) : ∀ n w, w + n = 6 → G X Y 0 0 (czM S w) 2 [(0, vr (2, 0, 0)), (1, vi (nI i)), (2, vi (nI t)), (3, vi (nI w))] [] := by
  intro n
  induction n with
  | zero =>
    intro w hw
    have e : 6 = w := by omega
    subst e
    have hM : ShM (czM S 6) := hM0.same (czM_but S 6).1
    refine g_iload_n (pc := 2) C dX7_findChange_2 rfl ?_
    refine g_bipush (pc := 3) C 6 dX7_findChange_3 (by decide) ?_
    refine g_icmp_ge (pc := 5) C 21 dX7_findChange_5 (by decide) (fun _ => ?_) (fun h5 => absurd ((nI_leI (a := 6) (b := 6) (by omega) (by omega)).mpr (by omega)) h5)
    exact K
  | succ n ih =>
    intro w hw
    have hM : ShM (czM S w) := hM0.same (czM_but S w).1
    refine g_iload_n (pc := 2) C dX7_findChange_2 rfl ?_
    refine g_bipush (pc := 3) C 6 dX7_findChange_3 (by decide) ?_
    refine g_icmp_ge (pc := 5) C 21 dX7_findChange_5 (by decide) (fun h5 => absurd h5 (fun q => absurd ((nI_leI (a := 6) (b := w) (by omega) (by omega)).mp q) (by omega))) (fun _ => ?_)
    refine g_aload_n (pc := 8) C dX7_findChange_8 rfl ?_
    refine g_getr (pc := 9) C fX7_98 rfl hM.1 dX7_findChange_9 rfl (hM.2 32 rfl).1 ?_
    refine g_iload_n (pc := 12) C dX7_findChange_12 rfl ?_
    refine g_iconst (pc := 13) C 0 dX7_findChange_13 (by decide) ?_
    refine g_iastN (pc := 14) C rfl (hM.2 32 rfl).2 (by omega) (by decide) dX7_findChange_14 ?_
    refine g_iincN (pc := 15) C 1 dX7_findChange_15 rfl (by decide) (by decide) ?_
    refine g_goto (pc := 18) C 2 dX7_findChange_18 (by decide) ?_
    exact g_subR (ih (w + 1) (by omega)) ⟨rfl, rfl, rfl, rfl, trivial⟩
set_option maxHeartbeats 400000 in
set_option maxRecDepth 100000 in
theorem lp_fc2 {X : Xt} {Y : Yt} {P : Option AV → Mm → Prop} {nm : String}  (C : Cx X Y cX7_findChange 11 RX7) (B : Bx X Y nm (some Jvm.ClassFile.FieldType.int) 1 0 0 P) {S : Mm} {i t tens : Nat} (hM0 : ShM S) (ht : tens ≤ 2000) (K : G X Y 0 0 (fbM S ((tens + 1))) 75 [(0, vr (2, 0, 0)), (1, vi (nI i)), (2, vi (nI t)), (3, vi (nI tens)), (4, vi (nI ((tens + 1))))] []) : ∀ n w, w + n = (tens + 1) → G X Y 0 0 (fbM S w) 40 [(0, vr (2, 0, 0)), (1, vi (nI i)), (2, vi (nI t)), (3, vi (nI tens)), (4, vi (nI w))] [] := by
  intro n
  induction n with
  | zero =>
    intro w hw
    have e : (tens + 1) = w := by omega
    subst e
    have hM : ShM (fbM S (tens + 1)) := hM0.same (fbM_but S (tens + 1)).1
    refine g_iload (pc := 40) C dX7_findChange_40 rfl ?_
    refine g_iload_n (pc := 42) C dX7_findChange_42 rfl ?_
    refine g_icmp_gt (pc := 43) C 75 dX7_findChange_43 (by decide) (fun _ => ?_) (fun h43 => absurd ((nI_ltI (a := tens) (b := (tens + 1)) (by omega) (by omega)).mpr (by omega)) h43)
    exact K
  | succ n ih =>
    intro w hw
    have hM : ShM (fbM S w) := hM0.same (fbM_but S w).1
    refine g_iload (pc := 40) C dX7_findChange_40 rfl ?_
    refine g_iload_n (pc := 42) C dX7_findChange_42 rfl ?_
    refine g_icmp_gt (pc := 43) C 75 dX7_findChange_43 (by decide) (fun h43 => absurd h43 (fun q => absurd ((nI_ltI (a := tens) (b := w) (by omega) (by omega)).mp q) (by omega))) (fun _ => ?_)
    refine g_aload_n (pc := 46) C dX7_findChange_46 rfl ?_
    refine g_getr (pc := 47) C fX7_95 rfl hM.1 dX7_findChange_47 rfl (hM.2 31 rfl).1 ?_
    refine g_sipush (pc := 50) C 12006 dX7_findChange_50 (by decide) ?_
    refine g_iload (pc := 53) C dX7_findChange_53 rfl ?_
    refine g_iadd (pc := 55) C dX7_findChange_55 ?_
    refine g_eqi (nI (12006 + w)) (nI_add 12006 w) ?_
    refine g_iload (pc := 56) C dX7_findChange_56 rfl ?_
    refine g_if_ne (pc := 58) C 65 dX7_findChange_58 (by decide) (fun h58 => ?_) (fun h58 => ?_)
    ·
      refine g_sipush (pc := 65) C 1000 dX7_findChange_65 (by decide) ?_
      refine g_iastN (pc := 68) C rfl (hM.2 31 rfl).2 (by omega) (by decide) dX7_findChange_68 ?_
      refine g_iincN (pc := 69) C 1 dX7_findChange_69 rfl (by decide) (by decide) ?_
      refine g_goto (pc := 72) C 40 dX7_findChange_72 (by decide) ?_
      refine g_eqS (S' := fbM S ((w + 1))) (by simp only [fbM]; rw [if_neg h58]) ?_
      exact g_subR (ih (w + 1) (by omega)) ⟨rfl, rfl, rfl, rfl, rfl, trivial⟩
    ·
      refine g_iconst (pc := 61) C 0 dX7_findChange_61 (by decide) ?_
      refine g_goto (pc := 62) C 68 dX7_findChange_62 (by decide) ?_
      refine g_iastN (pc := 68) C rfl (hM.2 31 rfl).2 (by omega) (by decide) dX7_findChange_68 ?_
      refine g_iincN (pc := 69) C 1 dX7_findChange_69 rfl (by decide) (by decide) ?_
      refine g_goto (pc := 72) C 40 dX7_findChange_72 (by decide) ?_
      refine g_eqS (S' := fbM S ((w + 1))) (by simp only [fbM]; rw [if_pos h58]) ?_
      exact g_subR (ih (w + 1) (by omega)) ⟨rfl, rfl, rfl, rfl, rfl, trivial⟩
set_option maxHeartbeats 400000 in
set_option maxRecDepth 100000 in
theorem lp_fc5 {X : Xt} {Y : Yt} {P : Option AV → Mm → Prop} {nm : String} (C : Cx X Y cX7_findChange 11 RX7) (B : Bx X Y nm (some .int) 1 0 0 P) {T : Mm} {i t tens w b hvw a : Nat} {Fn : Nat → Nat} (hM : ShM T) (hb : 0 < b ∧ b ≤ 50) (ha : a ≤ tens) (ht : tens ≤ 2000) (hh : hvw ≤ 1000) (hw : w < 6) (hF : ∀ a, a ≤ tens → T.1 (2, 0, 31) (2001 * (w + 1) + a) = nI (Fn a)) (hFn : ∀ a, Fn a ≤ 1000) (K : G X Y 0 0 T 203 [(0, vr (2, 0, 0)), (1, vi (nI i)), (2, vi (nI t)), (3, vi (nI tens)), (4, vi (nI w)), (5, vi (nI hvw)), (6, vi (nI b)), (7, vi (nI a)), (8, vi (nI (mnN Fn b a ((min hvw (a / b) + 1))))), (9, vi (nI ((min hvw (a / b) + 1))))] []) : ∀ n c, c + n = min hvw (a / b) + 1 → G X Y 0 0 T 137 [(0, vr (2, 0, 0)), (1, vi (nI i)), (2, vi (nI t)), (3, vi (nI tens)), (4, vi (nI w)), (5, vi (nI hvw)), (6, vi (nI b)), (7, vi (nI a)), (8, vi (nI (mnN Fn b a c))), (9, vi (nI c))] [] := by
  intro n
  induction n with
  | zero =>
    intro c hc
    have hcase : hvw < c ∨ (c ≤ hvw ∧ a < c * b ∧ c * b ≤ 3000) := by
      rcases Nat.lt_or_ge (a / b) hvw with q | q
      · have e : c = a / b + 1 := by rw [Nat.min_eq_right (Nat.le_of_lt q)] at hc; omega
        refine Or.inr ⟨by omega, ?_, ?_⟩
        · rw [e]; exact (Nat.div_lt_iff_lt_mul hb.1).mp (Nat.lt_succ_self _)
        · rw [e, Nat.succ_mul]; have := Nat.div_mul_le_self a b; omega
      · rw [Nat.min_eq_left q] at hc; exact Or.inl (by omega)
    have ec : c = min hvw (a / b) + 1 := by omega
    rw [← ec] at K
    rcases hcase with hcase | ⟨h1, h2, h3⟩
    ·
      have hc9 : c ≤ 2000 + 1000 + 1 := by have := Nat.min_le_left hvw (a / b); omega
      refine g_iload (pc := 137) C dX7_findChange_137 rfl ?_
      refine g_iload (pc := 139) C dX7_findChange_139 rfl ?_
      refine g_icmp_gt (pc := 141) C 203 dX7_findChange_141 (by decide) (fun _ => ?_) (fun h141 => absurd ((nI_ltI (a := hvw) (b := c) (by omega) (by omega)).mpr (by omega)) h141)
      exact K
    ·
      have hc9 : c ≤ 2000 + 1000 + 1 := by have := Nat.min_le_left hvw (a / b); omega
      refine g_iload (pc := 137) C dX7_findChange_137 rfl ?_
      refine g_iload (pc := 139) C dX7_findChange_139 rfl ?_
      refine g_icmp_gt (pc := 141) C 203 dX7_findChange_141 (by decide) (fun h141 => absurd h141 (fun q => absurd ((nI_ltI (a := hvw) (b := c) (by omega) (by omega)).mp q) (by omega))) (fun _ => ?_)
      refine g_iload (pc := 144) C dX7_findChange_144 rfl ?_
      refine g_iload (pc := 146) C dX7_findChange_146 rfl ?_
      refine g_imul (pc := 148) C dX7_findChange_148 ?_
      refine g_eqi (nI (c * b)) (pk_mul c b) ?_
      refine g_iload (pc := 149) C dX7_findChange_149 rfl ?_
      refine g_icmp_gt (pc := 151) C 203 dX7_findChange_151 (by decide) (fun _ => ?_) (fun h151 => absurd ((nI_ltI (a := a) (b := c * b) (by omega) (by omega)).mpr (by omega)) h151)
      exact K
  | succ n ih =>
    intro c hc
    have hm1 := Nat.min_le_left hvw (a / b)
    have hm2 := Nat.min_le_right hvw (a / b)
    have hcb : c * b ≤ a := (Nat.le_div_iff_mul_le hb.1).mp (by omega)
    have hf1 := hFn (a - c * b)
    have hf2 := mnN_le Fn b a c
    refine g_iload (pc := 137) C dX7_findChange_137 rfl ?_
    refine g_iload (pc := 139) C dX7_findChange_139 rfl ?_
    refine g_icmp_gt (pc := 141) C 203 dX7_findChange_141 (by decide) (fun h141 => absurd h141 (fun q => absurd ((nI_ltI (a := hvw) (b := c) (by omega) (by omega)).mp q) (by omega))) (fun _ => ?_)
    refine g_iload (pc := 144) C dX7_findChange_144 rfl ?_
    refine g_iload (pc := 146) C dX7_findChange_146 rfl ?_
    refine g_imul (pc := 148) C dX7_findChange_148 ?_
    refine g_eqi (nI (c * b)) (pk_mul c b) ?_
    refine g_iload (pc := 149) C dX7_findChange_149 rfl ?_
    refine g_icmp_gt (pc := 151) C 203 dX7_findChange_151 (by decide) (fun h151 => absurd h151 (fun q => absurd ((nI_ltI (a := a) (b := c * b) (by omega) (by omega)).mp q) (by omega))) (fun _ => ?_)
    refine g_iload (pc := 154) C dX7_findChange_154 rfl ?_
    refine g_aload_n (pc := 156) C dX7_findChange_156 rfl ?_
    refine g_getr (pc := 157) C fX7_95 rfl hM.1 dX7_findChange_157 rfl (hM.2 31 rfl).1 ?_
    refine g_sipush (pc := 160) C 2001 dX7_findChange_160 (by decide) ?_
    refine g_iload (pc := 163) C dX7_findChange_163 rfl ?_
    refine g_iconst (pc := 165) C 1 dX7_findChange_165 (by decide) ?_
    refine g_iadd (pc := 166) C dX7_findChange_166 ?_
    refine g_eqi (nI (w + 1)) (nI_add w 1) ?_
    refine g_imul (pc := 167) C dX7_findChange_167 ?_
    refine g_eqi (nI (2001 * (w + 1))) (pk_mul 2001 (w + 1)) ?_
    refine g_iload (pc := 168) C dX7_findChange_168 rfl ?_
    refine g_iadd (pc := 170) C dX7_findChange_170 ?_
    refine g_eqi (nI ((2001 * (w + 1)) + a)) (nI_add (2001 * (w + 1)) a) ?_
    refine g_iload (pc := 171) C dX7_findChange_171 rfl ?_
    refine g_iload (pc := 173) C dX7_findChange_173 rfl ?_
    refine g_imul (pc := 175) C dX7_findChange_175 ?_
    refine g_eqi (nI (c * b)) (pk_mul c b) ?_
    refine g_isub (pc := 176) C dX7_findChange_176 ?_
    refine g_eqi (nI (2001 * (w + 1) + a - c * b)) (pk_sub (a := 2001 * (w + 1) + a) (b := c * b) (by omega)) ?_
    refine g_ialdN (pc := 177) C rfl (hM.2 31 rfl).2 (by omega) (by decide) dX7_findChange_177 ?_
    refine g_eqi (nI (Fn (a - c * b))) (by rw [show 2001 * (w + 1) + a - c * b = 2001 * (w + 1) + (a - c * b) by omega]; exact hF _ (by omega)) ?_
    refine g_iadd (pc := 178) C dX7_findChange_178 ?_
    refine g_eqi (nI (c + (Fn (a - c * b)))) (nI_add c (Fn (a - c * b))) ?_
    refine g_istore (pc := 179) C dX7_findChange_179 (by decide) ?_
    refine g_iload (pc := 181) C dX7_findChange_181 rfl ?_
    refine g_iload (pc := 183) C dX7_findChange_183 rfl ?_
    refine g_icmp_ge (pc := 185) C 193 dX7_findChange_185 (by decide) (fun h185 => ?_) (fun h185 => ?_)
    ·
      refine g_iload (pc := 193) C dX7_findChange_193 rfl ?_
      refine g_istore (pc := 195) C dX7_findChange_195 (by decide) ?_
      refine g_iincN (pc := 197) C 1 dX7_findChange_197 rfl (by decide) (by decide) ?_
      refine g_goto (pc := 200) C 137 dX7_findChange_200 (by decide) ?_
      exact g_subR (ih (c + 1) (by omega)) ⟨rfl, rfl, rfl, rfl, rfl, rfl, rfl, rfl, by show some (vi _) = some (vi _); rw [mnN, if_neg (by have := (nI_leI (a := mnN Fn b a c) (b := c + Fn (a - c * b)) (by omega) (by omega)).mp h185; omega)], rfl, trivial⟩
    ·
      refine g_iload (pc := 188) C dX7_findChange_188 rfl ?_
      refine g_goto (pc := 190) C 195 dX7_findChange_190 (by decide) ?_
      refine g_istore (pc := 195) C dX7_findChange_195 (by decide) ?_
      refine g_iincN (pc := 197) C 1 dX7_findChange_197 rfl (by decide) (by decide) ?_
      refine g_goto (pc := 200) C 137 dX7_findChange_200 (by decide) ?_
      exact g_subR (ih (c + 1) (by omega)) ⟨rfl, rfl, rfl, rfl, rfl, rfl, rfl, rfl, by show some (vi _) = some (vi _); rw [mnN, if_pos (Nat.lt_of_not_le (fun q => h185 ((nI_leI (a := mnN Fn b a c) (b := c + Fn (a - c * b)) (by omega) (by omega)).mpr q)))], rfl, trivial⟩
set_option maxHeartbeats 400000 in
set_option maxRecDepth 100000 in
theorem lp_fc4 {X : Xt} {Y : Yt} {P : Option AV → Mm → Prop} {nm : String}  (C : Cx X Y cX7_findChange 11 RX7) (B : Bx X Y nm (some Jvm.ClassFile.FieldType.int) 1 0 0 P) {T : Mm} {i t tens w b hvw : Nat} {Fn : Nat → Nat} (hM0 : ShM T) (hb : 0 < b ∧ b ≤ 50) (ht : tens ≤ 2000) (hh : hvw ≤ 1000) (hw : w < 6) (hF : ∀ a, a ≤ tens → T.1 (2, 0, 31) (2001 * (w + 1) + a) = nI (Fn a)) (hFn : ∀ a, Fn a ≤ 1000) (K : G X Y 0 0 (frM T w Fn b hvw ((tens + 1))) 225 [(0, vr (2, 0, 0)), (1, vi (nI i)), (2, vi (nI t)), (3, vi (nI tens)), (4, vi (nI w)), (5, vi (nI hvw)), (6, vi (nI b)), (7, vi (nI ((tens + 1))))] []) : ∀ n a, a + n = (tens + 1) → G X Y 0 0 (frM T w Fn b hvw a) 123 [(0, vr (2, 0, 0)), (1, vi (nI i)), (2, vi (nI t)), (3, vi (nI tens)), (4, vi (nI w)), (5, vi (nI hvw)), (6, vi (nI b)), (7, vi (nI a))] [] := by
  intro n
  induction n with
  | zero =>
    intro a hw9
    have e : (tens + 1) = a := by omega
    subst e
    have hM : ShM (frM T w Fn b hvw (tens + 1)) := hM0.same (frM_but _ _ _ _ _ _).1
    refine g_iload (pc := 123) C dX7_findChange_123 rfl ?_
    refine g_iload_n (pc := 125) C dX7_findChange_125 rfl ?_
    refine g_icmp_gt (pc := 126) C 225 dX7_findChange_126 (by decide) (fun _ => ?_) (fun h126 => absurd ((nI_ltI (a := tens) (b := (tens + 1)) (by omega) (by omega)).mpr (by omega)) h126)
    exact K
  | succ n ih =>
    intro a hw9
    have hM : ShM (frM T w Fn b hvw a) := hM0.same (frM_but _ _ _ _ _ _).1
    refine g_iload (pc := 123) C dX7_findChange_123 rfl ?_
    refine g_iload_n (pc := 125) C dX7_findChange_125 rfl ?_
    refine g_icmp_gt (pc := 126) C 225 dX7_findChange_126 (by decide) (fun h126 => absurd h126 (fun q => absurd ((nI_ltI (a := tens) (b := a) (by omega) (by omega)).mp q) (by omega))) (fun _ => ?_)
    refine g_sipush (pc := 129) C 1000 dX7_findChange_129 (by decide) ?_
    refine g_istore (pc := 132) C dX7_findChange_132 (by decide) ?_
    refine g_iconst (pc := 134) C 0 dX7_findChange_134 (by decide) ?_
    refine g_istore (pc := 135) C dX7_findChange_135 (by decide) ?_
    refine g_subR (lp_fc5 (Fn := Fn) C B hM hb (by omega) ht hh hw (fun a9 h9 => (frM_up _ _ _ _ _ _ _ (Or.inr (by omega))).trans (hF a9 h9)) hFn ?_ (min hvw (a / b) + 1) 0 (by omega)) ⟨rfl, rfl, rfl, rfl, rfl, rfl, rfl, rfl, rfl, rfl, trivial⟩
    refine g_aload_n (pc := 203) C dX7_findChange_203 rfl ?_
    refine g_getr (pc := 204) C fX7_95 rfl hM.1 dX7_findChange_204 rfl (hM.2 31 rfl).1 ?_
    refine g_sipush (pc := 207) C 2001 dX7_findChange_207 (by decide) ?_
    refine g_iload (pc := 210) C dX7_findChange_210 rfl ?_
    refine g_imul (pc := 212) C dX7_findChange_212 ?_
    refine g_eqi (nI (2001 * w)) (pk_mul 2001 w) ?_
    refine g_iload (pc := 213) C dX7_findChange_213 rfl ?_
    refine g_iadd (pc := 215) C dX7_findChange_215 ?_
    refine g_eqi (nI ((2001 * w) + a)) (nI_add (2001 * w) a) ?_
    refine g_iload (pc := 216) C dX7_findChange_216 rfl ?_
    refine g_iastN (pc := 218) C rfl (hM.2 31 rfl).2 (by omega) (by decide) dX7_findChange_218 ?_
    refine g_iincN (pc := 219) C 1 dX7_findChange_219 rfl (by decide) (by decide) ?_
    refine g_goto (pc := 222) C 123 dX7_findChange_222 (by decide) ?_
    exact g_subR (ih (a + 1) (by omega)) ⟨rfl, rfl, rfl, rfl, rfl, rfl, rfl, rfl, trivial⟩
set_option maxHeartbeats 400000 in
set_option maxRecDepth 100000 in
theorem lp_fc3 {X : Xt} {Y : Yt} {P : Option AV → Mm → Prop} {nm : String} (C : Cx X Y cX7_findChange 11 RX7) (B : Bx X Y nm (some .int) 1 0 0 P) {S : Mm} {i t tens : Nat} {hv : Nat → Nat} (hM0 : ShM S) (hi : i < 6) (ht : tens ≤ 2000) (hhv : ∀ w, w < 6 → S.1 (2, 0, 3) (6 * i + w) + S.1 (2, 0, 5) (6 * i + w) = nI (hv w) ∧ hv w ≤ 1000) (h0 : ∀ a, a ≤ tens → S.1 (2, 0, 31) (12006 + a) = nI (fcR hv 0 a)) (K : G X Y 0 0 (fwM S hv tens 6) 231 [(0, vr (2, 0, 0)), (1, vi (nI i)), (2, vi (nI t)), (3, vi (nI tens)), (4, vi (wv 6))] []) : ∀ n r, r + n = 6 → G X Y 0 0 (fwM S hv tens r) 78 [(0, vr (2, 0, 0)), (1, vi (nI i)), (2, vi (nI t)), (3, vi (nI tens)), (4, vi (wv r))] [] := by
  intro n
  induction n with
  | zero =>
    intro r hr
    have e : 6 = r := by omega
    subst e
    have hM : ShM (fwM S hv tens 6) := hM0.same (fwM_but S hv tens 6).1
    refine g_iload (pc := 78) C dX7_findChange_78 rfl ?_
    refine g_if_lt (pc := 80) C 231 dX7_findChange_80 (by decide) (fun _ => ?_) (fun h80 => absurd (by decide) h80)
    exact K
  | succ n ih =>
    intro r hr
    have hM : ShM (fwM S hv tens r) := hM0.same (fwM_but S hv tens r).1
    have hbt := fwM_but S hv tens r
    have ew : wv r = nI (5 - r) := by unfold wv; rw [if_pos (by omega)]
    rw [ew]
    refine g_iload (pc := 78) C dX7_findChange_78 rfl ?_
    refine g_if_lt (pc := 80) C 231 dX7_findChange_80 (by decide) (fun h80 => absurd h80 (nI_pos (by omega))) (fun _ => ?_)
    refine g_aload_n (pc := 83) C dX7_findChange_83 rfl ?_
    refine g_getr (pc := 84) C fX7_13 rfl hM.1 dX7_findChange_84 rfl (hM.2 3 rfl).1 ?_
    refine g_bipush (pc := 87) C 6 dX7_findChange_87 (by decide) ?_
    refine g_iload_n (pc := 89) C dX7_findChange_89 rfl ?_
    refine g_imul (pc := 90) C dX7_findChange_90 ?_
    refine g_eqi (nI (6 * i)) (pk_mul 6 i) ?_
    refine g_iload (pc := 91) C dX7_findChange_91 rfl ?_
    refine g_iadd (pc := 93) C dX7_findChange_93 ?_
    refine g_eqi (nI ((6 * i) + (5 - r))) (nI_add (6 * i) (5 - r)) ?_
    refine g_ialdN (pc := 94) C rfl (hM.2 3 rfl).2 (by omega) (by decide) dX7_findChange_94 ?_
    refine g_aload_n (pc := 95) C dX7_findChange_95 rfl ?_
    refine g_getr (pc := 96) C fX7_19 rfl hM.1 dX7_findChange_96 rfl (hM.2 5 rfl).1 ?_
    refine g_bipush (pc := 99) C 6 dX7_findChange_99 (by decide) ?_
    refine g_iload_n (pc := 101) C dX7_findChange_101 rfl ?_
    refine g_imul (pc := 102) C dX7_findChange_102 ?_
    refine g_eqi (nI (6 * i)) (pk_mul 6 i) ?_
    refine g_iload (pc := 103) C dX7_findChange_103 rfl ?_
    refine g_iadd (pc := 105) C dX7_findChange_105 ?_
    refine g_eqi (nI ((6 * i) + (5 - r))) (nI_add (6 * i) (5 - r)) ?_
    refine g_ialdN (pc := 106) C rfl (hM.2 5 rfl).2 (by omega) (by decide) dX7_findChange_106 ?_
    refine g_iadd (pc := 107) C dX7_findChange_107 ?_
    refine g_eqi (nI (hv (5 - r))) (by rw [hbt.2 (2, 0, 3) _ (fun q => by rcases q with q | q <;> cases q), hbt.2 (2, 0, 5) _ (fun q => by rcases q with q | q <;> cases q)]; exact (hhv (5 - r) (by omega)).1) ?_
    refine g_istore (pc := 108) C dX7_findChange_108 (by decide) ?_
    refine g_iload (pc := 110) C dX7_findChange_110 rfl ?_
    refine g_callS (pc := 112) C B mX7_130 (c_mworth _ _ _ _ _ (5 - r) (by omega)) rfl rfl (by decide) ⟨Nat.le_refl _, Nat.le_refl _⟩ (Nat.le_of_ble_eq_true rfl) dX7_findChange_112 (fun rr SS hP => ?_)
    rw [hP.1, hP.2]
    refine g_bipush (pc := 115) C 10 dX7_findChange_115 (by decide) ?_
    refine g_idiv (pc := 117) C dX7_findChange_117 (by decide) ?_
    refine g_eqi (nI (byN (5 - r))) (wths_by (5 - r) (by omega)) ?_
    refine g_istore (pc := 118) C dX7_findChange_118 (by decide) ?_
    refine g_iconst (pc := 120) C 0 dX7_findChange_120 (by decide) ?_
    refine g_istore (pc := 121) C dX7_findChange_121 (by decide) ?_
    refine g_subR (lp_fc4 (Fn := fcR hv r) C B hM ⟨byN_pos _, byN_le _⟩ ht (hhv (5 - r) (by omega)).2 (by omega) (fun a9 h9 => by have q := fwM_at S hv ht h0 r (by omega) r (Nat.le_refl _) a9 h9; rw [show 6 - r = 5 - r + 1 by omega] at q; exact q) (fcR_le hv r) ?_ (tens + 1) 0 (by omega)) ⟨rfl, rfl, rfl, rfl, rfl, rfl, rfl, rfl, trivial⟩
    refine g_iinc (pc := 225) C (-1) dX7_findChange_225 rfl (by decide) (by decide) ?_
    refine g_goto (pc := 228) C 78 dX7_findChange_228 (by decide) ?_
    exact g_subR (ih (r + 1) (by omega)) ⟨rfl, rfl, rfl, rfl, congrArg (fun z => some (vi z)) (wv_s r (by omega)), trivial⟩
set_option maxHeartbeats 400000 in
set_option maxRecDepth 100000 in
theorem lp_fc7 {X : Xt} {Y : Yt} {P : Option AV → Mm → Prop} {nm : String} (C : Cx X Y cX7_findChange 11 RX7) (B : Bx X Y nm (some .int) 1 0 0 P) {T : Mm} {i t tens w b left tot : Nat} {Fn : Nat → Nat} (hM : ShM T) (hb : 0 < b ∧ b ≤ 50) (hlf : left ≤ tens) (ht : tens ≤ 2000) (hw : w < 6) (hF : ∀ a, a ≤ tens → T.1 (2, 0, 31) (2001 * (w + 1) + a) = nI (Fn a)) (hFn : ∀ a, Fn a ≤ 1000) (hT : T.1 (2, 0, 31) (2001 * w + left) = nI tot) (htot : tot ≤ 1000) : ∀ c, c ≤ left / b → (∃ c', c' ≤ c ∧ c' + Fn (left - c' * b) = tot) → G X Y 0 0 T 363 [(0, vr (2, 0, 0)), (1, vi (nI i)), (2, vi (nI t)), (3, vi (nI tens)), (4, vi (nI left)), (5, vi (nI w)), (7, vi (nI b)), (8, vi (nI (exN Fn tot b left c)))] [] → G X Y 0 0 T 315 [(0, vr (2, 0, 0)), (1, vi (nI i)), (2, vi (nI t)), (3, vi (nI tens)), (4, vi (nI left)), (5, vi (nI w)), (7, vi (nI b)), (8, vi (nI c))] [] := by
  intro c
  induction c with
  | zero =>
    intro hc0 hex K
    have hf1 := hFn (left - 0 * b)
    have hit : 0 + Fn (left - 0 * b) = tot := by
      obtain ⟨c9, g1, g2⟩ := hex
      have e : c9 = 0 := by omega
      subst e
      exact g2
    refine g_iload (pc := 315) C dX7_findChange_315 rfl ?_
    refine g_aload_n (pc := 317) C dX7_findChange_317 rfl ?_
    refine g_getr (pc := 318) C fX7_95 rfl hM.1 dX7_findChange_318 rfl (hM.2 31 rfl).1 ?_
    refine g_sipush (pc := 321) C 2001 dX7_findChange_321 (by decide) ?_
    refine g_iload (pc := 324) C dX7_findChange_324 rfl ?_
    refine g_iconst (pc := 326) C 1 dX7_findChange_326 (by decide) ?_
    refine g_iadd (pc := 327) C dX7_findChange_327 ?_
    refine g_eqi (nI (w + 1)) (nI_add w 1) ?_
    refine g_imul (pc := 328) C dX7_findChange_328 ?_
    refine g_eqi (nI (2001 * (w + 1))) (pk_mul 2001 (w + 1)) ?_
    refine g_iload (pc := 329) C dX7_findChange_329 rfl ?_
    refine g_iadd (pc := 331) C dX7_findChange_331 ?_
    refine g_eqi (nI ((2001 * (w + 1)) + left)) (nI_add (2001 * (w + 1)) left) ?_
    refine g_iload (pc := 332) C dX7_findChange_332 rfl ?_
    refine g_iload (pc := 334) C dX7_findChange_334 rfl ?_
    refine g_imul (pc := 336) C dX7_findChange_336 ?_
    refine g_eqi (nI (0 * b)) (pk_mul 0 b) ?_
    refine g_isub (pc := 337) C dX7_findChange_337 ?_
    refine g_eqi (nI (2001 * (w + 1) + left - 0 * b)) (pk_sub (a := 2001 * (w + 1) + left) (b := 0 * b) (by omega)) ?_
    refine g_ialdN (pc := 338) C rfl (hM.2 31 rfl).2 (by omega) (by decide) dX7_findChange_338 ?_
    refine g_eqi (nI (Fn (left - 0 * b))) (by rw [show 2001 * (w + 1) + left - 0 * b = 2001 * (w + 1) + (left - 0 * b) by omega]; exact hF _ (by omega)) ?_
    refine g_iadd (pc := 339) C dX7_findChange_339 ?_
    refine g_eqi (nI (0 + (Fn (left - 0 * b)))) (nI_add 0 (Fn (left - 0 * b))) ?_
    refine g_aload_n (pc := 340) C dX7_findChange_340 rfl ?_
    refine g_getr (pc := 341) C fX7_95 rfl hM.1 dX7_findChange_341 rfl (hM.2 31 rfl).1 ?_
    refine g_sipush (pc := 344) C 2001 dX7_findChange_344 (by decide) ?_
    refine g_iload (pc := 347) C dX7_findChange_347 rfl ?_
    refine g_imul (pc := 349) C dX7_findChange_349 ?_
    refine g_eqi (nI (2001 * w)) (pk_mul 2001 w) ?_
    refine g_iload (pc := 350) C dX7_findChange_350 rfl ?_
    refine g_iadd (pc := 352) C dX7_findChange_352 ?_
    refine g_eqi (nI ((2001 * w) + left)) (nI_add (2001 * w) left) ?_
    refine g_ialdN (pc := 353) C rfl (hM.2 31 rfl).2 (by omega) (by decide) dX7_findChange_353 ?_
    refine g_eqi (nI (tot)) hT ?_
    refine g_icmp_eq (pc := 354) C 363 dX7_findChange_354 (by decide) (fun _ => ?_) (fun h354 => absurd ((nI_eq (a := 0 + Fn (left - 0 * b)) (b := tot) (by omega) (by omega)).mpr (by omega)) h354)
    exact K
  | succ c ih =>
    intro hc0 hex K
    have hcb : (c + 1) * b ≤ left := (Nat.le_div_iff_mul_le hb.1).mp hc0
    have hc9 : c + 1 ≤ 2000 := by have := Nat.div_le_self left b; omega
    have hf1 := hFn (left - (c + 1) * b)
    by_cases hit : c + 1 + Fn (left - (c + 1) * b) = tot
    ·
      rw [exN, if_pos hit] at K
      refine g_iload (pc := 315) C dX7_findChange_315 rfl ?_
      refine g_aload_n (pc := 317) C dX7_findChange_317 rfl ?_
      refine g_getr (pc := 318) C fX7_95 rfl hM.1 dX7_findChange_318 rfl (hM.2 31 rfl).1 ?_
      refine g_sipush (pc := 321) C 2001 dX7_findChange_321 (by decide) ?_
      refine g_iload (pc := 324) C dX7_findChange_324 rfl ?_
      refine g_iconst (pc := 326) C 1 dX7_findChange_326 (by decide) ?_
      refine g_iadd (pc := 327) C dX7_findChange_327 ?_
      refine g_eqi (nI (w + 1)) (nI_add w 1) ?_
      refine g_imul (pc := 328) C dX7_findChange_328 ?_
      refine g_eqi (nI (2001 * (w + 1))) (pk_mul 2001 (w + 1)) ?_
      refine g_iload (pc := 329) C dX7_findChange_329 rfl ?_
      refine g_iadd (pc := 331) C dX7_findChange_331 ?_
      refine g_eqi (nI ((2001 * (w + 1)) + left)) (nI_add (2001 * (w + 1)) left) ?_
      refine g_iload (pc := 332) C dX7_findChange_332 rfl ?_
      refine g_iload (pc := 334) C dX7_findChange_334 rfl ?_
      refine g_imul (pc := 336) C dX7_findChange_336 ?_
      refine g_eqi (nI ((c + 1) * b)) (pk_mul (c + 1) b) ?_
      refine g_isub (pc := 337) C dX7_findChange_337 ?_
      refine g_eqi (nI (2001 * (w + 1) + left - (c + 1) * b)) (pk_sub (a := 2001 * (w + 1) + left) (b := (c + 1) * b) (by omega)) ?_
      refine g_ialdN (pc := 338) C rfl (hM.2 31 rfl).2 (by omega) (by decide) dX7_findChange_338 ?_
      refine g_eqi (nI (Fn (left - (c + 1) * b))) (by rw [show 2001 * (w + 1) + left - (c + 1) * b = 2001 * (w + 1) + (left - (c + 1) * b) by omega]; exact hF _ (by omega)) ?_
      refine g_iadd (pc := 339) C dX7_findChange_339 ?_
      refine g_eqi (nI ((c + 1) + (Fn (left - (c + 1) * b)))) (nI_add (c + 1) (Fn (left - (c + 1) * b))) ?_
      refine g_aload_n (pc := 340) C dX7_findChange_340 rfl ?_
      refine g_getr (pc := 341) C fX7_95 rfl hM.1 dX7_findChange_341 rfl (hM.2 31 rfl).1 ?_
      refine g_sipush (pc := 344) C 2001 dX7_findChange_344 (by decide) ?_
      refine g_iload (pc := 347) C dX7_findChange_347 rfl ?_
      refine g_imul (pc := 349) C dX7_findChange_349 ?_
      refine g_eqi (nI (2001 * w)) (pk_mul 2001 w) ?_
      refine g_iload (pc := 350) C dX7_findChange_350 rfl ?_
      refine g_iadd (pc := 352) C dX7_findChange_352 ?_
      refine g_eqi (nI ((2001 * w) + left)) (nI_add (2001 * w) left) ?_
      refine g_ialdN (pc := 353) C rfl (hM.2 31 rfl).2 (by omega) (by decide) dX7_findChange_353 ?_
      refine g_eqi (nI (tot)) hT ?_
      refine g_icmp_eq (pc := 354) C 363 dX7_findChange_354 (by decide) (fun _ => ?_) (fun h354 => absurd ((nI_eq (a := c + 1 + Fn (left - (c + 1) * b)) (b := tot) (by omega) (by omega)).mpr (by omega)) h354)
      exact K
    ·
      rw [exN, if_neg hit] at K
      refine g_iload (pc := 315) C dX7_findChange_315 rfl ?_
      refine g_aload_n (pc := 317) C dX7_findChange_317 rfl ?_
      refine g_getr (pc := 318) C fX7_95 rfl hM.1 dX7_findChange_318 rfl (hM.2 31 rfl).1 ?_
      refine g_sipush (pc := 321) C 2001 dX7_findChange_321 (by decide) ?_
      refine g_iload (pc := 324) C dX7_findChange_324 rfl ?_
      refine g_iconst (pc := 326) C 1 dX7_findChange_326 (by decide) ?_
      refine g_iadd (pc := 327) C dX7_findChange_327 ?_
      refine g_eqi (nI (w + 1)) (nI_add w 1) ?_
      refine g_imul (pc := 328) C dX7_findChange_328 ?_
      refine g_eqi (nI (2001 * (w + 1))) (pk_mul 2001 (w + 1)) ?_
      refine g_iload (pc := 329) C dX7_findChange_329 rfl ?_
      refine g_iadd (pc := 331) C dX7_findChange_331 ?_
      refine g_eqi (nI ((2001 * (w + 1)) + left)) (nI_add (2001 * (w + 1)) left) ?_
      refine g_iload (pc := 332) C dX7_findChange_332 rfl ?_
      refine g_iload (pc := 334) C dX7_findChange_334 rfl ?_
      refine g_imul (pc := 336) C dX7_findChange_336 ?_
      refine g_eqi (nI ((c + 1) * b)) (pk_mul (c + 1) b) ?_
      refine g_isub (pc := 337) C dX7_findChange_337 ?_
      refine g_eqi (nI (2001 * (w + 1) + left - (c + 1) * b)) (pk_sub (a := 2001 * (w + 1) + left) (b := (c + 1) * b) (by omega)) ?_
      refine g_ialdN (pc := 338) C rfl (hM.2 31 rfl).2 (by omega) (by decide) dX7_findChange_338 ?_
      refine g_eqi (nI (Fn (left - (c + 1) * b))) (by rw [show 2001 * (w + 1) + left - (c + 1) * b = 2001 * (w + 1) + (left - (c + 1) * b) by omega]; exact hF _ (by omega)) ?_
      refine g_iadd (pc := 339) C dX7_findChange_339 ?_
      refine g_eqi (nI ((c + 1) + (Fn (left - (c + 1) * b)))) (nI_add (c + 1) (Fn (left - (c + 1) * b))) ?_
      refine g_aload_n (pc := 340) C dX7_findChange_340 rfl ?_
      refine g_getr (pc := 341) C fX7_95 rfl hM.1 dX7_findChange_341 rfl (hM.2 31 rfl).1 ?_
      refine g_sipush (pc := 344) C 2001 dX7_findChange_344 (by decide) ?_
      refine g_iload (pc := 347) C dX7_findChange_347 rfl ?_
      refine g_imul (pc := 349) C dX7_findChange_349 ?_
      refine g_eqi (nI (2001 * w)) (pk_mul 2001 w) ?_
      refine g_iload (pc := 350) C dX7_findChange_350 rfl ?_
      refine g_iadd (pc := 352) C dX7_findChange_352 ?_
      refine g_eqi (nI ((2001 * w) + left)) (nI_add (2001 * w) left) ?_
      refine g_ialdN (pc := 353) C rfl (hM.2 31 rfl).2 (by omega) (by decide) dX7_findChange_353 ?_
      refine g_eqi (nI (tot)) hT ?_
      refine g_icmp_eq (pc := 354) C 363 dX7_findChange_354 (by decide) (fun h354 => absurd h354 (fun q => absurd ((nI_eq (a := c + 1 + Fn (left - (c + 1) * b)) (b := tot) (by omega) (by omega)).mp q) (by omega))) (fun _ => ?_)
      refine g_iinc (pc := 357) C (-1) dX7_findChange_357 rfl (by decide) (by decide) ?_
      refine g_goto (pc := 360) C 315 dX7_findChange_360 (by decide) ?_
      have hex2 : ∃ c', c' ≤ c ∧ c' + Fn (left - c' * b) = tot := by
        obtain ⟨c9, g1, g2⟩ := hex
        by_cases e : c9 = c + 1
        · subst e; exact absurd g2 hit
        · exact ⟨c9, by omega, g2⟩
      exact g_subR (ih (by omega) hex2 K) ⟨rfl, rfl, rfl, rfl, rfl, rfl, rfl, congrArg (fun z => some (vi z)) (pk_m1 c), trivial⟩
set_option maxHeartbeats 400000 in
set_option maxRecDepth 100000 in
theorem lp_fc6 {X : Xt} {Y : Yt} {P : Option AV → Mm → Prop} {nm : String}  (C : Cx X Y cX7_findChange 11 RX7) (B : Bx X Y nm (some Jvm.ClassFile.FieldType.int) 1 0 0 P) {T : Mm} {i t tens : Nat} {hv : Nat → Nat} (hM0 : ShM T) (hi : i < 6) (ht : tens ≤ 2000) (hhv : ∀ w, w < 6 → T.1 (2, 0, 3) (6 * i + w) + T.1 (2, 0, 5) (6 * i + w) = nI (hv w) ∧ hv w ≤ 1000) (htab : ∀ w, w ≤ 6 → ∀ a, a ≤ tens → T.1 (2, 0, 31) (2001 * w + a) = nI (fcR hv (6 - w) a)) (hok : fcR hv 6 tens < 1000) (K : G X Y 0 0 (chM T hv tens 6) 388 [(0, vr (2, 0, 0)), (1, vi (nI i)), (2, vi (nI t)), (3, vi (nI tens)), (4, vi (nI (lfN hv tens 6))), (5, vi (nI 6))] []) : ∀ n w, w + n = 6 → G X Y 0 0 (chM T hv tens w) 237 [(0, vr (2, 0, 0)), (1, vi (nI i)), (2, vi (nI t)), (3, vi (nI tens)), (4, vi (nI (lfN hv tens w))), (5, vi (nI w))] [] := by
  intro n
  induction n with
  | zero =>
    intro w hw
    have e : 6 = w := by omega
    subst e
    have hM : ShM (chM T hv tens 6) := hM0.same (chM_but T hv tens 6).1
    have hbt := chM_but T hv tens 6
    have hbp := byN_pos 6
    have hb5 := byN_le 6
    have hlf := lfN_le hv tens 6
    have hdl := Nat.div_le_self (lfN hv tens 6) (byN 6)
    have hh9 := fun q : 6 < 6 => (hhv 6 q).2
    refine g_iload (pc := 237) C dX7_findChange_237 rfl ?_
    refine g_bipush (pc := 239) C 6 dX7_findChange_239 (by decide) ?_
    refine g_icmp_ge (pc := 241) C 388 dX7_findChange_241 (by decide) (fun _ => ?_) (fun h241 => absurd ((nI_leI (a := 6) (b := 6) (by omega) (by omega)).mpr (by omega)) h241)
    exact K
  | succ n ih =>
    intro w hw
    have hM : ShM (chM T hv tens w) := hM0.same (chM_but T hv tens w).1
    have hbt := chM_but T hv tens w
    have hbp := byN_pos w
    have hb5 := byN_le w
    have hlf := lfN_le hv tens w
    have hdl := Nat.div_le_self (lfN hv tens w) (byN w)
    have hh9 := fun q : w < 6 => (hhv w q).2
    refine g_iload (pc := 237) C dX7_findChange_237 rfl ?_
    refine g_bipush (pc := 239) C 6 dX7_findChange_239 (by decide) ?_
    refine g_icmp_ge (pc := 241) C 388 dX7_findChange_241 (by decide) (fun h241 => absurd h241 (fun q => absurd ((nI_leI (a := 6) (b := w) (by omega) (by omega)).mp q) (by omega))) (fun _ => ?_)
    refine g_aload_n (pc := 244) C dX7_findChange_244 rfl ?_
    refine g_getr (pc := 245) C fX7_95 rfl hM.1 dX7_findChange_245 rfl (hM.2 31 rfl).1 ?_
    refine g_iload_n (pc := 248) C dX7_findChange_248 rfl ?_
    refine g_ialdN (pc := 249) C rfl (hM.2 31 rfl).2 (by omega) (by decide) dX7_findChange_249 ?_
    refine g_eqi (nI (fcR hv 6 tens)) (by rw [chM_tab]; have q := htab 0 (by omega) tens (Nat.le_refl _); simpa using q) ?_
    refine g_sipush (pc := 250) C 1000 dX7_findChange_250 (by decide) ?_
    refine g_icmp_ge (pc := 253) C 388 dX7_findChange_253 (by decide) (fun h253 => absurd h253 (fun q => absurd ((nI_leI (a := 1000) (b := fcR hv 6 tens) (by omega) (by omega)).mp q) (by omega))) (fun _ => ?_)
    refine g_aload_n (pc := 256) C dX7_findChange_256 rfl ?_
    refine g_getr (pc := 257) C fX7_13 rfl hM.1 dX7_findChange_257 rfl (hM.2 3 rfl).1 ?_
    refine g_bipush (pc := 260) C 6 dX7_findChange_260 (by decide) ?_
    refine g_iload_n (pc := 262) C dX7_findChange_262 rfl ?_
    refine g_imul (pc := 263) C dX7_findChange_263 ?_
    refine g_eqi (nI (6 * i)) (pk_mul 6 i) ?_
    refine g_iload (pc := 264) C dX7_findChange_264 rfl ?_
    refine g_iadd (pc := 266) C dX7_findChange_266 ?_
    refine g_eqi (nI ((6 * i) + w)) (nI_add (6 * i) w) ?_
    refine g_ialdN (pc := 267) C rfl (hM.2 3 rfl).2 (by omega) (by decide) dX7_findChange_267 ?_
    refine g_aload_n (pc := 268) C dX7_findChange_268 rfl ?_
    refine g_getr (pc := 269) C fX7_19 rfl hM.1 dX7_findChange_269 rfl (hM.2 5 rfl).1 ?_
    refine g_bipush (pc := 272) C 6 dX7_findChange_272 (by decide) ?_
    refine g_iload_n (pc := 274) C dX7_findChange_274 rfl ?_
    refine g_imul (pc := 275) C dX7_findChange_275 ?_
    refine g_eqi (nI (6 * i)) (pk_mul 6 i) ?_
    refine g_iload (pc := 276) C dX7_findChange_276 rfl ?_
    refine g_iadd (pc := 278) C dX7_findChange_278 ?_
    refine g_eqi (nI ((6 * i) + w)) (nI_add (6 * i) w) ?_
    refine g_ialdN (pc := 279) C rfl (hM.2 5 rfl).2 (by omega) (by decide) dX7_findChange_279 ?_
    refine g_iadd (pc := 280) C dX7_findChange_280 ?_
    refine g_eqi (nI (hv w)) (by rw [hbt.2 (2, 0, 3) _ (fun q => by rcases q with q | q <;> cases q), hbt.2 (2, 0, 5) _ (fun q => by rcases q with q | q <;> cases q)]; exact (hhv w (by omega)).1) ?_
    refine g_istore (pc := 281) C dX7_findChange_281 (by decide) ?_
    refine g_iload (pc := 283) C dX7_findChange_283 rfl ?_
    refine g_callS (pc := 285) C B mX7_130 (c_mworth _ _ _ _ _ w (by omega)) rfl rfl (by decide) ⟨Nat.le_refl _, Nat.le_refl _⟩ (Nat.le_of_ble_eq_true rfl) dX7_findChange_285 (fun rr SS hP => ?_)
    rw [hP.1, hP.2]
    refine g_bipush (pc := 288) C 10 dX7_findChange_288 (by decide) ?_
    refine g_idiv (pc := 290) C dX7_findChange_290 (by decide) ?_
    refine g_eqi (nI (byN w)) (wths_by w (by omega)) ?_
    refine g_istore (pc := 291) C dX7_findChange_291 (by decide) ?_
    refine g_iload (pc := 293) C dX7_findChange_293 rfl ?_
    refine g_iload (pc := 295) C dX7_findChange_295 rfl ?_
    refine g_iload (pc := 297) C dX7_findChange_297 rfl ?_
    refine g_idiv (pc := 299) C dX7_findChange_299 (nI_ne0 hbp (by omega)) ?_
    refine g_eqi (nI (lfN hv tens w / byN w)) (pk_div (a := lfN hv tens w) (d := byN w) (by omega) hbp (by omega)) ?_
    refine g_icmp_ge (pc := 300) C 308 dX7_findChange_300 (by decide) (fun h300 => ?_) (fun h300 => ?_)
    ·
      refine g_iload (pc := 308) C dX7_findChange_308 rfl ?_
      refine g_iload (pc := 310) C dX7_findChange_310 rfl ?_
      refine g_idiv (pc := 312) C dX7_findChange_312 (nI_ne0 hbp (by omega)) ?_
      refine g_eqi (nI (lfN hv tens w / byN w)) (pk_div (a := lfN hv tens w) (d := byN w) (by omega) hbp (by omega)) ?_
      refine g_istore (pc := 313) C dX7_findChange_313 (by decide) ?_
      refine g_subR (lp_fc7 (w := w) (b := byN w) (left := lfN hv tens w) (Fn := fcR hv (5 - w)) (tot := fcR hv (6 - w) (lfN hv tens w)) C B hM ⟨hbp, hb5⟩ hlf ht (by omega) (fun a9 h9 => by rw [chM_tab, htab (w + 1) (by omega) a9 h9, show 6 - (w + 1) = 5 - w by omega]) (fcR_le hv _) (by rw [chM_tab]; exact htab w (by omega) _ hlf) (fcR_le hv _ _) (min (hv w) (lfN hv tens w / byN w)) (Nat.min_le_right _ _) (fc_att hv w _ (by omega) (lfN_ok hv tens hok w (by omega))) ?_) ⟨rfl, rfl, rfl, rfl, rfl, rfl, rfl, congrArg (fun z => some (vi (nI z))) ((Nat.min_eq_right ((nI_leI (a := lfN hv tens w / byN w) (b := hv w) (by omega) (by omega)).mp h300)).symm), trivial⟩
      have hcl := cwN_le hv w (lfN hv tens w)
      refine g_aload_n (pc := 363) C dX7_findChange_363 rfl ?_
      refine g_getr (pc := 364) C fX7_98 rfl hM.1 dX7_findChange_364 rfl (hM.2 32 rfl).1 ?_
      refine g_iload (pc := 367) C dX7_findChange_367 rfl ?_
      refine g_iload (pc := 369) C dX7_findChange_369 rfl ?_
      refine g_iastN (pc := 371) C rfl (hM.2 32 rfl).2 (by omega) (by decide) dX7_findChange_371 ?_
      refine g_iload (pc := 372) C dX7_findChange_372 rfl ?_
      refine g_iload (pc := 374) C dX7_findChange_374 rfl ?_
      refine g_iload (pc := 376) C dX7_findChange_376 rfl ?_
      refine g_imul (pc := 378) C dX7_findChange_378 ?_
      refine g_eqi (nI ((cwN hv w (lfN hv tens w)) * (byN w))) (pk_mul (cwN hv w (lfN hv tens w)) (byN w)) ?_
      refine g_isub (pc := 379) C dX7_findChange_379 ?_
      refine g_eqi (nI (lfN hv tens w - cwN hv w (lfN hv tens w) * byN w)) (pk_sub (a := lfN hv tens w) (b := cwN hv w (lfN hv tens w) * byN w) hcl.2) ?_
      refine g_istore (pc := 380) C dX7_findChange_380 (by decide) ?_
      refine g_iincN (pc := 382) C 1 dX7_findChange_382 rfl (by decide) (by decide) ?_
      refine g_goto (pc := 385) C 237 dX7_findChange_385 (by decide) ?_
      exact g_subR (ih (w + 1) (by omega)) ⟨rfl, rfl, rfl, rfl, rfl, rfl, trivial⟩
    ·
      refine g_iload (pc := 303) C dX7_findChange_303 rfl ?_
      refine g_goto (pc := 305) C 313 dX7_findChange_305 (by decide) ?_
      refine g_istore (pc := 313) C dX7_findChange_313 (by decide) ?_
      refine g_subR (lp_fc7 (w := w) (b := byN w) (left := lfN hv tens w) (Fn := fcR hv (5 - w)) (tot := fcR hv (6 - w) (lfN hv tens w)) C B hM ⟨hbp, hb5⟩ hlf ht (by omega) (fun a9 h9 => by rw [chM_tab, htab (w + 1) (by omega) a9 h9, show 6 - (w + 1) = 5 - w by omega]) (fcR_le hv _) (by rw [chM_tab]; exact htab w (by omega) _ hlf) (fcR_le hv _ _) (min (hv w) (lfN hv tens w / byN w)) (Nat.min_le_right _ _) (fc_att hv w _ (by omega) (lfN_ok hv tens hok w (by omega))) ?_) ⟨rfl, rfl, rfl, rfl, rfl, rfl, rfl, congrArg (fun z => some (vi (nI z))) ((Nat.min_eq_left (Nat.le_of_lt (Nat.not_le.mp (fun q => h300 ((nI_leI (a := lfN hv tens w / byN w) (b := hv w) (by omega) (by omega)).mpr q))))).symm), trivial⟩
      have hcl := cwN_le hv w (lfN hv tens w)
      refine g_aload_n (pc := 363) C dX7_findChange_363 rfl ?_
      refine g_getr (pc := 364) C fX7_98 rfl hM.1 dX7_findChange_364 rfl (hM.2 32 rfl).1 ?_
      refine g_iload (pc := 367) C dX7_findChange_367 rfl ?_
      refine g_iload (pc := 369) C dX7_findChange_369 rfl ?_
      refine g_iastN (pc := 371) C rfl (hM.2 32 rfl).2 (by omega) (by decide) dX7_findChange_371 ?_
      refine g_iload (pc := 372) C dX7_findChange_372 rfl ?_
      refine g_iload (pc := 374) C dX7_findChange_374 rfl ?_
      refine g_iload (pc := 376) C dX7_findChange_376 rfl ?_
      refine g_imul (pc := 378) C dX7_findChange_378 ?_
      refine g_eqi (nI ((cwN hv w (lfN hv tens w)) * (byN w))) (pk_mul (cwN hv w (lfN hv tens w)) (byN w)) ?_
      refine g_isub (pc := 379) C dX7_findChange_379 ?_
      refine g_eqi (nI (lfN hv tens w - cwN hv w (lfN hv tens w) * byN w)) (pk_sub (a := lfN hv tens w) (b := cwN hv w (lfN hv tens w) * byN w) hcl.2) ?_
      refine g_istore (pc := 380) C dX7_findChange_380 (by decide) ?_
      refine g_iincN (pc := 382) C 1 dX7_findChange_382 rfl (by decide) (by decide) ?_
      refine g_goto (pc := 385) C 237 dX7_findChange_385 (by decide) ?_
      exact g_subR (ih (w + 1) (by omega)) ⟨rfl, rfl, rfl, rfl, rfl, rfl, trivial⟩
set_option maxHeartbeats 400000 in
set_option maxRecDepth 100000 in
/-- findChange, no multiple of 10 -/
theorem c_findChange_n (l : Launch) (E : En) (base aw : Nat) (S : Mm) (hM : ShM S) (i : Nat) (hi : i < 6) (t : Nat) (ht : t ≤ 20000) (hm : t % 10 ≠ 0) : Cn l E base aw yX7_findChange cX7_findChange 11 (some Jvm.ClassFile.FieldType.int) 1 0 0 noF S [vr (2, 0, 0), vi (nI i), vi (nI t)] (fun r S' => r = some (vi 1000) ∧ S' = czM S 6) := by
  refine Cn.of (by decide) (Nat.le_of_ble_eq_true rfl) ?_
  intro X Y hl hE hbase haw hfr C B
  subst hl; subst hE; subst hbase; subst haw
  refine g_iconst (pc := 0) C 0 dX7_findChange_0 (by decide) ?_
  refine g_istore_n (pc := 1) C dX7_findChange_1 (by decide) ?_
  refine g_subR (lp_fc1 C B hM ?_ 6 0 rfl) ⟨rfl, rfl, rfl, rfl, trivial⟩
  have hM1 : ShM (czM S 6) := hM.same (czM_but S 6).1
  refine g_iload_n (pc := 21) C dX7_findChange_21 rfl ?_
  refine g_bipush (pc := 22) C 10 dX7_findChange_22 (by decide) ?_
  refine g_irem (pc := 24) C dX7_findChange_24 (by decide) ?_
  refine g_eqi (nI (t % 10)) (pk_rem (a := t) (d := 10) (by omega) (by decide) (by decide)) ?_
  refine g_if_eq (pc := 25) C 32 dX7_findChange_25 (by decide) (fun h25 => absurd h25 (nI_ne0 (by omega) (by omega))) (fun _ => ?_)
  refine g_sipush (pc := 28) C 1000 dX7_findChange_28 (by decide) ?_
  exact g_iret (pc := 31) C B rfl dX7_findChange_31 (⟨rfl, rfl⟩)

set_option maxHeartbeats 400000 in
set_option maxRecDepth 100000 in
/-- findChange -/
theorem c_findChange_f (l : Launch) (E : En) (base aw : Nat) (S : Mm) (hM : ShM S) (i : Nat) (hi : i < 6) (t : Nat) (ht : t ≤ 20000) (hm : t % 10 = 0) (hv : Nat → Nat) (hhv : ∀ w, w < 6 → S.1 (2, 0, 3) (6 * i + w) + S.1 (2, 0, 5) (6 * i + w) = nI (hv w) ∧ hv w ≤ 1000) (hok : 1000 ≤ fcR hv 6 (t / 10)) : Cn l E base aw yX7_findChange cX7_findChange 11 (some Jvm.ClassFile.FieldType.int) 1 0 0 noF S [vr (2, 0, 0), vi (nI i), vi (nI t)] (fun r S' => r = some (vi (nI (fcR hv 6 (t / 10)))) ∧ S' = tbM S hv (t / 10)) := by
  have hf9 := fcR_le hv 6 (t / 10)
  refine Cn.of (by decide) (Nat.le_of_ble_eq_true rfl) ?_
  intro X Y hl hE hbase haw hfr C B
  subst hl; subst hE; subst hbase; subst haw
  refine g_iconst (pc := 0) C 0 dX7_findChange_0 (by decide) ?_
  refine g_istore_n (pc := 1) C dX7_findChange_1 (by decide) ?_
  refine g_subR (lp_fc1 C B hM ?_ 6 0 rfl) ⟨rfl, rfl, rfl, rfl, trivial⟩
  have hM1 : ShM (czM S 6) := hM.same (czM_but S 6).1
  refine g_iload_n (pc := 21) C dX7_findChange_21 rfl ?_
  refine g_bipush (pc := 22) C 10 dX7_findChange_22 (by decide) ?_
  refine g_irem (pc := 24) C dX7_findChange_24 (by decide) ?_
  refine g_eqi (nI (t % 10)) (pk_rem (a := t) (d := 10) (by omega) (by decide) (by decide)) ?_
  refine g_if_eq (pc := 25) C 32 dX7_findChange_25 (by decide) (fun _ => ?_) (fun h25 => absurd (show nI (t % 10) = 0 by rw [hm]; rfl) h25)
  refine g_iload_n (pc := 32) C dX7_findChange_32 rfl ?_
  refine g_bipush (pc := 33) C 10 dX7_findChange_33 (by decide) ?_
  refine g_idiv (pc := 35) C dX7_findChange_35 (by decide) ?_
  refine g_eqi (nI (t / 10)) (pk_div (a := t) (d := 10) (by omega) (by decide) (by decide)) ?_
  refine g_istore_n (pc := 36) C dX7_findChange_36 (by decide) ?_
  refine g_iconst (pc := 37) C 0 dX7_findChange_37 (by decide) ?_
  refine g_istore (pc := 38) C dX7_findChange_38 (by decide) ?_
  refine g_subR (lp_fc2 C B hM1 (by omega) ?_ (t / 10 + 1) 0 (by omega)) ⟨rfl, rfl, rfl, rfl, rfl, trivial⟩
  have hM2 : ShM (fbM (czM S 6) (t / 10 + 1)) := hM1.same (fbM_but _ _).1
  have hbt2 := (czM_but S 6).tr (fbM_but (czM S 6) (t / 10 + 1))
  refine g_iconst (pc := 75) C 5 dX7_findChange_75 (by decide) ?_
  refine g_istore (pc := 76) C dX7_findChange_76 (by decide) ?_
  refine g_subR (lp_fc3 (hv := hv) C B hM2 hi (by omega) (fun w hw => by rw [hbt2.2 (2, 0, 3) _ (fun q => by rcases q with q | q <;> cases q), hbt2.2 (2, 0, 5) _ (fun q => by rcases q with q | q <;> cases q)]; exact hhv w hw) (fun a h9 => fbM_at _ (t / 10 + 1) a (by omega) (by omega)) ?_ 6 0 rfl) ⟨rfl, rfl, rfl, rfl, rfl, trivial⟩
  have hM3 : ShM (tbM S hv (t / 10)) := hM.same (tbM_but S hv (t / 10)).1
  have hbt3 := tbM_but S hv (t / 10)
  show G X Y 0 0 (tbM S hv (t / 10)) _ _ _
  refine g_iload_n (pc := 231) C dX7_findChange_231 rfl ?_
  refine g_istore (pc := 232) C dX7_findChange_232 (by decide) ?_
  refine g_iconst (pc := 234) C 0 dX7_findChange_234 (by decide) ?_
  refine g_istore (pc := 235) C dX7_findChange_235 (by decide) ?_
  have hM := hM3
  refine g_iload (pc := 237) C dX7_findChange_237 rfl ?_
  refine g_bipush (pc := 239) C 6 dX7_findChange_239 (by decide) ?_
  refine g_icmp_ge (pc := 241) C 388 dX7_findChange_241 (by decide) (fun h241 => absurd h241 (by decide)) (fun _ => ?_)
  refine g_aload_n (pc := 244) C dX7_findChange_244 rfl ?_
  refine g_getr (pc := 245) C fX7_95 rfl hM.1 dX7_findChange_245 rfl (hM.2 31 rfl).1 ?_
  refine g_iload_n (pc := 248) C dX7_findChange_248 rfl ?_
  refine g_ialdN (pc := 249) C rfl (hM.2 31 rfl).2 (by omega) (by decide) dX7_findChange_249 ?_
  refine g_eqi (nI (fcR hv 6 (t / 10))) (by have q := tbM_at S hv (tens := t / 10) (by omega) 0 (by omega) (t / 10) (Nat.le_refl _); simpa using q) ?_
  refine g_sipush (pc := 250) C 1000 dX7_findChange_250 (by decide) ?_
  refine g_icmp_ge (pc := 253) C 388 dX7_findChange_253 (by decide) (fun _ => ?_) (fun h253 => absurd ((nI_leI (a := 1000) (b := fcR hv 6 (t / 10)) (by omega) (by omega)).mpr (by omega)) h253)
  refine g_aload_n (pc := 388) C dX7_findChange_388 rfl ?_
  refine g_getr (pc := 389) C fX7_95 rfl hM.1 dX7_findChange_389 rfl (hM.2 31 rfl).1 ?_
  refine g_iload_n (pc := 392) C dX7_findChange_392 rfl ?_
  refine g_ialdN (pc := 393) C rfl (hM.2 31 rfl).2 (by omega) (by decide) dX7_findChange_393 ?_
  refine g_eqi (nI (fcR hv 6 (t / 10))) (by have q := tbM_at S hv (tens := t / 10) (by omega) 0 (by omega) (t / 10) (Nat.le_refl _); simpa using q) ?_
  exact g_iret (pc := 394) C B rfl dX7_findChange_394 (⟨rfl, rfl⟩)

set_option maxHeartbeats 400000 in
set_option maxRecDepth 100000 in
/-- findChange -/
theorem c_findChange_y (l : Launch) (E : En) (base aw : Nat) (S : Mm) (hM : ShM S) (i : Nat) (hi : i < 6) (t : Nat) (ht : t ≤ 20000) (hm : t % 10 = 0) (hv : Nat → Nat) (hhv : ∀ w, w < 6 → S.1 (2, 0, 3) (6 * i + w) + S.1 (2, 0, 5) (6 * i + w) = nI (hv w) ∧ hv w ≤ 1000) (hok : fcR hv 6 (t / 10) < 1000) : Cn l E base aw yX7_findChange cX7_findChange 11 (some Jvm.ClassFile.FieldType.int) 1 0 0 noF S [vr (2, 0, 0), vi (nI i), vi (nI t)] (fun r S' => r = some (vi (nI (fcR hv 6 (t / 10)))) ∧ S' = chM (tbM S hv (t / 10)) hv (t / 10) 6) := by
  have hf9 := fcR_le hv 6 (t / 10)
  refine Cn.of (by decide) (Nat.le_of_ble_eq_true rfl) ?_
  intro X Y hl hE hbase haw hfr C B
  subst hl; subst hE; subst hbase; subst haw
  refine g_iconst (pc := 0) C 0 dX7_findChange_0 (by decide) ?_
  refine g_istore_n (pc := 1) C dX7_findChange_1 (by decide) ?_
  refine g_subR (lp_fc1 C B hM ?_ 6 0 rfl) ⟨rfl, rfl, rfl, rfl, trivial⟩
  have hM1 : ShM (czM S 6) := hM.same (czM_but S 6).1
  refine g_iload_n (pc := 21) C dX7_findChange_21 rfl ?_
  refine g_bipush (pc := 22) C 10 dX7_findChange_22 (by decide) ?_
  refine g_irem (pc := 24) C dX7_findChange_24 (by decide) ?_
  refine g_eqi (nI (t % 10)) (pk_rem (a := t) (d := 10) (by omega) (by decide) (by decide)) ?_
  refine g_if_eq (pc := 25) C 32 dX7_findChange_25 (by decide) (fun _ => ?_) (fun h25 => absurd (show nI (t % 10) = 0 by rw [hm]; rfl) h25)
  refine g_iload_n (pc := 32) C dX7_findChange_32 rfl ?_
  refine g_bipush (pc := 33) C 10 dX7_findChange_33 (by decide) ?_
  refine g_idiv (pc := 35) C dX7_findChange_35 (by decide) ?_
  refine g_eqi (nI (t / 10)) (pk_div (a := t) (d := 10) (by omega) (by decide) (by decide)) ?_
  refine g_istore_n (pc := 36) C dX7_findChange_36 (by decide) ?_
  refine g_iconst (pc := 37) C 0 dX7_findChange_37 (by decide) ?_
  refine g_istore (pc := 38) C dX7_findChange_38 (by decide) ?_
  refine g_subR (lp_fc2 C B hM1 (by omega) ?_ (t / 10 + 1) 0 (by omega)) ⟨rfl, rfl, rfl, rfl, rfl, trivial⟩
  have hM2 : ShM (fbM (czM S 6) (t / 10 + 1)) := hM1.same (fbM_but _ _).1
  have hbt2 := (czM_but S 6).tr (fbM_but (czM S 6) (t / 10 + 1))
  refine g_iconst (pc := 75) C 5 dX7_findChange_75 (by decide) ?_
  refine g_istore (pc := 76) C dX7_findChange_76 (by decide) ?_
  refine g_subR (lp_fc3 (hv := hv) C B hM2 hi (by omega) (fun w hw => by rw [hbt2.2 (2, 0, 3) _ (fun q => by rcases q with q | q <;> cases q), hbt2.2 (2, 0, 5) _ (fun q => by rcases q with q | q <;> cases q)]; exact hhv w hw) (fun a h9 => fbM_at _ (t / 10 + 1) a (by omega) (by omega)) ?_ 6 0 rfl) ⟨rfl, rfl, rfl, rfl, rfl, trivial⟩
  have hM3 : ShM (tbM S hv (t / 10)) := hM.same (tbM_but S hv (t / 10)).1
  have hbt3 := tbM_but S hv (t / 10)
  show G X Y 0 0 (tbM S hv (t / 10)) _ _ _
  refine g_iload_n (pc := 231) C dX7_findChange_231 rfl ?_
  refine g_istore (pc := 232) C dX7_findChange_232 (by decide) ?_
  refine g_iconst (pc := 234) C 0 dX7_findChange_234 (by decide) ?_
  refine g_istore (pc := 235) C dX7_findChange_235 (by decide) ?_
  refine g_subR (lp_fc6 (hv := hv) C B hM3 hi (by omega) (fun w hw => by rw [hbt3.2 (2, 0, 3) _ (fun q => by rcases q with q | q <;> cases q), hbt3.2 (2, 0, 5) _ (fun q => by rcases q with q | q <;> cases q)]; exact hhv w hw) (fun w hw a ha => tbM_at S hv (by omega) w hw a ha) hok ?_ 6 0 rfl) ⟨rfl, rfl, rfl, rfl, rfl, rfl, trivial⟩
  have hM : ShM (chM (tbM S hv (t / 10)) hv (t / 10) 6) := hM3.same (chM_but _ _ _ _).1
  refine g_aload_n (pc := 388) C dX7_findChange_388 rfl ?_
  refine g_getr (pc := 389) C fX7_95 rfl hM.1 dX7_findChange_389 rfl (hM.2 31 rfl).1 ?_
  refine g_iload_n (pc := 392) C dX7_findChange_392 rfl ?_
  refine g_ialdN (pc := 393) C rfl (hM.2 31 rfl).2 (by omega) (by decide) dX7_findChange_393 ?_
  refine g_eqi (nI (fcR hv 6 (t / 10))) (by rw [chM_tab]; have q := tbM_at S hv (tens := t / 10) (by omega) 0 (by omega) (t / 10) (Nat.le_refl _); simpa using q) ?_
  exact g_iret (pc := 394) C B rfl dX7_findChange_394 (⟨rfl, rfl⟩)

