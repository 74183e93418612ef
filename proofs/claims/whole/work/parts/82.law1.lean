abbrev lwL (k : Nat) : List (Nat × AV) := [(3, vi (nI (7 * k))), (2, vr (2, 0, 0)), (1, vr (0, 0, 0)), (0, vr sK)]
theorem lw_okL {frx : Ln → Bool} (hf : ∀ k, frx k = true → k.1 = 1 ∨ k.1 = 3) (k : Nat) : (lwL k).all (fun q => okR frx q.2) = true := by
  have no : ∀ q : Ln, q.1 ≠ 1 → q.1 ≠ 3 → frx q = false := fun q a c => by
    cases z : frx q with
    | false => rfl
    | true => exact (hf q z).elim (fun y => absurd y a) (fun y => absurd y c)
  have h0 := no (0, 0, 0) (by decide) (by decide)
  have h2 := no (2, 0, 0) (by decide) (by decide)
  have h8 := no sK (by decide) (by decide)
  simp [lwL, okR, h0, h2, h8]
set_option maxHeartbeats 1000000 in
set_option maxRecDepth 100000 in
theorem lw_op0 {X : Xt} {Y : Yt} {b N : Nat} {xs : Nat → Int32} (C : Cx X Y cL_law 4 RL) (D : LwX X Y b N xs) {S : Mm} {mc : Nat} {lc : Nat → Nat} (h : RR S S mc lc) {k cells slots : Nat} (hk : 7 * k + 7 ≤ N) (hc : cells + 13 ≤ 600000) (hs : slots + 838 ≤ 7302250) (K : ∀ S' mc' lc', RR S' S' mc' lc' → G X Y (cells + 13) (slots + 838) S' 1168 (lwL k) []) : G X Y cells slots S 160 (lwL k) [] := by
  obtain ⟨v, S1, S2, mcx, msx, frx, mc1, lc1, hm, hms, hf, hl, x, m, hr⟩ := o_machine X.2.1 Y.1 Y.2.1 Y.2.2.1 h 
  refine g_aload_n (pc := 160) C dL_law_160 rfl ?_
  refine g_callVf (pc := 161) (st := []) C mL_13 x rfl rfl rfl rfl (h.ix.1.1 0 (by decide)) (by rw [D.1]; decide) (by rw [D.1]; show cells + mcx ≤ 600000 ∧ slots + msx ≤ 7302250; omega) (by decide) dL_law_161 (fun q hq => by rw [D.2.1]; exact decide_eq_true (by rcases hf q hq with z | z <;> omega)) (lw_okL hf k) rfl (fun rr SS hP => ?_)
  obtain ⟨rfl, rfl⟩ := hP
  refine g_aload_n (pc := 164) C dL_law_164 rfl ?_
  refine g_callVf (pc := 165) (st := [vi v]) C mL_17 m rfl rfl rfl rfl hl (by rw [D.1]; decide) (by rw [D.1]; show cells + mcx + 0 ≤ 600000 ∧ slots + msx + 0 ≤ 7302250; omega) (Nat.le_of_ble_eq_true rfl) dL_law_165 (fun _ z => by cases z) (no_allL _) (no_all _) (fun rr SS hP => ?_)
  obtain ⟨rfl, rfl⟩ := hP
  refine g_icmp_eq (pc := 168) C 1168 dL_law_168 (by decide) (fun _ => ?_) (fun q => absurd rfl q)
  exact g_widen (by omega) (by omega) (K _ _ _ hr)
set_option maxHeartbeats 1000000 in
set_option maxRecDepth 100000 in
theorem lw_op1 {X : Xt} {Y : Yt} {b N : Nat} {xs : Nat → Int32} (C : Cx X Y cL_law 4 RL) (D : LwX X Y b N xs) {S : Mm} {mc : Nat} {lc : Nat → Nat} (h : RR S S mc lc) {k cells slots : Nat} (hk : 7 * k + 7 ≤ N) (hc : cells + 13 ≤ 600000) (hs : slots + 838 ≤ 7302250) (K : ∀ S' mc' lc', RR S' S' mc' lc' → G X Y (cells + 13) (slots + 838) S' 1168 (lwL k) []) : G X Y cells slots S 173 (lwL k) [] := by
  obtain ⟨v, S1, S2, mcx, msx, frx, mc1, lc1, hm, hms, hf, hl, x, m, hr⟩ := o_lane X.2.1 Y.1 Y.2.1 Y.2.2.1 h (xs (7 * k + 1)) (xs (7 * k + 2)) (xs (7 * k + 3)) (xs (7 * k + 4)) (xs (7 * k + 5)) (xs (7 * k + 6))
  refine g_aload_n (pc := 173) C dL_law_173 rfl ?_
  refine g_aload_n (pc := 174) C dL_law_174 rfl ?_
  refine g_iload_n (pc := 175) C dL_law_175 rfl ?_
  refine g_iconst (pc := 176) C 1 dL_law_176 (by decide) ?_
  refine g_iadd (pc := 177) C dL_law_177 ?_
  refine g_eqi (nI (7 * k + 1)) (nI_add (7 * k) 1) ?_
  refine g_sldN (pc := 178) C D (i := 7 * k + 1) (by omega) dL_law_178 ?_
  refine g_aload_n (pc := 179) C dL_law_179 rfl ?_
  refine g_iload_n (pc := 180) C dL_law_180 rfl ?_
  refine g_iconst (pc := 181) C 2 dL_law_181 (by decide) ?_
  refine g_iadd (pc := 182) C dL_law_182 ?_
  refine g_eqi (nI (7 * k + 2)) (nI_add (7 * k) 2) ?_
  refine g_sldN (pc := 183) C D (i := 7 * k + 2) (by omega) dL_law_183 ?_
  refine g_aload_n (pc := 184) C dL_law_184 rfl ?_
  refine g_iload_n (pc := 185) C dL_law_185 rfl ?_
  refine g_iconst (pc := 186) C 3 dL_law_186 (by decide) ?_
  refine g_iadd (pc := 187) C dL_law_187 ?_
  refine g_eqi (nI (7 * k + 3)) (nI_add (7 * k) 3) ?_
  refine g_sldN (pc := 188) C D (i := 7 * k + 3) (by omega) dL_law_188 ?_
  refine g_aload_n (pc := 189) C dL_law_189 rfl ?_
  refine g_iload_n (pc := 190) C dL_law_190 rfl ?_
  refine g_iconst (pc := 191) C 4 dL_law_191 (by decide) ?_
  refine g_iadd (pc := 192) C dL_law_192 ?_
  refine g_eqi (nI (7 * k + 4)) (nI_add (7 * k) 4) ?_
  refine g_sldN (pc := 193) C D (i := 7 * k + 4) (by omega) dL_law_193 ?_
  refine g_aload_n (pc := 194) C dL_law_194 rfl ?_
  refine g_iload_n (pc := 195) C dL_law_195 rfl ?_
  refine g_iconst (pc := 196) C 5 dL_law_196 (by decide) ?_
  refine g_iadd (pc := 197) C dL_law_197 ?_
  refine g_eqi (nI (7 * k + 5)) (nI_add (7 * k) 5) ?_
  refine g_sldN (pc := 198) C D (i := 7 * k + 5) (by omega) dL_law_198 ?_
  refine g_aload_n (pc := 199) C dL_law_199 rfl ?_
  refine g_iload_n (pc := 200) C dL_law_200 rfl ?_
  refine g_bipush (pc := 201) C 6 dL_law_201 (by decide) ?_
  refine g_iadd (pc := 203) C dL_law_203 ?_
  refine g_eqi (nI (7 * k + 6)) (nI_add (7 * k) 6) ?_
  refine g_sldN (pc := 204) C D (i := 7 * k + 6) (by omega) dL_law_204 ?_
  refine g_callVf (pc := 205) (st := []) C mL_18 x rfl rfl rfl rfl (h.ix.1.1 0 (by decide)) (by rw [D.1]; decide) (by rw [D.1]; show cells + mcx ≤ 600000 ∧ slots + msx ≤ 7302250; omega) (by decide) dL_law_205 (fun q hq => by rw [D.2.1]; exact decide_eq_true (by rcases hf q hq with z | z <;> omega)) (lw_okL hf k) rfl (fun rr SS hP => ?_)
  obtain ⟨rfl, rfl⟩ := hP
  refine g_aload_n (pc := 208) C dL_law_208 rfl ?_
  refine g_aload_n (pc := 209) C dL_law_209 rfl ?_
  refine g_iload_n (pc := 210) C dL_law_210 rfl ?_
  refine g_iconst (pc := 211) C 1 dL_law_211 (by decide) ?_
  refine g_iadd (pc := 212) C dL_law_212 ?_
  refine g_eqi (nI (7 * k + 1)) (nI_add (7 * k) 1) ?_
  refine g_sldN (pc := 213) C D (i := 7 * k + 1) (by omega) dL_law_213 ?_
  refine g_aload_n (pc := 214) C dL_law_214 rfl ?_
  refine g_iload_n (pc := 215) C dL_law_215 rfl ?_
  refine g_iconst (pc := 216) C 2 dL_law_216 (by decide) ?_
  refine g_iadd (pc := 217) C dL_law_217 ?_
  refine g_eqi (nI (7 * k + 2)) (nI_add (7 * k) 2) ?_
  refine g_sldN (pc := 218) C D (i := 7 * k + 2) (by omega) dL_law_218 ?_
  refine g_aload_n (pc := 219) C dL_law_219 rfl ?_
  refine g_iload_n (pc := 220) C dL_law_220 rfl ?_
  refine g_iconst (pc := 221) C 3 dL_law_221 (by decide) ?_
  refine g_iadd (pc := 222) C dL_law_222 ?_
  refine g_eqi (nI (7 * k + 3)) (nI_add (7 * k) 3) ?_
  refine g_sldN (pc := 223) C D (i := 7 * k + 3) (by omega) dL_law_223 ?_
  refine g_aload_n (pc := 224) C dL_law_224 rfl ?_
  refine g_iload_n (pc := 225) C dL_law_225 rfl ?_
  refine g_iconst (pc := 226) C 4 dL_law_226 (by decide) ?_
  refine g_iadd (pc := 227) C dL_law_227 ?_
  refine g_eqi (nI (7 * k + 4)) (nI_add (7 * k) 4) ?_
  refine g_sldN (pc := 228) C D (i := 7 * k + 4) (by omega) dL_law_228 ?_
  refine g_aload_n (pc := 229) C dL_law_229 rfl ?_
  refine g_iload_n (pc := 230) C dL_law_230 rfl ?_
  refine g_iconst (pc := 231) C 5 dL_law_231 (by decide) ?_
  refine g_iadd (pc := 232) C dL_law_232 ?_
  refine g_eqi (nI (7 * k + 5)) (nI_add (7 * k) 5) ?_
  refine g_sldN (pc := 233) C D (i := 7 * k + 5) (by omega) dL_law_233 ?_
  refine g_aload_n (pc := 234) C dL_law_234 rfl ?_
  refine g_iload_n (pc := 235) C dL_law_235 rfl ?_
  refine g_bipush (pc := 236) C 6 dL_law_236 (by decide) ?_
  refine g_iadd (pc := 238) C dL_law_238 ?_
  refine g_eqi (nI (7 * k + 6)) (nI_add (7 * k) 6) ?_
  refine g_sldN (pc := 239) C D (i := 7 * k + 6) (by omega) dL_law_239 ?_
  refine g_callVf (pc := 240) (st := [vi v]) C mL_22 m rfl rfl rfl rfl hl (by rw [D.1]; decide) (by rw [D.1]; show cells + mcx + 0 ≤ 600000 ∧ slots + msx + 0 ≤ 7302250; omega) (Nat.le_of_ble_eq_true rfl) dL_law_240 (fun _ z => by cases z) (no_allL _) (no_all _) (fun rr SS hP => ?_)
  obtain ⟨rfl, rfl⟩ := hP
  refine g_icmp_eq (pc := 243) C 1168 dL_law_243 (by decide) (fun _ => ?_) (fun q => absurd rfl q)
  exact g_widen (by omega) (by omega) (K _ _ _ hr)
set_option maxHeartbeats 1000000 in
set_option maxRecDepth 100000 in
theorem lw_op2 {X : Xt} {Y : Yt} {b N : Nat} {xs : Nat → Int32} (C : Cx X Y cL_law 4 RL) (D : LwX X Y b N xs) {S : Mm} {mc : Nat} {lc : Nat → Nat} (h : RR S S mc lc) {k cells slots : Nat} (hk : 7 * k + 7 ≤ N) (hc : cells + 13 ≤ 600000) (hs : slots + 838 ≤ 7302250) (K : ∀ S' mc' lc', RR S' S' mc' lc' → G X Y (cells + 13) (slots + 838) S' 1168 (lwL k) []) : G X Y cells slots S 248 (lwL k) [] := by
  obtain ⟨v, S1, S2, mcx, msx, frx, mc1, lc1, hm, hms, hf, hl, x, m, hr⟩ := o_size X.2.1 Y.1 Y.2.1 Y.2.2.1 h (xs (7 * k + 1)) (xs (7 * k + 2))
  refine g_aload_n (pc := 248) C dL_law_248 rfl ?_
  refine g_aload_n (pc := 249) C dL_law_249 rfl ?_
  refine g_iload_n (pc := 250) C dL_law_250 rfl ?_
  refine g_iconst (pc := 251) C 1 dL_law_251 (by decide) ?_
  refine g_iadd (pc := 252) C dL_law_252 ?_
  refine g_eqi (nI (7 * k + 1)) (nI_add (7 * k) 1) ?_
  refine g_sldN (pc := 253) C D (i := 7 * k + 1) (by omega) dL_law_253 ?_
  refine g_aload_n (pc := 254) C dL_law_254 rfl ?_
  refine g_iload_n (pc := 255) C dL_law_255 rfl ?_
  refine g_iconst (pc := 256) C 2 dL_law_256 (by decide) ?_
  refine g_iadd (pc := 257) C dL_law_257 ?_
  refine g_eqi (nI (7 * k + 2)) (nI_add (7 * k) 2) ?_
  refine g_sldN (pc := 258) C D (i := 7 * k + 2) (by omega) dL_law_258 ?_
  refine g_callVf (pc := 259) (st := []) C mL_23 x rfl rfl rfl rfl (h.ix.1.1 0 (by decide)) (by rw [D.1]; decide) (by rw [D.1]; show cells + mcx ≤ 600000 ∧ slots + msx ≤ 7302250; omega) (by decide) dL_law_259 (fun q hq => by rw [D.2.1]; exact decide_eq_true (by rcases hf q hq with z | z <;> omega)) (lw_okL hf k) rfl (fun rr SS hP => ?_)
  obtain ⟨rfl, rfl⟩ := hP
  refine g_aload_n (pc := 262) C dL_law_262 rfl ?_
  refine g_aload_n (pc := 263) C dL_law_263 rfl ?_
  refine g_iload_n (pc := 264) C dL_law_264 rfl ?_
  refine g_iconst (pc := 265) C 1 dL_law_265 (by decide) ?_
  refine g_iadd (pc := 266) C dL_law_266 ?_
  refine g_eqi (nI (7 * k + 1)) (nI_add (7 * k) 1) ?_
  refine g_sldN (pc := 267) C D (i := 7 * k + 1) (by omega) dL_law_267 ?_
  refine g_aload_n (pc := 268) C dL_law_268 rfl ?_
  refine g_iload_n (pc := 269) C dL_law_269 rfl ?_
  refine g_iconst (pc := 270) C 2 dL_law_270 (by decide) ?_
  refine g_iadd (pc := 271) C dL_law_271 ?_
  refine g_eqi (nI (7 * k + 2)) (nI_add (7 * k) 2) ?_
  refine g_sldN (pc := 272) C D (i := 7 * k + 2) (by omega) dL_law_272 ?_
  refine g_callVf (pc := 273) (st := [vi v]) C mL_27 m rfl rfl rfl rfl hl (by rw [D.1]; decide) (by rw [D.1]; show cells + mcx + 0 ≤ 600000 ∧ slots + msx + 0 ≤ 7302250; omega) (Nat.le_of_ble_eq_true rfl) dL_law_273 (fun _ z => by cases z) (no_allL _) (no_all _) (fun rr SS hP => ?_)
  obtain ⟨rfl, rfl⟩ := hP
  refine g_icmp_eq (pc := 276) C 1168 dL_law_276 (by decide) (fun _ => ?_) (fun q => absurd rfl q)
  exact g_widen (by omega) (by omega) (K _ _ _ hr)
set_option maxHeartbeats 1000000 in
set_option maxRecDepth 100000 in
theorem lw_op3 {X : Xt} {Y : Yt} {b N : Nat} {xs : Nat → Int32} (C : Cx X Y cL_law 4 RL) (D : LwX X Y b N xs) {S : Mm} {mc : Nat} {lc : Nat → Nat} (h : RR S S mc lc) {k cells slots : Nat} (hk : 7 * k + 7 ≤ N) (hc : cells + 13 ≤ 600000) (hs : slots + 838 ≤ 7302250) (K : ∀ S' mc' lc', RR S' S' mc' lc' → G X Y (cells + 13) (slots + 838) S' 1168 (lwL k) []) : G X Y cells slots S 281 (lwL k) [] := by
  obtain ⟨v, S1, S2, mcx, msx, frx, mc1, lc1, hm, hms, hf, hl, x, m, hr⟩ := o_price X.2.1 Y.1 Y.2.1 Y.2.2.1 h (xs (7 * k + 1)) (xs (7 * k + 2)) (xs (7 * k + 3))
  refine g_aload_n (pc := 281) C dL_law_281 rfl ?_
  refine g_aload_n (pc := 282) C dL_law_282 rfl ?_
  refine g_iload_n (pc := 283) C dL_law_283 rfl ?_
  refine g_iconst (pc := 284) C 1 dL_law_284 (by decide) ?_
  refine g_iadd (pc := 285) C dL_law_285 ?_
  refine g_eqi (nI (7 * k + 1)) (nI_add (7 * k) 1) ?_
  refine g_sldN (pc := 286) C D (i := 7 * k + 1) (by omega) dL_law_286 ?_
  refine g_aload_n (pc := 287) C dL_law_287 rfl ?_
  refine g_iload_n (pc := 288) C dL_law_288 rfl ?_
  refine g_iconst (pc := 289) C 2 dL_law_289 (by decide) ?_
  refine g_iadd (pc := 290) C dL_law_290 ?_
  refine g_eqi (nI (7 * k + 2)) (nI_add (7 * k) 2) ?_
  refine g_sldN (pc := 291) C D (i := 7 * k + 2) (by omega) dL_law_291 ?_
  refine g_aload_n (pc := 292) C dL_law_292 rfl ?_
  refine g_iload_n (pc := 293) C dL_law_293 rfl ?_
  refine g_iconst (pc := 294) C 3 dL_law_294 (by decide) ?_
  refine g_iadd (pc := 295) C dL_law_295 ?_
  refine g_eqi (nI (7 * k + 3)) (nI_add (7 * k) 3) ?_
  refine g_sldN (pc := 296) C D (i := 7 * k + 3) (by omega) dL_law_296 ?_
  refine g_callVf (pc := 297) (st := []) C mL_28 x rfl rfl rfl rfl (h.ix.1.1 0 (by decide)) (by rw [D.1]; decide) (by rw [D.1]; show cells + mcx ≤ 600000 ∧ slots + msx ≤ 7302250; omega) (by decide) dL_law_297 (fun q hq => by rw [D.2.1]; exact decide_eq_true (by rcases hf q hq with z | z <;> omega)) (lw_okL hf k) rfl (fun rr SS hP => ?_)
  obtain ⟨rfl, rfl⟩ := hP
  refine g_aload_n (pc := 300) C dL_law_300 rfl ?_
  refine g_aload_n (pc := 301) C dL_law_301 rfl ?_
  refine g_iload_n (pc := 302) C dL_law_302 rfl ?_
  refine g_iconst (pc := 303) C 1 dL_law_303 (by decide) ?_
  refine g_iadd (pc := 304) C dL_law_304 ?_
  refine g_eqi (nI (7 * k + 1)) (nI_add (7 * k) 1) ?_
  refine g_sldN (pc := 305) C D (i := 7 * k + 1) (by omega) dL_law_305 ?_
  refine g_aload_n (pc := 306) C dL_law_306 rfl ?_
  refine g_iload_n (pc := 307) C dL_law_307 rfl ?_
  refine g_iconst (pc := 308) C 2 dL_law_308 (by decide) ?_
  refine g_iadd (pc := 309) C dL_law_309 ?_
  refine g_eqi (nI (7 * k + 2)) (nI_add (7 * k) 2) ?_
  refine g_sldN (pc := 310) C D (i := 7 * k + 2) (by omega) dL_law_310 ?_
  refine g_aload_n (pc := 311) C dL_law_311 rfl ?_
  refine g_iload_n (pc := 312) C dL_law_312 rfl ?_
  refine g_iconst (pc := 313) C 3 dL_law_313 (by decide) ?_
  refine g_iadd (pc := 314) C dL_law_314 ?_
  refine g_eqi (nI (7 * k + 3)) (nI_add (7 * k) 3) ?_
  refine g_sldN (pc := 315) C D (i := 7 * k + 3) (by omega) dL_law_315 ?_
  refine g_callVf (pc := 316) (st := [vi v]) C mL_32 m rfl rfl rfl rfl hl (by rw [D.1]; decide) (by rw [D.1]; show cells + mcx + 0 ≤ 600000 ∧ slots + msx + 0 ≤ 7302250; omega) (Nat.le_of_ble_eq_true rfl) dL_law_316 (fun _ z => by cases z) (no_allL _) (no_all _) (fun rr SS hP => ?_)
  obtain ⟨rfl, rfl⟩ := hP
  refine g_icmp_eq (pc := 319) C 1168 dL_law_319 (by decide) (fun _ => ?_) (fun q => absurd rfl q)
  exact g_widen (by omega) (by omega) (K _ _ _ hr)
