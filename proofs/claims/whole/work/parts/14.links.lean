theorem gin {w : Cond} (i : Nat) (h : lw_tbl[i]? = some w) (hg : goodWord w = true) : w ∈ gdW := List.mem_filter.mpr ⟨List.mem_of_getElem? h, hg⟩
theorem nin {w : Cond} (i : Nat) (h : lw_tbl[i]? = some w) (hg : isNest w = true) : w ∈ nsW := List.mem_filter.mpr ⟨List.mem_of_getElem? h, hg⟩
theorem uw_of {C : String} {T : u_T} {N : Nat} (h : ∀ k, k < N → u_lay C T k ∈ gdW) : ∀ w ∈ u_ws C T N, w ∈ gdW := fun w hw => by
  obtain ⟨k, hk, rfl⟩ := List.mem_map.mp hw
  exact h k (List.mem_range.mp hk)
theorem uwX0 : ∀ w ∈ u_ws RX0 TX0 2, w ∈ gdW := by
  refine uw_of (fun k hk => ?_)
  match k, hk with
  | 0, _ => exact gin 61 (by decide +kernel) rfl
  | 1, _ => exact gin 63 (by decide +kernel) rfl
  | n + 2, h => omega
theorem uwX1 : ∀ w ∈ u_ws RX1 TX1 2, w ∈ gdW := by
  refine uw_of (fun k hk => ?_)
  match k, hk with
  | 0, _ => exact gin 171 (by decide +kernel) rfl
  | 1, _ => exact gin 173 (by decide +kernel) rfl
  | n + 2, h => omega
theorem uwX2 : ∀ w ∈ u_ws RX2 TX2 10, w ∈ gdW := by
  refine uw_of (fun k hk => ?_)
  match k, hk with
  | 0, _ => exact gin 267 (by decide +kernel) rfl
  | 1, _ => exact gin 269 (by decide +kernel) rfl
  | 2, _ => exact gin 271 (by decide +kernel) rfl
  | 3, _ => exact gin 273 (by decide +kernel) rfl
  | 4, _ => exact gin 275 (by decide +kernel) rfl
  | 5, _ => exact gin 277 (by decide +kernel) rfl
  | 6, _ => exact gin 279 (by decide +kernel) rfl
  | 7, _ => exact gin 281 (by decide +kernel) rfl
  | 8, _ => exact gin 283 (by decide +kernel) rfl
  | 9, _ => exact gin 285 (by decide +kernel) rfl
  | n + 10, h => omega
theorem uwX3 : ∀ w ∈ u_ws RX3 TX3 10, w ∈ gdW := by
  refine uw_of (fun k hk => ?_)
  match k, hk with
  | 0, _ => exact gin 196 (by decide +kernel) rfl
  | 1, _ => exact gin 198 (by decide +kernel) rfl
  | 2, _ => exact gin 200 (by decide +kernel) rfl
  | 3, _ => exact gin 202 (by decide +kernel) rfl
  | 4, _ => exact gin 204 (by decide +kernel) rfl
  | 5, _ => exact gin 206 (by decide +kernel) rfl
  | 6, _ => exact gin 208 (by decide +kernel) rfl
  | 7, _ => exact gin 210 (by decide +kernel) rfl
  | 8, _ => exact gin 212 (by decide +kernel) rfl
  | 9, _ => exact gin 214 (by decide +kernel) rfl
  | n + 10, h => omega
theorem uwX4 : ∀ w ∈ u_ws RX4 TX4 8, w ∈ gdW := by
  refine uw_of (fun k hk => ?_)
  match k, hk with
  | 0, _ => exact gin 146 (by decide +kernel) rfl
  | 1, _ => exact gin 148 (by decide +kernel) rfl
  | 2, _ => exact gin 150 (by decide +kernel) rfl
  | 3, _ => exact gin 152 (by decide +kernel) rfl
  | 4, _ => exact gin 154 (by decide +kernel) rfl
  | 5, _ => exact gin 156 (by decide +kernel) rfl
  | 6, _ => exact gin 158 (by decide +kernel) rfl
  | 7, _ => exact gin 160 (by decide +kernel) rfl
  | n + 8, h => omega
theorem uwX5 : ∀ w ∈ u_ws RX5 TX5 2, w ∈ gdW := by
  refine uw_of (fun k hk => ?_)
  match k, hk with
  | 0, _ => exact gin 77 (by decide +kernel) rfl
  | 1, _ => exact gin 79 (by decide +kernel) rfl
  | n + 2, h => omega
theorem uwX6 : ∀ w ∈ u_ws RX6 TX6 9, w ∈ gdW := by
  refine uw_of (fun k hk => ?_)
  match k, hk with
  | 0, _ => exact gin 91 (by decide +kernel) rfl
  | 1, _ => exact gin 93 (by decide +kernel) rfl
  | 2, _ => exact gin 95 (by decide +kernel) rfl
  | 3, _ => exact gin 97 (by decide +kernel) rfl
  | 4, _ => exact gin 99 (by decide +kernel) rfl
  | 5, _ => exact gin 101 (by decide +kernel) rfl
  | 6, _ => exact gin 103 (by decide +kernel) rfl
  | 7, _ => exact gin 105 (by decide +kernel) rfl
  | 8, _ => exact gin 107 (by decide +kernel) rfl
  | n + 9, h => omega
theorem uwX7 : ∀ w ∈ u_ws RX7 TX7 34, w ∈ gdW := by
  refine uw_of (fun k hk => ?_)
  match k, hk with
  | 0, _ => exact gin 600 (by decide +kernel) rfl
  | 1, _ => exact gin 602 (by decide +kernel) rfl
  | 2, _ => exact gin 604 (by decide +kernel) rfl
  | 3, _ => exact gin 606 (by decide +kernel) rfl
  | 4, _ => exact gin 608 (by decide +kernel) rfl
  | 5, _ => exact gin 610 (by decide +kernel) rfl
  | 6, _ => exact gin 612 (by decide +kernel) rfl
  | 7, _ => exact gin 614 (by decide +kernel) rfl
  | 8, _ => exact gin 616 (by decide +kernel) rfl
  | 9, _ => exact gin 618 (by decide +kernel) rfl
  | 10, _ => exact gin 620 (by decide +kernel) rfl
  | 11, _ => exact gin 622 (by decide +kernel) rfl
  | 12, _ => exact gin 624 (by decide +kernel) rfl
  | 13, _ => exact gin 626 (by decide +kernel) rfl
  | 14, _ => exact gin 628 (by decide +kernel) rfl
  | 15, _ => exact gin 630 (by decide +kernel) rfl
  | 16, _ => exact gin 632 (by decide +kernel) rfl
  | 17, _ => exact gin 634 (by decide +kernel) rfl
  | 18, _ => exact gin 636 (by decide +kernel) rfl
  | 19, _ => exact gin 638 (by decide +kernel) rfl
  | 20, _ => exact gin 640 (by decide +kernel) rfl
  | 21, _ => exact gin 642 (by decide +kernel) rfl
  | 22, _ => exact gin 644 (by decide +kernel) rfl
  | 23, _ => exact gin 646 (by decide +kernel) rfl
  | 24, _ => exact gin 648 (by decide +kernel) rfl
  | 25, _ => exact gin 650 (by decide +kernel) rfl
  | 26, _ => exact gin 652 (by decide +kernel) rfl
  | 27, _ => exact gin 654 (by decide +kernel) rfl
  | 28, _ => exact gin 656 (by decide +kernel) rfl
  | 29, _ => exact gin 658 (by decide +kernel) rfl
  | 30, _ => exact gin 660 (by decide +kernel) rfl
  | 31, _ => exact gin 662 (by decide +kernel) rfl
  | 32, _ => exact gin 664 (by decide +kernel) rfl
  | 33, _ => exact gin 666 (by decide +kernel) rfl
  | n + 34, h => omega
theorem wsX6_28 : Cond.fieldLink RX6 28 RX6 "WORTHS" "[I" ∈ gdW ∨ ∃ host, Cond.fieldLinkNest RX6 28 RX6 "WORTHS" "[I" host ∈ nsW := Or.inl (gin 49 (by decide +kernel) rfl)
theorem wsX0_9 : Cond.fieldLink RX0 9 RX6 "WORTHS" "[I" ∈ gdW ∨ ∃ host, Cond.fieldLinkNest RX0 9 RX6 "WORTHS" "[I" host ∈ nsW := Or.inr ⟨"SlotHouse", nin 57 (by decide +kernel) rfl⟩
theorem fX0_13 : FD RX0 13 0 0 := ⟨RX0, TX0, 2, rfl, rfl, by decide, rfl, Or.inl (gin 58 (by decide +kernel) rfl), uwX0, tyX0_ok, nmX0⟩
theorem fX0_18 : FD RX0 18 0 1 := ⟨RX0, TX0, 2, rfl, rfl, by decide, rfl, Or.inl (gin 59 (by decide +kernel) rfl), uwX0, tyX0_ok, nmX0⟩
theorem fX6_191 : FD RX6 191 0 1 := ⟨RX0, TX0, 2, rfl, rfl, by decide, rfl, Or.inr ⟨"SlotHouse", nin 60 (by decide +kernel) rfl⟩, uwX0, tyX0_ok, nmX0⟩
theorem fX5_11 : FD RX5 11 5 0 := ⟨RX5, TX5, 2, rfl, rfl, by decide, rfl, Or.inl (gin 75 (by decide +kernel) rfl), uwX5, tyX5_ok, nmX5⟩
theorem fX5_16 : FD RX5 16 5 1 := ⟨RX5, TX5, 2, rfl, rfl, by decide, rfl, Or.inl (gin 76 (by decide +kernel) rfl), uwX5, tyX5_ok, nmX5⟩
theorem fX6_11 : FD RX6 11 6 0 := ⟨RX6, TX6, 9, rfl, rfl, by decide, rfl, Or.inl (gin 82 (by decide +kernel) rfl), uwX6, tyX6_ok, nmX6⟩
theorem fX6_15 : FD RX6 15 6 1 := ⟨RX6, TX6, 9, rfl, rfl, by decide, rfl, Or.inl (gin 83 (by decide +kernel) rfl), uwX6, tyX6_ok, nmX6⟩
theorem fX6_25 : FD RX6 25 6 2 := ⟨RX6, TX6, 9, rfl, rfl, by decide, rfl, Or.inl (gin 84 (by decide +kernel) rfl), uwX6, tyX6_ok, nmX6⟩
theorem fX6_31 : FD RX6 31 6 3 := ⟨RX6, TX6, 9, rfl, rfl, by decide, rfl, Or.inl (gin 85 (by decide +kernel) rfl), uwX6, tyX6_ok, nmX6⟩
theorem fX6_37 : FD RX6 37 6 4 := ⟨RX6, TX6, 9, rfl, rfl, by decide, rfl, Or.inl (gin 86 (by decide +kernel) rfl), uwX6, tyX6_ok, nmX6⟩
theorem fX6_44 : FD RX6 44 6 5 := ⟨RX6, TX6, 9, rfl, rfl, by decide, rfl, Or.inl (gin 87 (by decide +kernel) rfl), uwX6, tyX6_ok, nmX6⟩
theorem fX6_48 : FD RX6 48 6 6 := ⟨RX6, TX6, 9, rfl, rfl, by decide, rfl, Or.inl (gin 88 (by decide +kernel) rfl), uwX6, tyX6_ok, nmX6⟩
theorem fX6_183 : FD RX6 183 6 7 := ⟨RX6, TX6, 9, rfl, rfl, by decide, rfl, Or.inl (gin 89 (by decide +kernel) rfl), uwX6, tyX6_ok, nmX6⟩
theorem fX6_170 : FD RX6 170 6 8 := ⟨RX6, TX6, 9, rfl, rfl, by decide, rfl, Or.inl (gin 90 (by decide +kernel) rfl), uwX6, tyX6_ok, nmX6⟩
theorem wsX4_9 : Cond.fieldLink RX4 9 RX6 "WORTHS" "[I" ∈ gdW ∨ ∃ host, Cond.fieldLinkNest RX4 9 RX6 "WORTHS" "[I" host ∈ nsW := Or.inr ⟨"SlotHouse", nin 131 (by decide +kernel) rfl⟩
theorem fX4_13 : FD RX4 13 4 0 := ⟨RX4, TX4, 8, rfl, rfl, by decide, rfl, Or.inl (gin 132 (by decide +kernel) rfl), uwX4, tyX4_ok, nmX4⟩
theorem fX0_31 : FD RX0 31 4 0 := ⟨RX4, TX4, 8, rfl, rfl, by decide, rfl, Or.inr ⟨"SlotHouse", nin 133 (by decide +kernel) rfl⟩, uwX4, tyX4_ok, nmX4⟩
theorem fX6_95 : FD RX6 95 4 0 := ⟨RX4, TX4, 8, rfl, rfl, by decide, rfl, Or.inr ⟨"SlotHouse", nin 134 (by decide +kernel) rfl⟩, uwX4, tyX4_ok, nmX4⟩
theorem fX4_18 : FD RX4 18 4 1 := ⟨RX4, TX4, 8, rfl, rfl, by decide, rfl, Or.inl (gin 135 (by decide +kernel) rfl), uwX4, tyX4_ok, nmX4⟩
theorem fX6_235 : FD RX6 235 4 1 := ⟨RX4, TX4, 8, rfl, rfl, by decide, rfl, Or.inr ⟨"SlotHouse", nin 136 (by decide +kernel) rfl⟩, uwX4, tyX4_ok, nmX4⟩
theorem fX4_21 : FD RX4 21 4 2 := ⟨RX4, TX4, 8, rfl, rfl, by decide, rfl, Or.inl (gin 137 (by decide +kernel) rfl), uwX4, tyX4_ok, nmX4⟩
theorem fX0_36 : FD RX0 36 4 2 := ⟨RX4, TX4, 8, rfl, rfl, by decide, rfl, Or.inr ⟨"SlotHouse", nin 138 (by decide +kernel) rfl⟩, uwX4, tyX4_ok, nmX4⟩
theorem fX6_148 : FD RX6 148 4 2 := ⟨RX4, TX4, 8, rfl, rfl, by decide, rfl, Or.inr ⟨"SlotHouse", nin 139 (by decide +kernel) rfl⟩, uwX4, tyX4_ok, nmX4⟩
theorem fX4_24 : FD RX4 24 4 3 := ⟨RX4, TX4, 8, rfl, rfl, by decide, rfl, Or.inl (gin 140 (by decide +kernel) rfl), uwX4, tyX4_ok, nmX4⟩
theorem fX4_27 : FD RX4 27 4 4 := ⟨RX4, TX4, 8, rfl, rfl, by decide, rfl, Or.inl (gin 141 (by decide +kernel) rfl), uwX4, tyX4_ok, nmX4⟩
theorem fX4_30 : FD RX4 30 4 5 := ⟨RX4, TX4, 8, rfl, rfl, by decide, rfl, Or.inl (gin 142 (by decide +kernel) rfl), uwX4, tyX4_ok, nmX4⟩
theorem fX4_33 : FD RX4 33 4 6 := ⟨RX4, TX4, 8, rfl, rfl, by decide, rfl, Or.inl (gin 143 (by decide +kernel) rfl), uwX4, tyX4_ok, nmX4⟩
theorem fX4_36 : FD RX4 36 4 7 := ⟨RX4, TX4, 8, rfl, rfl, by decide, rfl, Or.inl (gin 144 (by decide +kernel) rfl), uwX4, tyX4_ok, nmX4⟩
theorem fX6_141 : FD RX6 141 4 7 := ⟨RX4, TX4, 8, rfl, rfl, by decide, rfl, Or.inr ⟨"SlotHouse", nin 145 (by decide +kernel) rfl⟩, uwX4, tyX4_ok, nmX4⟩
theorem fX1_9 : FD RX1 9 1 0 := ⟨RX1, TX1, 2, rfl, rfl, by decide, rfl, Or.inl (gin 169 (by decide +kernel) rfl), uwX1, tyX1_ok, nmX1⟩
theorem fX1_15 : FD RX1 15 1 1 := ⟨RX1, TX1, 2, rfl, rfl, by decide, rfl, Or.inl (gin 170 (by decide +kernel) rfl), uwX1, tyX1_ok, nmX1⟩
theorem fX3_11 : FD RX3 11 3 0 := ⟨RX3, TX3, 10, rfl, rfl, by decide, rfl, Or.inl (gin 176 (by decide +kernel) rfl), uwX3, tyX3_ok, nmX3⟩
theorem fX3_20 : FD RX3 20 3 1 := ⟨RX3, TX3, 10, rfl, rfl, by decide, rfl, Or.inl (gin 177 (by decide +kernel) rfl), uwX3, tyX3_ok, nmX3⟩
theorem fX6_91 : FD RX6 91 3 1 := ⟨RX3, TX3, 10, rfl, rfl, by decide, rfl, Or.inr ⟨"SlotHouse", nin 178 (by decide +kernel) rfl⟩, uwX3, tyX3_ok, nmX3⟩
theorem fX3_27 : FD RX3 27 3 2 := ⟨RX3, TX3, 10, rfl, rfl, by decide, rfl, Or.inl (gin 179 (by decide +kernel) rfl), uwX3, tyX3_ok, nmX3⟩
theorem fX6_176 : FD RX6 176 3 2 := ⟨RX3, TX3, 10, rfl, rfl, by decide, rfl, Or.inr ⟨"SlotHouse", nin 180 (by decide +kernel) rfl⟩, uwX3, tyX3_ok, nmX3⟩
theorem fX3_35 : FD RX3 35 3 3 := ⟨RX3, TX3, 10, rfl, rfl, by decide, rfl, Or.inl (gin 181 (by decide +kernel) rfl), uwX3, tyX3_ok, nmX3⟩
theorem fX5_20 : FD RX5 20 3 3 := ⟨RX3, TX3, 10, rfl, rfl, by decide, rfl, Or.inr ⟨"SlotHouse", nin 182 (by decide +kernel) rfl⟩, uwX3, tyX3_ok, nmX3⟩
theorem fX6_232 : FD RX6 232 3 3 := ⟨RX3, TX3, 10, rfl, rfl, by decide, rfl, Or.inr ⟨"SlotHouse", nin 183 (by decide +kernel) rfl⟩, uwX3, tyX3_ok, nmX3⟩
theorem fX3_31 : FD RX3 31 3 4 := ⟨RX3, TX3, 10, rfl, rfl, by decide, rfl, Or.inl (gin 184 (by decide +kernel) rfl), uwX3, tyX3_ok, nmX3⟩
theorem fX6_117 : FD RX6 117 3 4 := ⟨RX3, TX3, 10, rfl, rfl, by decide, rfl, Or.inr ⟨"SlotHouse", nin 185 (by decide +kernel) rfl⟩, uwX3, tyX3_ok, nmX3⟩
theorem fX3_66 : FD RX3 66 3 5 := ⟨RX3, TX3, 10, rfl, rfl, by decide, rfl, Or.inl (gin 186 (by decide +kernel) rfl), uwX3, tyX3_ok, nmX3⟩
theorem fX6_120 : FD RX6 120 3 5 := ⟨RX3, TX3, 10, rfl, rfl, by decide, rfl, Or.inr ⟨"SlotHouse", nin 187 (by decide +kernel) rfl⟩, uwX3, tyX3_ok, nmX3⟩
theorem fX3_82 : FD RX3 82 3 6 := ⟨RX3, TX3, 10, rfl, rfl, by decide, rfl, Or.inl (gin 188 (by decide +kernel) rfl), uwX3, tyX3_ok, nmX3⟩
theorem fX6_135 : FD RX6 135 3 6 := ⟨RX3, TX3, 10, rfl, rfl, by decide, rfl, Or.inr ⟨"SlotHouse", nin 189 (by decide +kernel) rfl⟩, uwX3, tyX3_ok, nmX3⟩
theorem fX3_79 : FD RX3 79 3 7 := ⟨RX3, TX3, 10, rfl, rfl, by decide, rfl, Or.inl (gin 190 (by decide +kernel) rfl), uwX3, tyX3_ok, nmX3⟩
theorem fX6_138 : FD RX6 138 3 7 := ⟨RX3, TX3, 10, rfl, rfl, by decide, rfl, Or.inr ⟨"SlotHouse", nin 191 (by decide +kernel) rfl⟩, uwX3, tyX3_ok, nmX3⟩
theorem fX3_76 : FD RX3 76 3 8 := ⟨RX3, TX3, 10, rfl, rfl, by decide, rfl, Or.inl (gin 192 (by decide +kernel) rfl), uwX3, tyX3_ok, nmX3⟩
theorem fX6_173 : FD RX6 173 3 8 := ⟨RX3, TX3, 10, rfl, rfl, by decide, rfl, Or.inr ⟨"SlotHouse", nin 193 (by decide +kernel) rfl⟩, uwX3, tyX3_ok, nmX3⟩
theorem fX3_73 : FD RX3 73 3 9 := ⟨RX3, TX3, 10, rfl, rfl, by decide, rfl, Or.inl (gin 194 (by decide +kernel) rfl), uwX3, tyX3_ok, nmX3⟩
theorem fX6_132 : FD RX6 132 3 9 := ⟨RX3, TX3, 10, rfl, rfl, by decide, rfl, Or.inr ⟨"SlotHouse", nin 195 (by decide +kernel) rfl⟩, uwX3, tyX3_ok, nmX3⟩
theorem fX2_9 : FD RX2 9 2 0 := ⟨RX2, TX2, 10, rfl, rfl, by decide, rfl, Or.inl (gin 241 (by decide +kernel) rfl), uwX2, tyX2_ok, nmX2⟩
theorem fX5_36 : FD RX5 36 2 0 := ⟨RX2, TX2, 10, rfl, rfl, by decide, rfl, Or.inr ⟨"SlotHouse", nin 242 (by decide +kernel) rfl⟩, uwX2, tyX2_ok, nmX2⟩
theorem fX3_56 : FD RX3 56 2 0 := ⟨RX2, TX2, 10, rfl, rfl, by decide, rfl, Or.inr ⟨"SlotHouse", nin 243 (by decide +kernel) rfl⟩, uwX2, tyX2_ok, nmX2⟩
theorem fX6_180 : FD RX6 180 2 0 := ⟨RX2, TX2, 10, rfl, rfl, by decide, rfl, Or.inr ⟨"SlotHouse", nin 244 (by decide +kernel) rfl⟩, uwX2, tyX2_ok, nmX2⟩
theorem fX2_18 : FD RX2 18 2 1 := ⟨RX2, TX2, 10, rfl, rfl, by decide, rfl, Or.inl (gin 245 (by decide +kernel) rfl), uwX2, tyX2_ok, nmX2⟩
theorem fX5_74 : FD RX5 74 2 1 := ⟨RX2, TX2, 10, rfl, rfl, by decide, rfl, Or.inr ⟨"SlotHouse", nin 246 (by decide +kernel) rfl⟩, uwX2, tyX2_ok, nmX2⟩
theorem fX6_126 : FD RX6 126 2 1 := ⟨RX2, TX2, 10, rfl, rfl, by decide, rfl, Or.inr ⟨"SlotHouse", nin 247 (by decide +kernel) rfl⟩, uwX2, tyX2_ok, nmX2⟩
theorem fX2_21 : FD RX2 21 2 2 := ⟨RX2, TX2, 10, rfl, rfl, by decide, rfl, Or.inl (gin 248 (by decide +kernel) rfl), uwX2, tyX2_ok, nmX2⟩
theorem fX3_53 : FD RX3 53 2 2 := ⟨RX2, TX2, 10, rfl, rfl, by decide, rfl, Or.inr ⟨"SlotHouse", nin 249 (by decide +kernel) rfl⟩, uwX2, tyX2_ok, nmX2⟩
theorem fX6_104 : FD RX6 104 2 2 := ⟨RX2, TX2, 10, rfl, rfl, by decide, rfl, Or.inr ⟨"SlotHouse", nin 250 (by decide +kernel) rfl⟩, uwX2, tyX2_ok, nmX2⟩
theorem fX2_24 : FD RX2 24 2 3 := ⟨RX2, TX2, 10, rfl, rfl, by decide, rfl, Or.inl (gin 251 (by decide +kernel) rfl), uwX2, tyX2_ok, nmX2⟩
theorem fX2_15 : FD RX2 15 2 4 := ⟨RX2, TX2, 10, rfl, rfl, by decide, rfl, Or.inl (gin 252 (by decide +kernel) rfl), uwX2, tyX2_ok, nmX2⟩
theorem fX6_85 : FD RX6 85 2 4 := ⟨RX2, TX2, 10, rfl, rfl, by decide, rfl, Or.inr ⟨"SlotHouse", nin 253 (by decide +kernel) rfl⟩, uwX2, tyX2_ok, nmX2⟩
theorem fX5_67 : FD RX5 67 2 4 := ⟨RX2, TX2, 10, rfl, rfl, by decide, rfl, Or.inr ⟨"SlotHouse", nin 254 (by decide +kernel) rfl⟩, uwX2, tyX2_ok, nmX2⟩
theorem fX2_40 : FD RX2 40 2 5 := ⟨RX2, TX2, 10, rfl, rfl, by decide, rfl, Or.inl (gin 255 (by decide +kernel) rfl), uwX2, tyX2_ok, nmX2⟩
theorem fX3_50 : FD RX3 50 2 5 := ⟨RX2, TX2, 10, rfl, rfl, by decide, rfl, Or.inr ⟨"SlotHouse", nin 256 (by decide +kernel) rfl⟩, uwX2, tyX2_ok, nmX2⟩
theorem fX5_77 : FD RX5 77 2 5 := ⟨RX2, TX2, 10, rfl, rfl, by decide, rfl, Or.inr ⟨"SlotHouse", nin 257 (by decide +kernel) rfl⟩, uwX2, tyX2_ok, nmX2⟩
theorem fX6_129 : FD RX6 129 2 5 := ⟨RX2, TX2, 10, rfl, rfl, by decide, rfl, Or.inr ⟨"SlotHouse", nin 258 (by decide +kernel) rfl⟩, uwX2, tyX2_ok, nmX2⟩
theorem fX2_34 : FD RX2 34 2 6 := ⟨RX2, TX2, 10, rfl, rfl, by decide, rfl, Or.inl (gin 259 (by decide +kernel) rfl), uwX2, tyX2_ok, nmX2⟩
theorem fX6_107 : FD RX6 107 2 6 := ⟨RX2, TX2, 10, rfl, rfl, by decide, rfl, Or.inr ⟨"SlotHouse", nin 260 (by decide +kernel) rfl⟩, uwX2, tyX2_ok, nmX2⟩
theorem fX2_37 : FD RX2 37 2 7 := ⟨RX2, TX2, 10, rfl, rfl, by decide, rfl, Or.inl (gin 261 (by decide +kernel) rfl), uwX2, tyX2_ok, nmX2⟩
theorem fX6_114 : FD RX6 114 2 7 := ⟨RX2, TX2, 10, rfl, rfl, by decide, rfl, Or.inr ⟨"SlotHouse", nin 262 (by decide +kernel) rfl⟩, uwX2, tyX2_ok, nmX2⟩
theorem fX2_27 : FD RX2 27 2 8 := ⟨RX2, TX2, 10, rfl, rfl, by decide, rfl, Or.inl (gin 263 (by decide +kernel) rfl), uwX2, tyX2_ok, nmX2⟩
theorem fX6_110 : FD RX6 110 2 8 := ⟨RX2, TX2, 10, rfl, rfl, by decide, rfl, Or.inr ⟨"SlotHouse", nin 264 (by decide +kernel) rfl⟩, uwX2, tyX2_ok, nmX2⟩
theorem fX2_31 : FD RX2 31 2 9 := ⟨RX2, TX2, 10, rfl, rfl, by decide, rfl, Or.inl (gin 265 (by decide +kernel) rfl), uwX2, tyX2_ok, nmX2⟩
theorem fX6_123 : FD RX6 123 2 9 := ⟨RX2, TX2, 10, rfl, rfl, by decide, rfl, Or.inr ⟨"SlotHouse", nin 266 (by decide +kernel) rfl⟩, uwX2, tyX2_ok, nmX2⟩
theorem fX7_153 : FD RX7 153 7 0 := ⟨RX7, TX7, 34, rfl, rfl, by decide, rfl, Or.inl (gin 566 (by decide +kernel) rfl), uwX7, tyX7_ok, nmX7⟩
theorem fX7_104 : FD RX7 104 7 1 := ⟨RX7, TX7, 34, rfl, rfl, by decide, rfl, Or.inl (gin 567 (by decide +kernel) rfl), uwX7, tyX7_ok, nmX7⟩
theorem fX7_7 : FD RX7 7 7 2 := ⟨RX7, TX7, 34, rfl, rfl, by decide, rfl, Or.inl (gin 568 (by decide +kernel) rfl), uwX7, tyX7_ok, nmX7⟩
theorem fX7_13 : FD RX7 13 7 3 := ⟨RX7, TX7, 34, rfl, rfl, by decide, rfl, Or.inl (gin 569 (by decide +kernel) rfl), uwX7, tyX7_ok, nmX7⟩
theorem fX7_16 : FD RX7 16 7 4 := ⟨RX7, TX7, 34, rfl, rfl, by decide, rfl, Or.inl (gin 570 (by decide +kernel) rfl), uwX7, tyX7_ok, nmX7⟩
theorem fX7_19 : FD RX7 19 7 5 := ⟨RX7, TX7, 34, rfl, rfl, by decide, rfl, Or.inl (gin 571 (by decide +kernel) rfl), uwX7, tyX7_ok, nmX7⟩
theorem fX7_22 : FD RX7 22 7 6 := ⟨RX7, TX7, 34, rfl, rfl, by decide, rfl, Or.inl (gin 572 (by decide +kernel) rfl), uwX7, tyX7_ok, nmX7⟩
theorem fX7_25 : FD RX7 25 7 7 := ⟨RX7, TX7, 34, rfl, rfl, by decide, rfl, Or.inl (gin 573 (by decide +kernel) rfl), uwX7, tyX7_ok, nmX7⟩
theorem fX7_28 : FD RX7 28 7 8 := ⟨RX7, TX7, 34, rfl, rfl, by decide, rfl, Or.inl (gin 574 (by decide +kernel) rfl), uwX7, tyX7_ok, nmX7⟩
theorem fX7_32 : FD RX7 32 7 9 := ⟨RX7, TX7, 34, rfl, rfl, by decide, rfl, Or.inl (gin 575 (by decide +kernel) rfl), uwX7, tyX7_ok, nmX7⟩
theorem fX7_35 : FD RX7 35 7 10 := ⟨RX7, TX7, 34, rfl, rfl, by decide, rfl, Or.inl (gin 576 (by decide +kernel) rfl), uwX7, tyX7_ok, nmX7⟩
theorem fX7_38 : FD RX7 38 7 11 := ⟨RX7, TX7, 34, rfl, rfl, by decide, rfl, Or.inl (gin 577 (by decide +kernel) rfl), uwX7, tyX7_ok, nmX7⟩
theorem fX7_41 : FD RX7 41 7 12 := ⟨RX7, TX7, 34, rfl, rfl, by decide, rfl, Or.inl (gin 578 (by decide +kernel) rfl), uwX7, tyX7_ok, nmX7⟩
theorem fX7_44 : FD RX7 44 7 13 := ⟨RX7, TX7, 34, rfl, rfl, by decide, rfl, Or.inl (gin 579 (by decide +kernel) rfl), uwX7, tyX7_ok, nmX7⟩
theorem fX7_47 : FD RX7 47 7 14 := ⟨RX7, TX7, 34, rfl, rfl, by decide, rfl, Or.inl (gin 580 (by decide +kernel) rfl), uwX7, tyX7_ok, nmX7⟩
theorem fX7_50 : FD RX7 50 7 15 := ⟨RX7, TX7, 34, rfl, rfl, by decide, rfl, Or.inl (gin 581 (by decide +kernel) rfl), uwX7, tyX7_ok, nmX7⟩
theorem fX7_53 : FD RX7 53 7 16 := ⟨RX7, TX7, 34, rfl, rfl, by decide, rfl, Or.inl (gin 582 (by decide +kernel) rfl), uwX7, tyX7_ok, nmX7⟩
theorem fX7_56 : FD RX7 56 7 17 := ⟨RX7, TX7, 34, rfl, rfl, by decide, rfl, Or.inl (gin 583 (by decide +kernel) rfl), uwX7, tyX7_ok, nmX7⟩
theorem fX7_59 : FD RX7 59 7 18 := ⟨RX7, TX7, 34, rfl, rfl, by decide, rfl, Or.inl (gin 584 (by decide +kernel) rfl), uwX7, tyX7_ok, nmX7⟩
theorem fX7_62 : FD RX7 62 7 19 := ⟨RX7, TX7, 34, rfl, rfl, by decide, rfl, Or.inl (gin 585 (by decide +kernel) rfl), uwX7, tyX7_ok, nmX7⟩
theorem fX7_65 : FD RX7 65 7 20 := ⟨RX7, TX7, 34, rfl, rfl, by decide, rfl, Or.inl (gin 586 (by decide +kernel) rfl), uwX7, tyX7_ok, nmX7⟩
theorem fX7_68 : FD RX7 68 7 21 := ⟨RX7, TX7, 34, rfl, rfl, by decide, rfl, Or.inl (gin 587 (by decide +kernel) rfl), uwX7, tyX7_ok, nmX7⟩
theorem fX7_71 : FD RX7 71 7 22 := ⟨RX7, TX7, 34, rfl, rfl, by decide, rfl, Or.inl (gin 588 (by decide +kernel) rfl), uwX7, tyX7_ok, nmX7⟩
theorem fX7_74 : FD RX7 74 7 23 := ⟨RX7, TX7, 34, rfl, rfl, by decide, rfl, Or.inl (gin 589 (by decide +kernel) rfl), uwX7, tyX7_ok, nmX7⟩
theorem fX7_77 : FD RX7 77 7 24 := ⟨RX7, TX7, 34, rfl, rfl, by decide, rfl, Or.inl (gin 590 (by decide +kernel) rfl), uwX7, tyX7_ok, nmX7⟩
theorem fX7_80 : FD RX7 80 7 25 := ⟨RX7, TX7, 34, rfl, rfl, by decide, rfl, Or.inl (gin 591 (by decide +kernel) rfl), uwX7, tyX7_ok, nmX7⟩
theorem fX7_83 : FD RX7 83 7 26 := ⟨RX7, TX7, 34, rfl, rfl, by decide, rfl, Or.inl (gin 592 (by decide +kernel) rfl), uwX7, tyX7_ok, nmX7⟩
theorem fX7_150 : FD RX7 150 7 27 := ⟨RX7, TX7, 34, rfl, rfl, by decide, rfl, Or.inl (gin 593 (by decide +kernel) rfl), uwX7, tyX7_ok, nmX7⟩
theorem fX7_86 : FD RX7 86 7 28 := ⟨RX7, TX7, 34, rfl, rfl, by decide, rfl, Or.inl (gin 594 (by decide +kernel) rfl), uwX7, tyX7_ok, nmX7⟩
theorem fX7_89 : FD RX7 89 7 29 := ⟨RX7, TX7, 34, rfl, rfl, by decide, rfl, Or.inl (gin 595 (by decide +kernel) rfl), uwX7, tyX7_ok, nmX7⟩
theorem fX7_92 : FD RX7 92 7 30 := ⟨RX7, TX7, 34, rfl, rfl, by decide, rfl, Or.inl (gin 596 (by decide +kernel) rfl), uwX7, tyX7_ok, nmX7⟩
theorem fX7_95 : FD RX7 95 7 31 := ⟨RX7, TX7, 34, rfl, rfl, by decide, rfl, Or.inl (gin 597 (by decide +kernel) rfl), uwX7, tyX7_ok, nmX7⟩
theorem fX7_98 : FD RX7 98 7 32 := ⟨RX7, TX7, 34, rfl, rfl, by decide, rfl, Or.inl (gin 598 (by decide +kernel) rfl), uwX7, tyX7_ok, nmX7⟩
theorem fX7_101 : FD RX7 101 7 33 := ⟨RX7, TX7, 34, rfl, rfl, by decide, rfl, Or.inl (gin 599 (by decide +kernel) rfl), uwX7, tyX7_ok, nmX7⟩
theorem fi0_0 : ∀ (C0 : String) (T : u_T) (N : Nat), vwCl[0]? = some (C0, T, N) → C0 = RX0 ∧ (T 0).2.2.2 = true := fun C0 T N h => by cases h; exact ⟨rfl, rfl⟩
theorem fi0_1 : ∀ (C0 : String) (T : u_T) (N : Nat), vwCl[0]? = some (C0, T, N) → C0 = RX0 ∧ (T 1).2.2.2 = true := fun C0 T N h => by cases h; exact ⟨rfl, rfl⟩
theorem fi1_0 : ∀ (C0 : String) (T : u_T) (N : Nat), vwCl[1]? = some (C0, T, N) → C0 = RX1 ∧ (T 0).2.2.2 = true := fun C0 T N h => by cases h; exact ⟨rfl, rfl⟩
theorem fi1_1 : ∀ (C0 : String) (T : u_T) (N : Nat), vwCl[1]? = some (C0, T, N) → C0 = RX1 ∧ (T 1).2.2.2 = true := fun C0 T N h => by cases h; exact ⟨rfl, rfl⟩
theorem fi2_0 : ∀ (C0 : String) (T : u_T) (N : Nat), vwCl[2]? = some (C0, T, N) → C0 = RX2 ∧ (T 0).2.2.2 = true := fun C0 T N h => by cases h; exact ⟨rfl, rfl⟩
theorem fi2_1 : ∀ (C0 : String) (T : u_T) (N : Nat), vwCl[2]? = some (C0, T, N) → C0 = RX2 ∧ (T 1).2.2.2 = true := fun C0 T N h => by cases h; exact ⟨rfl, rfl⟩
theorem fi2_2 : ∀ (C0 : String) (T : u_T) (N : Nat), vwCl[2]? = some (C0, T, N) → C0 = RX2 ∧ (T 2).2.2.2 = true := fun C0 T N h => by cases h; exact ⟨rfl, rfl⟩
theorem fi2_3 : ∀ (C0 : String) (T : u_T) (N : Nat), vwCl[2]? = some (C0, T, N) → C0 = RX2 ∧ (T 3).2.2.2 = true := fun C0 T N h => by cases h; exact ⟨rfl, rfl⟩
theorem fm2_4 : FM 2 4 := fun C0 T N h => by cases h; rfl
theorem fm2_5 : FM 2 5 := fun C0 T N h => by cases h; rfl
theorem fm2_6 : FM 2 6 := fun C0 T N h => by cases h; rfl
theorem fm2_7 : FM 2 7 := fun C0 T N h => by cases h; rfl
theorem fm2_8 : FM 2 8 := fun C0 T N h => by cases h; rfl
theorem fm2_9 : FM 2 9 := fun C0 T N h => by cases h; rfl
theorem fi3_0 : ∀ (C0 : String) (T : u_T) (N : Nat), vwCl[3]? = some (C0, T, N) → C0 = RX3 ∧ (T 0).2.2.2 = true := fun C0 T N h => by cases h; exact ⟨rfl, rfl⟩
theorem fi3_1 : ∀ (C0 : String) (T : u_T) (N : Nat), vwCl[3]? = some (C0, T, N) → C0 = RX3 ∧ (T 1).2.2.2 = true := fun C0 T N h => by cases h; exact ⟨rfl, rfl⟩
theorem fi3_2 : ∀ (C0 : String) (T : u_T) (N : Nat), vwCl[3]? = some (C0, T, N) → C0 = RX3 ∧ (T 2).2.2.2 = true := fun C0 T N h => by cases h; exact ⟨rfl, rfl⟩
theorem fm3_3 : FM 3 3 := fun C0 T N h => by cases h; rfl
theorem fm3_4 : FM 3 4 := fun C0 T N h => by cases h; rfl
theorem fm3_5 : FM 3 5 := fun C0 T N h => by cases h; rfl
theorem fm3_6 : FM 3 6 := fun C0 T N h => by cases h; rfl
theorem fm3_7 : FM 3 7 := fun C0 T N h => by cases h; rfl
theorem fm3_8 : FM 3 8 := fun C0 T N h => by cases h; rfl
theorem fm3_9 : FM 3 9 := fun C0 T N h => by cases h; rfl
theorem fi4_0 : ∀ (C0 : String) (T : u_T) (N : Nat), vwCl[4]? = some (C0, T, N) → C0 = RX4 ∧ (T 0).2.2.2 = true := fun C0 T N h => by cases h; exact ⟨rfl, rfl⟩
theorem fi4_1 : ∀ (C0 : String) (T : u_T) (N : Nat), vwCl[4]? = some (C0, T, N) → C0 = RX4 ∧ (T 1).2.2.2 = true := fun C0 T N h => by cases h; exact ⟨rfl, rfl⟩
theorem fi4_2 : ∀ (C0 : String) (T : u_T) (N : Nat), vwCl[4]? = some (C0, T, N) → C0 = RX4 ∧ (T 2).2.2.2 = true := fun C0 T N h => by cases h; exact ⟨rfl, rfl⟩
theorem fi4_3 : ∀ (C0 : String) (T : u_T) (N : Nat), vwCl[4]? = some (C0, T, N) → C0 = RX4 ∧ (T 3).2.2.2 = true := fun C0 T N h => by cases h; exact ⟨rfl, rfl⟩
theorem fi4_4 : ∀ (C0 : String) (T : u_T) (N : Nat), vwCl[4]? = some (C0, T, N) → C0 = RX4 ∧ (T 4).2.2.2 = true := fun C0 T N h => by cases h; exact ⟨rfl, rfl⟩
theorem fi4_5 : ∀ (C0 : String) (T : u_T) (N : Nat), vwCl[4]? = some (C0, T, N) → C0 = RX4 ∧ (T 5).2.2.2 = true := fun C0 T N h => by cases h; exact ⟨rfl, rfl⟩
theorem fi4_6 : ∀ (C0 : String) (T : u_T) (N : Nat), vwCl[4]? = some (C0, T, N) → C0 = RX4 ∧ (T 6).2.2.2 = true := fun C0 T N h => by cases h; exact ⟨rfl, rfl⟩
theorem fm4_7 : FM 4 7 := fun C0 T N h => by cases h; rfl
theorem fi5_0 : ∀ (C0 : String) (T : u_T) (N : Nat), vwCl[5]? = some (C0, T, N) → C0 = RX5 ∧ (T 0).2.2.2 = true := fun C0 T N h => by cases h; exact ⟨rfl, rfl⟩
theorem fi5_1 : ∀ (C0 : String) (T : u_T) (N : Nat), vwCl[5]? = some (C0, T, N) → C0 = RX5 ∧ (T 1).2.2.2 = true := fun C0 T N h => by cases h; exact ⟨rfl, rfl⟩
theorem fi6_0 : ∀ (C0 : String) (T : u_T) (N : Nat), vwCl[6]? = some (C0, T, N) → C0 = RX6 ∧ (T 0).2.2.2 = true := fun C0 T N h => by cases h; exact ⟨rfl, rfl⟩
theorem fi6_1 : ∀ (C0 : String) (T : u_T) (N : Nat), vwCl[6]? = some (C0, T, N) → C0 = RX6 ∧ (T 1).2.2.2 = true := fun C0 T N h => by cases h; exact ⟨rfl, rfl⟩
theorem fi6_2 : ∀ (C0 : String) (T : u_T) (N : Nat), vwCl[6]? = some (C0, T, N) → C0 = RX6 ∧ (T 2).2.2.2 = true := fun C0 T N h => by cases h; exact ⟨rfl, rfl⟩
theorem fi6_3 : ∀ (C0 : String) (T : u_T) (N : Nat), vwCl[6]? = some (C0, T, N) → C0 = RX6 ∧ (T 3).2.2.2 = true := fun C0 T N h => by cases h; exact ⟨rfl, rfl⟩
theorem fi6_4 : ∀ (C0 : String) (T : u_T) (N : Nat), vwCl[6]? = some (C0, T, N) → C0 = RX6 ∧ (T 4).2.2.2 = true := fun C0 T N h => by cases h; exact ⟨rfl, rfl⟩
theorem fi6_5 : ∀ (C0 : String) (T : u_T) (N : Nat), vwCl[6]? = some (C0, T, N) → C0 = RX6 ∧ (T 5).2.2.2 = true := fun C0 T N h => by cases h; exact ⟨rfl, rfl⟩
theorem fm6_6 : FM 6 6 := fun C0 T N h => by cases h; rfl
theorem fm6_7 : FM 6 7 := fun C0 T N h => by cases h; rfl
theorem fm6_8 : FM 6 8 := fun C0 T N h => by cases h; rfl
theorem fm7_0 : FM 7 0 := fun C0 T N h => by cases h; rfl
theorem fm7_1 : FM 7 1 := fun C0 T N h => by cases h; rfl
theorem fi7_2 : ∀ (C0 : String) (T : u_T) (N : Nat), vwCl[7]? = some (C0, T, N) → C0 = RX7 ∧ (T 2).2.2.2 = true := fun C0 T N h => by cases h; exact ⟨rfl, rfl⟩
theorem fi7_3 : ∀ (C0 : String) (T : u_T) (N : Nat), vwCl[7]? = some (C0, T, N) → C0 = RX7 ∧ (T 3).2.2.2 = true := fun C0 T N h => by cases h; exact ⟨rfl, rfl⟩
theorem fi7_4 : ∀ (C0 : String) (T : u_T) (N : Nat), vwCl[7]? = some (C0, T, N) → C0 = RX7 ∧ (T 4).2.2.2 = true := fun C0 T N h => by cases h; exact ⟨rfl, rfl⟩
theorem fi7_5 : ∀ (C0 : String) (T : u_T) (N : Nat), vwCl[7]? = some (C0, T, N) → C0 = RX7 ∧ (T 5).2.2.2 = true := fun C0 T N h => by cases h; exact ⟨rfl, rfl⟩
theorem fi7_6 : ∀ (C0 : String) (T : u_T) (N : Nat), vwCl[7]? = some (C0, T, N) → C0 = RX7 ∧ (T 6).2.2.2 = true := fun C0 T N h => by cases h; exact ⟨rfl, rfl⟩
theorem fi7_7 : ∀ (C0 : String) (T : u_T) (N : Nat), vwCl[7]? = some (C0, T, N) → C0 = RX7 ∧ (T 7).2.2.2 = true := fun C0 T N h => by cases h; exact ⟨rfl, rfl⟩
theorem fi7_8 : ∀ (C0 : String) (T : u_T) (N : Nat), vwCl[7]? = some (C0, T, N) → C0 = RX7 ∧ (T 8).2.2.2 = true := fun C0 T N h => by cases h; exact ⟨rfl, rfl⟩
theorem fi7_9 : ∀ (C0 : String) (T : u_T) (N : Nat), vwCl[7]? = some (C0, T, N) → C0 = RX7 ∧ (T 9).2.2.2 = true := fun C0 T N h => by cases h; exact ⟨rfl, rfl⟩
theorem fi7_10 : ∀ (C0 : String) (T : u_T) (N : Nat), vwCl[7]? = some (C0, T, N) → C0 = RX7 ∧ (T 10).2.2.2 = true := fun C0 T N h => by cases h; exact ⟨rfl, rfl⟩
theorem fi7_11 : ∀ (C0 : String) (T : u_T) (N : Nat), vwCl[7]? = some (C0, T, N) → C0 = RX7 ∧ (T 11).2.2.2 = true := fun C0 T N h => by cases h; exact ⟨rfl, rfl⟩
theorem fi7_12 : ∀ (C0 : String) (T : u_T) (N : Nat), vwCl[7]? = some (C0, T, N) → C0 = RX7 ∧ (T 12).2.2.2 = true := fun C0 T N h => by cases h; exact ⟨rfl, rfl⟩
theorem fi7_13 : ∀ (C0 : String) (T : u_T) (N : Nat), vwCl[7]? = some (C0, T, N) → C0 = RX7 ∧ (T 13).2.2.2 = true := fun C0 T N h => by cases h; exact ⟨rfl, rfl⟩
theorem fi7_14 : ∀ (C0 : String) (T : u_T) (N : Nat), vwCl[7]? = some (C0, T, N) → C0 = RX7 ∧ (T 14).2.2.2 = true := fun C0 T N h => by cases h; exact ⟨rfl, rfl⟩
theorem fi7_15 : ∀ (C0 : String) (T : u_T) (N : Nat), vwCl[7]? = some (C0, T, N) → C0 = RX7 ∧ (T 15).2.2.2 = true := fun C0 T N h => by cases h; exact ⟨rfl, rfl⟩
theorem fi7_16 : ∀ (C0 : String) (T : u_T) (N : Nat), vwCl[7]? = some (C0, T, N) → C0 = RX7 ∧ (T 16).2.2.2 = true := fun C0 T N h => by cases h; exact ⟨rfl, rfl⟩
theorem fi7_17 : ∀ (C0 : String) (T : u_T) (N : Nat), vwCl[7]? = some (C0, T, N) → C0 = RX7 ∧ (T 17).2.2.2 = true := fun C0 T N h => by cases h; exact ⟨rfl, rfl⟩
theorem fi7_18 : ∀ (C0 : String) (T : u_T) (N : Nat), vwCl[7]? = some (C0, T, N) → C0 = RX7 ∧ (T 18).2.2.2 = true := fun C0 T N h => by cases h; exact ⟨rfl, rfl⟩
theorem fi7_19 : ∀ (C0 : String) (T : u_T) (N : Nat), vwCl[7]? = some (C0, T, N) → C0 = RX7 ∧ (T 19).2.2.2 = true := fun C0 T N h => by cases h; exact ⟨rfl, rfl⟩
theorem fi7_20 : ∀ (C0 : String) (T : u_T) (N : Nat), vwCl[7]? = some (C0, T, N) → C0 = RX7 ∧ (T 20).2.2.2 = true := fun C0 T N h => by cases h; exact ⟨rfl, rfl⟩
theorem fi7_21 : ∀ (C0 : String) (T : u_T) (N : Nat), vwCl[7]? = some (C0, T, N) → C0 = RX7 ∧ (T 21).2.2.2 = true := fun C0 T N h => by cases h; exact ⟨rfl, rfl⟩
theorem fi7_22 : ∀ (C0 : String) (T : u_T) (N : Nat), vwCl[7]? = some (C0, T, N) → C0 = RX7 ∧ (T 22).2.2.2 = true := fun C0 T N h => by cases h; exact ⟨rfl, rfl⟩
theorem fi7_23 : ∀ (C0 : String) (T : u_T) (N : Nat), vwCl[7]? = some (C0, T, N) → C0 = RX7 ∧ (T 23).2.2.2 = true := fun C0 T N h => by cases h; exact ⟨rfl, rfl⟩
theorem fi7_24 : ∀ (C0 : String) (T : u_T) (N : Nat), vwCl[7]? = some (C0, T, N) → C0 = RX7 ∧ (T 24).2.2.2 = true := fun C0 T N h => by cases h; exact ⟨rfl, rfl⟩
theorem fi7_25 : ∀ (C0 : String) (T : u_T) (N : Nat), vwCl[7]? = some (C0, T, N) → C0 = RX7 ∧ (T 25).2.2.2 = true := fun C0 T N h => by cases h; exact ⟨rfl, rfl⟩
theorem fi7_26 : ∀ (C0 : String) (T : u_T) (N : Nat), vwCl[7]? = some (C0, T, N) → C0 = RX7 ∧ (T 26).2.2.2 = true := fun C0 T N h => by cases h; exact ⟨rfl, rfl⟩
theorem fm7_27 : FM 7 27 := fun C0 T N h => by cases h; rfl
theorem fi7_28 : ∀ (C0 : String) (T : u_T) (N : Nat), vwCl[7]? = some (C0, T, N) → C0 = RX7 ∧ (T 28).2.2.2 = true := fun C0 T N h => by cases h; exact ⟨rfl, rfl⟩
theorem fi7_29 : ∀ (C0 : String) (T : u_T) (N : Nat), vwCl[7]? = some (C0, T, N) → C0 = RX7 ∧ (T 29).2.2.2 = true := fun C0 T N h => by cases h; exact ⟨rfl, rfl⟩
theorem fi7_30 : ∀ (C0 : String) (T : u_T) (N : Nat), vwCl[7]? = some (C0, T, N) → C0 = RX7 ∧ (T 30).2.2.2 = true := fun C0 T N h => by cases h; exact ⟨rfl, rfl⟩
theorem fi7_31 : ∀ (C0 : String) (T : u_T) (N : Nat), vwCl[7]? = some (C0, T, N) → C0 = RX7 ∧ (T 31).2.2.2 = true := fun C0 T N h => by cases h; exact ⟨rfl, rfl⟩
theorem fi7_32 : ∀ (C0 : String) (T : u_T) (N : Nat), vwCl[7]? = some (C0, T, N) → C0 = RX7 ∧ (T 32).2.2.2 = true := fun C0 T N h => by cases h; exact ⟨rfl, rfl⟩
theorem fi7_33 : ∀ (C0 : String) (T : u_T) (N : Nat), vwCl[7]? = some (C0, T, N) → C0 = RX7 ∧ (T 33).2.2.2 = true := fun C0 T N h => by cases h; exact ⟨rfl, rfl⟩
theorem mL_9 : MI RL 9 yX6_init cX6_init 1 0 := ⟨Or.inl (gin 38 (by decide +kernel) rfl), rfl, gin 39 (by decide +kernel) rfl, gin 25 (by decide +kernel) rfl, gin 40 (by decide +kernel) rfl, by unfold plainY; decide +kernel⟩
theorem mX6_19 : MS RX6 19 yJ7_fill_53178 cJ7_fill_53178 4 (none) 2 := ⟨Or.inl (gin 46 (by decide +kernel) rfl), gin 47 (by decide +kernel) rfl, gin 26 (by decide +kernel) rfl, gin 48 (by decide +kernel) rfl, by unfold plainY; decide +kernel⟩
theorem mX6_36 : MI RX6 36 yX0_init cX0_init 1 0 := ⟨Or.inr ⟨"SlotHouse", nin 53 (by decide +kernel) rfl⟩, rfl, gin 54 (by decide +kernel) rfl, gin 27 (by decide +kernel) rfl, gin 55 (by decide +kernel) rfl, by unfold plainY; decide +kernel⟩
theorem mX6_43 : MI RX6 43 yX5_init cX5_init 1 0 := ⟨Or.inr ⟨"SlotHouse", nin 69 (by decide +kernel) rfl⟩, rfl, gin 70 (by decide +kernel) rfl, gin 28 (by decide +kernel) rfl, gin 71 (by decide +kernel) rfl, by unfold plainY; decide +kernel⟩
theorem mL_13 : MV RL 13 yX6_machine cX6_machine 1 (some Jvm.ClassFile.FieldType.int) 0 := ⟨Or.inl (gin 110 (by decide +kernel) rfl), gin 111 (by decide +kernel) rfl, gin 112 (by decide +kernel) rfl, gin 25 (by decide +kernel) rfl, gin 113 (by decide +kernel) rfl, by unfold plainY; decide +kernel⟩
theorem mX6_52 : MV RX6 52 yX6_refuse cX6_refuse 3 (some Jvm.ClassFile.FieldType.int) 1 := ⟨Or.inl (gin 114 (by decide +kernel) rfl), gin 116 (by decide +kernel) rfl, gin 0 (by decide +kernel) rfl, gin 25 (by decide +kernel) rfl, gin 117 (by decide +kernel) rfl, by unfold plainY; decide +kernel⟩
theorem mX6_56 : MI RX6 56 yX3_init cX3_init 1 0 := ⟨Or.inr ⟨"SlotHouse", nin 119 (by decide +kernel) rfl⟩, rfl, gin 120 (by decide +kernel) rfl, gin 30 (by decide +kernel) rfl, gin 121 (by decide +kernel) rfl, by unfold plainY; decide +kernel⟩
theorem mX3_19 : MI RX3 19 yX4_init cX4_init 1 0 := ⟨Or.inr ⟨"SlotHouse", nin 127 (by decide +kernel) rfl⟩, rfl, gin 128 (by decide +kernel) rfl, gin 31 (by decide +kernel) rfl, gin 129 (by decide +kernel) rfl, by unfold plainY; decide +kernel⟩
theorem mX3_26 : MI RX3 26 yX1_init cX1_init 1 0 := ⟨Or.inr ⟨"SlotHouse", nin 165 (by decide +kernel) rfl⟩, rfl, gin 166 (by decide +kernel) rfl, gin 32 (by decide +kernel) rfl, gin 167 (by decide +kernel) rfl, by unfold plainY; decide +kernel⟩
theorem mL_18 : MV RL 18 yX6_lane cX6_lane 9 (some Jvm.ClassFile.FieldType.int) 6 := ⟨Or.inl (gin 217 (by decide +kernel) rfl), gin 218 (by decide +kernel) rfl, gin 219 (by decide +kernel) rfl, gin 25 (by decide +kernel) rfl, gin 220 (by decide +kernel) rfl, by unfold plainY; decide +kernel⟩
theorem mX6_57 : MV RX6 57 yX6_machineAt cX6_machineAt 2 (some (Jvm.ClassFile.FieldType.object "SlotHouse$Machine")) 1 := ⟨Or.inl (gin 221 (by decide +kernel) rfl), gin 223 (by decide +kernel) rfl, gin 1 (by decide +kernel) rfl, gin 25 (by decide +kernel) rfl, gin 224 (by decide +kernel) rfl, by unfold plainY; decide +kernel⟩
theorem mX6_61 : MS RX6 61 yX6_isGood cX6_isGood 1 (some Jvm.ClassFile.FieldType.boolean) 1 := ⟨Or.inl (gin 225 (by decide +kernel) rfl), gin 226 (by decide +kernel) rfl, gin 25 (by decide +kernel) rfl, gin 227 (by decide +kernel) rfl, by unfold plainY; decide +kernel⟩
theorem mX6_65 : MS RX6 65 yX6_isPriceBelow cX6_isPriceBelow 1 (some Jvm.ClassFile.FieldType.boolean) 1 := ⟨Or.inl (gin 228 (by decide +kernel) rfl), gin 229 (by decide +kernel) rfl, gin 25 (by decide +kernel) rfl, gin 230 (by decide +kernel) rfl, by unfold plainY; decide +kernel⟩
theorem mX6_68 : MV RX6 68 yX3_isFull cX3_isFull 1 (some Jvm.ClassFile.FieldType.boolean) 0 := ⟨Or.inl (gin 231 (by decide +kernel) rfl), gin 232 (by decide +kernel) rfl, gin 233 (by decide +kernel) rfl, gin 30 (by decide +kernel) rfl, gin 234 (by decide +kernel) rfl, by unfold plainY; decide +kernel⟩
theorem mX6_74 : MI RX6 74 yX2_init cX2_init 6 5 := ⟨Or.inl (gin 237 (by decide +kernel) rfl), rfl, gin 238 (by decide +kernel) rfl, gin 33 (by decide +kernel) rfl, gin 239 (by decide +kernel) rfl, by unfold plainY; decide +kernel⟩
theorem mX6_77 : MV RX6 77 yX3_addLane cX3_addLane 2 (some Jvm.ClassFile.FieldType.int) 1 := ⟨Or.inl (gin 288 (by decide +kernel) rfl), gin 289 (by decide +kernel) rfl, gin 290 (by decide +kernel) rfl, gin 30 (by decide +kernel) rfl, gin 291 (by decide +kernel) rfl, by unfold plainY; decide +kernel⟩
theorem mX3_39 : MV RX3 39 yX3_isFull cX3_isFull 1 (some Jvm.ClassFile.FieldType.boolean) 0 := ⟨Or.inl (gin 292 (by decide +kernel) rfl), gin 232 (by decide +kernel) rfl, gin 233 (by decide +kernel) rfl, gin 30 (by decide +kernel) rfl, gin 234 (by decide +kernel) rfl, by unfold plainY; decide +kernel⟩
theorem mL_23 : MV RL 23 yX6_size cX6_size 4 (some Jvm.ClassFile.FieldType.int) 2 := ⟨Or.inl (gin 293 (by decide +kernel) rfl), gin 294 (by decide +kernel) rfl, gin 295 (by decide +kernel) rfl, gin 25 (by decide +kernel) rfl, gin 296 (by decide +kernel) rfl, by unfold plainY; decide +kernel⟩
theorem mL_28 : MV RL 28 yX6_price cX6_price 6 (some Jvm.ClassFile.FieldType.int) 3 := ⟨Or.inl (gin 297 (by decide +kernel) rfl), gin 298 (by decide +kernel) rfl, gin 299 (by decide +kernel) rfl, gin 25 (by decide +kernel) rfl, gin 300 (by decide +kernel) rfl, by unfold plainY; decide +kernel⟩
theorem mX6_81 : MV RX6 81 yX6_laneAt cX6_laneAt 4 (some (Jvm.ClassFile.FieldType.object "SlotHouse$Lane")) 2 := ⟨Or.inl (gin 301 (by decide +kernel) rfl), gin 303 (by decide +kernel) rfl, gin 2 (by decide +kernel) rfl, gin 25 (by decide +kernel) rfl, gin 304 (by decide +kernel) rfl, by unfold plainY; decide +kernel⟩
theorem mX6_250 : MV RX6 250 yX3_laneNumbered cX3_laneNumbered 2 (some (Jvm.ClassFile.FieldType.object "SlotHouse$Lane")) 1 := ⟨Or.inl (gin 305 (by decide +kernel) rfl), gin 306 (by decide +kernel) rfl, gin 307 (by decide +kernel) rfl, gin 30 (by decide +kernel) rfl, gin 308 (by decide +kernel) rfl, by unfold plainY; decide +kernel⟩
theorem mL_33 : MV RL 33 yX6_tube cX6_tube 5 (some Jvm.ClassFile.FieldType.int) 3 := ⟨Or.inl (gin 309 (by decide +kernel) rfl), gin 310 (by decide +kernel) rfl, gin 311 (by decide +kernel) rfl, gin 25 (by decide +kernel) rfl, gin 312 (by decide +kernel) rfl, by unfold plainY; decide +kernel⟩
theorem mX6_88 : MS RX6 88 yX6_isWorth cX6_isWorth 1 (some Jvm.ClassFile.FieldType.boolean) 1 := ⟨Or.inl (gin 313 (by decide +kernel) rfl), gin 314 (by decide +kernel) rfl, gin 25 (by decide +kernel) rfl, gin 315 (by decide +kernel) rfl, by unfold plainY; decide +kernel⟩
theorem mX6_100 : MV RX6 100 yX4_addToTube cX4_addToTube 3 (none) 2 := ⟨Or.inl (gin 316 (by decide +kernel) rfl), gin 317 (by decide +kernel) rfl, gin 318 (by decide +kernel) rfl, gin 31 (by decide +kernel) rfl, gin 319 (by decide +kernel) rfl, by unfold plainY; decide +kernel⟩
theorem mL_37 : MV RL 37 yX6_stick cX6_stick 5 (some Jvm.ClassFile.FieldType.int) 3 := ⟨Or.inl (gin 320 (by decide +kernel) rfl), gin 321 (by decide +kernel) rfl, gin 322 (by decide +kernel) rfl, gin 25 (by decide +kernel) rfl, gin 323 (by decide +kernel) rfl, by unfold plainY; decide +kernel⟩
theorem mL_41 : MV RL 41 yX6_shut cX6_shut 5 (some Jvm.ClassFile.FieldType.boolean) 3 := ⟨Or.inl (gin 324 (by decide +kernel) rfl), gin 325 (by decide +kernel) rfl, gin 326 (by decide +kernel) rfl, gin 25 (by decide +kernel) rfl, gin 327 (by decide +kernel) rfl, by unfold plainY; decide +kernel⟩
theorem mL_46 : MV RL 46 yX6_power cX6_power 4 (some Jvm.ClassFile.FieldType.boolean) 2 := ⟨Or.inl (gin 328 (by decide +kernel) rfl), gin 329 (by decide +kernel) rfl, gin 330 (by decide +kernel) rfl, gin 25 (by decide +kernel) rfl, gin 331 (by decide +kernel) rfl, by unfold plainY; decide +kernel⟩
theorem mL_51 : MV RL 51 yX6_fill cX6_fill 6 (some Jvm.ClassFile.FieldType.int) 3 := ⟨Or.inl (gin 332 (by decide +kernel) rfl), gin 333 (by decide +kernel) rfl, gin 334 (by decide +kernel) rfl, gin 25 (by decide +kernel) rfl, gin 335 (by decide +kernel) rfl, by unfold plainY; decide +kernel⟩
theorem mL_55 : MV RL 55 yX6_found cX6_found 7 (some Jvm.ClassFile.FieldType.int) 3 := ⟨Or.inl (gin 336 (by decide +kernel) rfl), gin 337 (by decide +kernel) rfl, gin 338 (by decide +kernel) rfl, gin 25 (by decide +kernel) rfl, gin 339 (by decide +kernel) rfl, by unfold plainY; decide +kernel⟩
theorem mL_59 : MV RL 59 yX6_empty cX6_empty 6 (some Jvm.ClassFile.FieldType.int) 2 := ⟨Or.inl (gin 340 (by decide +kernel) rfl), gin 341 (by decide +kernel) rfl, gin 342 (by decide +kernel) rfl, gin 25 (by decide +kernel) rfl, gin 343 (by decide +kernel) rfl, by unfold plainY; decide +kernel⟩
theorem mL_63 : MV RL 63 yX6_insert cX6_insert 4 (some Jvm.ClassFile.FieldType.int) 2 := ⟨Or.inl (gin 344 (by decide +kernel) rfl), gin 345 (by decide +kernel) rfl, gin 346 (by decide +kernel) rfl, gin 25 (by decide +kernel) rfl, gin 347 (by decide +kernel) rfl, by unfold plainY; decide +kernel⟩
theorem mX6_144 : MV RX6 144 yX4_takeIn cX4_takeIn 2 (none) 1 := ⟨Or.inl (gin 348 (by decide +kernel) rfl), gin 349 (by decide +kernel) rfl, gin 350 (by decide +kernel) rfl, gin 31 (by decide +kernel) rfl, gin 351 (by decide +kernel) rfl, by unfold plainY; decide +kernel⟩
theorem mX6_151 : MS RX6 151 yX6_worthOf cX6_worthOf 3 (some Jvm.ClassFile.FieldType.int) 1 := ⟨Or.inl (gin 352 (by decide +kernel) rfl), gin 353 (by decide +kernel) rfl, gin 25 (by decide +kernel) rfl, gin 354 (by decide +kernel) rfl, by unfold plainY; decide +kernel⟩
theorem mL_67 : MV RL 67 yX6_back cX6_back 3 (some Jvm.ClassFile.FieldType.int) 1 := ⟨Or.inl (gin 355 (by decide +kernel) rfl), gin 356 (by decide +kernel) rfl, gin 357 (by decide +kernel) rfl, gin 25 (by decide +kernel) rfl, gin 358 (by decide +kernel) rfl, by unfold plainY; decide +kernel⟩
theorem mX6_155 : MV RX6 155 yX4_giveBack cX4_giveBack 3 (some Jvm.ClassFile.FieldType.int) 0 := ⟨Or.inl (gin 359 (by decide +kernel) rfl), gin 360 (by decide +kernel) rfl, gin 361 (by decide +kernel) rfl, gin 31 (by decide +kernel) rfl, gin 362 (by decide +kernel) rfl, by unfold plainY; decide +kernel⟩
theorem mX4_40 : MS RX4 40 yX6_worthOf cX6_worthOf 3 (some Jvm.ClassFile.FieldType.int) 1 := ⟨Or.inr ⟨"SlotHouse", nin 363 (by decide +kernel) rfl⟩, gin 353 (by decide +kernel) rfl, gin 25 (by decide +kernel) rfl, gin 354 (by decide +kernel) rfl, by unfold plainY; decide +kernel⟩
theorem mL_72 : MV RL 72 yX6_choose cX6_choose 7 (some Jvm.ClassFile.FieldType.int) 2 := ⟨Or.inl (gin 364 (by decide +kernel) rfl), gin 365 (by decide +kernel) rfl, gin 366 (by decide +kernel) rfl, gin 25 (by decide +kernel) rfl, gin 367 (by decide +kernel) rfl, by unfold plainY; decide +kernel⟩
theorem mX6_159 : MV RX6 159 yX3_sourceOf cX3_sourceOf 5 (some (Jvm.ClassFile.FieldType.object "SlotHouse$Lane")) 1 := ⟨Or.inl (gin 368 (by decide +kernel) rfl), gin 369 (by decide +kernel) rfl, gin 370 (by decide +kernel) rfl, gin 30 (by decide +kernel) rfl, gin 371 (by decide +kernel) rfl, by unfold plainY; decide +kernel⟩
theorem mX3_43 : MV RX3 43 yX3_laneNumbered cX3_laneNumbered 2 (some (Jvm.ClassFile.FieldType.object "SlotHouse$Lane")) 1 := ⟨Or.inl (gin 372 (by decide +kernel) rfl), gin 306 (by decide +kernel) rfl, gin 307 (by decide +kernel) rfl, gin 30 (by decide +kernel) rfl, gin 308 (by decide +kernel) rfl, by unfold plainY; decide +kernel⟩
theorem mX3_47 : MV RX3 47 yX2_isClosed cX2_isClosed 1 (some Jvm.ClassFile.FieldType.boolean) 0 := ⟨Or.inl (gin 373 (by decide +kernel) rfl), gin 374 (by decide +kernel) rfl, gin 375 (by decide +kernel) rfl, gin 33 (by decide +kernel) rfl, gin 376 (by decide +kernel) rfl, by unfold plainY; decide +kernel⟩
theorem mX6_163 : MV RX6 163 yX0_fewest cX0_fewest 6 (some Jvm.ClassFile.FieldType.int) 2 := ⟨Or.inl (gin 377 (by decide +kernel) rfl), gin 378 (by decide +kernel) rfl, gin 379 (by decide +kernel) rfl, gin 27 (by decide +kernel) rfl, gin 380 (by decide +kernel) rfl, by unfold plainY; decide +kernel⟩
theorem mX0_21 : MV RX0 21 yX0_coinsOfWay cX0_coinsOfWay 9 (some Jvm.ClassFile.FieldType.int) 3 := ⟨Or.inl (gin 381 (by decide +kernel) rfl), gin 383 (by decide +kernel) rfl, gin 3 (by decide +kernel) rfl, gin 27 (by decide +kernel) rfl, gin 384 (by decide +kernel) rfl, by unfold plainY; decide +kernel⟩
theorem mX0_39 : MS RX0 39 yX0_mostOf cX0_mostOf 3 (some Jvm.ClassFile.FieldType.int) 3 := ⟨Or.inl (gin 385 (by decide +kernel) rfl), gin 386 (by decide +kernel) rfl, gin 27 (by decide +kernel) rfl, gin 387 (by decide +kernel) rfl, by unfold plainY; decide +kernel⟩
theorem mX0_43 : MS RX0 43 yJ9_min_7cf53 cJ9_min_7cf53 2 (some Jvm.ClassFile.FieldType.int) 2 := ⟨Or.inl (gin 388 (by decide +kernel) rfl), gin 389 (by decide +kernel) rfl, gin 34 (by decide +kernel) rfl, gin 390 (by decide +kernel) rfl, by unfold plainY; decide +kernel⟩
theorem mX6_167 : MV RX6 167 yX2_miss cX2_miss 1 (none) 0 := ⟨Or.inl (gin 394 (by decide +kernel) rfl), gin 395 (by decide +kernel) rfl, gin 396 (by decide +kernel) rfl, gin 33 (by decide +kernel) rfl, gin 397 (by decide +kernel) rfl, by unfold plainY; decide +kernel⟩
theorem mX6_186 : MV RX6 186 yX1_countSale cX1_countSale 3 (none) 2 := ⟨Or.inl (gin 398 (by decide +kernel) rfl), gin 399 (by decide +kernel) rfl, gin 400 (by decide +kernel) rfl, gin 32 (by decide +kernel) rfl, gin 401 (by decide +kernel) rfl, by unfold plainY; decide +kernel⟩
theorem mX6_194 : MV RX6 194 yX4_settle cX4_settle 4 (none) 1 := ⟨Or.inl (gin 402 (by decide +kernel) rfl), gin 403 (by decide +kernel) rfl, gin 404 (by decide +kernel) rfl, gin 31 (by decide +kernel) rfl, gin 405 (by decide +kernel) rfl, by unfold plainY; decide +kernel⟩
theorem mX4_44 : MS RX4 44 yJ9_min_7cf53 cJ9_min_7cf53 2 (some Jvm.ClassFile.FieldType.int) 2 := ⟨Or.inl (gin 406 (by decide +kernel) rfl), gin 389 (by decide +kernel) rfl, gin 34 (by decide +kernel) rfl, gin 390 (by decide +kernel) rfl, by unfold plainY; decide +kernel⟩
theorem mL_76 : MV RL 76 yX6_given cX6_given 2 (some Jvm.ClassFile.FieldType.int) 1 := ⟨Or.inl (gin 408 (by decide +kernel) rfl), gin 409 (by decide +kernel) rfl, gin 410 (by decide +kernel) rfl, gin 25 (by decide +kernel) rfl, gin 411 (by decide +kernel) rfl, by unfold plainY; decide +kernel⟩
theorem mL_80 : MV RL 80 yX6_change cX6_change 4 (some Jvm.ClassFile.FieldType.int) 2 := ⟨Or.inl (gin 412 (by decide +kernel) rfl), gin 413 (by decide +kernel) rfl, gin 414 (by decide +kernel) rfl, gin 25 (by decide +kernel) rfl, gin 415 (by decide +kernel) rfl, by unfold plainY; decide +kernel⟩
theorem mL_84 : MV RL 84 yX6_hours cX6_hours 3 (some Jvm.ClassFile.FieldType.int) 1 := ⟨Or.inl (gin 416 (by decide +kernel) rfl), gin 417 (by decide +kernel) rfl, gin 418 (by decide +kernel) rfl, gin 25 (by decide +kernel) rfl, gin 419 (by decide +kernel) rfl, by unfold plainY; decide +kernel⟩
theorem mX6_204 : MV RX6 204 yX6_passHour cX6_passHour 4 (none) 0 := ⟨Or.inl (gin 420 (by decide +kernel) rfl), gin 422 (by decide +kernel) rfl, gin 4 (by decide +kernel) rfl, gin 25 (by decide +kernel) rfl, gin 423 (by decide +kernel) rfl, by unfold plainY; decide +kernel⟩
theorem mX6_253 : MV RX6 253 yX3_noteThere cX3_noteThere 5 (none) 1 := ⟨Or.inl (gin 424 (by decide +kernel) rfl), gin 425 (by decide +kernel) rfl, gin 426 (by decide +kernel) rfl, gin 30 (by decide +kernel) rfl, gin 427 (by decide +kernel) rfl, by unfold plainY; decide +kernel⟩
theorem mX3_59 : MV RX3 59 yX3_sourceOf cX3_sourceOf 5 (some (Jvm.ClassFile.FieldType.object "SlotHouse$Lane")) 1 := ⟨Or.inl (gin 428 (by decide +kernel) rfl), gin 369 (by decide +kernel) rfl, gin 370 (by decide +kernel) rfl, gin 30 (by decide +kernel) rfl, gin 371 (by decide +kernel) rfl, by unfold plainY; decide +kernel⟩
theorem mX3_62 : MV RX3 62 yX1_countThere cX1_countThere 3 (none) 2 := ⟨Or.inl (gin 429 (by decide +kernel) rfl), gin 430 (by decide +kernel) rfl, gin 431 (by decide +kernel) rfl, gin 32 (by decide +kernel) rfl, gin 432 (by decide +kernel) rfl, by unfold plainY; decide +kernel⟩
theorem mX6_256 : MV RX6 256 yX3_passHourOfPower cX3_passHourOfPower 3 (none) 0 := ⟨Or.inl (gin 433 (by decide +kernel) rfl), gin 434 (by decide +kernel) rfl, gin 435 (by decide +kernel) rfl, gin 30 (by decide +kernel) rfl, gin 436 (by decide +kernel) rfl, by unfold plainY; decide +kernel⟩
theorem mX3_69 : MV RX3 69 yX2_spoilAfter cX2_spoilAfter 2 (none) 1 := ⟨Or.inl (gin 437 (by decide +kernel) rfl), gin 438 (by decide +kernel) rfl, gin 439 (by decide +kernel) rfl, gin 33 (by decide +kernel) rfl, gin 440 (by decide +kernel) rfl, by unfold plainY; decide +kernel⟩
theorem mL_88 : MV RL 88 yX6_counted cX6_counted 6 (some Jvm.ClassFile.FieldType.int) 4 := ⟨Or.inl (gin 441 (by decide +kernel) rfl), gin 442 (by decide +kernel) rfl, gin 443 (by decide +kernel) rfl, gin 25 (by decide +kernel) rfl, gin 444 (by decide +kernel) rfl, by unfold plainY; decide +kernel⟩
theorem mX6_207 : MV RX6 207 yX1_salesAt cX1_salesAt 3 (some Jvm.ClassFile.FieldType.int) 2 := ⟨Or.inl (gin 445 (by decide +kernel) rfl), gin 446 (by decide +kernel) rfl, gin 447 (by decide +kernel) rfl, gin 32 (by decide +kernel) rfl, gin 448 (by decide +kernel) rfl, by unfold plainY; decide +kernel⟩
theorem mX6_211 : MV RX6 211 yX1_hoursThereAt cX1_hoursThereAt 3 (some Jvm.ClassFile.FieldType.int) 2 := ⟨Or.inl (gin 449 (by decide +kernel) rfl), gin 450 (by decide +kernel) rfl, gin 451 (by decide +kernel) rfl, gin 32 (by decide +kernel) rfl, gin 452 (by decide +kernel) rfl, by unfold plainY; decide +kernel⟩
theorem mL_93 : MV RL 93 yX6_foretell cX6_foretell 5 (some Jvm.ClassFile.FieldType.int) 3 := ⟨Or.inl (gin 453 (by decide +kernel) rfl), gin 454 (by decide +kernel) rfl, gin 455 (by decide +kernel) rfl, gin 25 (by decide +kernel) rfl, gin 456 (by decide +kernel) rfl, by unfold plainY; decide +kernel⟩
theorem mX6_214 : MV RX6 214 yX1_foretold cX1_foretold 6 (some Jvm.ClassFile.FieldType.int) 3 := ⟨Or.inl (gin 457 (by decide +kernel) rfl), gin 458 (by decide +kernel) rfl, gin 459 (by decide +kernel) rfl, gin 32 (by decide +kernel) rfl, gin 460 (by decide +kernel) rfl, by unfold plainY; decide +kernel⟩
theorem mX1_18 : MV RX1 18 yX1_rate cX1_rate 4 (some Jvm.ClassFile.FieldType.int) 2 := ⟨Or.inl (gin 461 (by decide +kernel) rfl), gin 463 (by decide +kernel) rfl, gin 5 (by decide +kernel) rfl, gin 32 (by decide +kernel) rfl, gin 464 (by decide +kernel) rfl, by unfold plainY; decide +kernel⟩
theorem mX1_22 : MV RX1 22 yX1_hoursThereAt cX1_hoursThereAt 3 (some Jvm.ClassFile.FieldType.int) 2 := ⟨Or.inl (gin 465 (by decide +kernel) rfl), gin 450 (by decide +kernel) rfl, gin 451 (by decide +kernel) rfl, gin 32 (by decide +kernel) rfl, gin 452 (by decide +kernel) rfl, by unfold plainY; decide +kernel⟩
theorem mX1_25 : MV RX1 25 yX1_salesAt cX1_salesAt 3 (some Jvm.ClassFile.FieldType.int) 2 := ⟨Or.inl (gin 466 (by decide +kernel) rfl), gin 446 (by decide +kernel) rfl, gin 447 (by decide +kernel) rfl, gin 32 (by decide +kernel) rfl, gin 448 (by decide +kernel) rfl, by unfold plainY; decide +kernel⟩
theorem mL_97 : MV RL 97 yX6_when cX6_when 6 (some Jvm.ClassFile.FieldType.int) 2 := ⟨Or.inl (gin 467 (by decide +kernel) rfl), gin 468 (by decide +kernel) rfl, gin 469 (by decide +kernel) rfl, gin 25 (by decide +kernel) rfl, gin 470 (by decide +kernel) rfl, by unfold plainY; decide +kernel⟩
theorem mX6_218 : MV RX6 218 yX3_stockOf cX3_stockOf 5 (some Jvm.ClassFile.FieldType.int) 1 := ⟨Or.inl (gin 471 (by decide +kernel) rfl), gin 472 (by decide +kernel) rfl, gin 473 (by decide +kernel) rfl, gin 30 (by decide +kernel) rfl, gin 474 (by decide +kernel) rfl, by unfold plainY; decide +kernel⟩
theorem mX6_221 : MV RX6 221 yX1_hoursTill cX1_hoursTill 6 (some Jvm.ClassFile.FieldType.int) 3 := ⟨Or.inl (gin 475 (by decide +kernel) rfl), gin 476 (by decide +kernel) rfl, gin 477 (by decide +kernel) rfl, gin 32 (by decide +kernel) rfl, gin 478 (by decide +kernel) rfl, by unfold plainY; decide +kernel⟩
theorem mL_101 : MV RL 101 yX6_load cX6_load 4 (some Jvm.ClassFile.FieldType.int) 2 := ⟨Or.inl (gin 479 (by decide +kernel) rfl), gin 480 (by decide +kernel) rfl, gin 481 (by decide +kernel) rfl, gin 25 (by decide +kernel) rfl, gin 482 (by decide +kernel) rfl, by unfold plainY; decide +kernel⟩
theorem mX6_224 : MV RX6 224 yX5_plan cX5_plan 6 (some Jvm.ClassFile.FieldType.int) 3 := ⟨Or.inl (gin 483 (by decide +kernel) rfl), gin 484 (by decide +kernel) rfl, gin 485 (by decide +kernel) rfl, gin 28 (by decide +kernel) rfl, gin 486 (by decide +kernel) rfl, by unfold plainY; decide +kernel⟩
theorem mX5_26 : MS RX5 26 yJ7_fill_53178 cJ7_fill_53178 4 (none) 2 := ⟨Or.inl (gin 487 (by decide +kernel) rfl), gin 47 (by decide +kernel) rfl, gin 26 (by decide +kernel) rfl, gin 48 (by decide +kernel) rfl, by unfold plainY; decide +kernel⟩
theorem mX5_32 : MV RX5 32 yX3_laneNumbered cX3_laneNumbered 2 (some (Jvm.ClassFile.FieldType.object "SlotHouse$Lane")) 1 := ⟨Or.inl (gin 488 (by decide +kernel) rfl), gin 306 (by decide +kernel) rfl, gin 307 (by decide +kernel) rfl, gin 30 (by decide +kernel) rfl, gin 308 (by decide +kernel) rfl, by unfold plainY; decide +kernel⟩
theorem mX5_41 : MV RX5 41 yX5_fillRow cX5_fillRow 11 (none) 4 := ⟨Or.inl (gin 489 (by decide +kernel) rfl), gin 491 (by decide +kernel) rfl, gin 6 (by decide +kernel) rfl, gin 28 (by decide +kernel) rfl, gin 492 (by decide +kernel) rfl, by unfold plainY; decide +kernel⟩
theorem mX5_49 : MS RX5 49 yX5_spaceIn cX5_spaceIn 1 (some Jvm.ClassFile.FieldType.int) 1 := ⟨Or.inl (gin 493 (by decide +kernel) rfl), gin 494 (by decide +kernel) rfl, gin 28 (by decide +kernel) rfl, gin 495 (by decide +kernel) rfl, by unfold plainY; decide +kernel⟩
theorem mX5_70 : MV RX5 70 yX2_isClosed cX2_isClosed 1 (some Jvm.ClassFile.FieldType.boolean) 0 := ⟨Or.inl (gin 496 (by decide +kernel) rfl), gin 374 (by decide +kernel) rfl, gin 375 (by decide +kernel) rfl, gin 33 (by decide +kernel) rfl, gin 376 (by decide +kernel) rfl, by unfold plainY; decide +kernel⟩
theorem mX5_53 : MS RX5 53 yX5_gainOf cX5_gainOf 2 (some Jvm.ClassFile.FieldType.int) 2 := ⟨Or.inl (gin 497 (by decide +kernel) rfl), gin 498 (by decide +kernel) rfl, gin 28 (by decide +kernel) rfl, gin 499 (by decide +kernel) rfl, by unfold plainY; decide +kernel⟩
theorem mX5_57 : MS RX5 57 yJ9_max_7cf53 cJ9_max_7cf53 2 (some Jvm.ClassFile.FieldType.int) 2 := ⟨Or.inl (gin 500 (by decide +kernel) rfl), gin 501 (by decide +kernel) rfl, gin 34 (by decide +kernel) rfl, gin 502 (by decide +kernel) rfl, by unfold plainY; decide +kernel⟩
theorem mX5_45 : MV RX5 45 yX5_takePieces cX5_takePieces 8 (some Jvm.ClassFile.FieldType.int) 3 := ⟨Or.inl (gin 503 (by decide +kernel) rfl), gin 505 (by decide +kernel) rfl, gin 7 (by decide +kernel) rfl, gin 28 (by decide +kernel) rfl, gin 506 (by decide +kernel) rfl, by unfold plainY; decide +kernel⟩
theorem mX5_63 : MV RX5 63 yX5_mostAtBest cX5_mostAtBest 9 (some Jvm.ClassFile.FieldType.int) 4 := ⟨Or.inl (gin 507 (by decide +kernel) rfl), gin 509 (by decide +kernel) rfl, gin 8 (by decide +kernel) rfl, gin 28 (by decide +kernel) rfl, gin 510 (by decide +kernel) rfl, by unfold plainY; decide +kernel⟩
theorem mL_105 : MV RL 105 yX6_loaded cX6_loaded 2 (some Jvm.ClassFile.FieldType.int) 1 := ⟨Or.inl (gin 511 (by decide +kernel) rfl), gin 512 (by decide +kernel) rfl, gin 513 (by decide +kernel) rfl, gin 25 (by decide +kernel) rfl, gin 514 (by decide +kernel) rfl, by unfold plainY; decide +kernel⟩
theorem mX6_228 : MV RX6 228 yX5_piecesFor cX5_piecesFor 2 (some Jvm.ClassFile.FieldType.int) 1 := ⟨Or.inl (gin 515 (by decide +kernel) rfl), gin 516 (by decide +kernel) rfl, gin 517 (by decide +kernel) rfl, gin 28 (by decide +kernel) rfl, gin 518 (by decide +kernel) rfl, by unfold plainY; decide +kernel⟩
theorem mL_109 : MV RL 109 yX6_laneOf cX6_laneOf 6 (some Jvm.ClassFile.FieldType.int) 3 := ⟨Or.inl (gin 519 (by decide +kernel) rfl), gin 520 (by decide +kernel) rfl, gin 521 (by decide +kernel) rfl, gin 25 (by decide +kernel) rfl, gin 522 (by decide +kernel) rfl, by unfold plainY; decide +kernel⟩
theorem mL_113 : MV RL 113 yX6_machineOf cX6_machineOf 4 (some Jvm.ClassFile.FieldType.int) 2 := ⟨Or.inl (gin 523 (by decide +kernel) rfl), gin 524 (by decide +kernel) rfl, gin 525 (by decide +kernel) rfl, gin 25 (by decide +kernel) rfl, gin 526 (by decide +kernel) rfl, by unfold plainY; decide +kernel⟩
theorem mL_117 : MV RL 117 yX6_tubeOf cX6_tubeOf 4 (some Jvm.ClassFile.FieldType.int) 2 := ⟨Or.inl (gin 528 (by decide +kernel) rfl), gin 529 (by decide +kernel) rfl, gin 530 (by decide +kernel) rfl, gin 25 (by decide +kernel) rfl, gin 531 (by decide +kernel) rfl, by unfold plainY; decide +kernel⟩
theorem mL_121 : MV RL 121 yX6_collect cX6_collect 3 (some Jvm.ClassFile.FieldType.int) 1 := ⟨Or.inl (gin 532 (by decide +kernel) rfl), gin 533 (by decide +kernel) rfl, gin 534 (by decide +kernel) rfl, gin 25 (by decide +kernel) rfl, gin 535 (by decide +kernel) rfl, by unfold plainY; decide +kernel⟩
theorem mX6_238 : MV RX6 238 yX4_emptyBox cX4_emptyBox 3 (some Jvm.ClassFile.FieldType.int) 0 := ⟨Or.inl (gin 536 (by decide +kernel) rfl), gin 537 (by decide +kernel) rfl, gin 538 (by decide +kernel) rfl, gin 31 (by decide +kernel) rfl, gin 539 (by decide +kernel) rfl, by unfold plainY; decide +kernel⟩
theorem mL_125 : MV RL 125 yX6_check cX6_check 3 (some Jvm.ClassFile.FieldType.boolean) 1 := ⟨Or.inl (gin 540 (by decide +kernel) rfl), gin 541 (by decide +kernel) rfl, gin 542 (by decide +kernel) rfl, gin 25 (by decide +kernel) rfl, gin 543 (by decide +kernel) rfl, by unfold plainY; decide +kernel⟩
theorem mX6_241 : MV RX6 241 yX3_goodsAgree cX3_goodsAgree 4 (some Jvm.ClassFile.FieldType.boolean) 0 := ⟨Or.inl (gin 544 (by decide +kernel) rfl), gin 545 (by decide +kernel) rfl, gin 546 (by decide +kernel) rfl, gin 30 (by decide +kernel) rfl, gin 547 (by decide +kernel) rfl, by unfold plainY; decide +kernel⟩
theorem mX6_244 : MV RX6 244 yX4_coinsAgree cX4_coinsAgree 3 (some Jvm.ClassFile.FieldType.boolean) 0 := ⟨Or.inl (gin 548 (by decide +kernel) rfl), gin 549 (by decide +kernel) rfl, gin 550 (by decide +kernel) rfl, gin 31 (by decide +kernel) rfl, gin 551 (by decide +kernel) rfl, by unfold plainY; decide +kernel⟩
theorem mL_130 : MV RL 130 yX6_count cX6_count 2 (some Jvm.ClassFile.FieldType.int) 1 := ⟨Or.inl (gin 552 (by decide +kernel) rfl), gin 553 (by decide +kernel) rfl, gin 554 (by decide +kernel) rfl, gin 25 (by decide +kernel) rfl, gin 555 (by decide +kernel) rfl, by unfold plainY; decide +kernel⟩
theorem mX6_247 : MV RX6 247 yX6_soldOfAll cX6_soldOfAll 4 (some Jvm.ClassFile.FieldType.int) 0 := ⟨Or.inl (gin 556 (by decide +kernel) rfl), gin 558 (by decide +kernel) rfl, gin 9 (by decide +kernel) rfl, gin 25 (by decide +kernel) rfl, gin 559 (by decide +kernel) rfl, by unfold plainY; decide +kernel⟩
theorem mL_12 : MI RL 12 yX7_init cX7_init 1 0 := ⟨Or.inl (gin 562 (by decide +kernel) rfl), rfl, gin 563 (by decide +kernel) rfl, gin 29 (by decide +kernel) rfl, gin 564 (by decide +kernel) rfl, by unfold plainY; decide +kernel⟩
theorem mL_17 : MV RL 17 yX7_machine cX7_machine 1 (some Jvm.ClassFile.FieldType.int) 0 := ⟨Or.inl (gin 670 (by decide +kernel) rfl), gin 671 (by decide +kernel) rfl, gin 672 (by decide +kernel) rfl, gin 29 (by decide +kernel) rfl, gin 673 (by decide +kernel) rfl, by unfold plainY; decide +kernel⟩
theorem mX7_116 : MV RX7 116 yX7_refuse cX7_refuse 2 (some Jvm.ClassFile.FieldType.int) 1 := ⟨Or.inl (gin 674 (by decide +kernel) rfl), gin 676 (by decide +kernel) rfl, gin 10 (by decide +kernel) rfl, gin 29 (by decide +kernel) rfl, gin 677 (by decide +kernel) rfl, by unfold plainY; decide +kernel⟩
theorem mL_22 : MV RL 22 yX7_lane cX7_lane 8 (some Jvm.ClassFile.FieldType.int) 6 := ⟨Or.inl (gin 678 (by decide +kernel) rfl), gin 679 (by decide +kernel) rfl, gin 680 (by decide +kernel) rfl, gin 29 (by decide +kernel) rfl, gin 681 (by decide +kernel) rfl, by unfold plainY; decide +kernel⟩
theorem mX7_112 : MV RX7 112 yX7_isMachine cX7_isMachine 2 (some Jvm.ClassFile.FieldType.boolean) 1 := ⟨Or.inl (gin 682 (by decide +kernel) rfl), gin 684 (by decide +kernel) rfl, gin 11 (by decide +kernel) rfl, gin 29 (by decide +kernel) rfl, gin 685 (by decide +kernel) rfl, by unfold plainY; decide +kernel⟩
theorem mX7_108 : MS RX7 108 yX7_in cX7_in 3 (some Jvm.ClassFile.FieldType.boolean) 3 := ⟨Or.inl (gin 686 (by decide +kernel) rfl), gin 687 (by decide +kernel) rfl, gin 29 (by decide +kernel) rfl, gin 688 (by decide +kernel) rfl, by unfold plainY; decide +kernel⟩
theorem mX7_120 : MS RX7 120 yX7_isBelow cX7_isBelow 1 (some Jvm.ClassFile.FieldType.boolean) 1 := ⟨Or.inl (gin 689 (by decide +kernel) rfl), gin 690 (by decide +kernel) rfl, gin 29 (by decide +kernel) rfl, gin 691 (by decide +kernel) rfl, by unfold plainY; decide +kernel⟩
theorem mL_27 : MV RL 27 yX7_size cX7_size 4 (some Jvm.ClassFile.FieldType.int) 2 := ⟨Or.inl (gin 692 (by decide +kernel) rfl), gin 693 (by decide +kernel) rfl, gin 694 (by decide +kernel) rfl, gin 29 (by decide +kernel) rfl, gin 695 (by decide +kernel) rfl, by unfold plainY; decide +kernel⟩
theorem mL_32 : MV RL 32 yX7_price cX7_price 5 (some Jvm.ClassFile.FieldType.int) 3 := ⟨Or.inl (gin 696 (by decide +kernel) rfl), gin 697 (by decide +kernel) rfl, gin 698 (by decide +kernel) rfl, gin 29 (by decide +kernel) rfl, gin 699 (by decide +kernel) rfl, by unfold plainY; decide +kernel⟩
theorem mX7_123 : MV RX7 123 yX7_isLane cX7_isLane 3 (some Jvm.ClassFile.FieldType.boolean) 2 := ⟨Or.inl (gin 700 (by decide +kernel) rfl), gin 702 (by decide +kernel) rfl, gin 12 (by decide +kernel) rfl, gin 29 (by decide +kernel) rfl, gin 703 (by decide +kernel) rfl, by unfold plainY; decide +kernel⟩
theorem mL_36 : MV RL 36 yX7_tube cX7_tube 4 (some Jvm.ClassFile.FieldType.int) 3 := ⟨Or.inl (gin 704 (by decide +kernel) rfl), gin 705 (by decide +kernel) rfl, gin 706 (by decide +kernel) rfl, gin 29 (by decide +kernel) rfl, gin 707 (by decide +kernel) rfl, by unfold plainY; decide +kernel⟩
theorem mL_40 : MV RL 40 yX7_stick cX7_stick 4 (some Jvm.ClassFile.FieldType.int) 3 := ⟨Or.inl (gin 708 (by decide +kernel) rfl), gin 709 (by decide +kernel) rfl, gin 710 (by decide +kernel) rfl, gin 29 (by decide +kernel) rfl, gin 711 (by decide +kernel) rfl, by unfold plainY; decide +kernel⟩
theorem mL_45 : MV RL 45 yX7_shut cX7_shut 4 (some Jvm.ClassFile.FieldType.boolean) 3 := ⟨Or.inl (gin 712 (by decide +kernel) rfl), gin 713 (by decide +kernel) rfl, gin 714 (by decide +kernel) rfl, gin 29 (by decide +kernel) rfl, gin 715 (by decide +kernel) rfl, by unfold plainY; decide +kernel⟩
theorem mL_50 : MV RL 50 yX7_power cX7_power 3 (some Jvm.ClassFile.FieldType.boolean) 2 := ⟨Or.inl (gin 716 (by decide +kernel) rfl), gin 717 (by decide +kernel) rfl, gin 718 (by decide +kernel) rfl, gin 29 (by decide +kernel) rfl, gin 719 (by decide +kernel) rfl, by unfold plainY; decide +kernel⟩
theorem mL_54 : MV RL 54 yX7_fill cX7_fill 5 (some Jvm.ClassFile.FieldType.int) 3 := ⟨Or.inl (gin 720 (by decide +kernel) rfl), gin 721 (by decide +kernel) rfl, gin 722 (by decide +kernel) rfl, gin 29 (by decide +kernel) rfl, gin 723 (by decide +kernel) rfl, by unfold plainY; decide +kernel⟩
theorem mL_58 : MV RL 58 yX7_found cX7_found 6 (some Jvm.ClassFile.FieldType.int) 3 := ⟨Or.inl (gin 724 (by decide +kernel) rfl), gin 725 (by decide +kernel) rfl, gin 726 (by decide +kernel) rfl, gin 29 (by decide +kernel) rfl, gin 727 (by decide +kernel) rfl, by unfold plainY; decide +kernel⟩
theorem mL_62 : MV RL 62 yX7_empty cX7_empty 5 (some Jvm.ClassFile.FieldType.int) 2 := ⟨Or.inl (gin 728 (by decide +kernel) rfl), gin 729 (by decide +kernel) rfl, gin 730 (by decide +kernel) rfl, gin 29 (by decide +kernel) rfl, gin 731 (by decide +kernel) rfl, by unfold plainY; decide +kernel⟩
theorem mL_66 : MV RL 66 yX7_insert cX7_insert 3 (some Jvm.ClassFile.FieldType.int) 2 := ⟨Or.inl (gin 732 (by decide +kernel) rfl), gin 733 (by decide +kernel) rfl, gin 734 (by decide +kernel) rfl, gin 29 (by decide +kernel) rfl, gin 735 (by decide +kernel) rfl, by unfold plainY; decide +kernel⟩
theorem mX7_133 : MV RX7 133 yX7_coinsIn cX7_coinsIn 4 (some Jvm.ClassFile.FieldType.int) 1 := ⟨Or.inl (gin 736 (by decide +kernel) rfl), gin 738 (by decide +kernel) rfl, gin 13 (by decide +kernel) rfl, gin 29 (by decide +kernel) rfl, gin 739 (by decide +kernel) rfl, by unfold plainY; decide +kernel⟩
theorem mX7_136 : MV RX7 136 yX7_worthIn cX7_worthIn 5 (some Jvm.ClassFile.FieldType.int) 2 := ⟨Or.inl (gin 740 (by decide +kernel) rfl), gin 742 (by decide +kernel) rfl, gin 14 (by decide +kernel) rfl, gin 29 (by decide +kernel) rfl, gin 743 (by decide +kernel) rfl, by unfold plainY; decide +kernel⟩
theorem mX7_130 : MS RX7 130 yX7_worthOf cX7_worthOf 1 (some Jvm.ClassFile.FieldType.int) 1 := ⟨Or.inl (gin 744 (by decide +kernel) rfl), gin 745 (by decide +kernel) rfl, gin 29 (by decide +kernel) rfl, gin 746 (by decide +kernel) rfl, by unfold plainY; decide +kernel⟩
theorem mL_71 : MV RL 71 yX7_back cX7_back 2 (some Jvm.ClassFile.FieldType.int) 1 := ⟨Or.inl (gin 747 (by decide +kernel) rfl), gin 748 (by decide +kernel) rfl, gin 749 (by decide +kernel) rfl, gin 29 (by decide +kernel) rfl, gin 750 (by decide +kernel) rfl, by unfold plainY; decide +kernel⟩
theorem mX7_140 : MV RX7 140 yX7_allBack cX7_allBack 4 (some Jvm.ClassFile.FieldType.int) 1 := ⟨Or.inl (gin 751 (by decide +kernel) rfl), gin 753 (by decide +kernel) rfl, gin 15 (by decide +kernel) rfl, gin 29 (by decide +kernel) rfl, gin 754 (by decide +kernel) rfl, by unfold plainY; decide +kernel⟩
theorem mL_83 : MV RL 83 yX7_change cX7_change 4 (some Jvm.ClassFile.FieldType.int) 2 := ⟨Or.inl (gin 755 (by decide +kernel) rfl), gin 756 (by decide +kernel) rfl, gin 757 (by decide +kernel) rfl, gin 29 (by decide +kernel) rfl, gin 758 (by decide +kernel) rfl, by unfold plainY; decide +kernel⟩
theorem mX7_143 : MV RX7 143 yX7_findChange cX7_findChange 11 (some Jvm.ClassFile.FieldType.int) 2 := ⟨Or.inl (gin 759 (by decide +kernel) rfl), gin 761 (by decide +kernel) rfl, gin 16 (by decide +kernel) rfl, gin 29 (by decide +kernel) rfl, gin 762 (by decide +kernel) rfl, by unfold plainY; decide +kernel⟩
theorem mL_75 : MV RL 75 yX7_choose cX7_choose 9 (some Jvm.ClassFile.FieldType.int) 2 := ⟨Or.inl (gin 763 (by decide +kernel) rfl), gin 764 (by decide +kernel) rfl, gin 765 (by decide +kernel) rfl, gin 29 (by decide +kernel) rfl, gin 766 (by decide +kernel) rfl, by unfold plainY; decide +kernel⟩
theorem mX7_147 : MV RX7 147 yX7_sells cX7_sells 4 (some Jvm.ClassFile.FieldType.boolean) 2 := ⟨Or.inl (gin 767 (by decide +kernel) rfl), gin 769 (by decide +kernel) rfl, gin 17 (by decide +kernel) rfl, gin 29 (by decide +kernel) rfl, gin 770 (by decide +kernel) rfl, by unfold plainY; decide +kernel⟩
theorem mX7_127 : MV RX7 127 yX7_nextServes cX7_nextServes 4 (some Jvm.ClassFile.FieldType.boolean) 2 := ⟨Or.inl (gin 771 (by decide +kernel) rfl), gin 773 (by decide +kernel) rfl, gin 18 (by decide +kernel) rfl, gin 29 (by decide +kernel) rfl, gin 774 (by decide +kernel) rfl, by unfold plainY; decide +kernel⟩
theorem mL_79 : MV RL 79 yX7_given cX7_given 2 (some Jvm.ClassFile.FieldType.int) 1 := ⟨Or.inl (gin 775 (by decide +kernel) rfl), gin 776 (by decide +kernel) rfl, gin 777 (by decide +kernel) rfl, gin 29 (by decide +kernel) rfl, gin 778 (by decide +kernel) rfl, by unfold plainY; decide +kernel⟩
theorem mL_87 : MV RL 87 yX7_hours cX7_hours 3 (some Jvm.ClassFile.FieldType.int) 1 := ⟨Or.inl (gin 779 (by decide +kernel) rfl), gin 780 (by decide +kernel) rfl, gin 781 (by decide +kernel) rfl, gin 29 (by decide +kernel) rfl, gin 782 (by decide +kernel) rfl, by unfold plainY; decide +kernel⟩
theorem mX7_156 : MV RX7 156 yX7_passOne cX7_passOne 5 (none) 0 := ⟨Or.inl (gin 783 (by decide +kernel) rfl), gin 785 (by decide +kernel) rfl, gin 19 (by decide +kernel) rfl, gin 29 (by decide +kernel) rfl, gin 786 (by decide +kernel) rfl, by unfold plainY; decide +kernel⟩
theorem mL_92 : MV RL 92 yX7_counted cX7_counted 6 (some Jvm.ClassFile.FieldType.int) 4 := ⟨Or.inl (gin 787 (by decide +kernel) rfl), gin 788 (by decide +kernel) rfl, gin 789 (by decide +kernel) rfl, gin 29 (by decide +kernel) rfl, gin 790 (by decide +kernel) rfl, by unfold plainY; decide +kernel⟩
theorem mL_96 : MV RL 96 yX7_foretell cX7_foretell 6 (some Jvm.ClassFile.FieldType.int) 3 := ⟨Or.inl (gin 791 (by decide +kernel) rfl), gin 792 (by decide +kernel) rfl, gin 793 (by decide +kernel) rfl, gin 29 (by decide +kernel) rfl, gin 794 (by decide +kernel) rfl, by unfold plainY; decide +kernel⟩
theorem mX7_159 : MV RX7 159 yX7_rate cX7_rate 5 (some Jvm.ClassFile.FieldType.int) 3 := ⟨Or.inl (gin 795 (by decide +kernel) rfl), gin 797 (by decide +kernel) rfl, gin 20 (by decide +kernel) rfl, gin 29 (by decide +kernel) rfl, gin 798 (by decide +kernel) rfl, by unfold plainY; decide +kernel⟩
theorem mL_100 : MV RL 100 yX7_when cX7_when 7 (some Jvm.ClassFile.FieldType.int) 2 := ⟨Or.inl (gin 799 (by decide +kernel) rfl), gin 800 (by decide +kernel) rfl, gin 801 (by decide +kernel) rfl, gin 29 (by decide +kernel) rfl, gin 802 (by decide +kernel) rfl, by unfold plainY; decide +kernel⟩
theorem mL_104 : MV RL 104 yX7_load cX7_load 8 (some Jvm.ClassFile.FieldType.int) 2 := ⟨Or.inl (gin 803 (by decide +kernel) rfl), gin 804 (by decide +kernel) rfl, gin 805 (by decide +kernel) rfl, gin 29 (by decide +kernel) rfl, gin 806 (by decide +kernel) rfl, by unfold plainY; decide +kernel⟩
theorem mX7_163 : MV RX7 163 yX7_mayTake cX7_mayTake 4 (some Jvm.ClassFile.FieldType.int) 2 := ⟨Or.inl (gin 807 (by decide +kernel) rfl), gin 809 (by decide +kernel) rfl, gin 21 (by decide +kernel) rfl, gin 29 (by decide +kernel) rfl, gin 810 (by decide +kernel) rfl, by unfold plainY; decide +kernel⟩
theorem mX7_166 : MV RX7 166 yX7_sizeAt cX7_sizeAt 3 (some Jvm.ClassFile.FieldType.int) 2 := ⟨Or.inl (gin 811 (by decide +kernel) rfl), gin 813 (by decide +kernel) rfl, gin 22 (by decide +kernel) rfl, gin 29 (by decide +kernel) rfl, gin 814 (by decide +kernel) rfl, by unfold plainY; decide +kernel⟩
theorem mX7_169 : MV RX7 169 yX7_worthAt cX7_worthAt 4 (some Jvm.ClassFile.FieldType.int) 3 := ⟨Or.inl (gin 815 (by decide +kernel) rfl), gin 817 (by decide +kernel) rfl, gin 23 (by decide +kernel) rfl, gin 29 (by decide +kernel) rfl, gin 818 (by decide +kernel) rfl, by unfold plainY; decide +kernel⟩
theorem mL_108 : MV RL 108 yX7_loaded cX7_loaded 2 (some Jvm.ClassFile.FieldType.int) 1 := ⟨Or.inl (gin 819 (by decide +kernel) rfl), gin 820 (by decide +kernel) rfl, gin 821 (by decide +kernel) rfl, gin 29 (by decide +kernel) rfl, gin 822 (by decide +kernel) rfl, by unfold plainY; decide +kernel⟩
theorem mL_112 : MV RL 112 yX7_laneOf cX7_laneOf 5 (some Jvm.ClassFile.FieldType.int) 3 := ⟨Or.inl (gin 823 (by decide +kernel) rfl), gin 824 (by decide +kernel) rfl, gin 825 (by decide +kernel) rfl, gin 29 (by decide +kernel) rfl, gin 826 (by decide +kernel) rfl, by unfold plainY; decide +kernel⟩
theorem mL_116 : MV RL 116 yX7_machineOf cX7_machineOf 3 (some Jvm.ClassFile.FieldType.int) 2 := ⟨Or.inl (gin 827 (by decide +kernel) rfl), gin 828 (by decide +kernel) rfl, gin 829 (by decide +kernel) rfl, gin 29 (by decide +kernel) rfl, gin 830 (by decide +kernel) rfl, by unfold plainY; decide +kernel⟩
theorem mL_120 : MV RL 120 yX7_tubeOf cX7_tubeOf 3 (some Jvm.ClassFile.FieldType.int) 2 := ⟨Or.inl (gin 832 (by decide +kernel) rfl), gin 833 (by decide +kernel) rfl, gin 834 (by decide +kernel) rfl, gin 29 (by decide +kernel) rfl, gin 835 (by decide +kernel) rfl, by unfold plainY; decide +kernel⟩
theorem mL_124 : MV RL 124 yX7_collect cX7_collect 4 (some Jvm.ClassFile.FieldType.int) 1 := ⟨Or.inl (gin 836 (by decide +kernel) rfl), gin 837 (by decide +kernel) rfl, gin 838 (by decide +kernel) rfl, gin 29 (by decide +kernel) rfl, gin 839 (by decide +kernel) rfl, by unfold plainY; decide +kernel⟩
theorem mL_129 : MV RL 129 yX7_check cX7_check 5 (some Jvm.ClassFile.FieldType.boolean) 1 := ⟨Or.inl (gin 840 (by decide +kernel) rfl), gin 841 (by decide +kernel) rfl, gin 842 (by decide +kernel) rfl, gin 29 (by decide +kernel) rfl, gin 843 (by decide +kernel) rfl, by unfold plainY; decide +kernel⟩
theorem mL_133 : MV RL 133 yX7_count cX7_count 4 (some Jvm.ClassFile.FieldType.int) 1 := ⟨Or.inl (gin 844 (by decide +kernel) rfl), gin 845 (by decide +kernel) rfl, gin 846 (by decide +kernel) rfl, gin 29 (by decide +kernel) rfl, gin 847 (by decide +kernel) rfl, by unfold plainY; decide +kernel⟩
theorem kL_7 : Cond.classLink RL 7 RX6 ∈ gdW := gin 36 (by decide +kernel) rfl
theorem nL_7 : ND RL 7 6 := ⟨RX6, TX6, 9, rfl, rfl, kL_7, gin 37 (by decide +kernel) rfl, gin 25 (by decide +kernel) rfl, uwX6, tyX6_ok, by decide +kernel⟩
theorem obX6_1 : Cond.methodLink RX6 1 objectInit ∈ gdW := gin 41 (by decide +kernel) rfl
theorem kX6_9 : Cond.classLink RX6 9 RX3 ∈ gdW := gin 44 (by decide +kernel) rfl
theorem nX6_9 : ND RX6 9 3 := ⟨RX3, TX3, 10, rfl, rfl, kX6_9, gin 118 (by decide +kernel) rfl, gin 30 (by decide +kernel) rfl, uwX3, tyX3_ok, by decide +kernel⟩
theorem kX6_34 : Cond.classLink RX6 34 RX0 ∈ gdW := gin 51 (by decide +kernel) rfl
theorem nX6_34 : ND RX6 34 0 := ⟨RX0, TX0, 2, rfl, rfl, kX6_34, gin 52 (by decide +kernel) rfl, gin 27 (by decide +kernel) rfl, uwX0, tyX0_ok, by decide +kernel⟩
theorem obX0_3 : Cond.methodLink RX0 3 objectInit ∈ gdW := gin 56 (by decide +kernel) rfl
theorem ac_int : Cond.arrayClass .int ∈ gdW := gin 66 (by decide +kernel) rfl
theorem kX6_41 : Cond.classLink RX6 41 RX5 ∈ gdW := gin 67 (by decide +kernel) rfl
theorem nX6_41 : ND RX6 41 5 := ⟨RX5, TX5, 2, rfl, rfl, kX6_41, gin 68 (by decide +kernel) rfl, gin 28 (by decide +kernel) rfl, uwX5, tyX5_ok, by decide +kernel⟩
theorem obX5_3 : Cond.methodLink RX5 3 objectInit ∈ gdW := gin 72 (by decide +kernel) rfl
theorem kX5_9 : Cond.classLink RX5 9 "[[I" ∈ gdW := gin 73 (by decide +kernel) rfl
theorem obX3_3 : Cond.methodLink RX3 3 objectInit ∈ gdW := gin 122 (by decide +kernel) rfl
theorem kX3_9 : Cond.classLink RX3 9 RX2 ∈ gdW := gin 123 (by decide +kernel) rfl
theorem nX3_9 : ND RX3 9 2 := ⟨RX2, TX2, 10, rfl, rfl, kX3_9, gin 236 (by decide +kernel) rfl, gin 33 (by decide +kernel) rfl, uwX2, tyX2_ok, by decide +kernel⟩
theorem kX3_17 : Cond.classLink RX3 17 RX4 ∈ gdW := gin 125 (by decide +kernel) rfl
theorem nX3_17 : ND RX3 17 4 := ⟨RX4, TX4, 8, rfl, rfl, kX3_17, gin 126 (by decide +kernel) rfl, gin 31 (by decide +kernel) rfl, uwX4, tyX4_ok, by decide +kernel⟩
theorem obX4_3 : Cond.methodLink RX4 3 objectInit ∈ gdW := gin 130 (by decide +kernel) rfl
theorem kX3_24 : Cond.classLink RX3 24 RX1 ∈ gdW := gin 163 (by decide +kernel) rfl
theorem nX3_24 : ND RX3 24 1 := ⟨RX1, TX1, 2, rfl, rfl, kX3_24, gin 164 (by decide +kernel) rfl, gin 32 (by decide +kernel) rfl, uwX1, tyX1_ok, by decide +kernel⟩
theorem obX1_3 : Cond.methodLink RX1 3 objectInit ∈ gdW := gin 168 (by decide +kernel) rfl
theorem kX6_72 : Cond.classLink RX6 72 RX2 ∈ gdW := gin 235 (by decide +kernel) rfl
theorem nX6_72 : ND RX6 72 2 := ⟨RX2, TX2, 10, rfl, rfl, kX6_72, gin 236 (by decide +kernel) rfl, gin 33 (by decide +kernel) rfl, uwX2, tyX2_ok, by decide +kernel⟩
theorem obX2_3 : Cond.methodLink RX2 3 objectInit ∈ gdW := gin 240 (by decide +kernel) rfl
theorem cpX0_25 : Cond.methodLink RX0 25 arraycopyName ∈ gdW := gin 391 (by decide +kernel) rfl
theorem cpX6_198 : Cond.methodLink RX6 198 arraycopyName ∈ gdW := gin 407 (by decide +kernel) rfl
theorem ctX6_231 : Cond.constant RX6 231 1000000000 ∈ gdW := gin 527 (by decide +kernel) rfl
theorem kL_10 : Cond.classLink RL 10 RX7 ∈ gdW := gin 560 (by decide +kernel) rfl
theorem nL_10 : ND RL 10 7 := ⟨RX7, TX7, 34, rfl, rfl, kL_10, gin 561 (by decide +kernel) rfl, gin 29 (by decide +kernel) rfl, uwX7, tyX7_ok, by decide +kernel⟩
theorem obX7_1 : Cond.methodLink RX7 1 objectInit ∈ gdW := gin 565 (by decide +kernel) rfl
theorem ac_boolean : Cond.arrayClass .boolean ∈ gdW := gin 669 (by decide +kernel) rfl
theorem ctX7_172 : Cond.constant RX7 172 1000000000 ∈ gdW := gin 831 (by decide +kernel) rfl
theorem ob_i : Cond.instanceMethod objectInit ∈ gdW := gin 42 (by decide +kernel) rfl
theorem ob_c : Cond.code objectInit ⟨#[0xb1]⟩ 1 none ∈ gdW := gin 43 (by decide +kernel) rfl
theorem cp_n : Cond.native arraycopyName ∈ gdW := gin 393 (by decide +kernel) rfl
theorem cp_s : Cond.static arraycopyName ∈ gdW := gin 392 (by decide +kernel) rfl
theorem cp_i : Cond.initialized "java/lang/System" ∈ gdW := gin 35 (by decide +kernel) rfl
