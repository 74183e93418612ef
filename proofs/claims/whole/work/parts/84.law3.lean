set_option maxHeartbeats 1000000 in
set_option maxRecDepth 100000 in
theorem lw_op11 {X : Xt} {Y : Yt} {b N : Nat} {xs : Nat → Int32} (C : Cx X Y cL_law 4 RL) (D : LwX X Y b N xs) {S : Mm} {mc : Nat} {lc : Nat → Nat} (h : RR S S mc lc) {k cells slots : Nat} (hk : 7 * k + 7 ≤ N) (hc : cells + 13 ≤ 600000) (hs : slots + 838 ≤ 7302250) (K : ∀ S' mc' lc', RR S' S' mc' lc' → G X Y (cells + 13) (slots + 838) S' 1168 (lwL k) []) : G X Y cells slots S 637 (lwL k) [] := by
  obtain ⟨v, S1, S2, mcx, msx, frx, mc1, lc1, hm, hms, hf, hl, x, m, hr⟩ := o_insert X.2.1 Y.1 Y.2.1 Y.2.2.1 h (xs (7 * k + 1)) (xs (7 * k + 2))
  refine g_aload_n (pc := 637) C dL_law_637 rfl ?_
  refine g_aload_n (pc := 638) C dL_law_638 rfl ?_
  refine g_iload_n (pc := 639) C dL_law_639 rfl ?_
  refine g_iconst (pc := 640) C 1 dL_law_640 (by decide) ?_
  refine g_iadd (pc := 641) C dL_law_641 ?_
  refine g_eqi (nI (7 * k + 1)) (nI_add (7 * k) 1) ?_
  refine g_sldN (pc := 642) C D (i := 7 * k + 1) (by omega) dL_law_642 ?_
  refine g_aload_n (pc := 643) C dL_law_643 rfl ?_
  refine g_iload_n (pc := 644) C dL_law_644 rfl ?_
  refine g_iconst (pc := 645) C 2 dL_law_645 (by decide) ?_
  refine g_iadd (pc := 646) C dL_law_646 ?_
  refine g_eqi (nI (7 * k + 2)) (nI_add (7 * k) 2) ?_
  refine g_sldN (pc := 647) C D (i := 7 * k + 2) (by omega) dL_law_647 ?_
  refine g_callVf (pc := 648) (st := []) C mL_63 x rfl rfl rfl rfl (h.ix.1.1 0 (by decide)) (by rw [D.1]; decide) (by rw [D.1]; show cells + mcx ≤ 600000 ∧ slots + msx ≤ 7302250; omega) (by decide) dL_law_648 (fun q hq => by rw [D.2.1]; exact decide_eq_true (by rcases hf q hq with z | z <;> omega)) (lw_okL hf k) rfl (fun rr SS hP => ?_)
  obtain ⟨rfl, rfl⟩ := hP
  refine g_aload_n (pc := 651) C dL_law_651 rfl ?_
  refine g_aload_n (pc := 652) C dL_law_652 rfl ?_
  refine g_iload_n (pc := 653) C dL_law_653 rfl ?_
  refine g_iconst (pc := 654) C 1 dL_law_654 (by decide) ?_
  refine g_iadd (pc := 655) C dL_law_655 ?_
  refine g_eqi (nI (7 * k + 1)) (nI_add (7 * k) 1) ?_
  refine g_sldN (pc := 656) C D (i := 7 * k + 1) (by omega) dL_law_656 ?_
  refine g_aload_n (pc := 657) C dL_law_657 rfl ?_
  refine g_iload_n (pc := 658) C dL_law_658 rfl ?_
  refine g_iconst (pc := 659) C 2 dL_law_659 (by decide) ?_
  refine g_iadd (pc := 660) C dL_law_660 ?_
  refine g_eqi (nI (7 * k + 2)) (nI_add (7 * k) 2) ?_
  refine g_sldN (pc := 661) C D (i := 7 * k + 2) (by omega) dL_law_661 ?_
  refine g_callVf (pc := 662) (st := [vi v]) C mL_66 m rfl rfl rfl rfl hl (by rw [D.1]; decide) (by rw [D.1]; show cells + mcx + 0 ≤ 600000 ∧ slots + msx + 0 ≤ 7302250; omega) (Nat.le_of_ble_eq_true rfl) dL_law_662 (fun _ z => by cases z) (no_allL _) (no_all _) (fun rr SS hP => ?_)
  obtain ⟨rfl, rfl⟩ := hP
  refine g_icmp_eq (pc := 665) C 1168 dL_law_665 (by decide) (fun _ => ?_) (fun q => absurd rfl q)
  exact g_widen (by omega) (by omega) (K _ _ _ hr)
set_option maxHeartbeats 1000000 in
set_option maxRecDepth 100000 in
theorem lw_op12 {X : Xt} {Y : Yt} {b N : Nat} {xs : Nat → Int32} (C : Cx X Y cL_law 4 RL) (D : LwX X Y b N xs) {S : Mm} {mc : Nat} {lc : Nat → Nat} (h : RR S S mc lc) {k cells slots : Nat} (hk : 7 * k + 7 ≤ N) (hc : cells + 13 ≤ 600000) (hs : slots + 838 ≤ 7302250) (K : ∀ S' mc' lc', RR S' S' mc' lc' → G X Y (cells + 13) (slots + 838) S' 1168 (lwL k) []) : G X Y cells slots S 670 (lwL k) [] := by
  obtain ⟨v, S1, S2, mcx, msx, frx, mc1, lc1, hm, hms, hf, hl, x, m, hr⟩ := o_back X.2.1 Y.1 Y.2.1 Y.2.2.1 h (xs (7 * k + 1))
  refine g_aload_n (pc := 670) C dL_law_670 rfl ?_
  refine g_aload_n (pc := 671) C dL_law_671 rfl ?_
  refine g_iload_n (pc := 672) C dL_law_672 rfl ?_
  refine g_iconst (pc := 673) C 1 dL_law_673 (by decide) ?_
  refine g_iadd (pc := 674) C dL_law_674 ?_
  refine g_eqi (nI (7 * k + 1)) (nI_add (7 * k) 1) ?_
  refine g_sldN (pc := 675) C D (i := 7 * k + 1) (by omega) dL_law_675 ?_
  refine g_callVf (pc := 676) (st := []) C mL_67 x rfl rfl rfl rfl (h.ix.1.1 0 (by decide)) (by rw [D.1]; decide) (by rw [D.1]; show cells + mcx ≤ 600000 ∧ slots + msx ≤ 7302250; omega) (by decide) dL_law_676 (fun q hq => by rw [D.2.1]; exact decide_eq_true (by rcases hf q hq with z | z <;> omega)) (lw_okL hf k) rfl (fun rr SS hP => ?_)
  obtain ⟨rfl, rfl⟩ := hP
  refine g_aload_n (pc := 679) C dL_law_679 rfl ?_
  refine g_aload_n (pc := 680) C dL_law_680 rfl ?_
  refine g_iload_n (pc := 681) C dL_law_681 rfl ?_
  refine g_iconst (pc := 682) C 1 dL_law_682 (by decide) ?_
  refine g_iadd (pc := 683) C dL_law_683 ?_
  refine g_eqi (nI (7 * k + 1)) (nI_add (7 * k) 1) ?_
  refine g_sldN (pc := 684) C D (i := 7 * k + 1) (by omega) dL_law_684 ?_
  refine g_callVf (pc := 685) (st := [vi v]) C mL_71 m rfl rfl rfl rfl hl (by rw [D.1]; decide) (by rw [D.1]; show cells + mcx + 0 ≤ 600000 ∧ slots + msx + 0 ≤ 7302250; omega) (Nat.le_of_ble_eq_true rfl) dL_law_685 (fun _ z => by cases z) (no_allL _) (no_all _) (fun rr SS hP => ?_)
  obtain ⟨rfl, rfl⟩ := hP
  refine g_icmp_eq (pc := 688) C 1168 dL_law_688 (by decide) (fun _ => ?_) (fun q => absurd rfl q)
  exact g_widen (by omega) (by omega) (K _ _ _ hr)
set_option maxHeartbeats 1000000 in
set_option maxRecDepth 100000 in
theorem lw_op13 {X : Xt} {Y : Yt} {b N : Nat} {xs : Nat → Int32} (C : Cx X Y cL_law 4 RL) (D : LwX X Y b N xs) {S : Mm} {mc : Nat} {lc : Nat → Nat} (h : RR S S mc lc) {k cells slots : Nat} (hk : 7 * k + 7 ≤ N) (hc : cells + 13 ≤ 600000) (hs : slots + 838 ≤ 7302250) (K : ∀ S' mc' lc', RR S' S' mc' lc' → G X Y (cells + 13) (slots + 838) S' 1168 (lwL k) []) : G X Y cells slots S 693 (lwL k) [] := by
  obtain ⟨v, S1, S2, mcx, msx, frx, mc1, lc1, hm, hms, hf, hl, x, m, hr⟩ := o_choose X.2.1 Y.1 Y.2.1 Y.2.2.1 h (xs (7 * k + 1)) (xs (7 * k + 2))
  refine g_aload_n (pc := 693) C dL_law_693 rfl ?_
  refine g_aload_n (pc := 694) C dL_law_694 rfl ?_
  refine g_iload_n (pc := 695) C dL_law_695 rfl ?_
  refine g_iconst (pc := 696) C 1 dL_law_696 (by decide) ?_
  refine g_iadd (pc := 697) C dL_law_697 ?_
  refine g_eqi (nI (7 * k + 1)) (nI_add (7 * k) 1) ?_
  refine g_sldN (pc := 698) C D (i := 7 * k + 1) (by omega) dL_law_698 ?_
  refine g_aload_n (pc := 699) C dL_law_699 rfl ?_
  refine g_iload_n (pc := 700) C dL_law_700 rfl ?_
  refine g_iconst (pc := 701) C 2 dL_law_701 (by decide) ?_
  refine g_iadd (pc := 702) C dL_law_702 ?_
  refine g_eqi (nI (7 * k + 2)) (nI_add (7 * k) 2) ?_
  refine g_sldN (pc := 703) C D (i := 7 * k + 2) (by omega) dL_law_703 ?_
  refine g_callVf (pc := 704) (st := []) C mL_72 x rfl rfl rfl rfl (h.ix.1.1 0 (by decide)) (by rw [D.1]; decide) (by rw [D.1]; show cells + mcx ≤ 600000 ∧ slots + msx ≤ 7302250; omega) (by decide) dL_law_704 (fun q hq => by rw [D.2.1]; exact decide_eq_true (by rcases hf q hq with z | z <;> omega)) (lw_okL hf k) rfl (fun rr SS hP => ?_)
  obtain ⟨rfl, rfl⟩ := hP
  refine g_aload_n (pc := 707) C dL_law_707 rfl ?_
  refine g_aload_n (pc := 708) C dL_law_708 rfl ?_
  refine g_iload_n (pc := 709) C dL_law_709 rfl ?_
  refine g_iconst (pc := 710) C 1 dL_law_710 (by decide) ?_
  refine g_iadd (pc := 711) C dL_law_711 ?_
  refine g_eqi (nI (7 * k + 1)) (nI_add (7 * k) 1) ?_
  refine g_sldN (pc := 712) C D (i := 7 * k + 1) (by omega) dL_law_712 ?_
  refine g_aload_n (pc := 713) C dL_law_713 rfl ?_
  refine g_iload_n (pc := 714) C dL_law_714 rfl ?_
  refine g_iconst (pc := 715) C 2 dL_law_715 (by decide) ?_
  refine g_iadd (pc := 716) C dL_law_716 ?_
  refine g_eqi (nI (7 * k + 2)) (nI_add (7 * k) 2) ?_
  refine g_sldN (pc := 717) C D (i := 7 * k + 2) (by omega) dL_law_717 ?_
  refine g_callVf (pc := 718) (st := [vi v]) C mL_75 m rfl rfl rfl rfl hl (by rw [D.1]; decide) (by rw [D.1]; show cells + mcx + 0 ≤ 600000 ∧ slots + msx + 0 ≤ 7302250; omega) (Nat.le_of_ble_eq_true rfl) dL_law_718 (fun _ z => by cases z) (no_allL _) (no_all _) (fun rr SS hP => ?_)
  obtain ⟨rfl, rfl⟩ := hP
  refine g_icmp_eq (pc := 721) C 1168 dL_law_721 (by decide) (fun _ => ?_) (fun q => absurd rfl q)
  exact g_widen (by omega) (by omega) (K _ _ _ hr)
set_option maxHeartbeats 1000000 in
set_option maxRecDepth 100000 in
theorem lw_op14 {X : Xt} {Y : Yt} {b N : Nat} {xs : Nat → Int32} (C : Cx X Y cL_law 4 RL) (D : LwX X Y b N xs) {S : Mm} {mc : Nat} {lc : Nat → Nat} (h : RR S S mc lc) {k cells slots : Nat} (hk : 7 * k + 7 ≤ N) (hc : cells + 13 ≤ 600000) (hs : slots + 838 ≤ 7302250) (K : ∀ S' mc' lc', RR S' S' mc' lc' → G X Y (cells + 13) (slots + 838) S' 1168 (lwL k) []) : G X Y cells slots S 726 (lwL k) [] := by
  obtain ⟨v, S1, S2, mcx, msx, frx, mc1, lc1, hm, hms, hf, hl, x, m, hr⟩ := o_given X.2.1 Y.1 Y.2.1 Y.2.2.1 h (xs (7 * k + 1))
  refine g_aload_n (pc := 726) C dL_law_726 rfl ?_
  refine g_aload_n (pc := 727) C dL_law_727 rfl ?_
  refine g_iload_n (pc := 728) C dL_law_728 rfl ?_
  refine g_iconst (pc := 729) C 1 dL_law_729 (by decide) ?_
  refine g_iadd (pc := 730) C dL_law_730 ?_
  refine g_eqi (nI (7 * k + 1)) (nI_add (7 * k) 1) ?_
  refine g_sldN (pc := 731) C D (i := 7 * k + 1) (by omega) dL_law_731 ?_
  refine g_callVf (pc := 732) (st := []) C mL_76 x rfl rfl rfl rfl (h.ix.1.1 0 (by decide)) (by rw [D.1]; decide) (by rw [D.1]; show cells + mcx ≤ 600000 ∧ slots + msx ≤ 7302250; omega) (by decide) dL_law_732 (fun q hq => by rw [D.2.1]; exact decide_eq_true (by rcases hf q hq with z | z <;> omega)) (lw_okL hf k) rfl (fun rr SS hP => ?_)
  obtain ⟨rfl, rfl⟩ := hP
  refine g_aload_n (pc := 735) C dL_law_735 rfl ?_
  refine g_aload_n (pc := 736) C dL_law_736 rfl ?_
  refine g_iload_n (pc := 737) C dL_law_737 rfl ?_
  refine g_iconst (pc := 738) C 1 dL_law_738 (by decide) ?_
  refine g_iadd (pc := 739) C dL_law_739 ?_
  refine g_eqi (nI (7 * k + 1)) (nI_add (7 * k) 1) ?_
  refine g_sldN (pc := 740) C D (i := 7 * k + 1) (by omega) dL_law_740 ?_
  refine g_callVf (pc := 741) (st := [vi v]) C mL_79 m rfl rfl rfl rfl hl (by rw [D.1]; decide) (by rw [D.1]; show cells + mcx + 0 ≤ 600000 ∧ slots + msx + 0 ≤ 7302250; omega) (Nat.le_of_ble_eq_true rfl) dL_law_741 (fun _ z => by cases z) (no_allL _) (no_all _) (fun rr SS hP => ?_)
  obtain ⟨rfl, rfl⟩ := hP
  refine g_icmp_eq (pc := 744) C 1168 dL_law_744 (by decide) (fun _ => ?_) (fun q => absurd rfl q)
  exact g_widen (by omega) (by omega) (K _ _ _ hr)
set_option maxHeartbeats 1000000 in
set_option maxRecDepth 100000 in
theorem lw_op15 {X : Xt} {Y : Yt} {b N : Nat} {xs : Nat → Int32} (C : Cx X Y cL_law 4 RL) (D : LwX X Y b N xs) {S : Mm} {mc : Nat} {lc : Nat → Nat} (h : RR S S mc lc) {k cells slots : Nat} (hk : 7 * k + 7 ≤ N) (hc : cells + 13 ≤ 600000) (hs : slots + 838 ≤ 7302250) (K : ∀ S' mc' lc', RR S' S' mc' lc' → G X Y (cells + 13) (slots + 838) S' 1168 (lwL k) []) : G X Y cells slots S 749 (lwL k) [] := by
  obtain ⟨v, S1, S2, mcx, msx, frx, mc1, lc1, hm, hms, hf, hl, x, m, hr⟩ := o_change X.2.1 Y.1 Y.2.1 Y.2.2.1 h (xs (7 * k + 1)) (xs (7 * k + 2))
  refine g_aload_n (pc := 749) C dL_law_749 rfl ?_
  refine g_aload_n (pc := 750) C dL_law_750 rfl ?_
  refine g_iload_n (pc := 751) C dL_law_751 rfl ?_
  refine g_iconst (pc := 752) C 1 dL_law_752 (by decide) ?_
  refine g_iadd (pc := 753) C dL_law_753 ?_
  refine g_eqi (nI (7 * k + 1)) (nI_add (7 * k) 1) ?_
  refine g_sldN (pc := 754) C D (i := 7 * k + 1) (by omega) dL_law_754 ?_
  refine g_aload_n (pc := 755) C dL_law_755 rfl ?_
  refine g_iload_n (pc := 756) C dL_law_756 rfl ?_
  refine g_iconst (pc := 757) C 2 dL_law_757 (by decide) ?_
  refine g_iadd (pc := 758) C dL_law_758 ?_
  refine g_eqi (nI (7 * k + 2)) (nI_add (7 * k) 2) ?_
  refine g_sldN (pc := 759) C D (i := 7 * k + 2) (by omega) dL_law_759 ?_
  refine g_callVf (pc := 760) (st := []) C mL_80 x rfl rfl rfl rfl (h.ix.1.1 0 (by decide)) (by rw [D.1]; decide) (by rw [D.1]; show cells + mcx ≤ 600000 ∧ slots + msx ≤ 7302250; omega) (by decide) dL_law_760 (fun q hq => by rw [D.2.1]; exact decide_eq_true (by rcases hf q hq with z | z <;> omega)) (lw_okL hf k) rfl (fun rr SS hP => ?_)
  obtain ⟨rfl, rfl⟩ := hP
  refine g_aload_n (pc := 763) C dL_law_763 rfl ?_
  refine g_aload_n (pc := 764) C dL_law_764 rfl ?_
  refine g_iload_n (pc := 765) C dL_law_765 rfl ?_
  refine g_iconst (pc := 766) C 1 dL_law_766 (by decide) ?_
  refine g_iadd (pc := 767) C dL_law_767 ?_
  refine g_eqi (nI (7 * k + 1)) (nI_add (7 * k) 1) ?_
  refine g_sldN (pc := 768) C D (i := 7 * k + 1) (by omega) dL_law_768 ?_
  refine g_aload_n (pc := 769) C dL_law_769 rfl ?_
  refine g_iload_n (pc := 770) C dL_law_770 rfl ?_
  refine g_iconst (pc := 771) C 2 dL_law_771 (by decide) ?_
  refine g_iadd (pc := 772) C dL_law_772 ?_
  refine g_eqi (nI (7 * k + 2)) (nI_add (7 * k) 2) ?_
  refine g_sldN (pc := 773) C D (i := 7 * k + 2) (by omega) dL_law_773 ?_
  refine g_callVf (pc := 774) (st := [vi v]) C mL_83 m rfl rfl rfl rfl hl (by rw [D.1]; decide) (by rw [D.1]; show cells + mcx + 0 ≤ 600000 ∧ slots + msx + 0 ≤ 7302250; omega) (Nat.le_of_ble_eq_true rfl) dL_law_774 (fun _ z => by cases z) (no_allL _) (no_all _) (fun rr SS hP => ?_)
  obtain ⟨rfl, rfl⟩ := hP
  refine g_icmp_eq (pc := 777) C 1168 dL_law_777 (by decide) (fun _ => ?_) (fun q => absurd rfl q)
  exact g_widen (by omega) (by omega) (K _ _ _ hr)
set_option maxHeartbeats 1000000 in
set_option maxRecDepth 100000 in
theorem lw_op16 {X : Xt} {Y : Yt} {b N : Nat} {xs : Nat → Int32} (C : Cx X Y cL_law 4 RL) (D : LwX X Y b N xs) {S : Mm} {mc : Nat} {lc : Nat → Nat} (h : RR S S mc lc) {k cells slots : Nat} (hk : 7 * k + 7 ≤ N) (hc : cells + 13 ≤ 600000) (hs : slots + 838 ≤ 7302250) (K : ∀ S' mc' lc', RR S' S' mc' lc' → G X Y (cells + 13) (slots + 838) S' 1168 (lwL k) []) : G X Y cells slots S 782 (lwL k) [] := by
  obtain ⟨v, S1, S2, mcx, msx, frx, mc1, lc1, hm, hms, hf, hl, x, m, hr⟩ := o_hours X.2.1 Y.1 Y.2.1 Y.2.2.1 h (xs (7 * k + 1))
  refine g_aload_n (pc := 782) C dL_law_782 rfl ?_
  refine g_aload_n (pc := 783) C dL_law_783 rfl ?_
  refine g_iload_n (pc := 784) C dL_law_784 rfl ?_
  refine g_iconst (pc := 785) C 1 dL_law_785 (by decide) ?_
  refine g_iadd (pc := 786) C dL_law_786 ?_
  refine g_eqi (nI (7 * k + 1)) (nI_add (7 * k) 1) ?_
  refine g_sldN (pc := 787) C D (i := 7 * k + 1) (by omega) dL_law_787 ?_
  refine g_callVf (pc := 788) (st := []) C mL_84 x rfl rfl rfl rfl (h.ix.1.1 0 (by decide)) (by rw [D.1]; decide) (by rw [D.1]; show cells + mcx ≤ 600000 ∧ slots + msx ≤ 7302250; omega) (by decide) dL_law_788 (fun q hq => by rw [D.2.1]; exact decide_eq_true (by rcases hf q hq with z | z <;> omega)) (lw_okL hf k) rfl (fun rr SS hP => ?_)
  obtain ⟨rfl, rfl⟩ := hP
  refine g_aload_n (pc := 791) C dL_law_791 rfl ?_
  refine g_aload_n (pc := 792) C dL_law_792 rfl ?_
  refine g_iload_n (pc := 793) C dL_law_793 rfl ?_
  refine g_iconst (pc := 794) C 1 dL_law_794 (by decide) ?_
  refine g_iadd (pc := 795) C dL_law_795 ?_
  refine g_eqi (nI (7 * k + 1)) (nI_add (7 * k) 1) ?_
  refine g_sldN (pc := 796) C D (i := 7 * k + 1) (by omega) dL_law_796 ?_
  refine g_callVf (pc := 797) (st := [vi v]) C mL_87 m rfl rfl rfl rfl hl (by rw [D.1]; decide) (by rw [D.1]; show cells + mcx + 0 ≤ 600000 ∧ slots + msx + 0 ≤ 7302250; omega) (Nat.le_of_ble_eq_true rfl) dL_law_797 (fun _ z => by cases z) (no_allL _) (no_all _) (fun rr SS hP => ?_)
  obtain ⟨rfl, rfl⟩ := hP
  refine g_icmp_eq (pc := 800) C 1168 dL_law_800 (by decide) (fun _ => ?_) (fun q => absurd rfl q)
  exact g_widen (by omega) (by omega) (K _ _ _ hr)
set_option maxHeartbeats 1000000 in
set_option maxRecDepth 100000 in
theorem lw_op17 {X : Xt} {Y : Yt} {b N : Nat} {xs : Nat → Int32} (C : Cx X Y cL_law 4 RL) (D : LwX X Y b N xs) {S : Mm} {mc : Nat} {lc : Nat → Nat} (h : RR S S mc lc) {k cells slots : Nat} (hk : 7 * k + 7 ≤ N) (hc : cells + 13 ≤ 600000) (hs : slots + 838 ≤ 7302250) (K : ∀ S' mc' lc', RR S' S' mc' lc' → G X Y (cells + 13) (slots + 838) S' 1168 (lwL k) []) : G X Y cells slots S 805 (lwL k) [] := by
  obtain ⟨v, S1, S2, mcx, msx, frx, mc1, lc1, hm, hms, hf, hl, x, m, hr⟩ := o_counted X.2.1 Y.1 Y.2.1 Y.2.2.1 h (xs (7 * k + 1)) (xs (7 * k + 2)) (xs (7 * k + 3)) (xs (7 * k + 4))
  refine g_aload_n (pc := 805) C dL_law_805 rfl ?_
  refine g_aload_n (pc := 806) C dL_law_806 rfl ?_
  refine g_iload_n (pc := 807) C dL_law_807 rfl ?_
  refine g_iconst (pc := 808) C 1 dL_law_808 (by decide) ?_
  refine g_iadd (pc := 809) C dL_law_809 ?_
  refine g_eqi (nI (7 * k + 1)) (nI_add (7 * k) 1) ?_
  refine g_sldN (pc := 810) C D (i := 7 * k + 1) (by omega) dL_law_810 ?_
  refine g_aload_n (pc := 811) C dL_law_811 rfl ?_
  refine g_iload_n (pc := 812) C dL_law_812 rfl ?_
  refine g_iconst (pc := 813) C 2 dL_law_813 (by decide) ?_
  refine g_iadd (pc := 814) C dL_law_814 ?_
  refine g_eqi (nI (7 * k + 2)) (nI_add (7 * k) 2) ?_
  refine g_sldN (pc := 815) C D (i := 7 * k + 2) (by omega) dL_law_815 ?_
  refine g_aload_n (pc := 816) C dL_law_816 rfl ?_
  refine g_iload_n (pc := 817) C dL_law_817 rfl ?_
  refine g_iconst (pc := 818) C 3 dL_law_818 (by decide) ?_
  refine g_iadd (pc := 819) C dL_law_819 ?_
  refine g_eqi (nI (7 * k + 3)) (nI_add (7 * k) 3) ?_
  refine g_sldN (pc := 820) C D (i := 7 * k + 3) (by omega) dL_law_820 ?_
  refine g_aload_n (pc := 821) C dL_law_821 rfl ?_
  refine g_iload_n (pc := 822) C dL_law_822 rfl ?_
  refine g_iconst (pc := 823) C 4 dL_law_823 (by decide) ?_
  refine g_iadd (pc := 824) C dL_law_824 ?_
  refine g_eqi (nI (7 * k + 4)) (nI_add (7 * k) 4) ?_
  refine g_sldN (pc := 825) C D (i := 7 * k + 4) (by omega) dL_law_825 ?_
  refine g_callVf (pc := 826) (st := []) C mL_88 x rfl rfl rfl rfl (h.ix.1.1 0 (by decide)) (by rw [D.1]; decide) (by rw [D.1]; show cells + mcx ≤ 600000 ∧ slots + msx ≤ 7302250; omega) (by decide) dL_law_826 (fun q hq => by rw [D.2.1]; exact decide_eq_true (by rcases hf q hq with z | z <;> omega)) (lw_okL hf k) rfl (fun rr SS hP => ?_)
  obtain ⟨rfl, rfl⟩ := hP
  refine g_aload_n (pc := 829) C dL_law_829 rfl ?_
  refine g_aload_n (pc := 830) C dL_law_830 rfl ?_
  refine g_iload_n (pc := 831) C dL_law_831 rfl ?_
  refine g_iconst (pc := 832) C 1 dL_law_832 (by decide) ?_
  refine g_iadd (pc := 833) C dL_law_833 ?_
  refine g_eqi (nI (7 * k + 1)) (nI_add (7 * k) 1) ?_
  refine g_sldN (pc := 834) C D (i := 7 * k + 1) (by omega) dL_law_834 ?_
  refine g_aload_n (pc := 835) C dL_law_835 rfl ?_
  refine g_iload_n (pc := 836) C dL_law_836 rfl ?_
  refine g_iconst (pc := 837) C 2 dL_law_837 (by decide) ?_
  refine g_iadd (pc := 838) C dL_law_838 ?_
  refine g_eqi (nI (7 * k + 2)) (nI_add (7 * k) 2) ?_
  refine g_sldN (pc := 839) C D (i := 7 * k + 2) (by omega) dL_law_839 ?_
  refine g_aload_n (pc := 840) C dL_law_840 rfl ?_
  refine g_iload_n (pc := 841) C dL_law_841 rfl ?_
  refine g_iconst (pc := 842) C 3 dL_law_842 (by decide) ?_
  refine g_iadd (pc := 843) C dL_law_843 ?_
  refine g_eqi (nI (7 * k + 3)) (nI_add (7 * k) 3) ?_
  refine g_sldN (pc := 844) C D (i := 7 * k + 3) (by omega) dL_law_844 ?_
  refine g_aload_n (pc := 845) C dL_law_845 rfl ?_
  refine g_iload_n (pc := 846) C dL_law_846 rfl ?_
  refine g_iconst (pc := 847) C 4 dL_law_847 (by decide) ?_
  refine g_iadd (pc := 848) C dL_law_848 ?_
  refine g_eqi (nI (7 * k + 4)) (nI_add (7 * k) 4) ?_
  refine g_sldN (pc := 849) C D (i := 7 * k + 4) (by omega) dL_law_849 ?_
  refine g_callVf (pc := 850) (st := [vi v]) C mL_92 m rfl rfl rfl rfl hl (by rw [D.1]; decide) (by rw [D.1]; show cells + mcx + 0 ≤ 600000 ∧ slots + msx + 0 ≤ 7302250; omega) (Nat.le_of_ble_eq_true rfl) dL_law_850 (fun _ z => by cases z) (no_allL _) (no_all _) (fun rr SS hP => ?_)
  obtain ⟨rfl, rfl⟩ := hP
  refine g_icmp_eq (pc := 853) C 1168 dL_law_853 (by decide) (fun _ => ?_) (fun q => absurd rfl q)
  exact g_widen (by omega) (by omega) (K _ _ _ hr)
