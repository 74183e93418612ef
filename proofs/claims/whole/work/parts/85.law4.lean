set_option maxHeartbeats 1000000 in
set_option maxRecDepth 100000 in
theorem lw_op18 {X : Xt} {Y : Yt} {b N : Nat} {xs : Nat → Int32} (C : Cx X Y cL_law 4 RL) (D : LwX X Y b N xs) {S : Mm} {mc : Nat} {lc : Nat → Nat} (h : RR S S mc lc) {k cells slots : Nat} (hk : 7 * k + 7 ≤ N) (hc : cells + 13 ≤ 600000) (hs : slots + 838 ≤ 7302250) (K : ∀ S' mc' lc', RR S' S' mc' lc' → G X Y (cells + 13) (slots + 838) S' 1168 (lwL k) []) : G X Y cells slots S 858 (lwL k) [] := by
  obtain ⟨v, S1, S2, mcx, msx, frx, mc1, lc1, hm, hms, hf, hl, x, m, hr⟩ := o_foretell X.2.1 Y.1 Y.2.1 Y.2.2.1 h (xs (7 * k + 1)) (xs (7 * k + 2)) (xs (7 * k + 3))
  refine g_aload_n (pc := 858) C dL_law_858 rfl ?_
  refine g_aload_n (pc := 859) C dL_law_859 rfl ?_
  refine g_iload_n (pc := 860) C dL_law_860 rfl ?_
  refine g_iconst (pc := 861) C 1 dL_law_861 (by decide) ?_
  refine g_iadd (pc := 862) C dL_law_862 ?_
  refine g_eqi (nI (7 * k + 1)) (nI_add (7 * k) 1) ?_
  refine g_sldN (pc := 863) C D (i := 7 * k + 1) (by omega) dL_law_863 ?_
  refine g_aload_n (pc := 864) C dL_law_864 rfl ?_
  refine g_iload_n (pc := 865) C dL_law_865 rfl ?_
  refine g_iconst (pc := 866) C 2 dL_law_866 (by decide) ?_
  refine g_iadd (pc := 867) C dL_law_867 ?_
  refine g_eqi (nI (7 * k + 2)) (nI_add (7 * k) 2) ?_
  refine g_sldN (pc := 868) C D (i := 7 * k + 2) (by omega) dL_law_868 ?_
  refine g_aload_n (pc := 869) C dL_law_869 rfl ?_
  refine g_iload_n (pc := 870) C dL_law_870 rfl ?_
  refine g_iconst (pc := 871) C 3 dL_law_871 (by decide) ?_
  refine g_iadd (pc := 872) C dL_law_872 ?_
  refine g_eqi (nI (7 * k + 3)) (nI_add (7 * k) 3) ?_
  refine g_sldN (pc := 873) C D (i := 7 * k + 3) (by omega) dL_law_873 ?_
  refine g_callVf (pc := 874) (st := []) C mL_93 x rfl rfl rfl rfl (h.ix.1.1 0 (by decide)) (by rw [D.1]; decide) (by rw [D.1]; show cells + mcx ≤ 600000 ∧ slots + msx ≤ 7302250; omega) (by decide) dL_law_874 (fun q hq => by rw [D.2.1]; exact decide_eq_true (by rcases hf q hq with z | z <;> omega)) (lw_okL hf k) rfl (fun rr SS hP => ?_)
  obtain ⟨rfl, rfl⟩ := hP
  refine g_aload_n (pc := 877) C dL_law_877 rfl ?_
  refine g_aload_n (pc := 878) C dL_law_878 rfl ?_
  refine g_iload_n (pc := 879) C dL_law_879 rfl ?_
  refine g_iconst (pc := 880) C 1 dL_law_880 (by decide) ?_
  refine g_iadd (pc := 881) C dL_law_881 ?_
  refine g_eqi (nI (7 * k + 1)) (nI_add (7 * k) 1) ?_
  refine g_sldN (pc := 882) C D (i := 7 * k + 1) (by omega) dL_law_882 ?_
  refine g_aload_n (pc := 883) C dL_law_883 rfl ?_
  refine g_iload_n (pc := 884) C dL_law_884 rfl ?_
  refine g_iconst (pc := 885) C 2 dL_law_885 (by decide) ?_
  refine g_iadd (pc := 886) C dL_law_886 ?_
  refine g_eqi (nI (7 * k + 2)) (nI_add (7 * k) 2) ?_
  refine g_sldN (pc := 887) C D (i := 7 * k + 2) (by omega) dL_law_887 ?_
  refine g_aload_n (pc := 888) C dL_law_888 rfl ?_
  refine g_iload_n (pc := 889) C dL_law_889 rfl ?_
  refine g_iconst (pc := 890) C 3 dL_law_890 (by decide) ?_
  refine g_iadd (pc := 891) C dL_law_891 ?_
  refine g_eqi (nI (7 * k + 3)) (nI_add (7 * k) 3) ?_
  refine g_sldN (pc := 892) C D (i := 7 * k + 3) (by omega) dL_law_892 ?_
  refine g_callVf (pc := 893) (st := [vi v]) C mL_96 m rfl rfl rfl rfl hl (by rw [D.1]; decide) (by rw [D.1]; show cells + mcx + 0 ≤ 600000 ∧ slots + msx + 0 ≤ 7302250; omega) (Nat.le_of_ble_eq_true rfl) dL_law_893 (fun _ z => by cases z) (no_allL _) (no_all _) (fun rr SS hP => ?_)
  obtain ⟨rfl, rfl⟩ := hP
  refine g_icmp_eq (pc := 896) C 1168 dL_law_896 (by decide) (fun _ => ?_) (fun q => absurd rfl q)
  exact g_widen (by omega) (by omega) (K _ _ _ hr)
set_option maxHeartbeats 1000000 in
set_option maxRecDepth 100000 in
theorem lw_op19 {X : Xt} {Y : Yt} {b N : Nat} {xs : Nat → Int32} (C : Cx X Y cL_law 4 RL) (D : LwX X Y b N xs) {S : Mm} {mc : Nat} {lc : Nat → Nat} (h : RR S S mc lc) {k cells slots : Nat} (hk : 7 * k + 7 ≤ N) (hc : cells + 13 ≤ 600000) (hs : slots + 838 ≤ 7302250) (K : ∀ S' mc' lc', RR S' S' mc' lc' → G X Y (cells + 13) (slots + 838) S' 1168 (lwL k) []) : G X Y cells slots S 901 (lwL k) [] := by
  obtain ⟨v, S1, S2, mcx, msx, frx, mc1, lc1, hm, hms, hf, hl, x, m, hr⟩ := o_when X.2.1 Y.1 Y.2.1 Y.2.2.1 h (xs (7 * k + 1)) (xs (7 * k + 2))
  refine g_aload_n (pc := 901) C dL_law_901 rfl ?_
  refine g_aload_n (pc := 902) C dL_law_902 rfl ?_
  refine g_iload_n (pc := 903) C dL_law_903 rfl ?_
  refine g_iconst (pc := 904) C 1 dL_law_904 (by decide) ?_
  refine g_iadd (pc := 905) C dL_law_905 ?_
  refine g_eqi (nI (7 * k + 1)) (nI_add (7 * k) 1) ?_
  refine g_sldN (pc := 906) C D (i := 7 * k + 1) (by omega) dL_law_906 ?_
  refine g_aload_n (pc := 907) C dL_law_907 rfl ?_
  refine g_iload_n (pc := 908) C dL_law_908 rfl ?_
  refine g_iconst (pc := 909) C 2 dL_law_909 (by decide) ?_
  refine g_iadd (pc := 910) C dL_law_910 ?_
  refine g_eqi (nI (7 * k + 2)) (nI_add (7 * k) 2) ?_
  refine g_sldN (pc := 911) C D (i := 7 * k + 2) (by omega) dL_law_911 ?_
  refine g_callVf (pc := 912) (st := []) C mL_97 x rfl rfl rfl rfl (h.ix.1.1 0 (by decide)) (by rw [D.1]; decide) (by rw [D.1]; show cells + mcx ≤ 600000 ∧ slots + msx ≤ 7302250; omega) (by decide) dL_law_912 (fun q hq => by rw [D.2.1]; exact decide_eq_true (by rcases hf q hq with z | z <;> omega)) (lw_okL hf k) rfl (fun rr SS hP => ?_)
  obtain ⟨rfl, rfl⟩ := hP
  refine g_aload_n (pc := 915) C dL_law_915 rfl ?_
  refine g_aload_n (pc := 916) C dL_law_916 rfl ?_
  refine g_iload_n (pc := 917) C dL_law_917 rfl ?_
  refine g_iconst (pc := 918) C 1 dL_law_918 (by decide) ?_
  refine g_iadd (pc := 919) C dL_law_919 ?_
  refine g_eqi (nI (7 * k + 1)) (nI_add (7 * k) 1) ?_
  refine g_sldN (pc := 920) C D (i := 7 * k + 1) (by omega) dL_law_920 ?_
  refine g_aload_n (pc := 921) C dL_law_921 rfl ?_
  refine g_iload_n (pc := 922) C dL_law_922 rfl ?_
  refine g_iconst (pc := 923) C 2 dL_law_923 (by decide) ?_
  refine g_iadd (pc := 924) C dL_law_924 ?_
  refine g_eqi (nI (7 * k + 2)) (nI_add (7 * k) 2) ?_
  refine g_sldN (pc := 925) C D (i := 7 * k + 2) (by omega) dL_law_925 ?_
  refine g_callVf (pc := 926) (st := [vi v]) C mL_100 m rfl rfl rfl rfl hl (by rw [D.1]; decide) (by rw [D.1]; show cells + mcx + 0 ≤ 600000 ∧ slots + msx + 0 ≤ 7302250; omega) (Nat.le_of_ble_eq_true rfl) dL_law_926 (fun _ z => by cases z) (no_allL _) (no_all _) (fun rr SS hP => ?_)
  obtain ⟨rfl, rfl⟩ := hP
  refine g_icmp_eq (pc := 929) C 1168 dL_law_929 (by decide) (fun _ => ?_) (fun q => absurd rfl q)
  exact g_widen (by omega) (by omega) (K _ _ _ hr)
set_option maxHeartbeats 1000000 in
set_option maxRecDepth 100000 in
theorem lw_op20 {X : Xt} {Y : Yt} {b N : Nat} {xs : Nat → Int32} (C : Cx X Y cL_law 4 RL) (D : LwX X Y b N xs) {S : Mm} {mc : Nat} {lc : Nat → Nat} (h : RR S S mc lc) {k cells slots : Nat} (hk : 7 * k + 7 ≤ N) (hc : cells + 13 ≤ 600000) (hs : slots + 838 ≤ 7302250) (K : ∀ S' mc' lc', RR S' S' mc' lc' → G X Y (cells + 13) (slots + 838) S' 1168 (lwL k) []) : G X Y cells slots S 934 (lwL k) [] := by
  obtain ⟨v, S1, S2, mcx, msx, frx, mc1, lc1, hm, hms, hf, hl, x, m, hr⟩ := o_load X.2.1 Y.1 Y.2.1 Y.2.2.1 h (xs (7 * k + 1)) (xs (7 * k + 2))
  refine g_aload_n (pc := 934) C dL_law_934 rfl ?_
  refine g_aload_n (pc := 935) C dL_law_935 rfl ?_
  refine g_iload_n (pc := 936) C dL_law_936 rfl ?_
  refine g_iconst (pc := 937) C 1 dL_law_937 (by decide) ?_
  refine g_iadd (pc := 938) C dL_law_938 ?_
  refine g_eqi (nI (7 * k + 1)) (nI_add (7 * k) 1) ?_
  refine g_sldN (pc := 939) C D (i := 7 * k + 1) (by omega) dL_law_939 ?_
  refine g_aload_n (pc := 940) C dL_law_940 rfl ?_
  refine g_iload_n (pc := 941) C dL_law_941 rfl ?_
  refine g_iconst (pc := 942) C 2 dL_law_942 (by decide) ?_
  refine g_iadd (pc := 943) C dL_law_943 ?_
  refine g_eqi (nI (7 * k + 2)) (nI_add (7 * k) 2) ?_
  refine g_sldN (pc := 944) C D (i := 7 * k + 2) (by omega) dL_law_944 ?_
  refine g_callVf (pc := 945) (st := []) C mL_101 x rfl rfl rfl rfl (h.ix.1.1 0 (by decide)) (by rw [D.1]; decide) (by rw [D.1]; show cells + mcx ≤ 600000 ∧ slots + msx ≤ 7302250; omega) (by decide) dL_law_945 (fun q hq => by rw [D.2.1]; exact decide_eq_true (by rcases hf q hq with z | z <;> omega)) (lw_okL hf k) rfl (fun rr SS hP => ?_)
  obtain ⟨rfl, rfl⟩ := hP
  refine g_aload_n (pc := 948) C dL_law_948 rfl ?_
  refine g_aload_n (pc := 949) C dL_law_949 rfl ?_
  refine g_iload_n (pc := 950) C dL_law_950 rfl ?_
  refine g_iconst (pc := 951) C 1 dL_law_951 (by decide) ?_
  refine g_iadd (pc := 952) C dL_law_952 ?_
  refine g_eqi (nI (7 * k + 1)) (nI_add (7 * k) 1) ?_
  refine g_sldN (pc := 953) C D (i := 7 * k + 1) (by omega) dL_law_953 ?_
  refine g_aload_n (pc := 954) C dL_law_954 rfl ?_
  refine g_iload_n (pc := 955) C dL_law_955 rfl ?_
  refine g_iconst (pc := 956) C 2 dL_law_956 (by decide) ?_
  refine g_iadd (pc := 957) C dL_law_957 ?_
  refine g_eqi (nI (7 * k + 2)) (nI_add (7 * k) 2) ?_
  refine g_sldN (pc := 958) C D (i := 7 * k + 2) (by omega) dL_law_958 ?_
  refine g_callVf (pc := 959) (st := [vi v]) C mL_104 m rfl rfl rfl rfl hl (by rw [D.1]; decide) (by rw [D.1]; show cells + mcx + 0 ≤ 600000 ∧ slots + msx + 0 ≤ 7302250; omega) (Nat.le_of_ble_eq_true rfl) dL_law_959 (fun _ z => by cases z) (no_allL _) (no_all _) (fun rr SS hP => ?_)
  obtain ⟨rfl, rfl⟩ := hP
  refine g_icmp_eq (pc := 962) C 1168 dL_law_962 (by decide) (fun _ => ?_) (fun q => absurd rfl q)
  exact g_widen (by omega) (by omega) (K _ _ _ hr)
set_option maxHeartbeats 1000000 in
set_option maxRecDepth 100000 in
theorem lw_op21 {X : Xt} {Y : Yt} {b N : Nat} {xs : Nat → Int32} (C : Cx X Y cL_law 4 RL) (D : LwX X Y b N xs) {S : Mm} {mc : Nat} {lc : Nat → Nat} (h : RR S S mc lc) {k cells slots : Nat} (hk : 7 * k + 7 ≤ N) (hc : cells + 13 ≤ 600000) (hs : slots + 838 ≤ 7302250) (K : ∀ S' mc' lc', RR S' S' mc' lc' → G X Y (cells + 13) (slots + 838) S' 1168 (lwL k) []) : G X Y cells slots S 967 (lwL k) [] := by
  obtain ⟨v, S1, S2, mcx, msx, frx, mc1, lc1, hm, hms, hf, hl, x, m, hr⟩ := o_loaded X.2.1 Y.1 Y.2.1 Y.2.2.1 h (xs (7 * k + 1))
  refine g_aload_n (pc := 967) C dL_law_967 rfl ?_
  refine g_aload_n (pc := 968) C dL_law_968 rfl ?_
  refine g_iload_n (pc := 969) C dL_law_969 rfl ?_
  refine g_iconst (pc := 970) C 1 dL_law_970 (by decide) ?_
  refine g_iadd (pc := 971) C dL_law_971 ?_
  refine g_eqi (nI (7 * k + 1)) (nI_add (7 * k) 1) ?_
  refine g_sldN (pc := 972) C D (i := 7 * k + 1) (by omega) dL_law_972 ?_
  refine g_callVf (pc := 973) (st := []) C mL_105 x rfl rfl rfl rfl (h.ix.1.1 0 (by decide)) (by rw [D.1]; decide) (by rw [D.1]; show cells + mcx ≤ 600000 ∧ slots + msx ≤ 7302250; omega) (by decide) dL_law_973 (fun q hq => by rw [D.2.1]; exact decide_eq_true (by rcases hf q hq with z | z <;> omega)) (lw_okL hf k) rfl (fun rr SS hP => ?_)
  obtain ⟨rfl, rfl⟩ := hP
  refine g_aload_n (pc := 976) C dL_law_976 rfl ?_
  refine g_aload_n (pc := 977) C dL_law_977 rfl ?_
  refine g_iload_n (pc := 978) C dL_law_978 rfl ?_
  refine g_iconst (pc := 979) C 1 dL_law_979 (by decide) ?_
  refine g_iadd (pc := 980) C dL_law_980 ?_
  refine g_eqi (nI (7 * k + 1)) (nI_add (7 * k) 1) ?_
  refine g_sldN (pc := 981) C D (i := 7 * k + 1) (by omega) dL_law_981 ?_
  refine g_callVf (pc := 982) (st := [vi v]) C mL_108 m rfl rfl rfl rfl hl (by rw [D.1]; decide) (by rw [D.1]; show cells + mcx + 0 ≤ 600000 ∧ slots + msx + 0 ≤ 7302250; omega) (Nat.le_of_ble_eq_true rfl) dL_law_982 (fun _ z => by cases z) (no_allL _) (no_all _) (fun rr SS hP => ?_)
  obtain ⟨rfl, rfl⟩ := hP
  refine g_icmp_eq (pc := 985) C 1168 dL_law_985 (by decide) (fun _ => ?_) (fun q => absurd rfl q)
  exact g_widen (by omega) (by omega) (K _ _ _ hr)
set_option maxHeartbeats 1000000 in
set_option maxRecDepth 100000 in
theorem lw_op22 {X : Xt} {Y : Yt} {b N : Nat} {xs : Nat → Int32} (C : Cx X Y cL_law 4 RL) (D : LwX X Y b N xs) {S : Mm} {mc : Nat} {lc : Nat → Nat} (h : RR S S mc lc) {k cells slots : Nat} (hk : 7 * k + 7 ≤ N) (hc : cells + 13 ≤ 600000) (hs : slots + 838 ≤ 7302250) (K : ∀ S' mc' lc', RR S' S' mc' lc' → G X Y (cells + 13) (slots + 838) S' 1168 (lwL k) []) : G X Y cells slots S 990 (lwL k) [] := by
  obtain ⟨v, S1, S2, mcx, msx, frx, mc1, lc1, hm, hms, hf, hl, x, m, hr⟩ := o_laneOf X.2.1 Y.1 Y.2.1 Y.2.2.1 h (xs (7 * k + 1)) (xs (7 * k + 2)) (xs (7 * k + 3))
  refine g_aload_n (pc := 990) C dL_law_990 rfl ?_
  refine g_aload_n (pc := 991) C dL_law_991 rfl ?_
  refine g_iload_n (pc := 992) C dL_law_992 rfl ?_
  refine g_iconst (pc := 993) C 1 dL_law_993 (by decide) ?_
  refine g_iadd (pc := 994) C dL_law_994 ?_
  refine g_eqi (nI (7 * k + 1)) (nI_add (7 * k) 1) ?_
  refine g_sldN (pc := 995) C D (i := 7 * k + 1) (by omega) dL_law_995 ?_
  refine g_aload_n (pc := 996) C dL_law_996 rfl ?_
  refine g_iload_n (pc := 997) C dL_law_997 rfl ?_
  refine g_iconst (pc := 998) C 2 dL_law_998 (by decide) ?_
  refine g_iadd (pc := 999) C dL_law_999 ?_
  refine g_eqi (nI (7 * k + 2)) (nI_add (7 * k) 2) ?_
  refine g_sldN (pc := 1000) C D (i := 7 * k + 2) (by omega) dL_law_1000 ?_
  refine g_aload_n (pc := 1001) C dL_law_1001 rfl ?_
  refine g_iload_n (pc := 1002) C dL_law_1002 rfl ?_
  refine g_iconst (pc := 1003) C 3 dL_law_1003 (by decide) ?_
  refine g_iadd (pc := 1004) C dL_law_1004 ?_
  refine g_eqi (nI (7 * k + 3)) (nI_add (7 * k) 3) ?_
  refine g_sldN (pc := 1005) C D (i := 7 * k + 3) (by omega) dL_law_1005 ?_
  refine g_callVf (pc := 1006) (st := []) C mL_109 x rfl rfl rfl rfl (h.ix.1.1 0 (by decide)) (by rw [D.1]; decide) (by rw [D.1]; show cells + mcx ≤ 600000 ∧ slots + msx ≤ 7302250; omega) (by decide) dL_law_1006 (fun q hq => by rw [D.2.1]; exact decide_eq_true (by rcases hf q hq with z | z <;> omega)) (lw_okL hf k) rfl (fun rr SS hP => ?_)
  obtain ⟨rfl, rfl⟩ := hP
  refine g_aload_n (pc := 1009) C dL_law_1009 rfl ?_
  refine g_aload_n (pc := 1010) C dL_law_1010 rfl ?_
  refine g_iload_n (pc := 1011) C dL_law_1011 rfl ?_
  refine g_iconst (pc := 1012) C 1 dL_law_1012 (by decide) ?_
  refine g_iadd (pc := 1013) C dL_law_1013 ?_
  refine g_eqi (nI (7 * k + 1)) (nI_add (7 * k) 1) ?_
  refine g_sldN (pc := 1014) C D (i := 7 * k + 1) (by omega) dL_law_1014 ?_
  refine g_aload_n (pc := 1015) C dL_law_1015 rfl ?_
  refine g_iload_n (pc := 1016) C dL_law_1016 rfl ?_
  refine g_iconst (pc := 1017) C 2 dL_law_1017 (by decide) ?_
  refine g_iadd (pc := 1018) C dL_law_1018 ?_
  refine g_eqi (nI (7 * k + 2)) (nI_add (7 * k) 2) ?_
  refine g_sldN (pc := 1019) C D (i := 7 * k + 2) (by omega) dL_law_1019 ?_
  refine g_aload_n (pc := 1020) C dL_law_1020 rfl ?_
  refine g_iload_n (pc := 1021) C dL_law_1021 rfl ?_
  refine g_iconst (pc := 1022) C 3 dL_law_1022 (by decide) ?_
  refine g_iadd (pc := 1023) C dL_law_1023 ?_
  refine g_eqi (nI (7 * k + 3)) (nI_add (7 * k) 3) ?_
  refine g_sldN (pc := 1024) C D (i := 7 * k + 3) (by omega) dL_law_1024 ?_
  refine g_callVf (pc := 1025) (st := [vi v]) C mL_112 m rfl rfl rfl rfl hl (by rw [D.1]; decide) (by rw [D.1]; show cells + mcx + 0 ≤ 600000 ∧ slots + msx + 0 ≤ 7302250; omega) (Nat.le_of_ble_eq_true rfl) dL_law_1025 (fun _ z => by cases z) (no_allL _) (no_all _) (fun rr SS hP => ?_)
  obtain ⟨rfl, rfl⟩ := hP
  refine g_icmp_eq (pc := 1028) C 1168 dL_law_1028 (by decide) (fun _ => ?_) (fun q => absurd rfl q)
  exact g_widen (by omega) (by omega) (K _ _ _ hr)
set_option maxHeartbeats 1000000 in
set_option maxRecDepth 100000 in
theorem lw_op23 {X : Xt} {Y : Yt} {b N : Nat} {xs : Nat → Int32} (C : Cx X Y cL_law 4 RL) (D : LwX X Y b N xs) {S : Mm} {mc : Nat} {lc : Nat → Nat} (h : RR S S mc lc) {k cells slots : Nat} (hk : 7 * k + 7 ≤ N) (hc : cells + 13 ≤ 600000) (hs : slots + 838 ≤ 7302250) (K : ∀ S' mc' lc', RR S' S' mc' lc' → G X Y (cells + 13) (slots + 838) S' 1168 (lwL k) []) : G X Y cells slots S 1033 (lwL k) [] := by
  obtain ⟨v, S1, S2, mcx, msx, frx, mc1, lc1, hm, hms, hf, hl, x, m, hr⟩ := o_machineOf X.2.1 Y.1 Y.2.1 Y.2.2.1 h (xs (7 * k + 1)) (xs (7 * k + 2))
  refine g_aload_n (pc := 1033) C dL_law_1033 rfl ?_
  refine g_aload_n (pc := 1034) C dL_law_1034 rfl ?_
  refine g_iload_n (pc := 1035) C dL_law_1035 rfl ?_
  refine g_iconst (pc := 1036) C 1 dL_law_1036 (by decide) ?_
  refine g_iadd (pc := 1037) C dL_law_1037 ?_
  refine g_eqi (nI (7 * k + 1)) (nI_add (7 * k) 1) ?_
  refine g_sldN (pc := 1038) C D (i := 7 * k + 1) (by omega) dL_law_1038 ?_
  refine g_aload_n (pc := 1039) C dL_law_1039 rfl ?_
  refine g_iload_n (pc := 1040) C dL_law_1040 rfl ?_
  refine g_iconst (pc := 1041) C 2 dL_law_1041 (by decide) ?_
  refine g_iadd (pc := 1042) C dL_law_1042 ?_
  refine g_eqi (nI (7 * k + 2)) (nI_add (7 * k) 2) ?_
  refine g_sldN (pc := 1043) C D (i := 7 * k + 2) (by omega) dL_law_1043 ?_
  refine g_callVf (pc := 1044) (st := []) C mL_113 x rfl rfl rfl rfl (h.ix.1.1 0 (by decide)) (by rw [D.1]; decide) (by rw [D.1]; show cells + mcx ≤ 600000 ∧ slots + msx ≤ 7302250; omega) (by decide) dL_law_1044 (fun q hq => by rw [D.2.1]; exact decide_eq_true (by rcases hf q hq with z | z <;> omega)) (lw_okL hf k) rfl (fun rr SS hP => ?_)
  obtain ⟨rfl, rfl⟩ := hP
  refine g_aload_n (pc := 1047) C dL_law_1047 rfl ?_
  refine g_aload_n (pc := 1048) C dL_law_1048 rfl ?_
  refine g_iload_n (pc := 1049) C dL_law_1049 rfl ?_
  refine g_iconst (pc := 1050) C 1 dL_law_1050 (by decide) ?_
  refine g_iadd (pc := 1051) C dL_law_1051 ?_
  refine g_eqi (nI (7 * k + 1)) (nI_add (7 * k) 1) ?_
  refine g_sldN (pc := 1052) C D (i := 7 * k + 1) (by omega) dL_law_1052 ?_
  refine g_aload_n (pc := 1053) C dL_law_1053 rfl ?_
  refine g_iload_n (pc := 1054) C dL_law_1054 rfl ?_
  refine g_iconst (pc := 1055) C 2 dL_law_1055 (by decide) ?_
  refine g_iadd (pc := 1056) C dL_law_1056 ?_
  refine g_eqi (nI (7 * k + 2)) (nI_add (7 * k) 2) ?_
  refine g_sldN (pc := 1057) C D (i := 7 * k + 2) (by omega) dL_law_1057 ?_
  refine g_callVf (pc := 1058) (st := [vi v]) C mL_116 m rfl rfl rfl rfl hl (by rw [D.1]; decide) (by rw [D.1]; show cells + mcx + 0 ≤ 600000 ∧ slots + msx + 0 ≤ 7302250; omega) (Nat.le_of_ble_eq_true rfl) dL_law_1058 (fun _ z => by cases z) (no_allL _) (no_all _) (fun rr SS hP => ?_)
  obtain ⟨rfl, rfl⟩ := hP
  refine g_icmp_eq (pc := 1061) C 1168 dL_law_1061 (by decide) (fun _ => ?_) (fun q => absurd rfl q)
  exact g_widen (by omega) (by omega) (K _ _ _ hr)
set_option maxHeartbeats 1000000 in
set_option maxRecDepth 100000 in
theorem lw_op24 {X : Xt} {Y : Yt} {b N : Nat} {xs : Nat → Int32} (C : Cx X Y cL_law 4 RL) (D : LwX X Y b N xs) {S : Mm} {mc : Nat} {lc : Nat → Nat} (h : RR S S mc lc) {k cells slots : Nat} (hk : 7 * k + 7 ≤ N) (hc : cells + 13 ≤ 600000) (hs : slots + 838 ≤ 7302250) (K : ∀ S' mc' lc', RR S' S' mc' lc' → G X Y (cells + 13) (slots + 838) S' 1168 (lwL k) []) : G X Y cells slots S 1066 (lwL k) [] := by
  obtain ⟨v, S1, S2, mcx, msx, frx, mc1, lc1, hm, hms, hf, hl, x, m, hr⟩ := o_tubeOf X.2.1 Y.1 Y.2.1 Y.2.2.1 h (xs (7 * k + 1)) (xs (7 * k + 2))
  refine g_aload_n (pc := 1066) C dL_law_1066 rfl ?_
  refine g_aload_n (pc := 1067) C dL_law_1067 rfl ?_
  refine g_iload_n (pc := 1068) C dL_law_1068 rfl ?_
  refine g_iconst (pc := 1069) C 1 dL_law_1069 (by decide) ?_
  refine g_iadd (pc := 1070) C dL_law_1070 ?_
  refine g_eqi (nI (7 * k + 1)) (nI_add (7 * k) 1) ?_
  refine g_sldN (pc := 1071) C D (i := 7 * k + 1) (by omega) dL_law_1071 ?_
  refine g_aload_n (pc := 1072) C dL_law_1072 rfl ?_
  refine g_iload_n (pc := 1073) C dL_law_1073 rfl ?_
  refine g_iconst (pc := 1074) C 2 dL_law_1074 (by decide) ?_
  refine g_iadd (pc := 1075) C dL_law_1075 ?_
  refine g_eqi (nI (7 * k + 2)) (nI_add (7 * k) 2) ?_
  refine g_sldN (pc := 1076) C D (i := 7 * k + 2) (by omega) dL_law_1076 ?_
  refine g_callVf (pc := 1077) (st := []) C mL_117 x rfl rfl rfl rfl (h.ix.1.1 0 (by decide)) (by rw [D.1]; decide) (by rw [D.1]; show cells + mcx ≤ 600000 ∧ slots + msx ≤ 7302250; omega) (by decide) dL_law_1077 (fun q hq => by rw [D.2.1]; exact decide_eq_true (by rcases hf q hq with z | z <;> omega)) (lw_okL hf k) rfl (fun rr SS hP => ?_)
  obtain ⟨rfl, rfl⟩ := hP
  refine g_aload_n (pc := 1080) C dL_law_1080 rfl ?_
  refine g_aload_n (pc := 1081) C dL_law_1081 rfl ?_
  refine g_iload_n (pc := 1082) C dL_law_1082 rfl ?_
  refine g_iconst (pc := 1083) C 1 dL_law_1083 (by decide) ?_
  refine g_iadd (pc := 1084) C dL_law_1084 ?_
  refine g_eqi (nI (7 * k + 1)) (nI_add (7 * k) 1) ?_
  refine g_sldN (pc := 1085) C D (i := 7 * k + 1) (by omega) dL_law_1085 ?_
  refine g_aload_n (pc := 1086) C dL_law_1086 rfl ?_
  refine g_iload_n (pc := 1087) C dL_law_1087 rfl ?_
  refine g_iconst (pc := 1088) C 2 dL_law_1088 (by decide) ?_
  refine g_iadd (pc := 1089) C dL_law_1089 ?_
  refine g_eqi (nI (7 * k + 2)) (nI_add (7 * k) 2) ?_
  refine g_sldN (pc := 1090) C D (i := 7 * k + 2) (by omega) dL_law_1090 ?_
  refine g_callVf (pc := 1091) (st := [vi v]) C mL_120 m rfl rfl rfl rfl hl (by rw [D.1]; decide) (by rw [D.1]; show cells + mcx + 0 ≤ 600000 ∧ slots + msx + 0 ≤ 7302250; omega) (Nat.le_of_ble_eq_true rfl) dL_law_1091 (fun _ z => by cases z) (no_allL _) (no_all _) (fun rr SS hP => ?_)
  obtain ⟨rfl, rfl⟩ := hP
  refine g_icmp_eq (pc := 1094) C 1168 dL_law_1094 (by decide) (fun _ => ?_) (fun q => absurd rfl q)
  exact g_widen (by omega) (by omega) (K _ _ _ hr)
set_option maxHeartbeats 1000000 in
set_option maxRecDepth 100000 in
theorem lw_op25 {X : Xt} {Y : Yt} {b N : Nat} {xs : Nat → Int32} (C : Cx X Y cL_law 4 RL) (D : LwX X Y b N xs) {S : Mm} {mc : Nat} {lc : Nat → Nat} (h : RR S S mc lc) {k cells slots : Nat} (hk : 7 * k + 7 ≤ N) (hc : cells + 13 ≤ 600000) (hs : slots + 838 ≤ 7302250) (K : ∀ S' mc' lc', RR S' S' mc' lc' → G X Y (cells + 13) (slots + 838) S' 1168 (lwL k) []) : G X Y cells slots S 1099 (lwL k) [] := by
  obtain ⟨v, S1, S2, mcx, msx, frx, mc1, lc1, hm, hms, hf, hl, x, m, hr⟩ := o_collect X.2.1 Y.1 Y.2.1 Y.2.2.1 h (xs (7 * k + 1))
  refine g_aload_n (pc := 1099) C dL_law_1099 rfl ?_
  refine g_aload_n (pc := 1100) C dL_law_1100 rfl ?_
  refine g_iload_n (pc := 1101) C dL_law_1101 rfl ?_
  refine g_iconst (pc := 1102) C 1 dL_law_1102 (by decide) ?_
  refine g_iadd (pc := 1103) C dL_law_1103 ?_
  refine g_eqi (nI (7 * k + 1)) (nI_add (7 * k) 1) ?_
  refine g_sldN (pc := 1104) C D (i := 7 * k + 1) (by omega) dL_law_1104 ?_
  refine g_callVf (pc := 1105) (st := []) C mL_121 x rfl rfl rfl rfl (h.ix.1.1 0 (by decide)) (by rw [D.1]; decide) (by rw [D.1]; show cells + mcx ≤ 600000 ∧ slots + msx ≤ 7302250; omega) (by decide) dL_law_1105 (fun q hq => by rw [D.2.1]; exact decide_eq_true (by rcases hf q hq with z | z <;> omega)) (lw_okL hf k) rfl (fun rr SS hP => ?_)
  obtain ⟨rfl, rfl⟩ := hP
  refine g_aload_n (pc := 1108) C dL_law_1108 rfl ?_
  refine g_aload_n (pc := 1109) C dL_law_1109 rfl ?_
  refine g_iload_n (pc := 1110) C dL_law_1110 rfl ?_
  refine g_iconst (pc := 1111) C 1 dL_law_1111 (by decide) ?_
  refine g_iadd (pc := 1112) C dL_law_1112 ?_
  refine g_eqi (nI (7 * k + 1)) (nI_add (7 * k) 1) ?_
  refine g_sldN (pc := 1113) C D (i := 7 * k + 1) (by omega) dL_law_1113 ?_
  refine g_callVf (pc := 1114) (st := [vi v]) C mL_124 m rfl rfl rfl rfl hl (by rw [D.1]; decide) (by rw [D.1]; show cells + mcx + 0 ≤ 600000 ∧ slots + msx + 0 ≤ 7302250; omega) (Nat.le_of_ble_eq_true rfl) dL_law_1114 (fun _ z => by cases z) (no_allL _) (no_all _) (fun rr SS hP => ?_)
  obtain ⟨rfl, rfl⟩ := hP
  refine g_icmp_eq (pc := 1117) C 1168 dL_law_1117 (by decide) (fun _ => ?_) (fun q => absurd rfl q)
  exact g_widen (by omega) (by omega) (K _ _ _ hr)
set_option maxHeartbeats 1000000 in
set_option maxRecDepth 100000 in
theorem lw_op26 {X : Xt} {Y : Yt} {b N : Nat} {xs : Nat → Int32} (C : Cx X Y cL_law 4 RL) (D : LwX X Y b N xs) {S : Mm} {mc : Nat} {lc : Nat → Nat} (h : RR S S mc lc) {k cells slots : Nat} (hk : 7 * k + 7 ≤ N) (hc : cells + 13 ≤ 600000) (hs : slots + 838 ≤ 7302250) (K : ∀ S' mc' lc', RR S' S' mc' lc' → G X Y (cells + 13) (slots + 838) S' 1168 (lwL k) []) : G X Y cells slots S 1122 (lwL k) [] := by
  obtain ⟨v, S1, S2, mcx, msx, frx, mc1, lc1, hm, hms, hf, hl, x, m, hr⟩ := o_check X.2.1 Y.1 Y.2.1 Y.2.2.1 h (xs (7 * k + 1))
  refine g_aload_n (pc := 1122) C dL_law_1122 rfl ?_
  refine g_aload_n (pc := 1123) C dL_law_1123 rfl ?_
  refine g_iload_n (pc := 1124) C dL_law_1124 rfl ?_
  refine g_iconst (pc := 1125) C 1 dL_law_1125 (by decide) ?_
  refine g_iadd (pc := 1126) C dL_law_1126 ?_
  refine g_eqi (nI (7 * k + 1)) (nI_add (7 * k) 1) ?_
  refine g_sldN (pc := 1127) C D (i := 7 * k + 1) (by omega) dL_law_1127 ?_
  refine g_callVf (pc := 1128) (st := []) C mL_125 x rfl rfl rfl rfl (h.ix.1.1 0 (by decide)) (by rw [D.1]; decide) (by rw [D.1]; show cells + mcx ≤ 600000 ∧ slots + msx ≤ 7302250; omega) (by decide) dL_law_1128 (fun q hq => by rw [D.2.1]; exact decide_eq_true (by rcases hf q hq with z | z <;> omega)) (lw_okL hf k) rfl (fun rr SS hP => ?_)
  obtain ⟨rfl, rfl⟩ := hP
  refine g_aload_n (pc := 1131) C dL_law_1131 rfl ?_
  refine g_aload_n (pc := 1132) C dL_law_1132 rfl ?_
  refine g_iload_n (pc := 1133) C dL_law_1133 rfl ?_
  refine g_iconst (pc := 1134) C 1 dL_law_1134 (by decide) ?_
  refine g_iadd (pc := 1135) C dL_law_1135 ?_
  refine g_eqi (nI (7 * k + 1)) (nI_add (7 * k) 1) ?_
  refine g_sldN (pc := 1136) C D (i := 7 * k + 1) (by omega) dL_law_1136 ?_
  refine g_callVf (pc := 1137) (st := [vi v]) C mL_129 m rfl rfl rfl rfl hl (by rw [D.1]; decide) (by rw [D.1]; show cells + mcx + 0 ≤ 600000 ∧ slots + msx + 0 ≤ 7302250; omega) (Nat.le_of_ble_eq_true rfl) dL_law_1137 (fun _ z => by cases z) (no_allL _) (no_all _) (fun rr SS hP => ?_)
  obtain ⟨rfl, rfl⟩ := hP
  refine g_icmp_eq (pc := 1140) C 1168 dL_law_1140 (by decide) (fun _ => ?_) (fun q => absurd rfl q)
  exact g_widen (by omega) (by omega) (K _ _ _ hr)
set_option maxHeartbeats 1000000 in
set_option maxRecDepth 100000 in
theorem lw_op27 {X : Xt} {Y : Yt} {b N : Nat} {xs : Nat → Int32} (C : Cx X Y cL_law 4 RL) (D : LwX X Y b N xs) {S : Mm} {mc : Nat} {lc : Nat → Nat} (h : RR S S mc lc) {k cells slots : Nat} (hk : 7 * k + 7 ≤ N) (hc : cells + 13 ≤ 600000) (hs : slots + 838 ≤ 7302250) (K : ∀ S' mc' lc', RR S' S' mc' lc' → G X Y (cells + 13) (slots + 838) S' 1168 (lwL k) []) : G X Y cells slots S 1145 (lwL k) [] := by
  obtain ⟨v, S1, S2, mcx, msx, frx, mc1, lc1, hm, hms, hf, hl, x, m, hr⟩ := o_count X.2.1 Y.1 Y.2.1 Y.2.2.1 h (xs (7 * k + 1))
  refine g_aload_n (pc := 1145) C dL_law_1145 rfl ?_
  refine g_aload_n (pc := 1146) C dL_law_1146 rfl ?_
  refine g_iload_n (pc := 1147) C dL_law_1147 rfl ?_
  refine g_iconst (pc := 1148) C 1 dL_law_1148 (by decide) ?_
  refine g_iadd (pc := 1149) C dL_law_1149 ?_
  refine g_eqi (nI (7 * k + 1)) (nI_add (7 * k) 1) ?_
  refine g_sldN (pc := 1150) C D (i := 7 * k + 1) (by omega) dL_law_1150 ?_
  refine g_callVf (pc := 1151) (st := []) C mL_130 x rfl rfl rfl rfl (h.ix.1.1 0 (by decide)) (by rw [D.1]; decide) (by rw [D.1]; show cells + mcx ≤ 600000 ∧ slots + msx ≤ 7302250; omega) (by decide) dL_law_1151 (fun q hq => by rw [D.2.1]; exact decide_eq_true (by rcases hf q hq with z | z <;> omega)) (lw_okL hf k) rfl (fun rr SS hP => ?_)
  obtain ⟨rfl, rfl⟩ := hP
  refine g_aload_n (pc := 1154) C dL_law_1154 rfl ?_
  refine g_aload_n (pc := 1155) C dL_law_1155 rfl ?_
  refine g_iload_n (pc := 1156) C dL_law_1156 rfl ?_
  refine g_iconst (pc := 1157) C 1 dL_law_1157 (by decide) ?_
  refine g_iadd (pc := 1158) C dL_law_1158 ?_
  refine g_eqi (nI (7 * k + 1)) (nI_add (7 * k) 1) ?_
  refine g_sldN (pc := 1159) C D (i := 7 * k + 1) (by omega) dL_law_1159 ?_
  refine g_callVf (pc := 1160) (st := [vi v]) C mL_133 m rfl rfl rfl rfl hl (by rw [D.1]; decide) (by rw [D.1]; show cells + mcx + 0 ≤ 600000 ∧ slots + msx + 0 ≤ 7302250; omega) (Nat.le_of_ble_eq_true rfl) dL_law_1160 (fun _ z => by cases z) (no_allL _) (no_all _) (fun rr SS hP => ?_)
  obtain ⟨rfl, rfl⟩ := hP
  refine g_icmp_eq (pc := 1163) C 1168 dL_law_1163 (by decide) (fun _ => ?_) (fun q => absurd rfl q)
  exact g_widen (by omega) (by omega) (K _ _ _ hr)
