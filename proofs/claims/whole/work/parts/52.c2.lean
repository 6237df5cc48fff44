set_option maxRecDepth 100000 in
set_option maxHeartbeats 4000000 in
theorem cs_putFor {X : XT} {Γ : Gam} (hX : OKX X Γ cL_law RL 12 438) (b M : Nat) (xs : Nat → Int32) (hB : SB X b M xs) (hM : M ≤ 3072) (i : Nat) (hi : i + 6 ≤ M) (G : GG) (hG : LR G) (K : ∀ G', LR G' → WP X Γ 1379 [some (.ref b), some (.ref (gad Γ 30)), some (.ref (gad Γ 47)), some (.int (nI i))] [] G') : WP X Γ 816 [some (.ref b), some (.ref (gad Γ 30)), some (.ref (gad Γ 47)), some (.int (nI i))] [] G := by
  obtain ⟨μ, κ, B, Z, N, T, n, h⟩ := id hG
  obtain ⟨hC, hM, hV, hSp⟩ := id h.1
  obtain ⟨hS, hSm, hZ⟩ := id h.2.2.1
  obtain ⟨t1, t2, t3, t4⟩ := id h.2.2.2.1
  refine r_aload1 hX dL_law_816 (q := 817) rfl ?_
  refine r_aload0 hX dL_law_817 (q := 818) rfl ?_
  refine r_iload3 hX dL_law_818 (q := 819) rfl ?_
  refine r_iconst hX dL_law_819 (q := 820) rfl (v := nI 1) (by decide +kernel) ?_
  refine r_iadd hX dL_law_820 (q := 821) rfl ?_
  refine r_bld hX hB dL_law_821 (q := 822) rfl (e_add rfl rfl) (by omega) (by omega) ?_
  refine r_aload0 hX dL_law_822 (q := 823) rfl ?_
  refine r_iload3 hX dL_law_823 (q := 824) rfl ?_
  refine r_iconst hX dL_law_824 (q := 825) rfl (v := nI 2) (by decide +kernel) ?_
  refine r_iadd hX dL_law_825 (q := 826) rfl ?_
  refine r_bld hX hB dL_law_826 (q := 827) rfl (e_add rfl rfl) (by omega) (by omega) ?_
  refine r_callV hX dL_law_827 (q := 830) rfl (c_X5_putFor _ Γ _ μ 99999 hC hV (by decide) _ _) kL_105 mlX5_putFor mvX5_putFor rfl rfl rfl ⟨by decide, rfl⟩ ⟨by decide, by decide⟩ (Nat.le_of_ble_eq_true rfl) (kpI (fun vA GA pA => ?_))
  have hMa := co_mr pA hM
  refine r_aload2 hX dL_law_830 (q := 831) rfl ?_
  refine r_aload0 hX dL_law_831 (q := 832) rfl ?_
  refine r_iload3 hX dL_law_832 (q := 833) rfl ?_
  refine r_iconst hX dL_law_833 (q := 834) rfl (v := nI 1) (by decide +kernel) ?_
  refine r_iadd hX dL_law_834 (q := 835) rfl ?_
  refine r_bld hX hB dL_law_835 (q := 836) rfl (e_add rfl rfl) (by omega) (by omega) ?_
  refine r_aload0 hX dL_law_836 (q := 837) rfl ?_
  refine r_iload3 hX dL_law_837 (q := 838) rfl ?_
  refine r_iconst hX dL_law_838 (q := 839) rfl (v := nI 2) (by decide +kernel) ?_
  refine r_iadd hX dL_law_839 (q := 840) rfl ?_
  refine r_bld hX hB dL_law_840 (q := 841) rfl (e_add rfl rfl) (by omega) (by omega) ?_
  refine r_callV hX dL_law_841 (q := 844) rfl (c_X6_putFor _ Γ _ μ hMa 99999 hV (by decide) _ _) kL_108 mlX6_putFor mvX6_putFor rfl rfl rfl ⟨by decide, rfl⟩ ⟨by decide, by decide⟩ (Nat.le_of_ble_eq_true rfl) (kpI (fun vC GC pC => ?_))
  obtain ⟨hEq, hLR⟩ := lr_o h pA pC (iv_best hV hSp _ _ 2)
  first | refine r_icmpN_eq hX dL_law_844 (q := 847) rfl (tgt := 1379) (by decide) (by first | decide | omega) (by first | decide | omega) (fun h844 => ?_) (fun h844 => ?_) | refine r_icmp_eq hX dL_law_844 (q := 847) rfl (tgt := 1379) (by decide) (fun h844 => ?_) (fun h844 => ?_)
  ·
    exact K _ hLR
  ·
    exact absurd hEq h844 --end

set_option maxRecDepth 100000 in
set_option maxHeartbeats 4000000 in
theorem cs_paid {X : XT} {Γ : Gam} (hX : OKX X Γ cL_law RL 12 438) (b M : Nat) (xs : Nat → Int32) (hB : SB X b M xs) (hM : M ≤ 3072) (i : Nat) (hi : i + 6 ≤ M) (G : GG) (hG : LR G) (K : ∀ G', LR G' → WP X Γ 1379 [some (.ref b), some (.ref (gad Γ 30)), some (.ref (gad Γ 47)), some (.int (nI i))] [] G') : WP X Γ 849 [some (.ref b), some (.ref (gad Γ 30)), some (.ref (gad Γ 47)), some (.int (nI i))] [] G := by
  obtain ⟨μ, κ, B, Z, N, T, n, h⟩ := id hG
  obtain ⟨hC, hM, hV, hSp⟩ := id h.1
  obtain ⟨hS, hSm, hZ⟩ := id h.2.2.1
  obtain ⟨t1, t2, t3, t4⟩ := id h.2.2.2.1
  refine r_aload1 hX dL_law_849 (q := 850) rfl ?_
  refine r_aload0 hX dL_law_850 (q := 851) rfl ?_
  refine r_iload3 hX dL_law_851 (q := 852) rfl ?_
  refine r_iconst hX dL_law_852 (q := 853) rfl (v := nI 1) (by decide +kernel) ?_
  refine r_iadd hX dL_law_853 (q := 854) rfl ?_
  refine r_bld hX hB dL_law_854 (q := 855) rfl (e_add rfl rfl) (by omega) (by omega) ?_
  refine r_callV hX dL_law_855 (q := 858) rfl (c_X5_paid _ Γ _ μ 99999 hC hV (by decide) _) kL_109 mlX5_paid mvX5_paid rfl rfl rfl ⟨by decide, rfl⟩ ⟨by decide, by decide⟩ (Nat.le_of_ble_eq_true rfl) (kpI (fun vA GA pA => ?_))
  have hMa := co_mr pA hM
  refine r_aload2 hX dL_law_858 (q := 859) rfl ?_
  refine r_aload0 hX dL_law_859 (q := 860) rfl ?_
  refine r_iload3 hX dL_law_860 (q := 861) rfl ?_
  refine r_iconst hX dL_law_861 (q := 862) rfl (v := nI 1) (by decide +kernel) ?_
  refine r_iadd hX dL_law_862 (q := 863) rfl ?_
  refine r_bld hX hB dL_law_863 (q := 864) rfl (e_add rfl rfl) (by omega) (by omega) ?_
  refine r_callV hX dL_law_864 (q := 867) rfl (c_X6_paid _ Γ _ μ hMa 99999 hV (by decide) _) kL_112 mlX6_paid mvX6_paid rfl rfl rfl ⟨by decide, rfl⟩ ⟨by decide, by decide⟩ (Nat.le_of_ble_eq_true rfl) (kpI (fun vC GC pC => ?_))
  obtain ⟨hEq, hLR⟩ := lr_o h pA pC (iv_paid hV hSp _)
  first | refine r_icmpN_eq hX dL_law_867 (q := 870) rfl (tgt := 1379) (by decide) (by first | decide | omega) (by first | decide | omega) (fun h867 => ?_) (fun h867 => ?_) | refine r_icmp_eq hX dL_law_867 (q := 870) rfl (tgt := 1379) (by decide) (fun h867 => ?_) (fun h867 => ?_)
  ·
    exact K _ hLR
  ·
    exact absurd hEq h867 --end

set_option maxRecDepth 100000 in
set_option maxHeartbeats 4000000 in
theorem cs_worry {X : XT} {Γ : Gam} (hX : OKX X Γ cL_law RL 12 438) (b M : Nat) (xs : Nat → Int32) (hB : SB X b M xs) (hM : M ≤ 3072) (i : Nat) (hi : i + 6 ≤ M) (G : GG) (hG : LR G) (K : ∀ G', LR G' → WP X Γ 1379 [some (.ref b), some (.ref (gad Γ 30)), some (.ref (gad Γ 47)), some (.int (nI i))] [] G') : WP X Γ 872 [some (.ref b), some (.ref (gad Γ 30)), some (.ref (gad Γ 47)), some (.int (nI i))] [] G := by
  obtain ⟨μ, κ, B, Z, N, T, n, h⟩ := id hG
  obtain ⟨hC, hM, hV, hSp⟩ := id h.1
  obtain ⟨hS, hSm, hZ⟩ := id h.2.2.1
  obtain ⟨t1, t2, t3, t4⟩ := id h.2.2.2.1
  refine r_aload1 hX dL_law_872 (q := 873) rfl ?_
  refine r_callV hX dL_law_873 (q := 876) rfl (c_X5_worry _ Γ _ μ 99999 hC hV (by decide)) kL_113 mlX5_worry mvX5_worry rfl rfl rfl ⟨by decide, rfl⟩ ⟨by decide, by decide⟩ (Nat.le_of_ble_eq_true rfl) (kpI (fun vA GA pA => ?_))
  have hMa := co_mr pA hM
  refine r_aload2 hX dL_law_876 (q := 877) rfl ?_
  refine r_callV hX dL_law_877 (q := 880) rfl (c_X6_worry _ Γ _ μ hMa 99999 hV (by decide)) kL_116 mlX6_worry mvX6_worry rfl rfl rfl ⟨by decide, rfl⟩ ⟨by decide, by decide⟩ (Nat.le_of_ble_eq_true rfl) (kpI (fun vC GC pC => ?_))
  obtain ⟨hEq, hLR⟩ := lr_o h pA pC (iv_worry hV hSp)
  first | refine r_icmpN_eq hX dL_law_880 (q := 883) rfl (tgt := 1379) (by decide) (by first | decide | omega) (by first | decide | omega) (fun h880 => ?_) (fun h880 => ?_) | refine r_icmp_eq hX dL_law_880 (q := 883) rfl (tgt := 1379) (by decide) (fun h880 => ?_) (fun h880 => ?_)
  ·
    exact K _ hLR
  ·
    exact absurd hEq h880 --end

set_option maxRecDepth 100000 in
set_option maxHeartbeats 4000000 in
theorem cs_order {X : XT} {Γ : Gam} (hX : OKX X Γ cL_law RL 12 438) (b M : Nat) (xs : Nat → Int32) (hB : SB X b M xs) (hM : M ≤ 3072) (i : Nat) (hi : i + 6 ≤ M) (G : GG) (hG : LR G) (K : ∀ G', LR G' → WP X Γ 1379 [some (.ref b), some (.ref (gad Γ 30)), some (.ref (gad Γ 47)), some (.int (nI i))] [] G') : WP X Γ 885 [some (.ref b), some (.ref (gad Γ 30)), some (.ref (gad Γ 47)), some (.int (nI i))] [] G := by
  obtain ⟨μ, κ, B, Z, N, T, n, h⟩ := id hG
  obtain ⟨hC, hM, hV, hSp⟩ := id h.1
  obtain ⟨hS, hSm, hZ⟩ := id h.2.2.1
  obtain ⟨t1, t2, t3, t4⟩ := id h.2.2.2.1
  refine r_aload1 hX dL_law_885 (q := 886) rfl ?_
  refine r_aload0 hX dL_law_886 (q := 887) rfl ?_
  refine r_iload3 hX dL_law_887 (q := 888) rfl ?_
  refine r_iconst hX dL_law_888 (q := 889) rfl (v := nI 1) (by decide +kernel) ?_
  refine r_iadd hX dL_law_889 (q := 890) rfl ?_
  refine r_bld hX hB dL_law_890 (q := 891) rfl (e_add rfl rfl) (by omega) (by omega) ?_
  refine r_callV hX dL_law_891 (q := 894) rfl (c_X5_order _ Γ _ μ 99999 hC hV (by decide) _) kL_117 mlX5_order mvX5_order rfl rfl rfl ⟨by decide, rfl⟩ ⟨by decide, by decide⟩ (Nat.le_of_ble_eq_true rfl) (kpI (fun vA GA pA => ?_))
  have hMa := co_mr pA hM
  refine r_aload2 hX dL_law_894 (q := 895) rfl ?_
  refine r_aload0 hX dL_law_895 (q := 896) rfl ?_
  refine r_iload3 hX dL_law_896 (q := 897) rfl ?_
  refine r_iconst hX dL_law_897 (q := 898) rfl (v := nI 1) (by decide +kernel) ?_
  refine r_iadd hX dL_law_898 (q := 899) rfl ?_
  refine r_bld hX hB dL_law_899 (q := 900) rfl (e_add rfl rfl) (by omega) (by omega) ?_
  refine r_callV hX dL_law_900 (q := 903) rfl (c_X6_order _ Γ _ μ hMa 99999 hV (by decide) _) kL_120 mlX6_order mvX6_order rfl rfl rfl ⟨by decide, rfl⟩ ⟨by decide, by decide⟩ (Nat.le_of_ble_eq_true rfl) (kpI (fun vC GC pC => ?_))
  obtain ⟨hEq, hLR⟩ := lr_o h pA pC (iv_order hV hSp _)
  first | refine r_icmpN_eq hX dL_law_903 (q := 906) rfl (tgt := 1379) (by decide) (by first | decide | omega) (by first | decide | omega) (fun h903 => ?_) (fun h903 => ?_) | refine r_icmp_eq hX dL_law_903 (q := 906) rfl (tgt := 1379) (by decide) (fun h903 => ?_) (fun h903 => ?_)
  ·
    exact K _ hLR
  ·
    exact absurd hEq h903 --end

set_option maxRecDepth 100000 in
set_option maxHeartbeats 4000000 in
theorem cs_chance {X : XT} {Γ : Gam} (hX : OKX X Γ cL_law RL 12 438) (b M : Nat) (xs : Nat → Int32) (hB : SB X b M xs) (hM : M ≤ 3072) (i : Nat) (hi : i + 6 ≤ M) (G : GG) (hG : LR G) (K : ∀ G', LR G' → WP X Γ 1379 [some (.ref b), some (.ref (gad Γ 30)), some (.ref (gad Γ 47)), some (.int (nI i))] [] G') : WP X Γ 908 [some (.ref b), some (.ref (gad Γ 30)), some (.ref (gad Γ 47)), some (.int (nI i))] [] G := by
  obtain ⟨μ, κ, B, Z, N, T, n, h⟩ := id hG
  obtain ⟨hC, hM, hV, hSp⟩ := id h.1
  obtain ⟨hS, hSm, hZ⟩ := id h.2.2.1
  obtain ⟨t1, t2, t3, t4⟩ := id h.2.2.2.1
  refine r_aload1 hX dL_law_908 (q := 909) rfl ?_
  refine r_aload0 hX dL_law_909 (q := 910) rfl ?_
  refine r_iload3 hX dL_law_910 (q := 911) rfl ?_
  refine r_iconst hX dL_law_911 (q := 912) rfl (v := nI 1) (by decide +kernel) ?_
  refine r_iadd hX dL_law_912 (q := 913) rfl ?_
  refine r_bld hX hB dL_law_913 (q := 914) rfl (e_add rfl rfl) (by omega) (by omega) ?_
  refine r_aload0 hX dL_law_914 (q := 915) rfl ?_
  refine r_iload3 hX dL_law_915 (q := 916) rfl ?_
  refine r_iconst hX dL_law_916 (q := 917) rfl (v := nI 2) (by decide +kernel) ?_
  refine r_iadd hX dL_law_917 (q := 918) rfl ?_
  refine r_bld hX hB dL_law_918 (q := 919) rfl (e_add rfl rfl) (by omega) (by omega) ?_
  refine r_aload0 hX dL_law_919 (q := 920) rfl ?_
  refine r_iload3 hX dL_law_920 (q := 921) rfl ?_
  refine r_iconst hX dL_law_921 (q := 922) rfl (v := nI 3) (by decide +kernel) ?_
  refine r_iadd hX dL_law_922 (q := 923) rfl ?_
  refine r_bld hX hB dL_law_923 (q := 924) rfl (e_add rfl rfl) (by omega) (by omega) ?_
  refine r_callV hX dL_law_924 (q := 927) rfl (c_X5_chance _ Γ _ μ 99999 hC hV (by decide) _ _ _) kL_121 mlX5_chance mvX5_chance rfl rfl rfl ⟨by decide, rfl⟩ ⟨by decide, by decide⟩ (Nat.le_of_ble_eq_true rfl) (kpI (fun vA GA pA => ?_))
  have hMa := co_mr pA hM
  refine r_aload2 hX dL_law_927 (q := 928) rfl ?_
  refine r_aload0 hX dL_law_928 (q := 929) rfl ?_
  refine r_iload3 hX dL_law_929 (q := 930) rfl ?_
  refine r_iconst hX dL_law_930 (q := 931) rfl (v := nI 1) (by decide +kernel) ?_
  refine r_iadd hX dL_law_931 (q := 932) rfl ?_
  refine r_bld hX hB dL_law_932 (q := 933) rfl (e_add rfl rfl) (by omega) (by omega) ?_
  refine r_aload0 hX dL_law_933 (q := 934) rfl ?_
  refine r_iload3 hX dL_law_934 (q := 935) rfl ?_
  refine r_iconst hX dL_law_935 (q := 936) rfl (v := nI 2) (by decide +kernel) ?_
  refine r_iadd hX dL_law_936 (q := 937) rfl ?_
  refine r_bld hX hB dL_law_937 (q := 938) rfl (e_add rfl rfl) (by omega) (by omega) ?_
  refine r_aload0 hX dL_law_938 (q := 939) rfl ?_
  refine r_iload3 hX dL_law_939 (q := 940) rfl ?_
  refine r_iconst hX dL_law_940 (q := 941) rfl (v := nI 3) (by decide +kernel) ?_
  refine r_iadd hX dL_law_941 (q := 942) rfl ?_
  refine r_bld hX hB dL_law_942 (q := 943) rfl (e_add rfl rfl) (by omega) (by omega) ?_
  refine r_callV hX dL_law_943 (q := 946) rfl (c_X6_chance _ Γ _ μ hMa 99999 hV (by decide) _ _ _) kL_124 mlX6_chance mvX6_chance rfl rfl rfl ⟨by decide, rfl⟩ ⟨by decide, by decide⟩ (Nat.le_of_ble_eq_true rfl) (kpI (fun vC GC pC => ?_))
  obtain ⟨hEq, hLR⟩ := lr_o h pA pC (iv_chance hV hSp _ _ _)
  first | refine r_icmpN_eq hX dL_law_946 (q := 949) rfl (tgt := 1379) (by decide) (by first | decide | omega) (by first | decide | omega) (fun h946 => ?_) (fun h946 => ?_) | refine r_icmp_eq hX dL_law_946 (q := 949) rfl (tgt := 1379) (by decide) (fun h946 => ?_) (fun h946 => ?_)
  ·
    exact K _ hLR
  ·
    exact absurd hEq h946 --end

set_option maxRecDepth 100000 in
set_option maxHeartbeats 4000000 in
theorem cs_seed {X : XT} {Γ : Gam} (hX : OKX X Γ cL_law RL 12 438) (b M : Nat) (xs : Nat → Int32) (hB : SB X b M xs) (hM : M ≤ 3072) (i : Nat) (hi : i + 6 ≤ M) (G : GG) (hG : LR G) (K : ∀ G', LR G' → WP X Γ 1379 [some (.ref b), some (.ref (gad Γ 30)), some (.ref (gad Γ 47)), some (.int (nI i))] [] G') : WP X Γ 951 [some (.ref b), some (.ref (gad Γ 30)), some (.ref (gad Γ 47)), some (.int (nI i))] [] G := by
  obtain ⟨μ, κ, B, Z, N, T, n, h⟩ := id hG
  obtain ⟨hC, hM, hV, hSp⟩ := id h.1
  obtain ⟨hS, hSm, hZ⟩ := id h.2.2.1
  obtain ⟨t1, t2, t3, t4⟩ := id h.2.2.2.1
  refine r_aload1 hX dL_law_951 (q := 952) rfl ?_
  refine r_aload0 hX dL_law_952 (q := 953) rfl ?_
  refine r_iload3 hX dL_law_953 (q := 954) rfl ?_
  refine r_iconst hX dL_law_954 (q := 955) rfl (v := nI 1) (by decide +kernel) ?_
  refine r_iadd hX dL_law_955 (q := 956) rfl ?_
  refine r_bld hX hB dL_law_956 (q := 957) rfl (e_add rfl rfl) (by omega) (by omega) ?_
  refine r_callV hX dL_law_957 (q := 960) rfl (c_X5_seed _ Γ _ μ 99999 hC hV _) kL_125 mlX5_seed mvX5_seed rfl rfl rfl ⟨by decide, rfl⟩ ⟨by decide, by decide⟩ (Nat.le_of_ble_eq_true rfl) (kpI (fun vA GA pA => ?_))
  have hMa := co_mr pA hM
  refine r_aload2 hX dL_law_960 (q := 961) rfl ?_
  refine r_aload0 hX dL_law_961 (q := 962) rfl ?_
  refine r_iload3 hX dL_law_962 (q := 963) rfl ?_
  refine r_iconst hX dL_law_963 (q := 964) rfl (v := nI 1) (by decide +kernel) ?_
  refine r_iadd hX dL_law_964 (q := 965) rfl ?_
  refine r_bld hX hB dL_law_965 (q := 966) rfl (e_add rfl rfl) (by omega) (by omega) ?_
  refine r_callV hX dL_law_966 (q := 969) rfl (c_X6_seed _ Γ _ μ hMa _) kL_128 mlX6_seed mvX6_seed rfl rfl rfl ⟨by decide, rfl⟩ ⟨by decide, by decide⟩ (Nat.le_of_ble_eq_true rfl) (kpI (fun vC GC pC => ?_))
  obtain ⟨hEq, hLR⟩ := lr_o h pA pC (iv_seed hV hSp _)
  first | refine r_icmpN_eq hX dL_law_969 (q := 972) rfl (tgt := 1379) (by decide) (by first | decide | omega) (by first | decide | omega) (fun h969 => ?_) (fun h969 => ?_) | refine r_icmp_eq hX dL_law_969 (q := 972) rfl (tgt := 1379) (by decide) (fun h969 => ?_) (fun h969 => ?_)
  ·
    exact K _ hLR
  ·
    exact absurd hEq h969 --end

set_option maxRecDepth 100000 in
set_option maxHeartbeats 4000000 in
theorem cs_feed {X : XT} {Γ : Gam} (hX : OKX X Γ cL_law RL 12 438) (b M : Nat) (xs : Nat → Int32) (hB : SB X b M xs) (hM : M ≤ 3072) (i : Nat) (hi : i + 6 ≤ M) (G : GG) (hG : LR G) (K : ∀ G', LR G' → WP X Γ 1379 [some (.ref b), some (.ref (gad Γ 30)), some (.ref (gad Γ 47)), some (.int (nI i))] [] G') : WP X Γ 974 [some (.ref b), some (.ref (gad Γ 30)), some (.ref (gad Γ 47)), some (.int (nI i))] [] G := by
  obtain ⟨μ, κ, B, Z, N, T, n, h⟩ := id hG
  obtain ⟨hC, hM, hV, hSp⟩ := id h.1
  obtain ⟨hS, hSm, hZ⟩ := id h.2.2.1
  obtain ⟨t1, t2, t3, t4⟩ := id h.2.2.2.1
  refine r_aload1 hX dL_law_974 (q := 975) rfl ?_
  refine r_aload0 hX dL_law_975 (q := 976) rfl ?_
  refine r_iload3 hX dL_law_976 (q := 977) rfl ?_
  refine r_iconst hX dL_law_977 (q := 978) rfl (v := nI 1) (by decide +kernel) ?_
  refine r_iadd hX dL_law_978 (q := 979) rfl ?_
  refine r_bld hX hB dL_law_979 (q := 980) rfl (e_add rfl rfl) (by omega) (by omega) ?_
  refine r_aload0 hX dL_law_980 (q := 981) rfl ?_
  refine r_iload3 hX dL_law_981 (q := 982) rfl ?_
  refine r_iconst hX dL_law_982 (q := 983) rfl (v := nI 2) (by decide +kernel) ?_
  refine r_iadd hX dL_law_983 (q := 984) rfl ?_
  refine r_bld hX hB dL_law_984 (q := 985) rfl (e_add rfl rfl) (by omega) (by omega) ?_
  refine r_callV hX dL_law_985 (q := 988) rfl (c_X5_feed _ Γ _ _ _ n t1 t3) kL_129 mlX5_feed mvX5_feed rfl rfl rfl ⟨by decide, rfl⟩ ⟨by decide, by decide⟩ (Nat.le_of_ble_eq_true rfl) (kpI (fun vA GA pA => ?_))
  have t2a : GA 47 6 = nI n := by
    rcases pA with ⟨-, a⟩ | ⟨-, -, a⟩ | ⟨-, -, -, a⟩
    · rw [a.2, up_ne (by omega)]; exact t2
    · rw [a.2, up_ne (by omega)]; exact t2
    · rw [a, up_ne (by omega)]; simp only [upc]; exact t2
  refine r_aload2 hX dL_law_988 (q := 989) rfl ?_
  refine r_aload0 hX dL_law_989 (q := 990) rfl ?_
  refine r_iload3 hX dL_law_990 (q := 991) rfl ?_
  refine r_iconst hX dL_law_991 (q := 992) rfl (v := nI 1) (by decide +kernel) ?_
  refine r_iadd hX dL_law_992 (q := 993) rfl ?_
  refine r_bld hX hB dL_law_993 (q := 994) rfl (e_add rfl rfl) (by omega) (by omega) ?_
  refine r_aload0 hX dL_law_994 (q := 995) rfl ?_
  refine r_iload3 hX dL_law_995 (q := 996) rfl ?_
  refine r_iconst hX dL_law_996 (q := 997) rfl (v := nI 2) (by decide +kernel) ?_
  refine r_iadd hX dL_law_997 (q := 998) rfl ?_
  refine r_bld hX hB dL_law_998 (q := 999) rfl (e_add rfl rfl) (by omega) (by omega) ?_
  refine r_callV hX dL_law_999 (q := 1002) rfl (c_X6_feed _ Γ _ _ _ n t2a t3) kL_132 mlX6_feed mvX6_feed rfl rfl rfl ⟨by decide, rfl⟩ ⟨by decide, by decide⟩ (Nat.le_of_ble_eq_true rfl) (kpI (fun vC GC pC => ?_))
  obtain ⟨hEq, hLR⟩ := lr_feed h pA pC
  first | refine r_icmpN_eq hX dL_law_1002 (q := 1005) rfl (tgt := 1379) (by decide) (by first | decide | omega) (by first | decide | omega) (fun h1002 => ?_) (fun h1002 => ?_) | refine r_icmp_eq hX dL_law_1002 (q := 1005) rfl (tgt := 1379) (by decide) (fun h1002 => ?_) (fun h1002 => ?_)
  ·
    exact K _ hLR
  ·
    exact absurd hEq h1002 --end

set_option maxRecDepth 100000 in
set_option maxHeartbeats 4000000 in
theorem cs_wipe {X : XT} {Γ : Gam} (hX : OKX X Γ cL_law RL 12 438) (b M : Nat) (xs : Nat → Int32) (hB : SB X b M xs) (hM : M ≤ 3072) (i : Nat) (hi : i + 6 ≤ M) (G : GG) (hG : LR G) (K : ∀ G', LR G' → WP X Γ 1379 [some (.ref b), some (.ref (gad Γ 30)), some (.ref (gad Γ 47)), some (.int (nI i))] [] G') : WP X Γ 1007 [some (.ref b), some (.ref (gad Γ 30)), some (.ref (gad Γ 47)), some (.int (nI i))] [] G := by
  obtain ⟨μ, κ, B, Z, N, T, n, h⟩ := id hG
  obtain ⟨hC, hM, hV, hSp⟩ := id h.1
  obtain ⟨hS, hSm, hZ⟩ := id h.2.2.1
  obtain ⟨t1, t2, t3, t4⟩ := id h.2.2.2.1
  refine r_aload1 hX dL_law_1007 (q := 1008) rfl ?_
  refine r_callV hX dL_law_1008 (q := 1011) rfl (c_X5_wipe _ Γ _ ) kL_133 mlX5_wipe mvX5_wipe rfl rfl rfl ⟨by decide, rfl⟩ ⟨by decide, by decide⟩ (Nat.le_of_ble_eq_true rfl) (keI ?_)
  refine r_aload2 hX dL_law_1011 (q := 1012) rfl ?_
  refine r_callV hX dL_law_1012 (q := 1015) rfl (c_X6_wipe _ Γ _ ) kL_136 mlX6_wipe mvX6_wipe rfl rfl rfl ⟨by decide, rfl⟩ ⟨by decide, by decide⟩ (Nat.le_of_ble_eq_true rfl) (keI ?_)
  obtain ⟨hEq, hLR⟩ := lr_wipe h
  first | refine r_icmpN_eq hX dL_law_1015 (q := 1018) rfl (tgt := 1379) (by decide) (by first | decide | omega) (by first | decide | omega) (fun h1015 => ?_) (fun h1015 => ?_) | refine r_icmp_eq hX dL_law_1015 (q := 1018) rfl (tgt := 1379) (by decide) (fun h1015 => ?_) (fun h1015 => ?_)
  ·
    exact K _ hLR
  ·
    exact absurd hEq h1015 --end

set_option maxRecDepth 100000 in
set_option maxHeartbeats 4000000 in
theorem cs_text {X : XT} {Γ : Gam} (hX : OKX X Γ cL_law RL 12 438) (b M : Nat) (xs : Nat → Int32) (hB : SB X b M xs) (hM : M ≤ 3072) (i : Nat) (hi : i + 6 ≤ M) (G : GG) (hG : LR G) (K : ∀ G', LR G' → WP X Γ 1379 [some (.ref b), some (.ref (gad Γ 30)), some (.ref (gad Γ 47)), some (.int (nI i))] [] G') : WP X Γ 1020 [some (.ref b), some (.ref (gad Γ 30)), some (.ref (gad Γ 47)), some (.int (nI i))] [] G := by
  obtain ⟨μ, κ, B, Z, N, T, n, h⟩ := id hG
  obtain ⟨hC, hM, hV, hSp⟩ := id h.1
  obtain ⟨hS, hSm, hZ⟩ := id h.2.2.1
  obtain ⟨t1, t2, t3, t4⟩ := id h.2.2.2.1
  refine r_aload1 hX dL_law_1020 (q := 1021) rfl ?_
  refine r_callV hX dL_law_1021 (q := 1024) rfl (c_X5_text _ Γ _ μ 99999 hC hV T n t1 t3 (fun j hj => (t4 j hj).1)) kL_137 mlX5_text mvX5_text rfl rfl rfl ⟨by decide, rfl⟩ ⟨by decide, by decide⟩ (Nat.le_of_ble_eq_true rfl) (kpI (fun vA GA pA => ?_))
  have hMa : MR GA μ := hM.fr (pA.2.1 48 (by omega))
  have t2a : GA 47 6 = nI n := by rw [pA.2.1 47 (by omega)]; exact t2
  refine r_aload2 hX dL_law_1024 (q := 1025) rfl ?_
  refine r_callV hX dL_law_1025 (q := 1028) rfl (c_X6_text _ Γ _ μ hMa 99999 hV T n ⟨t2a, t3, fun j hj => by rw [pA.2.1 52 (by omega)]; exact (t4 j hj).2⟩) kL_140 mlX6_text mvX6_text rfl rfl rfl ⟨by decide, rfl⟩ ⟨by decide, by decide⟩ (Nat.le_of_ble_eq_true rfl) (kpI (fun vC GC pC => ?_))
  obtain ⟨hEq, hLR⟩ := lr_text h pA pC
  first | refine r_icmpN_eq hX dL_law_1028 (q := 1031) rfl (tgt := 1379) (by decide) (by first | decide | omega) (by first | decide | omega) (fun h1028 => ?_) (fun h1028 => ?_) | refine r_icmp_eq hX dL_law_1028 (q := 1031) rfl (tgt := 1379) (by decide) (fun h1028 => ?_) (fun h1028 => ?_)
  ·
    exact K _ hLR
  ·
    exact absurd hEq h1028 --end

set_option maxRecDepth 100000 in
set_option maxHeartbeats 4000000 in
theorem cs_hold {X : XT} {Γ : Gam} (hX : OKX X Γ cL_law RL 12 438) (b M : Nat) (xs : Nat → Int32) (hB : SB X b M xs) (hM : M ≤ 3072) (i : Nat) (hi : i + 6 ≤ M) (G : GG) (hG : LR G) (K : ∀ G', LR G' → WP X Γ 1379 [some (.ref b), some (.ref (gad Γ 30)), some (.ref (gad Γ 47)), some (.int (nI i))] [] G') : WP X Γ 1033 [some (.ref b), some (.ref (gad Γ 30)), some (.ref (gad Γ 47)), some (.int (nI i))] [] G := by
  obtain ⟨μ, κ, B, Z, N, T, n, h⟩ := id hG
  obtain ⟨hC, hM, hV, hSp⟩ := id h.1
  obtain ⟨hS, hSm, hZ⟩ := id h.2.2.1
  obtain ⟨t1, t2, t3, t4⟩ := id h.2.2.2.1
  refine r_aload1 hX dL_law_1033 (q := 1034) rfl ?_
  refine r_aload0 hX dL_law_1034 (q := 1035) rfl ?_
  refine r_iload3 hX dL_law_1035 (q := 1036) rfl ?_
  refine r_iconst hX dL_law_1036 (q := 1037) rfl (v := nI 1) (by decide +kernel) ?_
  refine r_iadd hX dL_law_1037 (q := 1038) rfl ?_
  refine r_bld hX hB dL_law_1038 (q := 1039) rfl (e_add rfl rfl) (by omega) (by omega) ?_
  refine r_aload0 hX dL_law_1039 (q := 1040) rfl ?_
  refine r_iload3 hX dL_law_1040 (q := 1041) rfl ?_
  refine r_iconst hX dL_law_1041 (q := 1042) rfl (v := nI 2) (by decide +kernel) ?_
  refine r_iadd hX dL_law_1042 (q := 1043) rfl ?_
  refine r_bld hX hB dL_law_1043 (q := 1044) rfl (e_add rfl rfl) (by omega) (by omega) ?_
  refine r_callV hX dL_law_1044 (q := 1047) rfl (c_X5_hold _ Γ _ μ 99999 hC hV _ _) kL_141 mlX5_hold mvX5_hold rfl rfl rfl ⟨by decide, rfl⟩ ⟨by decide, by decide⟩ (Nat.le_of_ble_eq_true rfl) (kpI (fun vA GA pA => ?_))
  have hMa := co_mr pA hM
  refine r_aload2 hX dL_law_1047 (q := 1048) rfl ?_
  refine r_aload0 hX dL_law_1048 (q := 1049) rfl ?_
  refine r_iload3 hX dL_law_1049 (q := 1050) rfl ?_
  refine r_iconst hX dL_law_1050 (q := 1051) rfl (v := nI 1) (by decide +kernel) ?_
  refine r_iadd hX dL_law_1051 (q := 1052) rfl ?_
  refine r_bld hX hB dL_law_1052 (q := 1053) rfl (e_add rfl rfl) (by omega) (by omega) ?_
  refine r_aload0 hX dL_law_1053 (q := 1054) rfl ?_
  refine r_iload3 hX dL_law_1054 (q := 1055) rfl ?_
  refine r_iconst hX dL_law_1055 (q := 1056) rfl (v := nI 2) (by decide +kernel) ?_
  refine r_iadd hX dL_law_1056 (q := 1057) rfl ?_
  refine r_bld hX hB dL_law_1057 (q := 1058) rfl (e_add rfl rfl) (by omega) (by omega) ?_
  refine r_callV hX dL_law_1058 (q := 1061) rfl (c_X6_hold _ Γ _ μ hMa 99999 hV _ _) kL_144 mlX6_hold mvX6_hold rfl rfl rfl ⟨by decide, rfl⟩ ⟨by decide, by decide⟩ (Nat.le_of_ble_eq_true rfl) (kpI (fun vC GC pC => ?_))
  obtain ⟨hEq, hLR⟩ := lr_o h pA pC (iv_hold hV hSp _ _)
  first | refine r_icmpN_eq hX dL_law_1061 (q := 1064) rfl (tgt := 1379) (by decide) (by first | decide | omega) (by first | decide | omega) (fun h1061 => ?_) (fun h1061 => ?_) | refine r_icmp_eq hX dL_law_1061 (q := 1064) rfl (tgt := 1379) (by decide) (fun h1061 => ?_) (fun h1061 => ?_)
  ·
    exact K _ hLR
  ·
    exact absurd hEq h1061 --end

set_option maxRecDepth 100000 in
set_option maxHeartbeats 4000000 in
theorem cs_as {X : XT} {Γ : Gam} (hX : OKX X Γ cL_law RL 12 438) (b M : Nat) (xs : Nat → Int32) (hB : SB X b M xs) (hM : M ≤ 3072) (i : Nat) (hi : i + 6 ≤ M) (G : GG) (hG : LR G) (K : ∀ G', LR G' → WP X Γ 1379 [some (.ref b), some (.ref (gad Γ 30)), some (.ref (gad Γ 47)), some (.int (nI i))] [] G') : WP X Γ 1066 [some (.ref b), some (.ref (gad Γ 30)), some (.ref (gad Γ 47)), some (.int (nI i))] [] G := by
  obtain ⟨μ, κ, B, Z, N, T, n, h⟩ := id hG
  obtain ⟨hC, hM, hV, hSp⟩ := id h.1
  obtain ⟨hS, hSm, hZ⟩ := id h.2.2.1
  obtain ⟨t1, t2, t3, t4⟩ := id h.2.2.2.1
  refine r_aload1 hX dL_law_1066 (q := 1067) rfl ?_
  refine r_aload0 hX dL_law_1067 (q := 1068) rfl ?_
  refine r_iload3 hX dL_law_1068 (q := 1069) rfl ?_
  refine r_iconst hX dL_law_1069 (q := 1070) rfl (v := nI 1) (by decide +kernel) ?_
  refine r_iadd hX dL_law_1070 (q := 1071) rfl ?_
  refine r_bld hX hB dL_law_1071 (q := 1072) rfl (e_add rfl rfl) (by omega) (by omega) ?_
  refine r_aload0 hX dL_law_1072 (q := 1073) rfl ?_
  refine r_iload3 hX dL_law_1073 (q := 1074) rfl ?_
  refine r_iconst hX dL_law_1074 (q := 1075) rfl (v := nI 2) (by decide +kernel) ?_
  refine r_iadd hX dL_law_1075 (q := 1076) rfl ?_
  refine r_bld hX hB dL_law_1076 (q := 1077) rfl (e_add rfl rfl) (by omega) (by omega) ?_
  refine r_callV hX dL_law_1077 (q := 1080) rfl (c_X5_as _ Γ _ μ 99999 hC hV _ _) kL_145 mlX5_as mvX5_as rfl rfl rfl ⟨by decide, rfl⟩ ⟨by decide, by decide⟩ (Nat.le_of_ble_eq_true rfl) (kpI (fun vA GA pA => ?_))
  have hMa := co_mr pA hM
  refine r_aload2 hX dL_law_1080 (q := 1081) rfl ?_
  refine r_aload0 hX dL_law_1081 (q := 1082) rfl ?_
  refine r_iload3 hX dL_law_1082 (q := 1083) rfl ?_
  refine r_iconst hX dL_law_1083 (q := 1084) rfl (v := nI 1) (by decide +kernel) ?_
  refine r_iadd hX dL_law_1084 (q := 1085) rfl ?_
  refine r_bld hX hB dL_law_1085 (q := 1086) rfl (e_add rfl rfl) (by omega) (by omega) ?_
  refine r_aload0 hX dL_law_1086 (q := 1087) rfl ?_
  refine r_iload3 hX dL_law_1087 (q := 1088) rfl ?_
  refine r_iconst hX dL_law_1088 (q := 1089) rfl (v := nI 2) (by decide +kernel) ?_
  refine r_iadd hX dL_law_1089 (q := 1090) rfl ?_
  refine r_bld hX hB dL_law_1090 (q := 1091) rfl (e_add rfl rfl) (by omega) (by omega) ?_
  refine r_callV hX dL_law_1091 (q := 1094) rfl (c_X6_as _ Γ _ μ hMa 99999 hV hSp _ _) kL_148 mlX6_as mvX6_as rfl rfl rfl ⟨by decide, rfl⟩ ⟨by decide, by decide⟩ (Nat.le_of_ble_eq_true rfl) (kpI (fun vC GC pC => ?_))
  obtain ⟨hEq, hLR⟩ := lr_o h pA pC (iv_as hV hSp _ _)
  first | refine r_icmpN_eq hX dL_law_1094 (q := 1097) rfl (tgt := 1379) (by decide) (by first | decide | omega) (by first | decide | omega) (fun h1094 => ?_) (fun h1094 => ?_) | refine r_icmp_eq hX dL_law_1094 (q := 1097) rfl (tgt := 1379) (by decide) (fun h1094 => ?_) (fun h1094 => ?_)
  ·
    exact K _ hLR
  ·
    exact absurd hEq h1094 --end
