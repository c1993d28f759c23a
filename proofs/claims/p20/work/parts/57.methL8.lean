set_option maxRecDepth 100000 in
set_option maxHeartbeats 4000000 in
theorem ctL_isSo (F : gl_F) {n m t p q A : Nat} {G S : Nat → Int32} (I : qI n m t p q A G S) : gl_Ct F LL yL_isSo wsL_isSo rmL_isSo [.ref (gl_r F 126), .ref (gl_r F 129), .ref (gl_r F 130), .ref (gl_r F 131), .ref (gl_r F 132), .ref (gl_r F 133)] (ll G (en S n)) (some (.int (nI 1))) ((ll G (en S n))) := by
  refine gl_met (cc := cL_isSo) (maxL := 20) (ret := some .boolean) [some (.ref (gl_r F 126)), some (.ref (gl_r F 129)), some (.ref (gl_r F 130)), some (.ref (gl_r F 131)), some (.ref (gl_r F 132)), some (.ref (gl_r F 133)), none, none, none, none, none, none, none, none, none, none, none, none, none, none] (plainFor_of_name (by decide)) rfl ok_LL (by simp [Value.category]) (Nat.le_of_ble_eq_true rfl) rfl (fun V hV C => ?_)
  subst hV
  obtain ⟨w, hq, ht1, hA, hS, hp5, hq5, hp, hqq, z⟩ := id I
  obtain ⟨hn40, hm5, hn, hm, ht, hcar, hcal⟩ := id w
  refine gl_iconst (pc := 0) (nI 1) C dL_isSo_0 (by decide) ?_
  refine gl_istore_6 (pc := 1) C dL_isSo_1 ?_
  refine gl_iconst (pc := 3) (nI 0) C dL_isSo_3 (by decide) ?_
  refine gl_istore_7 (pc := 4) C dL_isSo_4 ?_
  refine gl_iconst (pc := 6) (nI 0) C dL_isSo_6 (by decide) ?_
  refine gl_istore_8 (pc := 7) C dL_isSo_7 ?_
  refine gl_iconst (pc := 9) (nI 0) C dL_isSo_9 (by decide) ?_
  refine gl_istore_9 (pc := 10) C dL_isSo_10 ?_
  refine gl_iconst (pc := 12) (nI 0) C dL_isSo_12 (by decide) ?_
  refine gl_istore_10 (pc := 13) C dL_isSo_13 ?_
  refine gl_loop (pc := 15) (n := m) (fun c => [some (.ref (gl_r V.1 126)), some (.ref (gl_r V.1 129)), some (.ref (gl_r V.1 130)), some (.ref (gl_r V.1 131)), some (.ref (gl_r V.1 132)), some (.ref (gl_r V.1 133)), some (.int (nI 1)), some (.int (sp_went S c)), some (.int (sp_cst S (nI 1) c)), some (.int (sp_cst S (nI 2) c)), some (.int (nI c)), none, none, none, none, none, none, none, none, none]) (fun c => (ll G (en S n))) (fun c => True) 0 (Nat.zero_le _) (trivial) (gl_le_c (rfl) (gl_le_c (rfl) (gl_le_c (rfl) (gl_le_c (rfl) (gl_le_c (rfl) (gl_le_c (rfl) (gl_le_c (rfl) (gl_le_c (rfl) (gl_le_c (rfl) (gl_le_c (rfl) (gl_le_c (rfl) (gl_le_o (gl_le_o (gl_le_o (gl_le_o (gl_le_o (gl_le_o (gl_le_o (gl_le_o (gl_le_o (gl_le_n))))))))))))))))))))) (rfl) (fun hI => ?_) (fun c hc hI ih => ?_)
  · skip
    refine gl_iload_10 (pc := 15) C dL_isSo_15 ?_
    refine gl_aload_1 (pc := 17) C dL_isSo_17 ?_
    refine gl_iconst (pc := 18) (nI 1) C dL_isSo_18 (by decide) ?_
    refine gl_iald (pc := 19) _ C dL_isSo_19 rfl rfl (by omega) ?_
    refine gl_top (ll_A.trans ((en_i (by omega)).trans hm)) ?_
    refine gl_icmp_ge (pc := 20) 326 C dL_isSo_20 (by decide) (fun h20 => ?_) (fun h20 => absurd h20 (gl_xge))
    refine gl_iconst (pc := 326) (nI 0) C dL_isSo_326 (by decide) ?_
    refine gl_istore_10 (pc := 327) C dL_isSo_327 ?_
    refine gl_iconst (pc := 329) (nI 0) C dL_isSo_329 (by decide) ?_
    refine gl_istore_11 (pc := 330) C dL_isSo_330 ?_
    refine gl_loop (pc := 332) (n := n) (fun k => [some (.ref (gl_r V.1 126)), some (.ref (gl_r V.1 129)), some (.ref (gl_r V.1 130)), some (.ref (gl_r V.1 131)), some (.ref (gl_r V.1 132)), some (.ref (gl_r V.1 133)), some (.int (nI 1)), some (.int (sp_went S m)), some (.int (sp_cst S (nI 1) m)), some (.int (sp_cst S (nI 2) m)), some (.int (nI (sp_groups S k))), some (.int (nI k)), none, none, none, none, none, none, none, none]) (fun k => (ll G (en S n))) (fun k => True) 0 (Nat.zero_le _) (trivial) (gl_le_c (rfl) (gl_le_c (rfl) (gl_le_c (rfl) (gl_le_c (rfl) (gl_le_c (rfl) (gl_le_c (rfl) (gl_le_c (rfl) (gl_le_c (rfl) (gl_le_c (rfl) (gl_le_c (rfl) (gl_le_c (rfl) (gl_le_c (rfl) (gl_le_o (gl_le_o (gl_le_o (gl_le_o (gl_le_o (gl_le_o (gl_le_o (gl_le_o (gl_le_n))))))))))))))))))))) (rfl) (fun hI => ?_) (fun k hk hI ih => ?_)
    · skip
      refine gl_iload_11 (pc := 332) C dL_isSo_332 ?_
      refine gl_aload_1 (pc := 334) C dL_isSo_334 ?_
      refine gl_iconst (pc := 335) (nI 2) C dL_isSo_335 (by decide) ?_
      refine gl_iald (pc := 336) _ C dL_isSo_336 rfl rfl (by omega) ?_
      refine gl_top (ll_A.trans ((en_i (by omega)).trans hn)) ?_
      refine gl_icmp_ge (pc := 337) 761 C dL_isSo_337 (by decide) (fun h337 => ?_) (fun h337 => absurd h337 (gl_xge))
      refine gl_iconst (pc := 761) (nI 0) C dL_isSo_761 (by decide) ?_
      refine gl_istore_11 (pc := 762) C dL_isSo_762 ?_
      refine gl_loop (pc := 764) (n := 4) (fun i => [some (.ref (gl_r V.1 126)), some (.ref (gl_r V.1 129)), some (.ref (gl_r V.1 130)), some (.ref (gl_r V.1 131)), some (.ref (gl_r V.1 132)), some (.ref (gl_r V.1 133)), some (.int (nI 1)), some (.int (sp_went S m)), some (.int (sp_cst S (nI 1) m)), some (.int (sp_cst S (nI 2) m)), some (.int (nI (sp_groups S n))), some (.int (nI i)), none, none, none, none, none, none, none, none]) (fun i => (ll G (en S n))) (fun i => True) 0 (Nat.zero_le _) (trivial) (gl_le_c (rfl) (gl_le_c (rfl) (gl_le_c (rfl) (gl_le_c (rfl) (gl_le_c (rfl) (gl_le_c (rfl) (gl_le_c (rfl) (gl_le_c (rfl) (gl_le_c (rfl) (gl_le_c (rfl) (gl_le_c (rfl) (gl_le_c (rfl) (gl_le_o (gl_le_o (gl_le_o (gl_le_o (gl_le_o (gl_le_o (gl_le_o (gl_le_o (gl_le_n))))))))))))))))))))) (rfl) (fun hI => ?_) (fun i hi hI ih => ?_)
      · skip
        refine gl_iload_11 (pc := 764) C dL_isSo_764 ?_
        refine gl_iconst (pc := 766) (nI 4) C dL_isSo_766 (by decide) ?_
        refine gl_icmp_ge (pc := 767) 808 C dL_isSo_767 (by decide) (fun h767 => ?_) (fun h767 => absurd h767 (gl_xge))
        refine gl_iload_6 (pc := 808) C dL_isSo_808 ?_
        refine gl_ifeq (pc := 810) 979 C dL_isSo_810 (by decide) (fun h810 => absurd h810 (by decide)) (fun h810 => ?_)
        refine gl_aload_0 (pc := 813) C dL_isSo_813 ?_
        refine gl_iload_10 (pc := 814) C dL_isSo_814 ?_
        refine gl_iconst (pc := 816) (nI 0) C dL_isSo_816 (by decide) ?_
        refine gl_callVi (pc := 817) (gl_upC (ctX4_group V.1 w (by omega) hS (nI (sp_groups S n)) (nI 0))) C dL_isSo_817 gL_isSo_X4_group rfl hdX4_group ⟨rfl, rfl, Nat.le_of_ble_eq_true rfl, Nat.le_of_ble_eq_true rfl⟩ rfl (Nat.le_of_ble_eq_true rfl) rfl rfl rfl ?_
        refine gl_top (y := -9) (so_group_end hn40) ?_
        refine gl_bipush (pc := 820) (-9) C dL_isSo_820 (by decide +kernel) ?_
        refine gl_icmp_ne (pc := 822) 979 C dL_isSo_822 (by decide) (fun h822 => absurd h822 (not_not_intro rfl)) (fun h822 => ?_)
        refine gl_aload_0 (pc := 825) C dL_isSo_825 ?_
        refine gl_iconst (pc := 826) (-1) C dL_isSo_826 (by decide) ?_
        refine gl_iconst (pc := 827) (nI 0) C dL_isSo_827 (by decide) ?_
        refine gl_callVi (pc := 828) (gl_upC (ctX4_group V.1 w (by omega) hS (-1) (nI 0))) C dL_isSo_828 gL_isSo_X4_group rfl hdX4_group ⟨rfl, rfl, Nat.le_of_ble_eq_true rfl, Nat.le_of_ble_eq_true rfl⟩ rfl (Nat.le_of_ble_eq_true rfl) rfl rfl rfl ?_
        refine gl_top (y := -1) (so_group_m) ?_
        refine gl_iconst (pc := 831) (-1) C dL_isSo_831 (by decide) ?_
        refine gl_icmp_ne (pc := 832) 979 C dL_isSo_832 (by decide) (fun h832 => absurd h832 (not_not_intro rfl)) (fun h832 => ?_)
        refine gl_aload_0 (pc := 835) C dL_isSo_835 ?_
        refine gl_iconst (pc := 836) (nI 0) C dL_isSo_836 (by decide) ?_
        refine gl_iconst (pc := 837) (nI 4) C dL_isSo_837 (by decide) ?_
        refine gl_callVi (pc := 838) (gl_upC (ctX4_group V.1 w (by omega) hS (nI 0) (nI 4))) C dL_isSo_838 gL_isSo_X4_group rfl hdX4_group ⟨rfl, rfl, Nat.le_of_ble_eq_true rfl, Nat.le_of_ble_eq_true rfl⟩ rfl (Nat.le_of_ble_eq_true rfl) rfl rfl rfl ?_
        refine gl_top (y := -1) (so_group_4) ?_
        refine gl_iconst (pc := 841) (-1) C dL_isSo_841 (by decide) ?_
        refine gl_icmp_ne (pc := 842) 979 C dL_isSo_842 (by decide) (fun h842 => absurd h842 (not_not_intro rfl)) (fun h842 => ?_)
        refine gl_aload_0 (pc := 845) C dL_isSo_845 ?_
        refine gl_iconst (pc := 846) (nI 0) C dL_isSo_846 (by decide) ?_
        refine gl_callVi (pc := 847) (gl_upC (ctX4_count V.1 w (by omega) hS hp (nI 0))) C dL_isSo_847 gL_isSo_X4_count rfl hdX4_count ⟨rfl, rfl, Nat.le_of_ble_eq_true rfl, Nat.le_of_ble_eq_true rfl⟩ rfl (Nat.le_of_ble_eq_true rfl) rfl rfl rfl ?_
        refine gl_top (y := nI t) (so_cnt (i := 0) (by omega)) ?_
        refine gl_aload_1 (pc := 850) C dL_isSo_850 ?_
        refine gl_iconst (pc := 851) (nI 0) C dL_isSo_851 (by decide) ?_
        refine gl_iald (pc := 852) _ C dL_isSo_852 rfl rfl (by omega) ?_
        refine gl_top (ll_A.trans ((en_i (by omega)).trans ht)) ?_
        refine gl_icmp_ne (pc := 853) 979 C dL_isSo_853 (by decide) (fun h853 => absurd h853 (not_not_intro rfl)) (fun h853 => ?_)
        refine gl_aload_0 (pc := 856) C dL_isSo_856 ?_
        refine gl_iconst (pc := 857) (nI 1) C dL_isSo_857 (by decide) ?_
        refine gl_callVi (pc := 858) (gl_upC (ctX4_count V.1 w (by omega) hS hp (nI 1))) C dL_isSo_858 gL_isSo_X4_count rfl hdX4_count ⟨rfl, rfl, Nat.le_of_ble_eq_true rfl, Nat.le_of_ble_eq_true rfl⟩ rfl (Nat.le_of_ble_eq_true rfl) rfl rfl rfl ?_
        refine gl_top (y := nI (sp_hr t)) (so_cnt (i := 1) (by omega)) ?_
        refine gl_aload_1 (pc := 861) C dL_isSo_861 ?_
        refine gl_iconst (pc := 862) (nI 0) C dL_isSo_862 (by decide) ?_
        refine gl_iald (pc := 863) _ C dL_isSo_863 rfl rfl (by omega) ?_
        refine gl_top (ll_A.trans ((en_i (by omega)).trans ht)) ?_
        refine gl_bipush (pc := 864) (nI 60) C dL_isSo_864 (by decide +kernel) ?_
        refine gl_idiv (pc := 866) C dL_isSo_866 (by decide) ?_
        refine gl_top (pk_div (by omega) (by omega) (by omega)) ?_
        refine gl_bipush (pc := 867) (nI 24) C dL_isSo_867 (by decide +kernel) ?_
        refine gl_irem (pc := 869) C dL_isSo_869 (by decide) ?_
        refine gl_top (pk_rem (by omega) (by omega) (by omega)) ?_
        refine gl_icmp_ne (pc := 870) 979 C dL_isSo_870 (by decide) (fun h870 => absurd h870 (not_not_intro rfl)) (fun h870 => ?_)
        refine gl_aload_0 (pc := 873) C dL_isSo_873 ?_
        refine gl_iconst (pc := 874) (nI 2) C dL_isSo_874 (by decide) ?_
        refine gl_callVi (pc := 875) (gl_upC (ctX4_count V.1 w (by omega) hS hp (nI 2))) C dL_isSo_875 gL_isSo_X4_count rfl hdX4_count ⟨rfl, rfl, Nat.le_of_ble_eq_true rfl, Nat.le_of_ble_eq_true rfl⟩ rfl (Nat.le_of_ble_eq_true rfl) rfl rfl rfl ?_
        refine gl_top (y := nI m) (so_cnt (i := 2) (by omega)) ?_
        refine gl_aload_1 (pc := 878) C dL_isSo_878 ?_
        refine gl_iconst (pc := 879) (nI 1) C dL_isSo_879 (by decide) ?_
        refine gl_iald (pc := 880) _ C dL_isSo_880 rfl rfl (by omega) ?_
        refine gl_top (ll_A.trans ((en_i (by omega)).trans hm)) ?_
        refine gl_icmp_ne (pc := 881) 979 C dL_isSo_881 (by decide) (fun h881 => absurd h881 (not_not_intro rfl)) (fun h881 => ?_)
        refine gl_aload_0 (pc := 884) C dL_isSo_884 ?_
        refine gl_iconst (pc := 885) (nI 3) C dL_isSo_885 (by decide) ?_
        refine gl_callVi (pc := 886) (gl_upC (ctX4_count V.1 w (by omega) hS hp (nI 3))) C dL_isSo_886 gL_isSo_X4_count rfl hdX4_count ⟨rfl, rfl, Nat.le_of_ble_eq_true rfl, Nat.le_of_ble_eq_true rfl⟩ rfl (Nat.le_of_ble_eq_true rfl) rfl rfl rfl ?_
        refine gl_top (y := nI n) (so_cnt (i := 3) (by omega)) ?_
        refine gl_aload_1 (pc := 889) C dL_isSo_889 ?_
        refine gl_iconst (pc := 890) (nI 2) C dL_isSo_890 (by decide) ?_
        refine gl_iald (pc := 891) _ C dL_isSo_891 rfl rfl (by omega) ?_
        refine gl_top (ll_A.trans ((en_i (by omega)).trans hn)) ?_
        refine gl_icmp_ne (pc := 892) 979 C dL_isSo_892 (by decide) (fun h892 => absurd h892 (not_not_intro rfl)) (fun h892 => ?_)
        refine gl_aload_0 (pc := 895) C dL_isSo_895 ?_
        refine gl_bipush (pc := 896) (nI 8) C dL_isSo_896 (by decide +kernel) ?_
        refine gl_callVi (pc := 898) (gl_upC (ctX4_count V.1 w (by omega) hS hp (nI 8))) C dL_isSo_898 gL_isSo_X4_count rfl hdX4_count ⟨rfl, rfl, Nat.le_of_ble_eq_true rfl, Nat.le_of_ble_eq_true rfl⟩ rfl (Nat.le_of_ble_eq_true rfl) rfl rfl rfl ?_
        refine gl_top (y := nI (sp_groups S n)) (so_cnt (i := 8) (by omega)) ?_
        refine gl_iload_10 (pc := 901) C dL_isSo_901 ?_
        refine gl_icmp_ne (pc := 903) 979 C dL_isSo_903 (by decide) (fun h903 => absurd h903 (not_not_intro rfl)) (fun h903 => ?_)
        refine gl_aload_0 (pc := 906) C dL_isSo_906 ?_
        refine gl_bipush (pc := 907) (nI 9) C dL_isSo_907 (by decide +kernel) ?_
        refine gl_callVi (pc := 909) (gl_upC (ctX4_count V.1 w (by omega) hS hp (nI 9))) C dL_isSo_909 gL_isSo_X4_count rfl hdX4_count ⟨rfl, rfl, Nat.le_of_ble_eq_true rfl, Nat.le_of_ble_eq_true rfl⟩ rfl (Nat.le_of_ble_eq_true rfl) rfl rfl rfl ?_
        refine gl_top (y := sp_went S m) (so_cnt (i := 9) (by omega)) ?_
        refine gl_iload_7 (pc := 912) C dL_isSo_912 ?_
        refine gl_icmp_ne (pc := 914) 979 C dL_isSo_914 (by decide) (fun h914 => absurd h914 (not_not_intro rfl)) (fun h914 => ?_)
        refine gl_aload_0 (pc := 917) C dL_isSo_917 ?_
        refine gl_bipush (pc := 918) (nI 10) C dL_isSo_918 (by decide +kernel) ?_
        refine gl_callVi (pc := 920) (gl_upC (ctX4_count V.1 w (by omega) hS hp (nI 10))) C dL_isSo_920 gL_isSo_X4_count rfl hdX4_count ⟨rfl, rfl, Nat.le_of_ble_eq_true rfl, Nat.le_of_ble_eq_true rfl⟩ rfl (Nat.le_of_ble_eq_true rfl) rfl rfl rfl ?_
        refine gl_top (y := S 3) (so_cnt (i := 10) (by omega)) ?_
        refine gl_aload_1 (pc := 923) C dL_isSo_923 ?_
        refine gl_iconst (pc := 924) (nI 3) C dL_isSo_924 (by decide) ?_
        refine gl_iald (pc := 925) _ C dL_isSo_925 rfl rfl (by omega) ?_
        refine gl_top (ll_A.trans (en_i (by omega))) ?_
        refine gl_icmp_ne (pc := 926) 979 C dL_isSo_926 (by decide) (fun h926 => absurd h926 (not_not_intro rfl)) (fun h926 => ?_)
        refine gl_aload_0 (pc := 929) C dL_isSo_929 ?_
        refine gl_bipush (pc := 930) (nI 11) C dL_isSo_930 (by decide +kernel) ?_
        refine gl_callVi (pc := 932) (gl_upC (ctX4_count V.1 w (by omega) hS hp (nI 11))) C dL_isSo_932 gL_isSo_X4_count rfl hdX4_count ⟨rfl, rfl, Nat.le_of_ble_eq_true rfl, Nat.le_of_ble_eq_true rfl⟩ rfl (Nat.le_of_ble_eq_true rfl) rfl rfl rfl ?_
        refine gl_top (y := sp_cst S (nI 1) m) (so_cnt (i := 11) (by omega)) ?_
        refine gl_iload_8 (pc := 935) C dL_isSo_935 ?_
        refine gl_icmp_ne (pc := 937) 979 C dL_isSo_937 (by decide) (fun h937 => absurd h937 (not_not_intro rfl)) (fun h937 => ?_)
        refine gl_aload_0 (pc := 940) C dL_isSo_940 ?_
        refine gl_bipush (pc := 941) (nI 12) C dL_isSo_941 (by decide +kernel) ?_
        refine gl_callVi (pc := 943) (gl_upC (ctX4_count V.1 w (by omega) hS hp (nI 12))) C dL_isSo_943 gL_isSo_X4_count rfl hdX4_count ⟨rfl, rfl, Nat.le_of_ble_eq_true rfl, Nat.le_of_ble_eq_true rfl⟩ rfl (Nat.le_of_ble_eq_true rfl) rfl rfl rfl ?_
        refine gl_top (y := sp_cst S (nI 2) m) (so_cnt (i := 12) (by omega)) ?_
        refine gl_iload_9 (pc := 946) C dL_isSo_946 ?_
        refine gl_icmp_ne (pc := 948) 979 C dL_isSo_948 (by decide) (fun h948 => absurd h948 (not_not_intro rfl)) (fun h948 => ?_)
        refine gl_aload_0 (pc := 951) C dL_isSo_951 ?_
        refine gl_aload_1 (pc := 952) C dL_isSo_952 ?_
        refine gl_iconst (pc := 953) (nI 1) C dL_isSo_953 (by decide) ?_
        refine gl_iald (pc := 954) _ C dL_isSo_954 rfl rfl (by omega) ?_
        refine gl_top (ll_A.trans ((en_i (by omega)).trans hm)) ?_
        refine gl_iconst (pc := 955) (nI 0) C dL_isSo_955 (by decide) ?_
        refine gl_callVi (pc := 956) (gl_upC (ctX4_car V.1 w (by omega) hS (nI m) (nI 0))) C dL_isSo_956 gL_isSo_X4_car rfl hdX4_car ⟨rfl, rfl, Nat.le_of_ble_eq_true rfl, Nat.le_of_ble_eq_true rfl⟩ rfl (Nat.le_of_ble_eq_true rfl) rfl rfl rfl ?_
        refine gl_top (y := -1) (so_car_m) ?_
        refine gl_iconst (pc := 959) (-1) C dL_isSo_959 (by decide) ?_
        refine gl_icmp_ne (pc := 960) 979 C dL_isSo_960 (by decide) (fun h960 => absurd h960 (not_not_intro rfl)) (fun h960 => ?_)
        refine gl_aload_0 (pc := 963) C dL_isSo_963 ?_
        refine gl_aload_1 (pc := 964) C dL_isSo_964 ?_
        refine gl_iconst (pc := 965) (nI 2) C dL_isSo_965 (by decide) ?_
        refine gl_iald (pc := 966) _ C dL_isSo_966 rfl rfl (by omega) ?_
        refine gl_top (ll_A.trans ((en_i (by omega)).trans hn)) ?_
        refine gl_iconst (pc := 967) (nI 0) C dL_isSo_967 (by decide) ?_
        refine gl_callVi (pc := 968) (gl_upC (ctX4_caller V.1 w (by omega) hS (nI n) (nI 0))) C dL_isSo_968 gL_isSo_X4_caller rfl hdX4_caller ⟨rfl, rfl, Nat.le_of_ble_eq_true rfl, Nat.le_of_ble_eq_true rfl⟩ rfl (Nat.le_of_ble_eq_true rfl) rfl rfl rfl ?_
        refine gl_top (y := -1) (so_caller_n) ?_
        refine gl_iconst (pc := 971) (-1) C dL_isSo_971 (by decide) ?_
        refine gl_icmp_ne (pc := 972) 979 C dL_isSo_972 (by decide) (fun h972 => absurd h972 (not_not_intro rfl)) (fun h972 => ?_)
        refine gl_iconst (pc := 975) (nI 1) C dL_isSo_975 (by decide) ?_
        refine gl_goto (pc := 976) 980 C dL_isSo_976 (by decide) ?_
        exact gl_zret (pc := 980) C dL_isSo_980 (by rfl) (rfl) (rfl)
      · skip
        refine gl_iload_11 (pc := 764) C dL_isSo_764 ?_
        refine gl_iconst (pc := 766) (nI 4) C dL_isSo_766 (by decide) ?_
        refine gl_icmp_ge (pc := 767) 808 C dL_isSo_767 (by decide) (fun h767 => absurd h767 (nI_ge hi (by omega))) (fun h767 => ?_)
        refine gl_iload_6 (pc := 770) C dL_isSo_770 ?_
        refine gl_ifeq (pc := 772) 799 C dL_isSo_772 (by decide) (fun h772 => absurd h772 (by decide)) (fun h772 => ?_)
        refine gl_aload_0 (pc := 775) C dL_isSo_775 ?_
        refine gl_iconst (pc := 776) (nI 4) C dL_isSo_776 (by decide) ?_
        refine gl_iload_11 (pc := 777) C dL_isSo_777 ?_
        first | with_reducible refine gl_iaddN (pc := 779) C dL_isSo_779 ?_ | refine gl_iadd (pc := 779) C dL_isSo_779 ?_
        refine gl_callVi (pc := 780) (gl_upC (ctX4_count V.1 w (by omega) hS hp (nI (4 + i)))) C dL_isSo_780 gL_isSo_X4_count rfl hdX4_count ⟨rfl, rfl, Nat.le_of_ble_eq_true rfl, Nat.le_of_ble_eq_true rfl⟩ rfl (Nat.le_of_ble_eq_true rfl) rfl rfl rfl ?_
        refine gl_top (y := sp_in S (nI i) n) (so_cnt4 hi) ?_
        refine gl_aload_1 (pc := 783) C dL_isSo_783 ?_
        refine gl_aload_4 (pc := 784) C dL_isSo_784 ?_
        refine gl_iconst (pc := 786) (-1) C dL_isSo_786 (by decide) ?_
        refine gl_iload_11 (pc := 787) C dL_isSo_787 ?_
        refine gl_callSi (pc := 789) (gl_upA (F := V.1) (ctL_those_all (gl_sh V.1 gl_eA) hn40 hn hq (nI i))) C dL_isSo_789 gL_isSo_L_those rfl hdL_those ⟨rfl, rfl, Nat.le_of_ble_eq_true rfl, Nat.le_of_ble_eq_true rfl⟩ rfl (Nat.le_of_ble_eq_true rfl) rfl ?_
        refine gl_icmp_ne (pc := 792) 799 C dL_isSo_792 (by decide) (fun h792 => absurd h792 (not_not_intro rfl)) (fun h792 => ?_)
        refine gl_iconst (pc := 795) (nI 1) C dL_isSo_795 (by decide) ?_
        refine gl_goto (pc := 796) 800 C dL_isSo_796 (by decide) ?_
        refine gl_istore_6 (pc := 800) C dL_isSo_800 ?_
        first | with_reducible refine gl_iincN_11 (pc := 802) gl_i1 C dL_isSo_802 ?_ | refine gl_iinc_11 (pc := 802) C dL_isSo_802 (gl_inc1 _) ?_
        refine gl_goto (pc := 805) 764 C dL_isSo_805 (by decide) ?_
        exact gl_on (ih (trivial)) (gl_le_c (rfl) (gl_le_c (rfl) (gl_le_c (rfl) (gl_le_c (rfl) (gl_le_c (rfl) (gl_le_c (rfl) (gl_le_c (rfl) (gl_le_c (rfl) (gl_le_c (rfl) (gl_le_c (rfl) (gl_le_c (rfl) (gl_le_c (rfl) (gl_le_o (gl_le_o (gl_le_o (gl_le_o (gl_le_o (gl_le_o (gl_le_o (gl_le_o (gl_le_n))))))))))))))))))))) (rfl)
    · skip
      have qk := hq.2 k hk
      have hph := (hcal k hk).2.2.1
      have c572 : gl_G LL (some (.int (nI 1))) ((ll G (en S n))) V 572 [some (.ref (gl_r V.1 126)), some (.ref (gl_r V.1 129)), some (.ref (gl_r V.1 130)), some (.ref (gl_r V.1 131)), some (.ref (gl_r V.1 132)), some (.ref (gl_r V.1 133)), some (.int (nI 1)), some (.int (sp_went S m)), some (.int (sp_cst S (nI 1) m)), some (.int (sp_cst S (nI 2) m)), some (.int (nI (sp_groups S k))), some (.int (nI k)), some (.long (lN (pkn S k))), none, none, none, some (.int (nI 0)), none, none, none] [.int (if so_fst S k 0 = true then nI 1 else nI 0)] (ll G (en S n)) := by
        refine gl_istore_17 (pc := 572) C dL_isSo_572 ?_
        refine gl_iconst (pc := 574) (nI 0) C dL_isSo_574 (by decide) ?_
        refine gl_istore_18 (pc := 575) C dL_isSo_575 ?_
        refine gl_loop (pc := 577) (n := n) (fun j => [some (.ref (gl_r V.1 126)), some (.ref (gl_r V.1 129)), some (.ref (gl_r V.1 130)), some (.ref (gl_r V.1 131)), some (.ref (gl_r V.1 132)), some (.ref (gl_r V.1 133)), some (.int (nI 1)), some (.int (sp_went S m)), some (.int (sp_cst S (nI 1) m)), some (.int (sp_cst S (nI 2) m)), some (.int (nI (sp_groups S k))), some (.int (nI k)), some (.long (lN (pkn S k))), none, none, none, some (.int (so_size S k j)), some (.int (if so_fst S k j = true then nI 1 else nI 0)), some (.int (nI j)), none]) (fun j => (ll G (en S n))) (fun j => True) 0 (Nat.zero_le _) (trivial) (gl_le_c (rfl) (gl_le_c (rfl) (gl_le_c (rfl) (gl_le_c (rfl) (gl_le_c (rfl) (gl_le_c (rfl) (gl_le_c (rfl) (gl_le_c (rfl) (gl_le_c (rfl) (gl_le_c (rfl) (gl_le_c (rfl) (gl_le_c (rfl) (gl_le_c (rfl) (gl_le_o (gl_le_o (gl_le_o (gl_le_c (rfl) (gl_le_c (rfl) (gl_le_c (rfl) (gl_le_o (gl_le_n))))))))))))))))))))) (rfl) (fun hI => ?_) (fun j hj hI ih => ?_)
        · skip
          refine gl_iload_18 (pc := 577) C dL_isSo_577 ?_
          refine gl_aload_1 (pc := 579) C dL_isSo_579 ?_
          refine gl_iconst (pc := 580) (nI 2) C dL_isSo_580 (by decide) ?_
          refine gl_iald (pc := 581) _ C dL_isSo_581 rfl rfl (by omega) ?_
          refine gl_top (ll_A.trans ((en_i (by omega)).trans hn)) ?_
          refine gl_icmp_ge (pc := 582) 681 C dL_isSo_582 (by decide) (fun h582 => ?_) (fun h582 => absurd h582 (gl_xge))
          refine gl_iload_17 (pc := 681) C dL_isSo_681 ?_
          refine gl_ifeq (pc := 683) 755 C dL_isSo_683 (by decide) (fun h683 => ?_) (fun h683 => ?_)
          · skip
            replace h683 := gl_bz.mp h683
            have hfst : ¬ sp_first S k := fun y => h683 ((so_first hk).mpr y)
            first | with_reducible refine gl_iincN_11 (pc := 755) gl_i1 C dL_isSo_755 ?_ | refine gl_iinc_11 (pc := 755) C dL_isSo_755 (gl_inc1 _) ?_
            refine gl_goto (pc := 758) 332 C dL_isSo_758 (by decide) ?_
            exact gl_on (ih (trivial)) (gl_le_c (rfl) (gl_le_c (rfl) (gl_le_c (rfl) (gl_le_c (rfl) (gl_le_c (rfl) (gl_le_c (rfl) (gl_le_c (rfl) (gl_le_c (rfl) (gl_le_c (rfl) (gl_le_c (rfl) (gl_le_c (congrArg Value.int (by simp only [sp_groups]; rw [if_neg hfst])) (gl_le_c (rfl) (gl_le_o (gl_le_o (gl_le_o (gl_le_o (gl_le_o (gl_le_o (gl_le_o (gl_le_o (gl_le_n))))))))))))))))))))) (rfl)
          · skip
            replace h683 := gl_bn.mp h683
            have hfst : sp_first S k := (so_first hk).mp h683
            refine gl_iload_6 (pc := 686) C dL_isSo_686 ?_
            refine gl_ifeq (pc := 688) 749 C dL_isSo_688 (by decide) (fun h688 => absurd h688 (by decide)) (fun h688 => ?_)
            refine gl_aload_0 (pc := 691) C dL_isSo_691 ?_
            refine gl_iload_10 (pc := 692) C dL_isSo_692 ?_
            refine gl_iconst (pc := 694) (nI 0) C dL_isSo_694 (by decide) ?_
            refine gl_callVi (pc := 695) (gl_upC (ctX4_group V.1 w (by omega) hS (nI (sp_groups S k)) (nI 0))) C dL_isSo_695 gL_isSo_X4_group rfl hdX4_group ⟨rfl, rfl, Nat.le_of_ble_eq_true rfl, Nat.le_of_ble_eq_true rfl⟩ rfl (Nat.le_of_ble_eq_true rfl) rfl rfl rfl ?_
            refine gl_top (y := S (iK k 0)) (so_group hn40 hk hfst (y := 0) (by omega)) ?_
            refine gl_lload_12 (pc := 698) C dL_isSo_698 ?_
            refine gl_callSi (pc := 700) (ctL_floor V.1 LL ok_LL _ hq.1 qk) C dL_isSo_700 gL_isSo_L_floor rfl hdL_floor ⟨rfl, rfl, Nat.le_of_ble_eq_true rfl, Nat.le_of_ble_eq_true rfl⟩ rfl (Nat.le_of_ble_eq_true rfl) rfl ?_
            refine gl_icmp_ne (pc := 703) 749 C dL_isSo_703 (by decide) (fun h703 => absurd h703 (not_not_intro rfl)) (fun h703 => ?_)
            refine gl_aload_0 (pc := 706) C dL_isSo_706 ?_
            refine gl_iload_10 (pc := 707) C dL_isSo_707 ?_
            refine gl_iconst (pc := 709) (nI 1) C dL_isSo_709 (by decide) ?_
            refine gl_callVi (pc := 710) (gl_upC (ctX4_group V.1 w (by omega) hS (nI (sp_groups S k)) (nI 1))) C dL_isSo_710 gL_isSo_X4_group rfl hdX4_group ⟨rfl, rfl, Nat.le_of_ble_eq_true rfl, Nat.le_of_ble_eq_true rfl⟩ rfl (Nat.le_of_ble_eq_true rfl) rfl rfl rfl ?_
            refine gl_top (y := S (iK k 1)) (so_group hn40 hk hfst (y := 1) (by omega)) ?_
            refine gl_lload_12 (pc := 713) C dL_isSo_713 ?_
            refine gl_callSi (pc := 715) (ctL_goal V.1 LL ok_LL _ hq.1 qk) C dL_isSo_715 gL_isSo_L_goal rfl hdL_goal ⟨rfl, rfl, Nat.le_of_ble_eq_true rfl, Nat.le_of_ble_eq_true rfl⟩ rfl (Nat.le_of_ble_eq_true rfl) rfl ?_
            refine gl_icmp_ne (pc := 718) 749 C dL_isSo_718 (by decide) (fun h718 => absurd h718 (not_not_intro rfl)) (fun h718 => ?_)
            refine gl_aload_0 (pc := 721) C dL_isSo_721 ?_
            refine gl_iload_10 (pc := 722) C dL_isSo_722 ?_
            refine gl_iconst (pc := 724) (nI 2) C dL_isSo_724 (by decide) ?_
            refine gl_callVi (pc := 725) (gl_upC (ctX4_group V.1 w (by omega) hS (nI (sp_groups S k)) (nI 2))) C dL_isSo_725 gL_isSo_X4_group rfl hdX4_group ⟨rfl, rfl, Nat.le_of_ble_eq_true rfl, Nat.le_of_ble_eq_true rfl⟩ rfl (Nat.le_of_ble_eq_true rfl) rfl rfl rfl ?_
            refine gl_top (y := sp_size S k n) (so_group hn40 hk hfst (y := 2) (by omega)) ?_
            refine gl_iload_16 (pc := 728) C dL_isSo_728 ?_
            refine gl_icmp_ne (pc := 730) 749 C dL_isSo_730 (by decide) (fun h730 => absurd h730 (not_not_intro (so_size_ok hfst.2 n).symm)) (fun h730 => ?_)
            refine gl_aload_0 (pc := 733) C dL_isSo_733 ?_
            refine gl_iload_10 (pc := 734) C dL_isSo_734 ?_
            refine gl_iconst (pc := 736) (nI 3) C dL_isSo_736 (by decide) ?_
            refine gl_callVi (pc := 737) (gl_upC (ctX4_group V.1 w (by omega) hS (nI (sp_groups S k)) (nI 3))) C dL_isSo_737 gL_isSo_X4_group rfl hdX4_group ⟨rfl, rfl, Nat.le_of_ble_eq_true rfl, Nat.le_of_ble_eq_true rfl⟩ rfl (Nat.le_of_ble_eq_true rfl) rfl rfl rfl ?_
            refine gl_top (y := nI k) (so_group hn40 hk hfst (y := 3) (by omega)) ?_
            refine gl_iload_11 (pc := 740) C dL_isSo_740 ?_
            refine gl_icmp_ne (pc := 742) 749 C dL_isSo_742 (by decide) (fun h742 => absurd h742 (not_not_intro rfl)) (fun h742 => ?_)
            refine gl_iconst (pc := 745) (nI 1) C dL_isSo_745 (by decide) ?_
            refine gl_goto (pc := 746) 750 C dL_isSo_746 (by decide) ?_
            refine gl_istore_6 (pc := 750) C dL_isSo_750 ?_
            first | with_reducible refine gl_iincN_10 (pc := 752) gl_i1 C dL_isSo_752 ?_ | refine gl_iinc_10 (pc := 752) C dL_isSo_752 (gl_inc1 _) ?_
            first | with_reducible refine gl_iincN_11 (pc := 755) gl_i1 C dL_isSo_755 ?_ | refine gl_iinc_11 (pc := 755) C dL_isSo_755 (gl_inc1 _) ?_
            refine gl_goto (pc := 758) 332 C dL_isSo_758 (by decide) ?_
            exact gl_on (ih (trivial)) (gl_le_c (rfl) (gl_le_c (rfl) (gl_le_c (rfl) (gl_le_c (rfl) (gl_le_c (rfl) (gl_le_c (rfl) (gl_le_c (rfl) (gl_le_c (rfl) (gl_le_c (rfl) (gl_le_c (rfl) (gl_le_c (congrArg Value.int (by simp only [sp_groups]; rw [if_pos hfst])) (gl_le_c (rfl) (gl_le_o (gl_le_o (gl_le_o (gl_le_o (gl_le_o (gl_le_o (gl_le_o (gl_le_o (gl_le_n))))))))))))))))))))) (rfl)
        · skip
          have qj := hq.2 j hj
          have hpj := (hcal j hj).2.2.1
          have c634 : gl_G LL (some (.int (nI 1))) ((ll G (en S n))) V 634 [some (.ref (gl_r V.1 126)), some (.ref (gl_r V.1 129)), some (.ref (gl_r V.1 130)), some (.ref (gl_r V.1 131)), some (.ref (gl_r V.1 132)), some (.ref (gl_r V.1 133)), some (.int (nI 1)), some (.int (sp_went S m)), some (.int (sp_cst S (nI 1) m)), some (.int (sp_cst S (nI 2) m)), some (.int (nI (sp_groups S k))), some (.int (nI k)), some (.long (lN (pkn S k))), none, none, none, some (.int (so_size S k j)), some (.int (if so_fst S k j = true then nI 1 else nI 0)), some (.int (nI j)), none] [.int (if so_one S k j then nI 1 else nI 0)] (ll G (en S n)) := by
            refine gl_istore_19 (pc := 634) C dL_isSo_634 ?_
            refine gl_iload_16 (pc := 636) C dL_isSo_636 ?_
            refine gl_iload_19 (pc := 638) C dL_isSo_638 ?_
            refine gl_ifeq (pc := 640) 647 C dL_isSo_640 (by decide) (fun h640 => ?_) (fun h640 => ?_)
            · skip
              replace h640 := gl_bz.mp h640
              refine gl_iconst (pc := 647) (nI 0) C dL_isSo_647 (by decide) ?_
              first | with_reducible refine gl_iaddN (pc := 648) C dL_isSo_648 ?_ | refine gl_iadd (pc := 648) C dL_isSo_648 ?_
              refine gl_top (y := so_size S k (j + 1)) (by simp only [so_size]; rw [if_neg h640, gl_add0]) ?_
              refine gl_istore_16 (pc := 649) C dL_isSo_649 ?_
              refine gl_iload_17 (pc := 651) C dL_isSo_651 ?_
              refine gl_ifeq (pc := 653) 672 C dL_isSo_653 (by decide) (fun h653 => ?_) (fun h653 => ?_)
              · skip
                replace h653 := gl_bz.mp h653
                refine gl_iconst (pc := 672) (nI 0) C dL_isSo_672 (by decide) ?_
                refine gl_top (y := if so_fst S k (j + 1) = true then nI 1 else nI 0) (if_neg (fun y => h653 (so_fst_s.mp y).1)).symm ?_
                refine gl_istore_17 (pc := 673) C dL_isSo_673 ?_
                first | with_reducible refine gl_iincN_18 (pc := 675) gl_i1 C dL_isSo_675 ?_ | refine gl_iinc_18 (pc := 675) C dL_isSo_675 (gl_inc1 _) ?_
                refine gl_goto (pc := 678) 577 C dL_isSo_678 (by decide) ?_
                exact gl_on (ih (trivial)) (gl_le_c (rfl) (gl_le_c (rfl) (gl_le_c (rfl) (gl_le_c (rfl) (gl_le_c (rfl) (gl_le_c (rfl) (gl_le_c (rfl) (gl_le_c (rfl) (gl_le_c (rfl) (gl_le_c (rfl) (gl_le_c (rfl) (gl_le_c (rfl) (gl_le_c (rfl) (gl_le_o (gl_le_o (gl_le_o (gl_le_c (rfl) (gl_le_c (rfl) (gl_le_c (rfl) (gl_le_o (gl_le_n))))))))))))))))))))) (rfl)
              · skip
                replace h653 := gl_bn.mp h653
                refine gl_iload_19 (pc := 656) C dL_isSo_656 ?_
                refine gl_ifeq (pc := 658) 668 C dL_isSo_658 (by decide) (fun h658 => ?_) (fun h658 => absurd h658 (not_not_intro (gl_bz.mpr h640)))
                refine gl_iconst (pc := 668) (nI 1) C dL_isSo_668 (by decide) ?_
                refine gl_top (y := if so_fst S k (j + 1) = true then nI 1 else nI 0) (if_pos (so_fst_s.mpr ⟨h653, fun y => h640 y.1⟩)).symm ?_
                refine gl_goto (pc := 669) 673 C dL_isSo_669 (by decide) ?_
                refine gl_istore_17 (pc := 673) C dL_isSo_673 ?_
                first | with_reducible refine gl_iincN_18 (pc := 675) gl_i1 C dL_isSo_675 ?_ | refine gl_iinc_18 (pc := 675) C dL_isSo_675 (gl_inc1 _) ?_
                refine gl_goto (pc := 678) 577 C dL_isSo_678 (by decide) ?_
                exact gl_on (ih (trivial)) (gl_le_c (rfl) (gl_le_c (rfl) (gl_le_c (rfl) (gl_le_c (rfl) (gl_le_c (rfl) (gl_le_c (rfl) (gl_le_c (rfl) (gl_le_c (rfl) (gl_le_c (rfl) (gl_le_c (rfl) (gl_le_c (rfl) (gl_le_c (rfl) (gl_le_c (rfl) (gl_le_o (gl_le_o (gl_le_o (gl_le_c (rfl) (gl_le_c (rfl) (gl_le_c (rfl) (gl_le_o (gl_le_n))))))))))))))))))))) (rfl)
            · skip
              replace h640 := gl_bn.mp h640
              refine gl_iconst (pc := 643) (nI 1) C dL_isSo_643 (by decide) ?_
              refine gl_goto (pc := 644) 648 C dL_isSo_644 (by decide) ?_
              first | with_reducible refine gl_iaddN (pc := 648) C dL_isSo_648 ?_ | refine gl_iadd (pc := 648) C dL_isSo_648 ?_
              refine gl_top (y := so_size S k (j + 1)) (by simp only [so_size]; rw [if_pos h640]) ?_
              refine gl_istore_16 (pc := 649) C dL_isSo_649 ?_
              refine gl_iload_17 (pc := 651) C dL_isSo_651 ?_
              refine gl_ifeq (pc := 653) 672 C dL_isSo_653 (by decide) (fun h653 => ?_) (fun h653 => ?_)
              · skip
                replace h653 := gl_bz.mp h653
                refine gl_iconst (pc := 672) (nI 0) C dL_isSo_672 (by decide) ?_
                refine gl_top (y := if so_fst S k (j + 1) = true then nI 1 else nI 0) (if_neg (fun y => h653 (so_fst_s.mp y).1)).symm ?_
                refine gl_istore_17 (pc := 673) C dL_isSo_673 ?_
                first | with_reducible refine gl_iincN_18 (pc := 675) gl_i1 C dL_isSo_675 ?_ | refine gl_iinc_18 (pc := 675) C dL_isSo_675 (gl_inc1 _) ?_
                refine gl_goto (pc := 678) 577 C dL_isSo_678 (by decide) ?_
                exact gl_on (ih (trivial)) (gl_le_c (rfl) (gl_le_c (rfl) (gl_le_c (rfl) (gl_le_c (rfl) (gl_le_c (rfl) (gl_le_c (rfl) (gl_le_c (rfl) (gl_le_c (rfl) (gl_le_c (rfl) (gl_le_c (rfl) (gl_le_c (rfl) (gl_le_c (rfl) (gl_le_c (rfl) (gl_le_o (gl_le_o (gl_le_o (gl_le_c (rfl) (gl_le_c (rfl) (gl_le_c (rfl) (gl_le_o (gl_le_n))))))))))))))))))))) (rfl)
              · skip
                replace h653 := gl_bn.mp h653
                refine gl_iload_19 (pc := 656) C dL_isSo_656 ?_
                refine gl_ifeq (pc := 658) 668 C dL_isSo_658 (by decide) (fun h658 => absurd h658 (gl_bn.mpr h640)) (fun h658 => ?_)
                refine gl_iload_18 (pc := 661) C dL_isSo_661 ?_
                refine gl_iload_11 (pc := 663) C dL_isSo_663 ?_
                refine gl_icmp_lt (pc := 665) 672 C dL_isSo_665 (by decide) (fun h665 => ?_) (fun h665 => ?_)
                · skip
                  replace h665 := (nI_ltI (by omega) (by omega)).mp h665
                  refine gl_iconst (pc := 672) (nI 0) C dL_isSo_672 (by decide) ?_
                  refine gl_top (y := if so_fst S k (j + 1) = true then nI 1 else nI 0) (if_neg (fun y => (so_fst_s.mp y).2 ⟨h640, h665⟩)).symm ?_
                  refine gl_istore_17 (pc := 673) C dL_isSo_673 ?_
                  first | with_reducible refine gl_iincN_18 (pc := 675) gl_i1 C dL_isSo_675 ?_ | refine gl_iinc_18 (pc := 675) C dL_isSo_675 (gl_inc1 _) ?_
                  refine gl_goto (pc := 678) 577 C dL_isSo_678 (by decide) ?_
                  exact gl_on (ih (trivial)) (gl_le_c (rfl) (gl_le_c (rfl) (gl_le_c (rfl) (gl_le_c (rfl) (gl_le_c (rfl) (gl_le_c (rfl) (gl_le_c (rfl) (gl_le_c (rfl) (gl_le_c (rfl) (gl_le_c (rfl) (gl_le_c (rfl) (gl_le_c (rfl) (gl_le_c (rfl) (gl_le_o (gl_le_o (gl_le_o (gl_le_c (rfl) (gl_le_c (rfl) (gl_le_c (rfl) (gl_le_o (gl_le_n))))))))))))))))))))) (rfl)
                · skip
                  replace h665 := fun y => h665 ((nI_ltI (by omega) (by omega)).mpr y)
                  refine gl_iconst (pc := 668) (nI 1) C dL_isSo_668 (by decide) ?_
                  refine gl_top (y := if so_fst S k (j + 1) = true then nI 1 else nI 0) (if_pos (so_fst_s.mpr ⟨h653, fun y => h665 y.2⟩)).symm ?_
                  refine gl_goto (pc := 669) 673 C dL_isSo_669 (by decide) ?_
                  refine gl_istore_17 (pc := 673) C dL_isSo_673 ?_
                  first | with_reducible refine gl_iincN_18 (pc := 675) gl_i1 C dL_isSo_675 ?_ | refine gl_iinc_18 (pc := 675) C dL_isSo_675 (gl_inc1 _) ?_
                  refine gl_goto (pc := 678) 577 C dL_isSo_678 (by decide) ?_
                  exact gl_on (ih (trivial)) (gl_le_c (rfl) (gl_le_c (rfl) (gl_le_c (rfl) (gl_le_c (rfl) (gl_le_c (rfl) (gl_le_c (rfl) (gl_le_c (rfl) (gl_le_c (rfl) (gl_le_c (rfl) (gl_le_c (rfl) (gl_le_c (rfl) (gl_le_c (rfl) (gl_le_c (rfl) (gl_le_o (gl_le_o (gl_le_o (gl_le_c (rfl) (gl_le_c (rfl) (gl_le_c (rfl) (gl_le_o (gl_le_n))))))))))))))))))))) (rfl)
          refine gl_iload_18 (pc := 577) C dL_isSo_577 ?_
          refine gl_aload_1 (pc := 579) C dL_isSo_579 ?_
          refine gl_iconst (pc := 580) (nI 2) C dL_isSo_580 (by decide) ?_
          refine gl_iald (pc := 581) _ C dL_isSo_581 rfl rfl (by omega) ?_
          refine gl_top (ll_A.trans ((en_i (by omega)).trans hn)) ?_
          refine gl_icmp_ge (pc := 582) 681 C dL_isSo_582 (by decide) (fun h582 => absurd h582 (nI_ge hj (by omega))) (fun h582 => ?_)
          refine gl_aload_4 (pc := 585) C dL_isSo_585 ?_
          refine gl_iload_18 (pc := 587) C dL_isSo_587 ?_
          refine gl_lald (pc := 589) _ C dL_isSo_589 rfl rfl (by omega) ?_
          refine gl_topl (ll_lg.trans (en_c (by omega) hj)) ?_
          refine gl_callSi (pc := 590) (ctL_is V.1 LL ok_LL _ hq.1 qj) C dL_isSo_590 gL_isSo_L_is rfl hdL_is ⟨rfl, rfl, Nat.le_of_ble_eq_true rfl, Nat.le_of_ble_eq_true rfl⟩ rfl (Nat.le_of_ble_eq_true rfl) rfl ?_
          refine gl_iconst (pc := 593) (nI 2) C dL_isSo_593 (by decide) ?_
          refine gl_icmp_ge (pc := 594) 633 C dL_isSo_594 (by decide) (fun h594 => ?_) (fun h594 => ?_)
          · skip
            refine gl_iconst (pc := 633) (nI 0) C dL_isSo_633 (by decide) ?_
            refine gl_top (y := if so_one S k j then nI 1 else nI 0) (if_neg (fun y : so_one S k j => (so_op hpj).mp h594 y.1)).symm ?_
            exact gl_on c634 (gl_le_c (rfl) (gl_le_c (rfl) (gl_le_c (rfl) (gl_le_c (rfl) (gl_le_c (rfl) (gl_le_c (rfl) (gl_le_c (rfl) (gl_le_c (rfl) (gl_le_c (rfl) (gl_le_c (rfl) (gl_le_c (rfl) (gl_le_c (rfl) (gl_le_c (rfl) (gl_le_o (gl_le_o (gl_le_o (gl_le_c (rfl) (gl_le_c (rfl) (gl_le_c (rfl) (gl_le_o (gl_le_n))))))))))))))))))))) (rfl)
          · skip
            refine gl_aload_4 (pc := 597) C dL_isSo_597 ?_
            refine gl_iload_18 (pc := 599) C dL_isSo_599 ?_
            refine gl_lald (pc := 601) _ C dL_isSo_601 rfl rfl (by omega) ?_
            refine gl_topl (ll_lg.trans (en_c (by omega) hj)) ?_
            refine gl_callSi (pc := 602) (ctL_floor V.1 LL ok_LL _ hq.1 qj) C dL_isSo_602 gL_isSo_L_floor rfl hdL_floor ⟨rfl, rfl, Nat.le_of_ble_eq_true rfl, Nat.le_of_ble_eq_true rfl⟩ rfl (Nat.le_of_ble_eq_true rfl) rfl ?_
            refine gl_lload_12 (pc := 605) C dL_isSo_605 ?_
            refine gl_callSi (pc := 607) (ctL_floor V.1 LL ok_LL _ hq.1 qk) C dL_isSo_607 gL_isSo_L_floor rfl hdL_floor ⟨rfl, rfl, Nat.le_of_ble_eq_true rfl, Nat.le_of_ble_eq_true rfl⟩ rfl (Nat.le_of_ble_eq_true rfl) rfl ?_
            refine gl_icmp_ne (pc := 610) 633 C dL_isSo_610 (by decide) (fun h610 => ?_) (fun h610 => ?_)
            · skip
              refine gl_iconst (pc := 633) (nI 0) C dL_isSo_633 (by decide) ?_
              refine gl_top (y := if so_one S k j then nI 1 else nI 0) (if_neg (fun y : so_one S k j => h610 y.2.1)).symm ?_
              exact gl_on c634 (gl_le_c (rfl) (gl_le_c (rfl) (gl_le_c (rfl) (gl_le_c (rfl) (gl_le_c (rfl) (gl_le_c (rfl) (gl_le_c (rfl) (gl_le_c (rfl) (gl_le_c (rfl) (gl_le_c (rfl) (gl_le_c (rfl) (gl_le_c (rfl) (gl_le_c (rfl) (gl_le_o (gl_le_o (gl_le_o (gl_le_c (rfl) (gl_le_c (rfl) (gl_le_c (rfl) (gl_le_o (gl_le_n))))))))))))))))))))) (rfl)
            · skip
              refine gl_aload_4 (pc := 613) C dL_isSo_613 ?_
              refine gl_iload_18 (pc := 615) C dL_isSo_615 ?_
              refine gl_lald (pc := 617) _ C dL_isSo_617 rfl rfl (by omega) ?_
              refine gl_topl (ll_lg.trans (en_c (by omega) hj)) ?_
              refine gl_callSi (pc := 618) (ctL_goal V.1 LL ok_LL _ hq.1 qj) C dL_isSo_618 gL_isSo_L_goal rfl hdL_goal ⟨rfl, rfl, Nat.le_of_ble_eq_true rfl, Nat.le_of_ble_eq_true rfl⟩ rfl (Nat.le_of_ble_eq_true rfl) rfl ?_
              refine gl_lload_12 (pc := 621) C dL_isSo_621 ?_
              refine gl_callSi (pc := 623) (ctL_goal V.1 LL ok_LL _ hq.1 qk) C dL_isSo_623 gL_isSo_L_goal rfl hdL_goal ⟨rfl, rfl, Nat.le_of_ble_eq_true rfl, Nat.le_of_ble_eq_true rfl⟩ rfl (Nat.le_of_ble_eq_true rfl) rfl ?_
              refine gl_icmp_ne (pc := 626) 633 C dL_isSo_626 (by decide) (fun h626 => ?_) (fun h626 => ?_)
              · skip
                refine gl_iconst (pc := 633) (nI 0) C dL_isSo_633 (by decide) ?_
                refine gl_top (y := if so_one S k j then nI 1 else nI 0) (if_neg (fun y : so_one S k j => h626 y.2.2)).symm ?_
                exact gl_on c634 (gl_le_c (rfl) (gl_le_c (rfl) (gl_le_c (rfl) (gl_le_c (rfl) (gl_le_c (rfl) (gl_le_c (rfl) (gl_le_c (rfl) (gl_le_c (rfl) (gl_le_c (rfl) (gl_le_c (rfl) (gl_le_c (rfl) (gl_le_c (rfl) (gl_le_c (rfl) (gl_le_o (gl_le_o (gl_le_o (gl_le_c (rfl) (gl_le_c (rfl) (gl_le_c (rfl) (gl_le_o (gl_le_n))))))))))))))))))))) (rfl)
              · skip
                refine gl_iconst (pc := 629) (nI 1) C dL_isSo_629 (by decide) ?_
                refine gl_top (y := if so_one S k j then nI 1 else nI 0) (if_pos (⟨Classical.not_not.mp (fun y => h594 ((so_op hpj).mpr y)), h610, h626⟩ : so_one S k j)).symm ?_
                refine gl_goto (pc := 630) 634 C dL_isSo_630 (by decide) ?_
                exact gl_on c634 (gl_le_c (rfl) (gl_le_c (rfl) (gl_le_c (rfl) (gl_le_c (rfl) (gl_le_c (rfl) (gl_le_c (rfl) (gl_le_c (rfl) (gl_le_c (rfl) (gl_le_c (rfl) (gl_le_c (rfl) (gl_le_c (rfl) (gl_le_c (rfl) (gl_le_c (rfl) (gl_le_o (gl_le_o (gl_le_o (gl_le_c (rfl) (gl_le_c (rfl) (gl_le_c (rfl) (gl_le_o (gl_le_n))))))))))))))))))))) (rfl)
      have c511 : gl_G LL (some (.int (nI 1))) ((ll G (en S n))) V 511 [some (.ref (gl_r V.1 126)), some (.ref (gl_r V.1 129)), some (.ref (gl_r V.1 130)), some (.ref (gl_r V.1 131)), some (.ref (gl_r V.1 132)), some (.ref (gl_r V.1 133)), some (.int (nI 1)), some (.int (sp_went S m)), some (.int (sp_cst S (nI 1) m)), some (.int (sp_cst S (nI 2) m)), some (.int (nI (sp_groups S k))), some (.int (nI k)), some (.long (lN (pkn S k))), none, some (.int (qx S k)), some (.int (qy S k)), none, none, none, none] [.int (S (iK k 6)), .int (S (iK k 6))] (ll G (en S n)) := by
        refine gl_icmp_ne (pc := 511) 552 C dL_isSo_511 (by decide) (fun h511 => absurd h511 (not_not_intro rfl)) (fun h511 => ?_)
        refine gl_aload_0 (pc := 514) C dL_isSo_514 ?_
        refine gl_iload_11 (pc := 515) C dL_isSo_515 ?_
        refine gl_bipush (pc := 517) (nI 7) C dL_isSo_517 (by decide +kernel) ?_
        refine gl_callVi (pc := 519) (gl_upC (ctX4_caller V.1 w (by omega) hS (nI k) (nI 7))) C dL_isSo_519 gL_isSo_X4_caller rfl hdX4_caller ⟨rfl, rfl, Nat.le_of_ble_eq_true rfl, Nat.le_of_ble_eq_true rfl⟩ rfl (Nat.le_of_ble_eq_true rfl) rfl rfl rfl ?_
        refine gl_top (y := S (iK k 7)) (so_caller hk hn40 (i := 7) (by omega)) ?_
        refine gl_i2l (pc := 522) C dL_isSo_522 ?_
        refine gl_lload_12 (pc := 523) C dL_isSo_523 ?_
        refine gl_bipush (pc := 525) (nI 13) C dL_isSo_525 (by decide +kernel) ?_
        refine gl_lshr (pc := 527) C dL_isSo_527 ?_
        refine gl_ldc2 (pc := 528) (2047) C dL_isSo_528 (by decide +kernel) ?_
        refine gl_land (pc := 531) C dL_isSo_531 ?_
        refine gl_lcmp (pc := 532) C dL_isSo_532 ?_
        refine gl_top (y := 0) (so_times hq.1 qk) ?_
        refine gl_ifne (pc := 533) 552 C dL_isSo_533 (by decide) (fun h533 => absurd h533 (not_not_intro rfl)) (fun h533 => ?_)
        refine gl_aload_0 (pc := 536) C dL_isSo_536 ?_
        refine gl_iload_11 (pc := 537) C dL_isSo_537 ?_
        refine gl_bipush (pc := 539) (nI 8) C dL_isSo_539 (by decide +kernel) ?_
        refine gl_callVi (pc := 541) (gl_upC (ctX4_caller V.1 w (by omega) hS (nI k) (nI 8))) C dL_isSo_541 gL_isSo_X4_caller rfl hdX4_caller ⟨rfl, rfl, Nat.le_of_ble_eq_true rfl, Nat.le_of_ble_eq_true rfl⟩ rfl (Nat.le_of_ble_eq_true rfl) rfl rfl rfl ?_
        refine gl_top (y := -1) (so_caller8) ?_
        refine gl_iconst (pc := 544) (-1) C dL_isSo_544 (by decide) ?_
        refine gl_icmp_ne (pc := 545) 552 C dL_isSo_545 (by decide) (fun h545 => absurd h545 (not_not_intro rfl)) (fun h545 => ?_)
        refine gl_iconst (pc := 548) (nI 1) C dL_isSo_548 (by decide) ?_
        refine gl_goto (pc := 549) 553 C dL_isSo_549 (by decide) ?_
        refine gl_istore_6 (pc := 553) C dL_isSo_553 ?_
        refine gl_iconst (pc := 555) (nI 0) C dL_isSo_555 (by decide) ?_
        refine gl_istore_16 (pc := 556) C dL_isSo_556 ?_
        refine gl_lload_12 (pc := 558) C dL_isSo_558 ?_
        refine gl_callSi (pc := 560) (ctL_is V.1 LL ok_LL _ hq.1 qk) C dL_isSo_560 gL_isSo_L_is rfl hdL_is ⟨rfl, rfl, Nat.le_of_ble_eq_true rfl, Nat.le_of_ble_eq_true rfl⟩ rfl (Nat.le_of_ble_eq_true rfl) rfl ?_
        refine gl_iconst (pc := 563) (nI 2) C dL_isSo_563 (by decide) ?_
        refine gl_icmp_ge (pc := 564) 571 C dL_isSo_564 (by decide) (fun h564 => ?_) (fun h564 => ?_)
        · skip
          refine gl_iconst (pc := 571) (nI 0) C dL_isSo_571 (by decide) ?_
          refine gl_top (y := if so_fst S k 0 = true then nI 1 else nI 0) (if_neg (fun y => (so_op hph).mp h564 (of_decide_eq_true y))).symm ?_
          exact gl_on c572 (gl_le_c (rfl) (gl_le_c (rfl) (gl_le_c (rfl) (gl_le_c (rfl) (gl_le_c (rfl) (gl_le_c (rfl) (gl_le_c (rfl) (gl_le_c (rfl) (gl_le_c (rfl) (gl_le_c (rfl) (gl_le_c (rfl) (gl_le_c (rfl) (gl_le_c (rfl) (gl_le_o (gl_le_o (gl_le_o (gl_le_c (rfl) (gl_le_o (gl_le_o (gl_le_o (gl_le_n))))))))))))))))))))) (rfl)
        · skip
          refine gl_iconst (pc := 567) (nI 1) C dL_isSo_567 (by decide) ?_
          refine gl_top (y := if so_fst S k 0 = true then nI 1 else nI 0) (if_pos (decide_eq_true (Classical.not_not.mp (fun y => h564 ((so_op hph).mpr y))))).symm ?_
          refine gl_goto (pc := 568) 572 C dL_isSo_568 (by decide) ?_
          exact gl_on c572 (gl_le_c (rfl) (gl_le_c (rfl) (gl_le_c (rfl) (gl_le_c (rfl) (gl_le_c (rfl) (gl_le_c (rfl) (gl_le_c (rfl) (gl_le_c (rfl) (gl_le_c (rfl) (gl_le_c (rfl) (gl_le_c (rfl) (gl_le_c (rfl) (gl_le_c (rfl) (gl_le_o (gl_le_o (gl_le_o (gl_le_c (rfl) (gl_le_o (gl_le_o (gl_le_o (gl_le_n))))))))))))))))))))) (rfl)
      have c488 : gl_G LL (some (.int (nI 1))) ((ll G (en S n))) V 488 [some (.ref (gl_r V.1 126)), some (.ref (gl_r V.1 129)), some (.ref (gl_r V.1 130)), some (.ref (gl_r V.1 131)), some (.ref (gl_r V.1 132)), some (.ref (gl_r V.1 133)), some (.int (nI 1)), some (.int (sp_went S m)), some (.int (sp_cst S (nI 1) m)), some (.int (sp_cst S (nI 2) m)), some (.int (nI (sp_groups S k))), some (.int (nI k)), some (.long (lN (pkn S k))), none, some (.int (qx S k)), some (.int (qy S k)), none, none, none, none] [.int (S (iK k 5)), .int (S (iK k 5))] (ll G (en S n)) := by
        refine gl_icmp_ne (pc := 488) 552 C dL_isSo_488 (by decide) (fun h488 => absurd h488 (not_not_intro rfl)) (fun h488 => ?_)
        refine gl_aload_0 (pc := 491) C dL_isSo_491 ?_
        refine gl_iload_11 (pc := 492) C dL_isSo_492 ?_
        refine gl_bipush (pc := 494) (nI 6) C dL_isSo_494 (by decide +kernel) ?_
        refine gl_callVi (pc := 496) (gl_upC (ctX4_caller V.1 w (by omega) hS (nI k) (nI 6))) C dL_isSo_496 gL_isSo_X4_caller rfl hdX4_caller ⟨rfl, rfl, Nat.le_of_ble_eq_true rfl, Nat.le_of_ble_eq_true rfl⟩ rfl (Nat.le_of_ble_eq_true rfl) rfl rfl rfl ?_
        refine gl_top (y := S (iK k 6)) (so_caller hk hn40 (i := 6) (by omega)) ?_
        refine gl_iload_15 (pc := 499) C dL_isSo_499 ?_
        refine gl_ifge (pc := 501) 509 C dL_isSo_501 (by decide) (fun h501 => ?_) (fun h501 => ?_)
        · skip
          refine gl_iload_15 (pc := 509) C dL_isSo_509 ?_
          refine gl_top (so_y2 h501) ?_
          exact gl_on c511 (gl_le_c (rfl) (gl_le_c (rfl) (gl_le_c (rfl) (gl_le_c (rfl) (gl_le_c (rfl) (gl_le_c (rfl) (gl_le_c (rfl) (gl_le_c (rfl) (gl_le_c (rfl) (gl_le_c (rfl) (gl_le_c (rfl) (gl_le_c (rfl) (gl_le_c (rfl) (gl_le_o (gl_le_c (rfl) (gl_le_c (rfl) (gl_le_o (gl_le_o (gl_le_o (gl_le_o (gl_le_n))))))))))))))))))))) (rfl)
        · skip
          refine gl_bipush (pc := 504) (-9) C dL_isSo_504 (by decide +kernel) ?_
          refine gl_top (so_y1 qk h501) ?_
          refine gl_goto (pc := 506) 511 C dL_isSo_506 (by decide) ?_
          exact gl_on c511 (gl_le_c (rfl) (gl_le_c (rfl) (gl_le_c (rfl) (gl_le_c (rfl) (gl_le_c (rfl) (gl_le_c (rfl) (gl_le_c (rfl) (gl_le_c (rfl) (gl_le_c (rfl) (gl_le_c (rfl) (gl_le_c (rfl) (gl_le_c (rfl) (gl_le_c (rfl) (gl_le_o (gl_le_c (rfl) (gl_le_c (rfl) (gl_le_o (gl_le_o (gl_le_o (gl_le_o (gl_le_n))))))))))))))))))))) (rfl)
      have c449 : gl_G LL (some (.int (nI 1))) ((ll G (en S n))) V 449 [some (.ref (gl_r V.1 126)), some (.ref (gl_r V.1 129)), some (.ref (gl_r V.1 130)), some (.ref (gl_r V.1 131)), some (.ref (gl_r V.1 132)), some (.ref (gl_r V.1 133)), some (.int (nI 1)), some (.int (sp_went S m)), some (.int (sp_cst S (nI 1) m)), some (.int (sp_cst S (nI 2) m)), some (.int (nI (sp_groups S k))), some (.int (nI k)), some (.long (lN (pkn S k))), none, some (.int (qx S k)), some (.int (qy S k)), none, none, none, none] [.int (S (iK k 3)), .int (S (iK k 3))] (ll G (en S n)) := by
        refine gl_icmp_ne (pc := 449) 552 C dL_isSo_449 (by decide) (fun h449 => absurd h449 (not_not_intro rfl)) (fun h449 => ?_)
        refine gl_aload_0 (pc := 452) C dL_isSo_452 ?_
        refine gl_iload_11 (pc := 453) C dL_isSo_453 ?_
        refine gl_iconst (pc := 455) (nI 4) C dL_isSo_455 (by decide) ?_
        refine gl_callVi (pc := 456) (gl_upC (ctX4_caller V.1 w (by omega) hS (nI k) (nI 4))) C dL_isSo_456 gL_isSo_X4_caller rfl hdX4_caller ⟨rfl, rfl, Nat.le_of_ble_eq_true rfl, Nat.le_of_ble_eq_true rfl⟩ rfl (Nat.le_of_ble_eq_true rfl) rfl rfl rfl ?_
        refine gl_top (y := S (iK k 4)) (so_caller hk hn40 (i := 4) (by omega)) ?_
        refine gl_i2l (pc := 459) C dL_isSo_459 ?_
        refine gl_lload_12 (pc := 460) C dL_isSo_460 ?_
        refine gl_bipush (pc := 462) (nI 24) C dL_isSo_462 (by decide +kernel) ?_
        refine gl_lshr (pc := 464) C dL_isSo_464 ?_
        refine gl_lcmp (pc := 465) C dL_isSo_465 ?_
        refine gl_top (y := 0) (so_called hq.1 qk) ?_
        refine gl_ifne (pc := 466) 552 C dL_isSo_466 (by decide) (fun h466 => absurd h466 (not_not_intro rfl)) (fun h466 => ?_)
        refine gl_aload_0 (pc := 469) C dL_isSo_469 ?_
        refine gl_iload_11 (pc := 470) C dL_isSo_470 ?_
        refine gl_iconst (pc := 472) (nI 5) C dL_isSo_472 (by decide) ?_
        refine gl_callVi (pc := 473) (gl_upC (ctX4_caller V.1 w (by omega) hS (nI k) (nI 5))) C dL_isSo_473 gL_isSo_X4_caller rfl hdX4_caller ⟨rfl, rfl, Nat.le_of_ble_eq_true rfl, Nat.le_of_ble_eq_true rfl⟩ rfl (Nat.le_of_ble_eq_true rfl) rfl rfl rfl ?_
        refine gl_top (y := S (iK k 5)) (so_caller hk hn40 (i := 5) (by omega)) ?_
        refine gl_iload_14 (pc := 476) C dL_isSo_476 ?_
        refine gl_ifge (pc := 478) 486 C dL_isSo_478 (by decide) (fun h478 => ?_) (fun h478 => ?_)
        · skip
          refine gl_iload_14 (pc := 486) C dL_isSo_486 ?_
          refine gl_top (so_x2 h478) ?_
          exact gl_on c488 (gl_le_c (rfl) (gl_le_c (rfl) (gl_le_c (rfl) (gl_le_c (rfl) (gl_le_c (rfl) (gl_le_c (rfl) (gl_le_c (rfl) (gl_le_c (rfl) (gl_le_c (rfl) (gl_le_c (rfl) (gl_le_c (rfl) (gl_le_c (rfl) (gl_le_c (rfl) (gl_le_o (gl_le_c (rfl) (gl_le_c (rfl) (gl_le_o (gl_le_o (gl_le_o (gl_le_o (gl_le_n))))))))))))))))))))) (rfl)
        · skip
          refine gl_bipush (pc := 481) (-9) C dL_isSo_481 (by decide +kernel) ?_
          refine gl_top (so_x1 qk h478) ?_
          refine gl_goto (pc := 483) 488 C dL_isSo_483 (by decide) ?_
          exact gl_on c488 (gl_le_c (rfl) (gl_le_c (rfl) (gl_le_c (rfl) (gl_le_c (rfl) (gl_le_c (rfl) (gl_le_c (rfl) (gl_le_c (rfl) (gl_le_c (rfl) (gl_le_c (rfl) (gl_le_c (rfl) (gl_le_c (rfl) (gl_le_c (rfl) (gl_le_c (rfl) (gl_le_o (gl_le_c (rfl) (gl_le_c (rfl) (gl_le_o (gl_le_o (gl_le_o (gl_le_o (gl_le_n))))))))))))))))))))) (rfl)
      refine gl_iload_11 (pc := 332) C dL_isSo_332 ?_
      refine gl_aload_1 (pc := 334) C dL_isSo_334 ?_
      refine gl_iconst (pc := 335) (nI 2) C dL_isSo_335 (by decide) ?_
      refine gl_iald (pc := 336) _ C dL_isSo_336 rfl rfl (by omega) ?_
      refine gl_top (ll_A.trans ((en_i (by omega)).trans hn)) ?_
      refine gl_icmp_ge (pc := 337) 761 C dL_isSo_337 (by decide) (fun h337 => absurd h337 (nI_ge hk (by omega))) (fun h337 => ?_)
      refine gl_iload_6 (pc := 340) C dL_isSo_340 ?_
      refine gl_ifeq (pc := 342) 761 C dL_isSo_342 (by decide) (fun h342 => absurd h342 (by decide)) (fun h342 => ?_)
      refine gl_aload_4 (pc := 345) C dL_isSo_345 ?_
      refine gl_iload_11 (pc := 347) C dL_isSo_347 ?_
      refine gl_lald (pc := 349) _ C dL_isSo_349 rfl rfl (by omega) ?_
      refine gl_topl (ll_lg.trans (en_c (by omega) hk)) ?_
      refine gl_lstore_12 (pc := 350) C dL_isSo_350 ?_
      refine gl_aload_5 (pc := 352) C dL_isSo_352 ?_
      refine gl_iload_11 (pc := 354) C dL_isSo_354 ?_
      refine gl_lald (pc := 356) _ C dL_isSo_356 rfl rfl (by omega) ?_
      refine gl_topl (ll_lg.trans (en_r (by omega) hk)) ?_
      refine gl_ldc2 (pc := 357) (1048575) C dL_isSo_357 (by decide +kernel) ?_
      refine gl_land (pc := 360) C dL_isSo_360 ?_
      refine gl_l2i (pc := 361) C dL_isSo_361 ?_
      refine gl_iconst (pc := 362) (nI 1) C dL_isSo_362 (by decide) ?_
      refine gl_isub (pc := 363) C dL_isSo_363 ?_
      refine gl_top (so_ride qk) ?_
      refine gl_istore_14 (pc := 364) C dL_isSo_364 ?_
      refine gl_aload_5 (pc := 366) C dL_isSo_366 ?_
      refine gl_iload_11 (pc := 368) C dL_isSo_368 ?_
      refine gl_lald (pc := 370) _ C dL_isSo_370 rfl rfl (by omega) ?_
      refine gl_topl (ll_lg.trans (en_r (by omega) hk)) ?_
      refine gl_bipush (pc := 371) (nI 20) C dL_isSo_371 (by decide +kernel) ?_
      refine gl_lshr (pc := 373) C dL_isSo_373 ?_
      refine gl_l2i (pc := 374) C dL_isSo_374 ?_
      refine gl_iconst (pc := 375) (nI 1) C dL_isSo_375 (by decide) ?_
      refine gl_isub (pc := 376) C dL_isSo_376 ?_
      refine gl_top (so_came qk) ?_
      refine gl_istore_15 (pc := 377) C dL_isSo_377 ?_
      refine gl_aload_0 (pc := 379) C dL_isSo_379 ?_
      refine gl_iload_11 (pc := 380) C dL_isSo_380 ?_
      refine gl_iconst (pc := 382) (nI 0) C dL_isSo_382 (by decide) ?_
      refine gl_callVi (pc := 383) (gl_upC (ctX4_caller V.1 w (by omega) hS (nI k) (nI 0))) C dL_isSo_383 gL_isSo_X4_caller rfl hdX4_caller ⟨rfl, rfl, Nat.le_of_ble_eq_true rfl, Nat.le_of_ble_eq_true rfl⟩ rfl (Nat.le_of_ble_eq_true rfl) rfl rfl rfl ?_
      refine gl_top (y := S (iK k 0)) (so_caller hk hn40 (i := 0) (by omega)) ?_
      refine gl_lload_12 (pc := 386) C dL_isSo_386 ?_
      refine gl_callSi (pc := 388) (ctL_floor V.1 LL ok_LL _ hq.1 qk) C dL_isSo_388 gL_isSo_L_floor rfl hdL_floor ⟨rfl, rfl, Nat.le_of_ble_eq_true rfl, Nat.le_of_ble_eq_true rfl⟩ rfl (Nat.le_of_ble_eq_true rfl) rfl ?_
      refine gl_icmp_ne (pc := 391) 552 C dL_isSo_391 (by decide) (fun h391 => absurd h391 (not_not_intro rfl)) (fun h391 => ?_)
      refine gl_aload_0 (pc := 394) C dL_isSo_394 ?_
      refine gl_iload_11 (pc := 395) C dL_isSo_395 ?_
      refine gl_iconst (pc := 397) (nI 1) C dL_isSo_397 (by decide) ?_
      refine gl_callVi (pc := 398) (gl_upC (ctX4_caller V.1 w (by omega) hS (nI k) (nI 1))) C dL_isSo_398 gL_isSo_X4_caller rfl hdX4_caller ⟨rfl, rfl, Nat.le_of_ble_eq_true rfl, Nat.le_of_ble_eq_true rfl⟩ rfl (Nat.le_of_ble_eq_true rfl) rfl rfl rfl ?_
      refine gl_top (y := S (iK k 1)) (so_caller hk hn40 (i := 1) (by omega)) ?_
      refine gl_lload_12 (pc := 401) C dL_isSo_401 ?_
      refine gl_callSi (pc := 403) (ctL_goal V.1 LL ok_LL _ hq.1 qk) C dL_isSo_403 gL_isSo_L_goal rfl hdL_goal ⟨rfl, rfl, Nat.le_of_ble_eq_true rfl, Nat.le_of_ble_eq_true rfl⟩ rfl (Nat.le_of_ble_eq_true rfl) rfl ?_
      refine gl_icmp_ne (pc := 406) 552 C dL_isSo_406 (by decide) (fun h406 => absurd h406 (not_not_intro rfl)) (fun h406 => ?_)
      refine gl_aload_0 (pc := 409) C dL_isSo_409 ?_
      refine gl_iload_11 (pc := 410) C dL_isSo_410 ?_
      refine gl_iconst (pc := 412) (nI 2) C dL_isSo_412 (by decide) ?_
      refine gl_callVi (pc := 413) (gl_upC (ctX4_caller V.1 w (by omega) hS (nI k) (nI 2))) C dL_isSo_413 gL_isSo_X4_caller rfl hdX4_caller ⟨rfl, rfl, Nat.le_of_ble_eq_true rfl, Nat.le_of_ble_eq_true rfl⟩ rfl (Nat.le_of_ble_eq_true rfl) rfl rfl rfl ?_
      refine gl_top (y := S (iK k 2)) (so_caller hk hn40 (i := 2) (by omega)) ?_
      refine gl_lload_12 (pc := 416) C dL_isSo_416 ?_
      refine gl_callSi (pc := 418) (ctL_is V.1 LL ok_LL _ hq.1 qk) C dL_isSo_418 gL_isSo_L_is rfl hdL_is ⟨rfl, rfl, Nat.le_of_ble_eq_true rfl, Nat.le_of_ble_eq_true rfl⟩ rfl (Nat.le_of_ble_eq_true rfl) rfl ?_
      refine gl_icmp_ne (pc := 421) 552 C dL_isSo_421 (by decide) (fun h421 => absurd h421 (not_not_intro rfl)) (fun h421 => ?_)
      refine gl_aload_0 (pc := 424) C dL_isSo_424 ?_
      refine gl_iload_11 (pc := 425) C dL_isSo_425 ?_
      refine gl_iconst (pc := 427) (nI 3) C dL_isSo_427 (by decide) ?_
      refine gl_callVi (pc := 428) (gl_upC (ctX4_caller V.1 w (by omega) hS (nI k) (nI 3))) C dL_isSo_428 gL_isSo_X4_caller rfl hdX4_caller ⟨rfl, rfl, Nat.le_of_ble_eq_true rfl, Nat.le_of_ble_eq_true rfl⟩ rfl (Nat.le_of_ble_eq_true rfl) rfl rfl rfl ?_
      refine gl_top (y := S (iK k 3)) (so_caller hk hn40 (i := 3) (by omega)) ?_
      refine gl_lload_12 (pc := 431) C dL_isSo_431 ?_
      refine gl_callSi (pc := 433) (ctL_by V.1 LL ok_LL _ hq.1 qk) C dL_isSo_433 gL_isSo_L_by rfl hdL_by ⟨rfl, rfl, Nat.le_of_ble_eq_true rfl, Nat.le_of_ble_eq_true rfl⟩ rfl (Nat.le_of_ble_eq_true rfl) rfl ?_
      refine gl_ifge (pc := 436) 444 C dL_isSo_436 (by decide) (fun h436 => ?_) (fun h436 => ?_)
      · skip
        refine gl_lload_12 (pc := 444) C dL_isSo_444 ?_
        refine gl_callSi (pc := 446) (ctL_by V.1 LL ok_LL _ hq.1 qk) C dL_isSo_446 gL_isSo_L_by rfl hdL_by ⟨rfl, rfl, Nat.le_of_ble_eq_true rfl, Nat.le_of_ble_eq_true rfl⟩ rfl (Nat.le_of_ble_eq_true rfl) rfl ?_
        refine gl_top (so_by2 h436) ?_
        exact gl_on c449 (gl_le_c (rfl) (gl_le_c (rfl) (gl_le_c (rfl) (gl_le_c (rfl) (gl_le_c (rfl) (gl_le_c (rfl) (gl_le_c (rfl) (gl_le_c (rfl) (gl_le_c (rfl) (gl_le_c (rfl) (gl_le_c (rfl) (gl_le_c (rfl) (gl_le_c (rfl) (gl_le_o (gl_le_c (rfl) (gl_le_c (rfl) (gl_le_o (gl_le_o (gl_le_o (gl_le_o (gl_le_n))))))))))))))))))))) (rfl)
      · skip
        refine gl_bipush (pc := 439) (-9) C dL_isSo_439 (by decide +kernel) ?_
        refine gl_top (so_by1 qk h436) ?_
        refine gl_goto (pc := 441) 449 C dL_isSo_441 (by decide) ?_
        exact gl_on c449 (gl_le_c (rfl) (gl_le_c (rfl) (gl_le_c (rfl) (gl_le_c (rfl) (gl_le_c (rfl) (gl_le_c (rfl) (gl_le_c (rfl) (gl_le_c (rfl) (gl_le_c (rfl) (gl_le_c (rfl) (gl_le_c (rfl) (gl_le_c (rfl) (gl_le_c (rfl) (gl_le_o (gl_le_c (rfl) (gl_le_c (rfl) (gl_le_o (gl_le_o (gl_le_o (gl_le_o (gl_le_n))))))))))))))))))))) (rfl)
  · skip
    have c243 : gl_G LL (some (.int (nI 1))) ((ll G (en S n))) V 243 [some (.ref (gl_r V.1 126)), some (.ref (gl_r V.1 129)), some (.ref (gl_r V.1 130)), some (.ref (gl_r V.1 131)), some (.ref (gl_r V.1 132)), some (.ref (gl_r V.1 133)), some (.int (nI 1)), some (.int (sp_went S (c + 1))), some (.int (sp_cst S (nI 1) (c + 1))), some (.int (sp_cst S (nI 2) (c + 1))), some (.int (nI c)), some (.int (nI (6 * c))), none, none, none, none, none, none, none, none] [] (ll G (en S n)) := by
      refine gl_aload_0 (pc := 243) C dL_isSo_243 ?_
      refine gl_iload_10 (pc := 244) C dL_isSo_244 ?_
      refine gl_bipush (pc := 246) (nI 8) C dL_isSo_246 (by decide +kernel) ?_
      refine gl_callVi (pc := 248) (gl_upC (ctX4_car V.1 w (by omega) hS (nI c) (nI 8))) C dL_isSo_248 gL_isSo_X4_car rfl hdX4_car ⟨rfl, rfl, Nat.le_of_ble_eq_true rfl, Nat.le_of_ble_eq_true rfl⟩ rfl (Nat.le_of_ble_eq_true rfl) rfl rfl rfl ?_
      refine gl_top (y := -1) (so_car8 hc hm5) ?_
      refine gl_iconst (pc := 251) (-1) C dL_isSo_251 (by decide) ?_
      refine gl_icmp_ne (pc := 252) 259 C dL_isSo_252 (by decide) (fun h252 => absurd h252 (not_not_intro rfl)) (fun h252 => ?_)
      refine gl_iconst (pc := 255) (nI 1) C dL_isSo_255 (by decide) ?_
      refine gl_goto (pc := 256) 260 C dL_isSo_256 (by decide) ?_
      refine gl_istore_6 (pc := 260) C dL_isSo_260 ?_
      refine gl_iload_6 (pc := 262) C dL_isSo_262 ?_
      refine gl_ifeq (pc := 264) 317 C dL_isSo_264 (by decide) (fun h264 => absurd h264 (by decide)) (fun h264 => ?_)
      refine gl_aload_3 (pc := 267) C dL_isSo_267 ?_
      refine gl_iload_11 (pc := 268) C dL_isSo_268 ?_
      refine gl_iconst (pc := 270) (nI 3) C dL_isSo_270 (by decide) ?_
      first | with_reducible refine gl_iaddN (pc := 271) C dL_isSo_271 ?_ | refine gl_iadd (pc := 271) C dL_isSo_271 ?_
      refine gl_iald (pc := 272) _ C dL_isSo_272 rfl rfl (by omega) ?_
      refine gl_top (ll_A.trans (en_C (w := 3) (by omega) (by omega))) ?_
      refine gl_aload_3 (pc := 273) C dL_isSo_273 ?_
      refine gl_iload_11 (pc := 274) C dL_isSo_274 ?_
      refine gl_iald (pc := 276) _ C dL_isSo_276 rfl rfl (by omega) ?_
      refine gl_top (ll_A.trans (en_C (w := 0) (by omega) (by omega))) ?_
      refine gl_icmp_lt (pc := 277) 317 C dL_isSo_277 (by decide) (fun h277 => absurd h277 ((z.1 c hc).1.1)) (fun h277 => ?_)
      refine gl_aload_3 (pc := 280) C dL_isSo_280 ?_
      refine gl_iload_11 (pc := 281) C dL_isSo_281 ?_
      refine gl_iconst (pc := 283) (nI 3) C dL_isSo_283 (by decide) ?_
      first | with_reducible refine gl_iaddN (pc := 284) C dL_isSo_284 ?_ | refine gl_iadd (pc := 284) C dL_isSo_284 ?_
      refine gl_iald (pc := 285) _ C dL_isSo_285 rfl rfl (by omega) ?_
      refine gl_top (ll_A.trans (en_C (w := 3) (by omega) (by omega))) ?_
      refine gl_aload_3 (pc := 286) C dL_isSo_286 ?_
      refine gl_iload_11 (pc := 287) C dL_isSo_287 ?_
      refine gl_iconst (pc := 289) (nI 1) C dL_isSo_289 (by decide) ?_
      first | with_reducible refine gl_iaddN (pc := 290) C dL_isSo_290 ?_ | refine gl_iadd (pc := 290) C dL_isSo_290 ?_
      refine gl_iald (pc := 291) _ C dL_isSo_291 rfl rfl (by omega) ?_
      refine gl_top (ll_A.trans (en_C (w := 1) (by omega) (by omega))) ?_
      refine gl_icmp_gt (pc := 292) 317 C dL_isSo_292 (by decide) (fun h292 => absurd h292 ((z.1 c hc).1.2)) (fun h292 => ?_)
      refine gl_aload_1 (pc := 295) C dL_isSo_295 ?_
      refine gl_aload_4 (pc := 296) C dL_isSo_296 ?_
      refine gl_iload_10 (pc := 298) C dL_isSo_298 ?_
      refine gl_iconst (pc := 300) (nI 2) C dL_isSo_300 (by decide) ?_
      refine gl_callSi (pc := 301) (gl_upA (F := V.1) (ctL_those (gl_sh V.1 gl_eA) hn40 hn hq (c := c) (by omega) (nI 2))) C dL_isSo_301 gL_isSo_L_those rfl hdL_those ⟨rfl, rfl, Nat.le_of_ble_eq_true rfl, Nat.le_of_ble_eq_true rfl⟩ rfl (Nat.le_of_ble_eq_true rfl) rfl ?_
      refine gl_aload_3 (pc := 304) C dL_isSo_304 ?_
      refine gl_iload_11 (pc := 305) C dL_isSo_305 ?_
      refine gl_iconst (pc := 307) (nI 2) C dL_isSo_307 (by decide) ?_
      first | with_reducible refine gl_iaddN (pc := 308) C dL_isSo_308 ?_ | refine gl_iadd (pc := 308) C dL_isSo_308 ?_
      refine gl_iald (pc := 309) _ C dL_isSo_309 rfl rfl (by omega) ?_
      refine gl_top (ll_A.trans (en_C (w := 2) (by omega) (by omega))) ?_
      refine gl_icmp_gt (pc := 310) 317 C dL_isSo_310 (by decide) (fun h310 => absurd h310 (so_room w z hc)) (fun h310 => ?_)
      refine gl_iconst (pc := 313) (nI 1) C dL_isSo_313 (by decide) ?_
      refine gl_goto (pc := 314) 318 C dL_isSo_314 (by decide) ?_
      refine gl_istore_6 (pc := 318) C dL_isSo_318 ?_
      first | with_reducible refine gl_iincN_10 (pc := 320) gl_i1 C dL_isSo_320 ?_ | refine gl_iinc_10 (pc := 320) C dL_isSo_320 (gl_inc1 _) ?_
      refine gl_goto (pc := 323) 15 C dL_isSo_323 (by decide) ?_
      exact gl_on (ih (trivial)) (gl_le_c (rfl) (gl_le_c (rfl) (gl_le_c (rfl) (gl_le_c (rfl) (gl_le_c (rfl) (gl_le_c (rfl) (gl_le_c (rfl) (gl_le_c (rfl) (gl_le_c (rfl) (gl_le_c (rfl) (gl_le_c (rfl) (gl_le_o (gl_le_o (gl_le_o (gl_le_o (gl_le_o (gl_le_o (gl_le_o (gl_le_o (gl_le_o (gl_le_n))))))))))))))))))))) (rfl)
    have c84 : gl_G LL (some (.int (nI 1))) ((ll G (en S n))) V 84 [some (.ref (gl_r V.1 126)), some (.ref (gl_r V.1 129)), some (.ref (gl_r V.1 130)), some (.ref (gl_r V.1 131)), some (.ref (gl_r V.1 132)), some (.ref (gl_r V.1 133)), some (.int (nI 1)), some (.int (sp_went S (c + 1))), some (.int (sp_cst S (nI 1) (c + 1))), some (.int (sp_cst S (nI 2) c)), some (.int (nI c)), some (.int (nI (6 * c))), none, none, none, none, none, none, none, none] [.int (sp_cst S (nI 2) (c + 1))] (ll G (en S n)) := by
      refine gl_istore_9 (pc := 84) C dL_isSo_84 ?_
      refine gl_aload_0 (pc := 86) C dL_isSo_86 ?_
      refine gl_iload_10 (pc := 87) C dL_isSo_87 ?_
      refine gl_iconst (pc := 89) (nI 0) C dL_isSo_89 (by decide) ?_
      refine gl_callVi (pc := 90) (gl_upC (ctX4_car V.1 w (by omega) hS (nI c) (nI 0))) C dL_isSo_90 gL_isSo_X4_car rfl hdX4_car ⟨rfl, rfl, Nat.le_of_ble_eq_true rfl, Nat.le_of_ble_eq_true rfl⟩ rfl (Nat.le_of_ble_eq_true rfl) rfl rfl rfl ?_
      refine gl_top (y := S (iC c 3)) (so_car hc hm5 (i := 0) (by omega)) ?_
      refine gl_aload_3 (pc := 93) C dL_isSo_93 ?_
      refine gl_iload_11 (pc := 94) C dL_isSo_94 ?_
      refine gl_iconst (pc := 96) (nI 3) C dL_isSo_96 (by decide) ?_
      first | with_reducible refine gl_iaddN (pc := 97) C dL_isSo_97 ?_ | refine gl_iadd (pc := 97) C dL_isSo_97 ?_
      refine gl_iald (pc := 98) _ C dL_isSo_98 rfl rfl (by omega) ?_
      refine gl_top (ll_A.trans (en_C (w := 3) (by omega) (by omega))) ?_
      refine gl_icmp_ne (pc := 99) 259 C dL_isSo_99 (by decide) (fun h99 => absurd h99 (not_not_intro rfl)) (fun h99 => ?_)
      refine gl_aload_0 (pc := 102) C dL_isSo_102 ?_
      refine gl_iload_10 (pc := 103) C dL_isSo_103 ?_
      refine gl_iconst (pc := 105) (nI 1) C dL_isSo_105 (by decide) ?_
      refine gl_callVi (pc := 106) (gl_upC (ctX4_car V.1 w (by omega) hS (nI c) (nI 1))) C dL_isSo_106 gL_isSo_X4_car rfl hdX4_car ⟨rfl, rfl, Nat.le_of_ble_eq_true rfl, Nat.le_of_ble_eq_true rfl⟩ rfl (Nat.le_of_ble_eq_true rfl) rfl rfl rfl ?_
      refine gl_top (y := S (iC c 4)) (so_car hc hm5 (i := 1) (by omega)) ?_
      refine gl_aload_3 (pc := 109) C dL_isSo_109 ?_
      refine gl_iload_11 (pc := 110) C dL_isSo_110 ?_
      refine gl_iconst (pc := 112) (nI 4) C dL_isSo_112 (by decide) ?_
      first | with_reducible refine gl_iaddN (pc := 113) C dL_isSo_113 ?_ | refine gl_iadd (pc := 113) C dL_isSo_113 ?_
      refine gl_iald (pc := 114) _ C dL_isSo_114 rfl rfl (by omega) ?_
      refine gl_top (ll_A.trans (en_C (w := 4) (by omega) (by omega))) ?_
      refine gl_icmp_ne (pc := 115) 259 C dL_isSo_115 (by decide) (fun h115 => absurd h115 (not_not_intro rfl)) (fun h115 => ?_)
      refine gl_aload_0 (pc := 118) C dL_isSo_118 ?_
      refine gl_iload_10 (pc := 119) C dL_isSo_119 ?_
      refine gl_iconst (pc := 121) (nI 2) C dL_isSo_121 (by decide) ?_
      refine gl_callVi (pc := 122) (gl_upC (ctX4_car V.1 w (by omega) hS (nI c) (nI 2))) C dL_isSo_122 gL_isSo_X4_car rfl hdX4_car ⟨rfl, rfl, Nat.le_of_ble_eq_true rfl, Nat.le_of_ble_eq_true rfl⟩ rfl (Nat.le_of_ble_eq_true rfl) rfl rfl rfl ?_
      refine gl_top (y := sp_of S (nI c) (nI 2) n) (so_car hc hm5 (i := 2) (by omega)) ?_
      refine gl_aload_1 (pc := 125) C dL_isSo_125 ?_
      refine gl_aload_4 (pc := 126) C dL_isSo_126 ?_
      refine gl_iload_10 (pc := 128) C dL_isSo_128 ?_
      refine gl_iconst (pc := 130) (nI 2) C dL_isSo_130 (by decide) ?_
      refine gl_callSi (pc := 131) (gl_upA (F := V.1) (ctL_those (gl_sh V.1 gl_eA) hn40 hn hq (c := c) (by omega) (nI 2))) C dL_isSo_131 gL_isSo_L_those rfl hdL_those ⟨rfl, rfl, Nat.le_of_ble_eq_true rfl, Nat.le_of_ble_eq_true rfl⟩ rfl (Nat.le_of_ble_eq_true rfl) rfl ?_
      refine gl_icmp_ne (pc := 134) 259 C dL_isSo_134 (by decide) (fun h134 => absurd h134 (not_not_intro rfl)) (fun h134 => ?_)
      refine gl_aload_0 (pc := 137) C dL_isSo_137 ?_
      refine gl_iload_10 (pc := 138) C dL_isSo_138 ?_
      refine gl_iconst (pc := 140) (nI 3) C dL_isSo_140 (by decide) ?_
      refine gl_callVi (pc := 141) (gl_upC (ctX4_car V.1 w (by omega) hS (nI c) (nI 3))) C dL_isSo_141 gL_isSo_X4_car rfl hdX4_car ⟨rfl, rfl, Nat.le_of_ble_eq_true rfl, Nat.le_of_ble_eq_true rfl⟩ rfl (Nat.le_of_ble_eq_true rfl) rfl rfl rfl ?_
      refine gl_top (y := sp_of S (nI c) (nI 1) n) (so_car hc hm5 (i := 3) (by omega)) ?_
      refine gl_aload_1 (pc := 144) C dL_isSo_144 ?_
      refine gl_aload_4 (pc := 145) C dL_isSo_145 ?_
      refine gl_iload_10 (pc := 147) C dL_isSo_147 ?_
      refine gl_iconst (pc := 149) (nI 1) C dL_isSo_149 (by decide) ?_
      refine gl_callSi (pc := 150) (gl_upA (F := V.1) (ctL_those (gl_sh V.1 gl_eA) hn40 hn hq (c := c) (by omega) (nI 1))) C dL_isSo_150 gL_isSo_L_those rfl hdL_those ⟨rfl, rfl, Nat.le_of_ble_eq_true rfl, Nat.le_of_ble_eq_true rfl⟩ rfl (Nat.le_of_ble_eq_true rfl) rfl ?_
      refine gl_icmp_ne (pc := 153) 259 C dL_isSo_153 (by decide) (fun h153 => absurd h153 (not_not_intro rfl)) (fun h153 => ?_)
      refine gl_aload_0 (pc := 156) C dL_isSo_156 ?_
      refine gl_iload_10 (pc := 157) C dL_isSo_157 ?_
      refine gl_iconst (pc := 159) (nI 4) C dL_isSo_159 (by decide) ?_
      refine gl_callVi (pc := 160) (gl_upC (ctX4_car V.1 w (by omega) hS (nI c) (nI 4))) C dL_isSo_160 gL_isSo_X4_car rfl hdX4_car ⟨rfl, rfl, Nat.le_of_ble_eq_true rfl, Nat.le_of_ble_eq_true rfl⟩ rfl (Nat.le_of_ble_eq_true rfl) rfl rfl rfl ?_
      refine gl_top (y := sp_pop (sp_stops S (nI c) n)) (so_car hc hm5 (i := 4) (by omega)) ?_
      refine gl_aload_1 (pc := 163) C dL_isSo_163 ?_
      refine gl_aload_4 (pc := 164) C dL_isSo_164 ?_
      refine gl_iload_10 (pc := 166) C dL_isSo_166 ?_
      refine gl_iconst (pc := 168) (nI 0) C dL_isSo_168 (by decide) ?_
      refine gl_callSi (pc := 169) (gl_upA (F := V.1) (ctL_stops (gl_sh V.1 gl_eA) hn40 hn hq (c := c) (by omega) (nI 0))) C dL_isSo_169 gL_isSo_L_stops rfl hdL_stops ⟨rfl, rfl, Nat.le_of_ble_eq_true rfl, Nat.le_of_ble_eq_true rfl⟩ rfl (Nat.le_of_ble_eq_true rfl) rfl ?_
      refine gl_top (congrArg sp_pop (gl_or0 _)) ?_
      refine gl_icmp_ne (pc := 172) 259 C dL_isSo_172 (by decide) (fun h172 => absurd h172 (not_not_intro rfl)) (fun h172 => ?_)
      refine gl_aload_0 (pc := 175) C dL_isSo_175 ?_
      refine gl_iload_10 (pc := 176) C dL_isSo_176 ?_
      refine gl_iconst (pc := 178) (nI 5) C dL_isSo_178 (by decide) ?_
      refine gl_callVi (pc := 179) (gl_upC (ctX4_car V.1 w (by omega) hS (nI c) (nI 5))) C dL_isSo_179 gL_isSo_X4_car rfl hdX4_car ⟨rfl, rfl, Nat.le_of_ble_eq_true rfl, Nat.le_of_ble_eq_true rfl⟩ rfl (Nat.le_of_ble_eq_true rfl) rfl rfl rfl ?_
      refine gl_top (y := sp_aim S (nI c) (S (iC c 3)) n) (so_car hc hm5 (i := 5) (by omega)) ?_
      refine gl_aload_1 (pc := 182) C dL_isSo_182 ?_
      refine gl_aload_3 (pc := 183) C dL_isSo_183 ?_
      refine gl_aload_4 (pc := 184) C dL_isSo_184 ?_
      refine gl_iload_10 (pc := 186) C dL_isSo_186 ?_
      refine gl_callSi (pc := 188) (gl_upA (F := V.1) (ctL_aim (gl_sh V.1 gl_eA) w (by omega) hq hc)) C dL_isSo_188 gL_isSo_L_aim rfl hdL_aim ⟨rfl, rfl, Nat.le_of_ble_eq_true rfl, Nat.le_of_ble_eq_true rfl⟩ rfl (Nat.le_of_ble_eq_true rfl) rfl ?_
      refine gl_icmp_ne (pc := 191) 259 C dL_isSo_191 (by decide) (fun h191 => absurd h191 (not_not_intro rfl)) (fun h191 => ?_)
      refine gl_aload_0 (pc := 194) C dL_isSo_194 ?_
      refine gl_iload_10 (pc := 195) C dL_isSo_195 ?_
      refine gl_bipush (pc := 197) (nI 6) C dL_isSo_197 (by decide +kernel) ?_
      refine gl_callVi (pc := 199) (gl_upC (ctX4_car V.1 w (by omega) hS (nI c) (nI 6))) C dL_isSo_199 gL_isSo_X4_car rfl hdX4_car ⟨rfl, rfl, Nat.le_of_ble_eq_true rfl, Nat.le_of_ble_eq_true rfl⟩ rfl (Nat.le_of_ble_eq_true rfl) rfl rfl rfl ?_
      refine gl_top (y := S (iC c 5)) (so_car hc hm5 (i := 6) (by omega)) ?_
      refine gl_aload_3 (pc := 202) C dL_isSo_202 ?_
      refine gl_iload_11 (pc := 203) C dL_isSo_203 ?_
      refine gl_iconst (pc := 205) (nI 5) C dL_isSo_205 (by decide) ?_
      first | with_reducible refine gl_iaddN (pc := 206) C dL_isSo_206 ?_ | refine gl_iadd (pc := 206) C dL_isSo_206 ?_
      refine gl_iald (pc := 207) _ C dL_isSo_207 rfl rfl (by omega) ?_
      refine gl_top (ll_A.trans (en_C (w := 5) (by omega) (by omega))) ?_
      refine gl_icmp_ne (pc := 208) 259 C dL_isSo_208 (by decide) (fun h208 => absurd h208 (not_not_intro rfl)) (fun h208 => ?_)
      refine gl_aload_0 (pc := 211) C dL_isSo_211 ?_
      refine gl_iload_10 (pc := 212) C dL_isSo_212 ?_
      refine gl_bipush (pc := 214) (nI 7) C dL_isSo_214 (by decide +kernel) ?_
      refine gl_callVi (pc := 216) (gl_upC (ctX4_car V.1 w (by omega) hS (nI c) (nI 7))) C dL_isSo_216 gL_isSo_X4_car rfl hdX4_car ⟨rfl, rfl, Nat.le_of_ble_eq_true rfl, Nat.le_of_ble_eq_true rfl⟩ rfl (Nat.le_of_ble_eq_true rfl) rfl rfl rfl ?_
      refine gl_top (y := if sp_awake S t c then nI 1 else nI 0) (so_car hc hm5 (i := 7) (by omega)) ?_
      refine gl_iload_10 (pc := 219) C dL_isSo_219 ?_
      refine gl_aload_2 (pc := 221) C dL_isSo_221 ?_
      refine gl_aload_1 (pc := 222) C dL_isSo_222 ?_
      refine gl_iconst (pc := 223) (nI 0) C dL_isSo_223 (by decide) ?_
      refine gl_iald (pc := 224) _ C dL_isSo_224 rfl rfl (by omega) ?_
      refine gl_top (ll_A.trans ((en_i (by omega)).trans ht)) ?_
      refine gl_bipush (pc := 225) (nI 60) C dL_isSo_225 (by decide +kernel) ?_
      refine gl_idiv (pc := 227) C dL_isSo_227 (by decide) ?_
      refine gl_top (pk_div (by omega) (by omega) (by omega)) ?_
      refine gl_bipush (pc := 228) (nI 24) C dL_isSo_228 (by decide +kernel) ?_
      refine gl_irem (pc := 230) C dL_isSo_230 (by decide) ?_
      refine gl_top (pk_rem (by omega) (by omega) (by omega)) ?_
      refine gl_iald (pc := 231) _ C dL_isSo_231 rfl rfl (by omega) ?_
      refine gl_top (ll_A.trans (en_i (by omega))) ?_
      refine gl_icmp_ge (pc := 232) 239 C dL_isSo_232 (by decide) (fun h232 => ?_) (fun h232 => ?_)
      · skip
        refine gl_iconst (pc := 239) (nI 0) C dL_isSo_239 (by decide) ?_
        refine gl_icmp_ne (pc := 240) 259 C dL_isSo_240 (by decide) (fun h240 => absurd h240 (not_not_intro (if_neg (not_not_intro h232)))) (fun h240 => ?_)
        exact gl_on c243 (gl_le_c (rfl) (gl_le_c (rfl) (gl_le_c (rfl) (gl_le_c (rfl) (gl_le_c (rfl) (gl_le_c (rfl) (gl_le_c (rfl) (gl_le_c (rfl) (gl_le_c (rfl) (gl_le_c (rfl) (gl_le_c (rfl) (gl_le_c (rfl) (gl_le_o (gl_le_o (gl_le_o (gl_le_o (gl_le_o (gl_le_o (gl_le_o (gl_le_o (gl_le_n))))))))))))))))))))) (rfl)
      · skip
        refine gl_iconst (pc := 235) (nI 1) C dL_isSo_235 (by decide) ?_
        refine gl_goto (pc := 236) 240 C dL_isSo_236 (by decide) ?_
        refine gl_icmp_ne (pc := 240) 259 C dL_isSo_240 (by decide) (fun h240 => absurd h240 (not_not_intro (if_pos h232))) (fun h240 => ?_)
        exact gl_on c243 (gl_le_c (rfl) (gl_le_c (rfl) (gl_le_c (rfl) (gl_le_c (rfl) (gl_le_c (rfl) (gl_le_c (rfl) (gl_le_c (rfl) (gl_le_c (rfl) (gl_le_c (rfl) (gl_le_c (rfl) (gl_le_c (rfl) (gl_le_c (rfl) (gl_le_o (gl_le_o (gl_le_o (gl_le_o (gl_le_o (gl_le_o (gl_le_o (gl_le_o (gl_le_n))))))))))))))))))))) (rfl)
    have c64 : gl_G LL (some (.int (nI 1))) ((ll G (en S n))) V 64 [some (.ref (gl_r V.1 126)), some (.ref (gl_r V.1 129)), some (.ref (gl_r V.1 130)), some (.ref (gl_r V.1 131)), some (.ref (gl_r V.1 132)), some (.ref (gl_r V.1 133)), some (.int (nI 1)), some (.int (sp_went S (c + 1))), some (.int (sp_cst S (nI 1) c)), some (.int (sp_cst S (nI 2) c)), some (.int (nI c)), some (.int (nI (6 * c))), none, none, none, none, none, none, none, none] [.int (sp_cst S (nI 1) (c + 1))] (ll G (en S n)) := by
      refine gl_istore_8 (pc := 64) C dL_isSo_64 ?_
      refine gl_iload_9 (pc := 66) C dL_isSo_66 ?_
      refine gl_aload_3 (pc := 68) C dL_isSo_68 ?_
      refine gl_iload_11 (pc := 69) C dL_isSo_69 ?_
      refine gl_iconst (pc := 71) (nI 4) C dL_isSo_71 (by decide) ?_
      first | with_reducible refine gl_iaddN (pc := 72) C dL_isSo_72 ?_ | refine gl_iadd (pc := 72) C dL_isSo_72 ?_
      refine gl_iald (pc := 73) _ C dL_isSo_73 rfl rfl (by omega) ?_
      refine gl_top (ll_A.trans (en_C (w := 4) (by omega) (by omega))) ?_
      refine gl_iconst (pc := 74) (nI 2) C dL_isSo_74 (by decide) ?_
      refine gl_icmp_ne (pc := 75) 82 C dL_isSo_75 (by decide) (fun h75 => ?_) (fun h75 => ?_)
      · skip
        refine gl_iconst (pc := 82) (nI 0) C dL_isSo_82 (by decide) ?_
        first | with_reducible refine gl_iaddN (pc := 83) C dL_isSo_83 ?_ | refine gl_iadd (pc := 83) C dL_isSo_83 ?_
        refine gl_top (y := sp_cst S (nI 2) (c + 1)) (by simp only [sp_cst]; rw [if_neg h75, gl_add0]) ?_
        exact gl_on c84 (gl_le_c (rfl) (gl_le_c (rfl) (gl_le_c (rfl) (gl_le_c (rfl) (gl_le_c (rfl) (gl_le_c (rfl) (gl_le_c (rfl) (gl_le_c (rfl) (gl_le_c (rfl) (gl_le_c (rfl) (gl_le_c (rfl) (gl_le_c (rfl) (gl_le_o (gl_le_o (gl_le_o (gl_le_o (gl_le_o (gl_le_o (gl_le_o (gl_le_o (gl_le_n))))))))))))))))))))) (rfl)
      · skip
        refine gl_iconst (pc := 78) (nI 1) C dL_isSo_78 (by decide) ?_
        refine gl_goto (pc := 79) 83 C dL_isSo_79 (by decide) ?_
        first | with_reducible refine gl_iaddN (pc := 83) C dL_isSo_83 ?_ | refine gl_iadd (pc := 83) C dL_isSo_83 ?_
        refine gl_top (y := sp_cst S (nI 2) (c + 1)) (by simp only [sp_cst]; rw [if_pos h75]) ?_
        exact gl_on c84 (gl_le_c (rfl) (gl_le_c (rfl) (gl_le_c (rfl) (gl_le_c (rfl) (gl_le_c (rfl) (gl_le_c (rfl) (gl_le_c (rfl) (gl_le_c (rfl) (gl_le_c (rfl) (gl_le_c (rfl) (gl_le_c (rfl) (gl_le_c (rfl) (gl_le_o (gl_le_o (gl_le_o (gl_le_o (gl_le_o (gl_le_o (gl_le_o (gl_le_o (gl_le_n))))))))))))))))))))) (rfl)
    refine gl_iload_10 (pc := 15) C dL_isSo_15 ?_
    refine gl_aload_1 (pc := 17) C dL_isSo_17 ?_
    refine gl_iconst (pc := 18) (nI 1) C dL_isSo_18 (by decide) ?_
    refine gl_iald (pc := 19) _ C dL_isSo_19 rfl rfl (by omega) ?_
    refine gl_top (ll_A.trans ((en_i (by omega)).trans hm)) ?_
    refine gl_icmp_ge (pc := 20) 326 C dL_isSo_20 (by decide) (fun h20 => absurd h20 (nI_ge hc (by omega))) (fun h20 => ?_)
    refine gl_iload_6 (pc := 23) C dL_isSo_23 ?_
    refine gl_ifeq (pc := 25) 326 C dL_isSo_25 (by decide) (fun h25 => absurd h25 (by decide)) (fun h25 => ?_)
    refine gl_bipush (pc := 28) (nI 6) C dL_isSo_28 (by decide +kernel) ?_
    refine gl_iload_10 (pc := 30) C dL_isSo_30 ?_
    first | with_reducible refine gl_imulN (pc := 32) C dL_isSo_32 ?_ | refine gl_imul (pc := 32) C dL_isSo_32 ?_
    refine gl_istore_11 (pc := 33) C dL_isSo_33 ?_
    refine gl_iload_7 (pc := 35) C dL_isSo_35 ?_
    refine gl_aload_3 (pc := 37) C dL_isSo_37 ?_
    refine gl_iload_11 (pc := 38) C dL_isSo_38 ?_
    refine gl_iconst (pc := 40) (nI 5) C dL_isSo_40 (by decide) ?_
    first | with_reducible refine gl_iaddN (pc := 41) C dL_isSo_41 ?_ | refine gl_iadd (pc := 41) C dL_isSo_41 ?_
    refine gl_iald (pc := 42) _ C dL_isSo_42 rfl rfl (by omega) ?_
    refine gl_top (ll_A.trans (en_C (w := 5) (by omega) (by omega))) ?_
    first | with_reducible refine gl_iaddN (pc := 43) C dL_isSo_43 ?_ | refine gl_iadd (pc := 43) C dL_isSo_43 ?_
    refine gl_istore_7 (pc := 44) C dL_isSo_44 ?_
    refine gl_iload_8 (pc := 46) C dL_isSo_46 ?_
    refine gl_aload_3 (pc := 48) C dL_isSo_48 ?_
    refine gl_iload_11 (pc := 49) C dL_isSo_49 ?_
    refine gl_iconst (pc := 51) (nI 4) C dL_isSo_51 (by decide) ?_
    first | with_reducible refine gl_iaddN (pc := 52) C dL_isSo_52 ?_ | refine gl_iadd (pc := 52) C dL_isSo_52 ?_
    refine gl_iald (pc := 53) _ C dL_isSo_53 rfl rfl (by omega) ?_
    refine gl_top (ll_A.trans (en_C (w := 4) (by omega) (by omega))) ?_
    refine gl_iconst (pc := 54) (nI 1) C dL_isSo_54 (by decide) ?_
    refine gl_icmp_ne (pc := 55) 62 C dL_isSo_55 (by decide) (fun h55 => ?_) (fun h55 => ?_)
    · skip
      refine gl_iconst (pc := 62) (nI 0) C dL_isSo_62 (by decide) ?_
      first | with_reducible refine gl_iaddN (pc := 63) C dL_isSo_63 ?_ | refine gl_iadd (pc := 63) C dL_isSo_63 ?_
      refine gl_top (y := sp_cst S (nI 1) (c + 1)) (by simp only [sp_cst]; rw [if_neg h55, gl_add0]) ?_
      exact gl_on c64 (gl_le_c (rfl) (gl_le_c (rfl) (gl_le_c (rfl) (gl_le_c (rfl) (gl_le_c (rfl) (gl_le_c (rfl) (gl_le_c (rfl) (gl_le_c (rfl) (gl_le_c (rfl) (gl_le_c (rfl) (gl_le_c (rfl) (gl_le_c (rfl) (gl_le_o (gl_le_o (gl_le_o (gl_le_o (gl_le_o (gl_le_o (gl_le_o (gl_le_o (gl_le_n))))))))))))))))))))) (rfl)
    · skip
      refine gl_iconst (pc := 58) (nI 1) C dL_isSo_58 (by decide) ?_
      refine gl_goto (pc := 59) 63 C dL_isSo_59 (by decide) ?_
      first | with_reducible refine gl_iaddN (pc := 63) C dL_isSo_63 ?_ | refine gl_iadd (pc := 63) C dL_isSo_63 ?_
      refine gl_top (y := sp_cst S (nI 1) (c + 1)) (by simp only [sp_cst]; rw [if_pos h55]) ?_
      exact gl_on c64 (gl_le_c (rfl) (gl_le_c (rfl) (gl_le_c (rfl) (gl_le_c (rfl) (gl_le_c (rfl) (gl_le_c (rfl) (gl_le_c (rfl) (gl_le_c (rfl) (gl_le_c (rfl) (gl_le_c (rfl) (gl_le_c (rfl) (gl_le_c (rfl) (gl_le_o (gl_le_o (gl_le_o (gl_le_o (gl_le_o (gl_le_o (gl_le_o (gl_le_o (gl_le_n))))))))))))))))))))) (rfl)
