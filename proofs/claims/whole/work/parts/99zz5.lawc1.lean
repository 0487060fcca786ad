section LAWC
variable {K : zKC} {CE SL ce sl : Nat} {μ ν : Nat → Nat} {q b N t : Nat} {xs : Nat → Int32} {SC SM : zM} {o : Int64} {a5 a6 : Option Value}
set_option maxRecDepth 100000 in
set_option maxHeartbeats 4000000 in
theorem law_c14 (C : zCL K cL_law RL 7 14 532 CE SL) (hz : LZ K μ) (hz2 : LZ K ν) (hX : LX K b N xs) (hN : 8 * t + 8 ≤ N) (hN2 : N ≤ 4096) (hcs : ce ≤ CE ∧ sl ≤ SL) (h : Inv SC SM t) (kk : ∀ (SC1 SM1 : zM) (o1 : Int64) (a5 a6 : Option Value), Inv SC1 SM1 (t + 1) → VC K 2295 [some (.ref b), some (.ref (μ 0)), some (.ref (ν 0)), some (.ref q), some (.int (J ((8 * t : Nat) : Int))), a5, a6] [] (lws μ ν K.2.1.2.2 q SC1 SM1 o1) ce sl) : VC K 880 [some (.ref b), some (.ref (μ 0)), some (.ref (ν 0)), some (.ref q), some (.int (J ((8 * t : Nat) : Int))), a5, a6] [] (lws μ ν K.2.1.2.2 q SC SM o) ce sl := by
  have ht : t < 512 := by omega
  refine VL_aload_n (pc := 880) C dL_law_880 rfl rfl ?_
  refine VL_scr (pc := 881) (j := 1) C hX hN hN2 (by decide) rfl rfl dL_law_881 dL_law_882 dL_law_884 dL_law_885 dL_law_886 ?_
  refine VL_scr (pc := 887) (j := 2) C hX hN hN2 (by decide) rfl rfl dL_law_887 dL_law_888 dL_law_890 dL_law_891 dL_law_892 ?_
  obtain ⟨r, SC1, SM1, e0, e2, hI⟩ := st_book h (xs (8 * t + 1)) (xs (8 * t + 2))
  obtain ⟨e1, e3⟩ := vS_some e0
  subst e3
  refine VL_callX (T := TX11) (N := 15) (ro := some (.int r)) (As := [.int (xs (8 * t + 1)), .int (xs (8 * t + 2))]) (pc := 893) C (mX11_book _ e1) hz zm_X11_book zi_X11_book ml_RL_82 rfl ⟨Nat.le_of_ble_eq_true rfl, Nat.le_of_ble_eq_true rfl⟩ rfl rfl rfl rfl (Nat.le_of_ble_eq_true rfl) dL_law_893 hcs ?_
  show VC K 896 [some (.ref b), some (.ref (μ 0)), some (.ref (ν 0)), some (.ref q), some (.int (J ((8 * t : Nat) : Int))), a5, a6] [.int r] (lws μ ν K.2.1.2.2 q SC SM o) ce sl
  refine VL_aload_n (pc := 896) C dL_law_896 rfl rfl ?_
  refine VL_scr (pc := 897) (j := 1) C hX hN hN2 (by decide) rfl rfl dL_law_897 dL_law_898 dL_law_900 dL_law_901 dL_law_902 ?_
  refine VL_scr (pc := 903) (j := 2) C hX hN hN2 (by decide) rfl rfl dL_law_903 dL_law_904 dL_law_906 dL_law_907 dL_law_908 ?_
  refine VL_callM (T := TX12) (N := 45) (ro := some (.int r)) (As := [.int (xs (8 * t + 1)), .int (xs (8 * t + 2))]) (pc := 909) C (mX12_book _ e2) hz2 zm_X12_book zi_X12_book ml_RL_85 rfl ⟨Nat.le_of_ble_eq_true rfl, Nat.le_of_ble_eq_true rfl⟩ rfl rfl rfl rfl (Nat.le_of_ble_eq_true rfl) dL_law_909 hcs ?_
  refine VL_icmp_eq (tgt := 2295) (pc := 912) C dL_law_912 (by decide) (fun _ => ?_) (fun hc => absurd rfl hc)
  exact kk _ _ _ _ _ hI
set_option maxRecDepth 100000 in
set_option maxHeartbeats 4000000 in
theorem law_c15 (C : zCL K cL_law RL 7 14 532 CE SL) (hz : LZ K μ) (hz2 : LZ K ν) (hX : LX K b N xs) (hN : 8 * t + 8 ≤ N) (hN2 : N ≤ 4096) (hcs : ce ≤ CE ∧ sl ≤ SL) (h : Inv SC SM t) (kk : ∀ (SC1 SM1 : zM) (o1 : Int64) (a5 a6 : Option Value), Inv SC1 SM1 (t + 1) → VC K 2295 [some (.ref b), some (.ref (μ 0)), some (.ref (ν 0)), some (.ref q), some (.int (J ((8 * t : Nat) : Int))), a5, a6] [] (lws μ ν K.2.1.2.2 q SC1 SM1 o1) ce sl) : VC K 917 [some (.ref b), some (.ref (μ 0)), some (.ref (ν 0)), some (.ref q), some (.int (J ((8 * t : Nat) : Int))), a5, a6] [] (lws μ ν K.2.1.2.2 q SC SM o) ce sl := by
  have ht : t < 512 := by omega
  refine VL_aload_n (pc := 917) C dL_law_917 rfl rfl ?_
  refine VL_scr (pc := 918) (j := 1) C hX hN hN2 (by decide) rfl rfl dL_law_918 dL_law_919 dL_law_921 dL_law_922 dL_law_923 ?_
  refine VL_scr (pc := 924) (j := 2) C hX hN hN2 (by decide) rfl rfl dL_law_924 dL_law_925 dL_law_927 dL_law_928 dL_law_929 ?_
  refine VL_scr (pc := 930) (j := 3) C hX hN hN2 (by decide) rfl rfl dL_law_930 dL_law_931 dL_law_933 dL_law_934 dL_law_935 ?_
  refine VL_scr (pc := 936) (j := 4) C hX hN hN2 (by decide) rfl rfl dL_law_936 dL_law_937 dL_law_939 dL_law_940 dL_law_941 ?_
  refine VL_scr (pc := 942) (j := 5) C hX hN hN2 (by decide) rfl rfl dL_law_942 dL_law_943 dL_law_945 dL_law_946 dL_law_947 ?_
  refine VL_scrb (pc := 948) (j := 6) C hX hN hN2 (by decide) rfl rfl dL_law_948 dL_law_949 dL_law_951 zk_b6 dL_law_953 dL_law_954 ?_
  obtain ⟨r, SC1, SM1, e1, e2, hI⟩ := st_count h (xs (8 * t + 1)) (xs (8 * t + 2)) (xs (8 * t + 3)) (xs (8 * t + 4)) (xs (8 * t + 5)) (xs (8 * t + 6))
  refine VL_callX (T := TX11) (N := 15) (ro := some (.int r)) (As := [.int (xs (8 * t + 1)), .int (xs (8 * t + 2)), .int (xs (8 * t + 3)), .int (xs (8 * t + 4)), .int (xs (8 * t + 5)), .int (xs (8 * t + 6))]) (pc := 955) C (mX11_count _ e1) hz zm_X11_count zi_X11_count ml_RL_86 rfl ⟨Nat.le_of_ble_eq_true rfl, Nat.le_of_ble_eq_true rfl⟩ rfl rfl rfl rfl (Nat.le_of_ble_eq_true rfl) dL_law_955 hcs ?_
  show VC K 958 [some (.ref b), some (.ref (μ 0)), some (.ref (ν 0)), some (.ref q), some (.int (J ((8 * t : Nat) : Int))), a5, a6] [.int r] (lws μ ν K.2.1.2.2 q SC1 SM o) ce sl
  refine VL_aload_n (pc := 958) C dL_law_958 rfl rfl ?_
  refine VL_scr (pc := 959) (j := 1) C hX hN hN2 (by decide) rfl rfl dL_law_959 dL_law_960 dL_law_962 dL_law_963 dL_law_964 ?_
  refine VL_scr (pc := 965) (j := 2) C hX hN hN2 (by decide) rfl rfl dL_law_965 dL_law_966 dL_law_968 dL_law_969 dL_law_970 ?_
  refine VL_scr (pc := 971) (j := 3) C hX hN hN2 (by decide) rfl rfl dL_law_971 dL_law_972 dL_law_974 dL_law_975 dL_law_976 ?_
  refine VL_scr (pc := 977) (j := 4) C hX hN hN2 (by decide) rfl rfl dL_law_977 dL_law_978 dL_law_980 dL_law_981 dL_law_982 ?_
  refine VL_scr (pc := 983) (j := 5) C hX hN hN2 (by decide) rfl rfl dL_law_983 dL_law_984 dL_law_986 dL_law_987 dL_law_988 ?_
  refine VL_scrb (pc := 989) (j := 6) C hX hN hN2 (by decide) rfl rfl dL_law_989 dL_law_990 dL_law_992 zk_b6 dL_law_994 dL_law_995 ?_
  refine VL_callM (T := TX12) (N := 45) (ro := some (.int r)) (As := [.int (xs (8 * t + 1)), .int (xs (8 * t + 2)), .int (xs (8 * t + 3)), .int (xs (8 * t + 4)), .int (xs (8 * t + 5)), .int (xs (8 * t + 6))]) (pc := 996) C (mX12_count _ e2) hz2 zm_X12_count zi_X12_count ml_RL_89 rfl ⟨Nat.le_of_ble_eq_true rfl, Nat.le_of_ble_eq_true rfl⟩ rfl rfl rfl rfl (Nat.le_of_ble_eq_true rfl) dL_law_996 hcs ?_
  refine VL_icmp_eq (tgt := 2295) (pc := 999) C dL_law_999 (by decide) (fun _ => ?_) (fun hc => absurd rfl hc)
  exact kk _ _ _ _ _ hI
set_option maxRecDepth 100000 in
set_option maxHeartbeats 4000000 in
theorem law_c16 (C : zCL K cL_law RL 7 14 532 CE SL) (hz : LZ K μ) (hz2 : LZ K ν) (hX : LX K b N xs) (hN : 8 * t + 8 ≤ N) (hN2 : N ≤ 4096) (hcs : ce ≤ CE ∧ sl ≤ SL) (h : Inv SC SM t) (kk : ∀ (SC1 SM1 : zM) (o1 : Int64) (a5 a6 : Option Value), Inv SC1 SM1 (t + 1) → VC K 2295 [some (.ref b), some (.ref (μ 0)), some (.ref (ν 0)), some (.ref q), some (.int (J ((8 * t : Nat) : Int))), a5, a6] [] (lws μ ν K.2.1.2.2 q SC1 SM1 o1) ce sl) : VC K 1004 [some (.ref b), some (.ref (μ 0)), some (.ref (ν 0)), some (.ref q), some (.int (J ((8 * t : Nat) : Int))), a5, a6] [] (lws μ ν K.2.1.2.2 q SC SM o) ce sl := by
  have ht : t < 512 := by omega
  refine VL_aload_n (pc := 1004) C dL_law_1004 rfl rfl ?_
  refine VL_scr (pc := 1005) (j := 1) C hX hN hN2 (by decide) rfl rfl dL_law_1005 dL_law_1006 dL_law_1008 dL_law_1009 dL_law_1010 ?_
  refine VL_scr (pc := 1011) (j := 2) C hX hN hN2 (by decide) rfl rfl dL_law_1011 dL_law_1012 dL_law_1014 dL_law_1015 dL_law_1016 ?_
  refine VL_scr (pc := 1017) (j := 3) C hX hN hN2 (by decide) rfl rfl dL_law_1017 dL_law_1018 dL_law_1020 dL_law_1021 dL_law_1022 ?_
  refine VL_scr (pc := 1023) (j := 4) C hX hN hN2 (by decide) rfl rfl dL_law_1023 dL_law_1024 dL_law_1026 dL_law_1027 dL_law_1028 ?_
  refine VL_if_eq (tgt := 1036) (pc := 1029) C dL_law_1029 (by decide) (fun hb => ?_) (fun hb => ?_)
  · refine VL_iconst (pc := 1036) C dL_law_1036 kc_i_0 ?_
    obtain ⟨r, SC1, SM1, e1, e2, hI⟩ := st_span h (xs (8 * t + 1)) (xs (8 * t + 2)) (xs (8 * t + 3)) (0 : Int32)
    refine VL_callX (T := TX11) (N := 15) (ro := some (.int r)) (As := [.int (xs (8 * t + 1)), .int (xs (8 * t + 2)), .int (xs (8 * t + 3)), .int (0 : Int32)]) (pc := 1037) C (mX11_span _ e1) hz zm_X11_span zi_X11_span ml_RL_90 rfl ⟨Nat.le_of_ble_eq_true rfl, Nat.le_of_ble_eq_true rfl⟩ rfl rfl rfl rfl (Nat.le_of_ble_eq_true rfl) dL_law_1037 hcs ?_
    show VC K 1040 [some (.ref b), some (.ref (μ 0)), some (.ref (ν 0)), some (.ref q), some (.int (J ((8 * t : Nat) : Int))), a5, a6] [.int r] (lws μ ν K.2.1.2.2 q SC1 SM o) ce sl
    refine VL_aload_n (pc := 1040) C dL_law_1040 rfl rfl ?_
    refine VL_scr (pc := 1041) (j := 1) C hX hN hN2 (by decide) rfl rfl dL_law_1041 dL_law_1042 dL_law_1044 dL_law_1045 dL_law_1046 ?_
    refine VL_scr (pc := 1047) (j := 2) C hX hN hN2 (by decide) rfl rfl dL_law_1047 dL_law_1048 dL_law_1050 dL_law_1051 dL_law_1052 ?_
    refine VL_scr (pc := 1053) (j := 3) C hX hN hN2 (by decide) rfl rfl dL_law_1053 dL_law_1054 dL_law_1056 dL_law_1057 dL_law_1058 ?_
    refine VL_scr (pc := 1059) (j := 4) C hX hN hN2 (by decide) rfl rfl dL_law_1059 dL_law_1060 dL_law_1062 dL_law_1063 dL_law_1064 ?_
    refine VL_if_eq (tgt := 1072) (pc := 1065) C dL_law_1065 (by decide) (fun hc => ?_) (fun hc => absurd hb hc)
    refine VL_iconst (pc := 1072) C dL_law_1072 kc_i_0 ?_
    refine VL_callM (T := TX12) (N := 45) (ro := some (.int r)) (As := [.int (xs (8 * t + 1)), .int (xs (8 * t + 2)), .int (xs (8 * t + 3)), .int (0 : Int32)]) (pc := 1073) C (mX12_span _ e2) hz2 zm_X12_span zi_X12_span ml_RL_94 rfl ⟨Nat.le_of_ble_eq_true rfl, Nat.le_of_ble_eq_true rfl⟩ rfl rfl rfl rfl (Nat.le_of_ble_eq_true rfl) dL_law_1073 hcs ?_
    refine VL_icmp_eq (tgt := 2295) (pc := 1076) C dL_law_1076 (by decide) (fun _ => ?_) (fun hc => absurd rfl hc)
    exact kk _ _ _ _ _ hI
  · refine VL_iconst (pc := 1032) C dL_law_1032 kc_i_1 ?_
    refine VL_goto (tgt := 1037) (pc := 1033) C dL_law_1033 (by decide) ?_
    obtain ⟨r, SC1, SM1, e1, e2, hI⟩ := st_span h (xs (8 * t + 1)) (xs (8 * t + 2)) (xs (8 * t + 3)) (1 : Int32)
    refine VL_callX (T := TX11) (N := 15) (ro := some (.int r)) (As := [.int (xs (8 * t + 1)), .int (xs (8 * t + 2)), .int (xs (8 * t + 3)), .int (1 : Int32)]) (pc := 1037) C (mX11_span _ e1) hz zm_X11_span zi_X11_span ml_RL_90 rfl ⟨Nat.le_of_ble_eq_true rfl, Nat.le_of_ble_eq_true rfl⟩ rfl rfl rfl rfl (Nat.le_of_ble_eq_true rfl) dL_law_1037 hcs ?_
    show VC K 1040 [some (.ref b), some (.ref (μ 0)), some (.ref (ν 0)), some (.ref q), some (.int (J ((8 * t : Nat) : Int))), a5, a6] [.int r] (lws μ ν K.2.1.2.2 q SC1 SM o) ce sl
    refine VL_aload_n (pc := 1040) C dL_law_1040 rfl rfl ?_
    refine VL_scr (pc := 1041) (j := 1) C hX hN hN2 (by decide) rfl rfl dL_law_1041 dL_law_1042 dL_law_1044 dL_law_1045 dL_law_1046 ?_
    refine VL_scr (pc := 1047) (j := 2) C hX hN hN2 (by decide) rfl rfl dL_law_1047 dL_law_1048 dL_law_1050 dL_law_1051 dL_law_1052 ?_
    refine VL_scr (pc := 1053) (j := 3) C hX hN hN2 (by decide) rfl rfl dL_law_1053 dL_law_1054 dL_law_1056 dL_law_1057 dL_law_1058 ?_
    refine VL_scr (pc := 1059) (j := 4) C hX hN hN2 (by decide) rfl rfl dL_law_1059 dL_law_1060 dL_law_1062 dL_law_1063 dL_law_1064 ?_
    refine VL_if_eq (tgt := 1072) (pc := 1065) C dL_law_1065 (by decide) (fun hc => absurd hc hb) (fun hc => ?_)
    refine VL_iconst (pc := 1068) C dL_law_1068 kc_i_1 ?_
    refine VL_goto (tgt := 1073) (pc := 1069) C dL_law_1069 (by decide) ?_
    refine VL_callM (T := TX12) (N := 45) (ro := some (.int r)) (As := [.int (xs (8 * t + 1)), .int (xs (8 * t + 2)), .int (xs (8 * t + 3)), .int (1 : Int32)]) (pc := 1073) C (mX12_span _ e2) hz2 zm_X12_span zi_X12_span ml_RL_94 rfl ⟨Nat.le_of_ble_eq_true rfl, Nat.le_of_ble_eq_true rfl⟩ rfl rfl rfl rfl (Nat.le_of_ble_eq_true rfl) dL_law_1073 hcs ?_
    refine VL_icmp_eq (tgt := 2295) (pc := 1076) C dL_law_1076 (by decide) (fun _ => ?_) (fun hc => absurd rfl hc)
    exact kk _ _ _ _ _ hI
set_option maxRecDepth 100000 in
set_option maxHeartbeats 4000000 in
theorem law_c17 (C : zCL K cL_law RL 7 14 532 CE SL) (hz : LZ K μ) (hz2 : LZ K ν) (hX : LX K b N xs) (hN : 8 * t + 8 ≤ N) (hN2 : N ≤ 4096) (hcs : ce ≤ CE ∧ sl ≤ SL) (h : Inv SC SM t) (kk : ∀ (SC1 SM1 : zM) (o1 : Int64) (a5 a6 : Option Value), Inv SC1 SM1 (t + 1) → VC K 2295 [some (.ref b), some (.ref (μ 0)), some (.ref (ν 0)), some (.ref q), some (.int (J ((8 * t : Nat) : Int))), a5, a6] [] (lws μ ν K.2.1.2.2 q SC1 SM1 o1) ce sl) : VC K 1081 [some (.ref b), some (.ref (μ 0)), some (.ref (ν 0)), some (.ref q), some (.int (J ((8 * t : Nat) : Int))), a5, a6] [] (lws μ ν K.2.1.2.2 q SC SM o) ce sl := by
  have ht : t < 512 := by omega
  refine VL_aload_n (pc := 1081) C dL_law_1081 rfl rfl ?_
  refine VL_scr (pc := 1082) (j := 1) C hX hN hN2 (by decide) rfl rfl dL_law_1082 dL_law_1083 dL_law_1085 dL_law_1086 dL_law_1087 ?_
  refine VL_scr (pc := 1088) (j := 2) C hX hN hN2 (by decide) rfl rfl dL_law_1088 dL_law_1089 dL_law_1091 dL_law_1092 dL_law_1093 ?_
  refine VL_scr (pc := 1094) (j := 3) C hX hN hN2 (by decide) rfl rfl dL_law_1094 dL_law_1095 dL_law_1097 dL_law_1098 dL_law_1099 ?_
  refine VL_scr (pc := 1100) (j := 4) C hX hN hN2 (by decide) rfl rfl dL_law_1100 dL_law_1101 dL_law_1103 dL_law_1104 dL_law_1105 ?_
  obtain ⟨r, SC1, SM1, e1, e2, hI⟩ := st_lets h (xs (8 * t + 1)) (xs (8 * t + 2)) (xs (8 * t + 3)) (xs (8 * t + 4))
  refine VL_callX (T := TX11) (N := 15) (ro := some (.int r)) (As := [.int (xs (8 * t + 1)), .int (xs (8 * t + 2)), .int (xs (8 * t + 3)), .int (xs (8 * t + 4))]) (pc := 1106) C (mX11_lets _ e1) hz zm_X11_lets zi_X11_lets ml_RL_95 rfl ⟨Nat.le_of_ble_eq_true rfl, Nat.le_of_ble_eq_true rfl⟩ rfl rfl rfl rfl (Nat.le_of_ble_eq_true rfl) dL_law_1106 hcs ?_
  show VC K 1109 [some (.ref b), some (.ref (μ 0)), some (.ref (ν 0)), some (.ref q), some (.int (J ((8 * t : Nat) : Int))), a5, a6] [.int r] (lws μ ν K.2.1.2.2 q SC1 SM o) ce sl
  refine VL_aload_n (pc := 1109) C dL_law_1109 rfl rfl ?_
  refine VL_scr (pc := 1110) (j := 1) C hX hN hN2 (by decide) rfl rfl dL_law_1110 dL_law_1111 dL_law_1113 dL_law_1114 dL_law_1115 ?_
  refine VL_scr (pc := 1116) (j := 2) C hX hN hN2 (by decide) rfl rfl dL_law_1116 dL_law_1117 dL_law_1119 dL_law_1120 dL_law_1121 ?_
  refine VL_scr (pc := 1122) (j := 3) C hX hN hN2 (by decide) rfl rfl dL_law_1122 dL_law_1123 dL_law_1125 dL_law_1126 dL_law_1127 ?_
  refine VL_scr (pc := 1128) (j := 4) C hX hN hN2 (by decide) rfl rfl dL_law_1128 dL_law_1129 dL_law_1131 dL_law_1132 dL_law_1133 ?_
  refine VL_callM (T := TX12) (N := 45) (ro := some (.int r)) (As := [.int (xs (8 * t + 1)), .int (xs (8 * t + 2)), .int (xs (8 * t + 3)), .int (xs (8 * t + 4))]) (pc := 1134) C (mX12_lets _ e2) hz2 zm_X12_lets zi_X12_lets ml_RL_98 rfl ⟨Nat.le_of_ble_eq_true rfl, Nat.le_of_ble_eq_true rfl⟩ rfl rfl rfl rfl (Nat.le_of_ble_eq_true rfl) dL_law_1134 hcs ?_
  refine VL_icmp_eq (tgt := 2295) (pc := 1137) C dL_law_1137 (by decide) (fun _ => ?_) (fun hc => absurd rfl hc)
  exact kk _ _ _ _ _ hI
set_option maxRecDepth 100000 in
set_option maxHeartbeats 4000000 in
theorem law_c18 (C : zCL K cL_law RL 7 14 532 CE SL) (hz : LZ K μ) (hz2 : LZ K ν) (hX : LX K b N xs) (hN : 8 * t + 8 ≤ N) (hN2 : N ≤ 4096) (hcs : ce ≤ CE ∧ sl ≤ SL) (h : Inv SC SM t) (kk : ∀ (SC1 SM1 : zM) (o1 : Int64) (a5 a6 : Option Value), Inv SC1 SM1 (t + 1) → VC K 2295 [some (.ref b), some (.ref (μ 0)), some (.ref (ν 0)), some (.ref q), some (.int (J ((8 * t : Nat) : Int))), a5, a6] [] (lws μ ν K.2.1.2.2 q SC1 SM1 o1) ce sl) : VC K 1142 [some (.ref b), some (.ref (μ 0)), some (.ref (ν 0)), some (.ref q), some (.int (J ((8 * t : Nat) : Int))), a5, a6] [] (lws μ ν K.2.1.2.2 q SC SM o) ce sl := by
  have ht : t < 512 := by omega
  refine VL_aload_n (pc := 1142) C dL_law_1142 rfl rfl ?_
  refine VL_scr (pc := 1143) (j := 1) C hX hN hN2 (by decide) rfl rfl dL_law_1143 dL_law_1144 dL_law_1146 dL_law_1147 dL_law_1148 ?_
  obtain ⟨r, SC1, SM1, e1, e2, hI⟩ := st_fits h (xs (8 * t + 1))
  refine VL_callX (T := TX11) (N := 15) (ro := some (.int r)) (As := [.int (xs (8 * t + 1))]) (pc := 1149) C (mX11_fits _ e1) hz zm_X11_fits zi_X11_fits ml_RL_99 rfl ⟨Nat.le_of_ble_eq_true rfl, Nat.le_of_ble_eq_true rfl⟩ rfl rfl rfl rfl (Nat.le_of_ble_eq_true rfl) dL_law_1149 hcs ?_
  show VC K 1152 [some (.ref b), some (.ref (μ 0)), some (.ref (ν 0)), some (.ref q), some (.int (J ((8 * t : Nat) : Int))), a5, a6] [.int r] (lws μ ν K.2.1.2.2 q SC1 SM o) ce sl
  refine VL_aload_n (pc := 1152) C dL_law_1152 rfl rfl ?_
  refine VL_scr (pc := 1153) (j := 1) C hX hN hN2 (by decide) rfl rfl dL_law_1153 dL_law_1154 dL_law_1156 dL_law_1157 dL_law_1158 ?_
  refine VL_callM (T := TX12) (N := 45) (ro := some (.int r)) (As := [.int (xs (8 * t + 1))]) (pc := 1159) C (mX12_fits _ e2) hz2 zm_X12_fits zi_X12_fits ml_RL_102 rfl ⟨Nat.le_of_ble_eq_true rfl, Nat.le_of_ble_eq_true rfl⟩ rfl rfl rfl rfl (Nat.le_of_ble_eq_true rfl) dL_law_1159 hcs ?_
  refine VL_icmp_eq (tgt := 2295) (pc := 1162) C dL_law_1162 (by decide) (fun _ => ?_) (fun hc => absurd rfl hc)
  exact kk _ _ _ _ _ hI
set_option maxRecDepth 100000 in
set_option maxHeartbeats 4000000 in
theorem law_c19 (C : zCL K cL_law RL 7 14 532 CE SL) (hz : LZ K μ) (hz2 : LZ K ν) (hX : LX K b N xs) (hN : 8 * t + 8 ≤ N) (hN2 : N ≤ 4096) (hcs : ce ≤ CE ∧ sl ≤ SL) (h : Inv SC SM t) (kk : ∀ (SC1 SM1 : zM) (o1 : Int64) (a5 a6 : Option Value), Inv SC1 SM1 (t + 1) → VC K 2295 [some (.ref b), some (.ref (μ 0)), some (.ref (ν 0)), some (.ref q), some (.int (J ((8 * t : Nat) : Int))), a5, a6] [] (lws μ ν K.2.1.2.2 q SC1 SM1 o1) ce sl) : VC K 1167 [some (.ref b), some (.ref (μ 0)), some (.ref (ν 0)), some (.ref q), some (.int (J ((8 * t : Nat) : Int))), a5, a6] [] (lws μ ν K.2.1.2.2 q SC SM o) ce sl := by
  have ht : t < 512 := by omega
  refine VL_aload_n (pc := 1167) C dL_law_1167 rfl rfl ?_
  refine VL_scr (pc := 1168) (j := 1) C hX hN hN2 (by decide) rfl rfl dL_law_1168 dL_law_1169 dL_law_1171 dL_law_1172 dL_law_1173 ?_
  refine VL_scr (pc := 1174) (j := 2) C hX hN hN2 (by decide) rfl rfl dL_law_1174 dL_law_1175 dL_law_1177 dL_law_1178 dL_law_1179 ?_
  refine VL_scr (pc := 1180) (j := 3) C hX hN hN2 (by decide) rfl rfl dL_law_1180 dL_law_1181 dL_law_1183 dL_law_1184 dL_law_1185 ?_
  obtain ⟨r, SC1, SM1, e1, e2, hI⟩ := st_fitAt h (xs (8 * t + 1)) (xs (8 * t + 2)) (xs (8 * t + 3))
  refine VL_callX (T := TX11) (N := 15) (ro := some (.int r)) (As := [.int (xs (8 * t + 1)), .int (xs (8 * t + 2)), .int (xs (8 * t + 3))]) (pc := 1186) C (mX11_fitAt _ e1) hz zm_X11_fitAt zi_X11_fitAt ml_RL_103 rfl ⟨Nat.le_of_ble_eq_true rfl, Nat.le_of_ble_eq_true rfl⟩ rfl rfl rfl rfl (Nat.le_of_ble_eq_true rfl) dL_law_1186 hcs ?_
  show VC K 1189 [some (.ref b), some (.ref (μ 0)), some (.ref (ν 0)), some (.ref q), some (.int (J ((8 * t : Nat) : Int))), a5, a6] [.int r] (lws μ ν K.2.1.2.2 q SC1 SM o) ce sl
  refine VL_aload_n (pc := 1189) C dL_law_1189 rfl rfl ?_
  refine VL_scr (pc := 1190) (j := 1) C hX hN hN2 (by decide) rfl rfl dL_law_1190 dL_law_1191 dL_law_1193 dL_law_1194 dL_law_1195 ?_
  refine VL_scr (pc := 1196) (j := 2) C hX hN hN2 (by decide) rfl rfl dL_law_1196 dL_law_1197 dL_law_1199 dL_law_1200 dL_law_1201 ?_
  refine VL_scr (pc := 1202) (j := 3) C hX hN hN2 (by decide) rfl rfl dL_law_1202 dL_law_1203 dL_law_1205 dL_law_1206 dL_law_1207 ?_
  refine VL_callM (T := TX12) (N := 45) (ro := some (.int r)) (As := [.int (xs (8 * t + 1)), .int (xs (8 * t + 2)), .int (xs (8 * t + 3))]) (pc := 1208) C (mX12_fitAt _ e2) hz2 zm_X12_fitAt zi_X12_fitAt ml_RL_107 rfl ⟨Nat.le_of_ble_eq_true rfl, Nat.le_of_ble_eq_true rfl⟩ rfl rfl rfl rfl (Nat.le_of_ble_eq_true rfl) dL_law_1208 hcs ?_
  refine VL_icmp_eq (tgt := 2295) (pc := 1211) C dL_law_1211 (by decide) (fun _ => ?_) (fun hc => absurd rfl hc)
  exact kk _ _ _ _ _ hI
set_option maxRecDepth 100000 in
set_option maxHeartbeats 4000000 in
theorem law_c20 (C : zCL K cL_law RL 7 14 532 CE SL) (hz : LZ K μ) (hz2 : LZ K ν) (hX : LX K b N xs) (hN : 8 * t + 8 ≤ N) (hN2 : N ≤ 4096) (hcs : ce ≤ CE ∧ sl ≤ SL) (h : Inv SC SM t) (kk : ∀ (SC1 SM1 : zM) (o1 : Int64) (a5 a6 : Option Value), Inv SC1 SM1 (t + 1) → VC K 2295 [some (.ref b), some (.ref (μ 0)), some (.ref (ν 0)), some (.ref q), some (.int (J ((8 * t : Nat) : Int))), a5, a6] [] (lws μ ν K.2.1.2.2 q SC1 SM1 o1) ce sl) : VC K 1216 [some (.ref b), some (.ref (μ 0)), some (.ref (ν 0)), some (.ref q), some (.int (J ((8 * t : Nat) : Int))), a5, a6] [] (lws μ ν K.2.1.2.2 q SC SM o) ce sl := by
  have ht : t < 512 := by omega
  refine VL_aload_n (pc := 1216) C dL_law_1216 rfl rfl ?_
  refine VL_scr (pc := 1217) (j := 1) C hX hN hN2 (by decide) rfl rfl dL_law_1217 dL_law_1218 dL_law_1220 dL_law_1221 dL_law_1222 ?_
  refine VL_scr (pc := 1223) (j := 2) C hX hN hN2 (by decide) rfl rfl dL_law_1223 dL_law_1224 dL_law_1226 dL_law_1227 dL_law_1228 ?_
  obtain ⟨r, SC1, SM1, e1, e2, hI⟩ := st_verdict h (xs (8 * t + 1)) (xs (8 * t + 2))
  refine VL_callX (T := TX11) (N := 15) (ro := some (.int r)) (As := [.int (xs (8 * t + 1)), .int (xs (8 * t + 2))]) (pc := 1229) C (mX11_verdict _ e1) hz zm_X11_verdict zi_X11_verdict ml_RL_108 rfl ⟨Nat.le_of_ble_eq_true rfl, Nat.le_of_ble_eq_true rfl⟩ rfl rfl rfl rfl (Nat.le_of_ble_eq_true rfl) dL_law_1229 hcs ?_
  show VC K 1232 [some (.ref b), some (.ref (μ 0)), some (.ref (ν 0)), some (.ref q), some (.int (J ((8 * t : Nat) : Int))), a5, a6] [.int r] (lws μ ν K.2.1.2.2 q SC1 SM o) ce sl
  refine VL_aload_n (pc := 1232) C dL_law_1232 rfl rfl ?_
  refine VL_scr (pc := 1233) (j := 1) C hX hN hN2 (by decide) rfl rfl dL_law_1233 dL_law_1234 dL_law_1236 dL_law_1237 dL_law_1238 ?_
  refine VL_scr (pc := 1239) (j := 2) C hX hN hN2 (by decide) rfl rfl dL_law_1239 dL_law_1240 dL_law_1242 dL_law_1243 dL_law_1244 ?_
  refine VL_callM (T := TX12) (N := 45) (ro := some (.int r)) (As := [.int (xs (8 * t + 1)), .int (xs (8 * t + 2))]) (pc := 1245) C (mX12_verdict _ e2) hz2 zm_X12_verdict zi_X12_verdict ml_RL_111 rfl ⟨Nat.le_of_ble_eq_true rfl, Nat.le_of_ble_eq_true rfl⟩ rfl rfl rfl rfl (Nat.le_of_ble_eq_true rfl) dL_law_1245 hcs ?_
  refine VL_icmp_eq (tgt := 2295) (pc := 1248) C dL_law_1248 (by decide) (fun _ => ?_) (fun hc => absurd rfl hc)
  exact kk _ _ _ _ _ hI
set_option maxRecDepth 100000 in
set_option maxHeartbeats 4000000 in
theorem law_c21 (C : zCL K cL_law RL 7 14 532 CE SL) (hz : LZ K μ) (hz2 : LZ K ν) (hX : LX K b N xs) (hN : 8 * t + 8 ≤ N) (hN2 : N ≤ 4096) (hcs : ce ≤ CE ∧ sl ≤ SL) (h : Inv SC SM t) (kk : ∀ (SC1 SM1 : zM) (o1 : Int64) (a5 a6 : Option Value), Inv SC1 SM1 (t + 1) → VC K 2295 [some (.ref b), some (.ref (μ 0)), some (.ref (ν 0)), some (.ref q), some (.int (J ((8 * t : Nat) : Int))), a5, a6] [] (lws μ ν K.2.1.2.2 q SC1 SM1 o1) ce sl) : VC K 1253 [some (.ref b), some (.ref (μ 0)), some (.ref (ν 0)), some (.ref q), some (.int (J ((8 * t : Nat) : Int))), a5, a6] [] (lws μ ν K.2.1.2.2 q SC SM o) ce sl := by
  have ht : t < 512 := by omega
  refine VL_aload_n (pc := 1253) C dL_law_1253 rfl rfl ?_
  refine VL_scr (pc := 1254) (j := 1) C hX hN hN2 (by decide) rfl rfl dL_law_1254 dL_law_1255 dL_law_1257 dL_law_1258 dL_law_1259 ?_
  refine VL_scr (pc := 1260) (j := 2) C hX hN hN2 (by decide) rfl rfl dL_law_1260 dL_law_1261 dL_law_1263 dL_law_1264 dL_law_1265 ?_
  refine VL_scr (pc := 1266) (j := 3) C hX hN hN2 (by decide) rfl rfl dL_law_1266 dL_law_1267 dL_law_1269 dL_law_1270 dL_law_1271 ?_
  refine VL_if_eq (tgt := 1279) (pc := 1272) C dL_law_1272 (by decide) (fun hb => ?_) (fun hb => ?_)
  · refine VL_iconst (pc := 1279) C dL_law_1279 kc_i_0 ?_
    obtain ⟨r, SC1, SM1, e1, e2, hI⟩ := st_lineOf h (xs (8 * t + 1)) (xs (8 * t + 2)) (0 : Int32)
    refine VL_callX (T := TX11) (N := 15) (ro := some (.int r)) (As := [.int (xs (8 * t + 1)), .int (xs (8 * t + 2)), .int (0 : Int32)]) (pc := 1280) C (mX11_lineOf _ e1) hz zm_X11_lineOf zi_X11_lineOf ml_RL_112 rfl ⟨Nat.le_of_ble_eq_true rfl, Nat.le_of_ble_eq_true rfl⟩ rfl rfl rfl rfl (Nat.le_of_ble_eq_true rfl) dL_law_1280 hcs ?_
    show VC K 1283 [some (.ref b), some (.ref (μ 0)), some (.ref (ν 0)), some (.ref q), some (.int (J ((8 * t : Nat) : Int))), a5, a6] [.int r] (lws μ ν K.2.1.2.2 q SC1 SM o) ce sl
    refine VL_aload_n (pc := 1283) C dL_law_1283 rfl rfl ?_
    refine VL_scr (pc := 1284) (j := 1) C hX hN hN2 (by decide) rfl rfl dL_law_1284 dL_law_1285 dL_law_1287 dL_law_1288 dL_law_1289 ?_
    refine VL_scr (pc := 1290) (j := 2) C hX hN hN2 (by decide) rfl rfl dL_law_1290 dL_law_1291 dL_law_1293 dL_law_1294 dL_law_1295 ?_
    refine VL_scr (pc := 1296) (j := 3) C hX hN hN2 (by decide) rfl rfl dL_law_1296 dL_law_1297 dL_law_1299 dL_law_1300 dL_law_1301 ?_
    refine VL_if_eq (tgt := 1309) (pc := 1302) C dL_law_1302 (by decide) (fun hc => ?_) (fun hc => absurd hb hc)
    refine VL_iconst (pc := 1309) C dL_law_1309 kc_i_0 ?_
    refine VL_callM (T := TX12) (N := 45) (ro := some (.int r)) (As := [.int (xs (8 * t + 1)), .int (xs (8 * t + 2)), .int (0 : Int32)]) (pc := 1310) C (mX12_lineOf _ e2) hz2 zm_X12_lineOf zi_X12_lineOf ml_RL_116 rfl ⟨Nat.le_of_ble_eq_true rfl, Nat.le_of_ble_eq_true rfl⟩ rfl rfl rfl rfl (Nat.le_of_ble_eq_true rfl) dL_law_1310 hcs ?_
    refine VL_icmp_eq (tgt := 2295) (pc := 1313) C dL_law_1313 (by decide) (fun _ => ?_) (fun hc => absurd rfl hc)
    exact kk _ _ _ _ _ hI
  · refine VL_iconst (pc := 1275) C dL_law_1275 kc_i_1 ?_
    refine VL_goto (tgt := 1280) (pc := 1276) C dL_law_1276 (by decide) ?_
    obtain ⟨r, SC1, SM1, e1, e2, hI⟩ := st_lineOf h (xs (8 * t + 1)) (xs (8 * t + 2)) (1 : Int32)
    refine VL_callX (T := TX11) (N := 15) (ro := some (.int r)) (As := [.int (xs (8 * t + 1)), .int (xs (8 * t + 2)), .int (1 : Int32)]) (pc := 1280) C (mX11_lineOf _ e1) hz zm_X11_lineOf zi_X11_lineOf ml_RL_112 rfl ⟨Nat.le_of_ble_eq_true rfl, Nat.le_of_ble_eq_true rfl⟩ rfl rfl rfl rfl (Nat.le_of_ble_eq_true rfl) dL_law_1280 hcs ?_
    show VC K 1283 [some (.ref b), some (.ref (μ 0)), some (.ref (ν 0)), some (.ref q), some (.int (J ((8 * t : Nat) : Int))), a5, a6] [.int r] (lws μ ν K.2.1.2.2 q SC1 SM o) ce sl
    refine VL_aload_n (pc := 1283) C dL_law_1283 rfl rfl ?_
    refine VL_scr (pc := 1284) (j := 1) C hX hN hN2 (by decide) rfl rfl dL_law_1284 dL_law_1285 dL_law_1287 dL_law_1288 dL_law_1289 ?_
    refine VL_scr (pc := 1290) (j := 2) C hX hN hN2 (by decide) rfl rfl dL_law_1290 dL_law_1291 dL_law_1293 dL_law_1294 dL_law_1295 ?_
    refine VL_scr (pc := 1296) (j := 3) C hX hN hN2 (by decide) rfl rfl dL_law_1296 dL_law_1297 dL_law_1299 dL_law_1300 dL_law_1301 ?_
    refine VL_if_eq (tgt := 1309) (pc := 1302) C dL_law_1302 (by decide) (fun hc => absurd hc hb) (fun hc => ?_)
    refine VL_iconst (pc := 1305) C dL_law_1305 kc_i_1 ?_
    refine VL_goto (tgt := 1310) (pc := 1306) C dL_law_1306 (by decide) ?_
    refine VL_callM (T := TX12) (N := 45) (ro := some (.int r)) (As := [.int (xs (8 * t + 1)), .int (xs (8 * t + 2)), .int (1 : Int32)]) (pc := 1310) C (mX12_lineOf _ e2) hz2 zm_X12_lineOf zi_X12_lineOf ml_RL_116 rfl ⟨Nat.le_of_ble_eq_true rfl, Nat.le_of_ble_eq_true rfl⟩ rfl rfl rfl rfl (Nat.le_of_ble_eq_true rfl) dL_law_1310 hcs ?_
    refine VL_icmp_eq (tgt := 2295) (pc := 1313) C dL_law_1313 (by decide) (fun _ => ?_) (fun hc => absurd rfl hc)
    exact kk _ _ _ _ _ hI
set_option maxRecDepth 100000 in
set_option maxHeartbeats 4000000 in
theorem law_c22 (C : zCL K cL_law RL 7 14 532 CE SL) (hz : LZ K μ) (hz2 : LZ K ν) (hX : LX K b N xs) (hN : 8 * t + 8 ≤ N) (hN2 : N ≤ 4096) (hcs : ce ≤ CE ∧ sl ≤ SL) (h : Inv SC SM t) (kk : ∀ (SC1 SM1 : zM) (o1 : Int64) (a5 a6 : Option Value), Inv SC1 SM1 (t + 1) → VC K 2295 [some (.ref b), some (.ref (μ 0)), some (.ref (ν 0)), some (.ref q), some (.int (J ((8 * t : Nat) : Int))), a5, a6] [] (lws μ ν K.2.1.2.2 q SC1 SM1 o1) ce sl) : VC K 1318 [some (.ref b), some (.ref (μ 0)), some (.ref (ν 0)), some (.ref q), some (.int (J ((8 * t : Nat) : Int))), a5, a6] [] (lws μ ν K.2.1.2.2 q SC SM o) ce sl := by
  have ht : t < 512 := by omega
  refine VL_aload_n (pc := 1318) C dL_law_1318 rfl rfl ?_
  refine VL_scr (pc := 1319) (j := 1) C hX hN hN2 (by decide) rfl rfl dL_law_1319 dL_law_1320 dL_law_1322 dL_law_1323 dL_law_1324 ?_
  refine VL_scr (pc := 1325) (j := 2) C hX hN hN2 (by decide) rfl rfl dL_law_1325 dL_law_1326 dL_law_1328 dL_law_1329 dL_law_1330 ?_
  refine VL_scr (pc := 1331) (j := 3) C hX hN hN2 (by decide) rfl rfl dL_law_1331 dL_law_1332 dL_law_1334 dL_law_1335 dL_law_1336 ?_
  refine VL_if_eq (tgt := 1344) (pc := 1337) C dL_law_1337 (by decide) (fun hb => ?_) (fun hb => ?_)
  · refine VL_iconst (pc := 1344) C dL_law_1344 kc_i_0 ?_
    obtain ⟨r, SC1, SM1, e1, e2, hI⟩ := st_secondOf h (xs (8 * t + 1)) (xs (8 * t + 2)) (0 : Int32)
    refine VL_callX (T := TX11) (N := 15) (ro := some (.int r)) (As := [.int (xs (8 * t + 1)), .int (xs (8 * t + 2)), .int (0 : Int32)]) (pc := 1345) C (mX11_secondOf _ e1) hz zm_X11_secondOf zi_X11_secondOf ml_RL_117 rfl ⟨Nat.le_of_ble_eq_true rfl, Nat.le_of_ble_eq_true rfl⟩ rfl rfl rfl rfl (Nat.le_of_ble_eq_true rfl) dL_law_1345 hcs ?_
    show VC K 1348 [some (.ref b), some (.ref (μ 0)), some (.ref (ν 0)), some (.ref q), some (.int (J ((8 * t : Nat) : Int))), a5, a6] [.int r] (lws μ ν K.2.1.2.2 q SC1 SM o) ce sl
    refine VL_aload_n (pc := 1348) C dL_law_1348 rfl rfl ?_
    refine VL_scr (pc := 1349) (j := 1) C hX hN hN2 (by decide) rfl rfl dL_law_1349 dL_law_1350 dL_law_1352 dL_law_1353 dL_law_1354 ?_
    refine VL_scr (pc := 1355) (j := 2) C hX hN hN2 (by decide) rfl rfl dL_law_1355 dL_law_1356 dL_law_1358 dL_law_1359 dL_law_1360 ?_
    refine VL_scr (pc := 1361) (j := 3) C hX hN hN2 (by decide) rfl rfl dL_law_1361 dL_law_1362 dL_law_1364 dL_law_1365 dL_law_1366 ?_
    refine VL_if_eq (tgt := 1374) (pc := 1367) C dL_law_1367 (by decide) (fun hc => ?_) (fun hc => absurd hb hc)
    refine VL_iconst (pc := 1374) C dL_law_1374 kc_i_0 ?_
    refine VL_callM (T := TX12) (N := 45) (ro := some (.int r)) (As := [.int (xs (8 * t + 1)), .int (xs (8 * t + 2)), .int (0 : Int32)]) (pc := 1375) C (mX12_secondOf _ e2) hz2 zm_X12_secondOf zi_X12_secondOf ml_RL_120 rfl ⟨Nat.le_of_ble_eq_true rfl, Nat.le_of_ble_eq_true rfl⟩ rfl rfl rfl rfl (Nat.le_of_ble_eq_true rfl) dL_law_1375 hcs ?_
    refine VL_icmp_eq (tgt := 2295) (pc := 1378) C dL_law_1378 (by decide) (fun _ => ?_) (fun hc => absurd rfl hc)
    exact kk _ _ _ _ _ hI
  · refine VL_iconst (pc := 1340) C dL_law_1340 kc_i_1 ?_
    refine VL_goto (tgt := 1345) (pc := 1341) C dL_law_1341 (by decide) ?_
    obtain ⟨r, SC1, SM1, e1, e2, hI⟩ := st_secondOf h (xs (8 * t + 1)) (xs (8 * t + 2)) (1 : Int32)
    refine VL_callX (T := TX11) (N := 15) (ro := some (.int r)) (As := [.int (xs (8 * t + 1)), .int (xs (8 * t + 2)), .int (1 : Int32)]) (pc := 1345) C (mX11_secondOf _ e1) hz zm_X11_secondOf zi_X11_secondOf ml_RL_117 rfl ⟨Nat.le_of_ble_eq_true rfl, Nat.le_of_ble_eq_true rfl⟩ rfl rfl rfl rfl (Nat.le_of_ble_eq_true rfl) dL_law_1345 hcs ?_
    show VC K 1348 [some (.ref b), some (.ref (μ 0)), some (.ref (ν 0)), some (.ref q), some (.int (J ((8 * t : Nat) : Int))), a5, a6] [.int r] (lws μ ν K.2.1.2.2 q SC1 SM o) ce sl
    refine VL_aload_n (pc := 1348) C dL_law_1348 rfl rfl ?_
    refine VL_scr (pc := 1349) (j := 1) C hX hN hN2 (by decide) rfl rfl dL_law_1349 dL_law_1350 dL_law_1352 dL_law_1353 dL_law_1354 ?_
    refine VL_scr (pc := 1355) (j := 2) C hX hN hN2 (by decide) rfl rfl dL_law_1355 dL_law_1356 dL_law_1358 dL_law_1359 dL_law_1360 ?_
    refine VL_scr (pc := 1361) (j := 3) C hX hN hN2 (by decide) rfl rfl dL_law_1361 dL_law_1362 dL_law_1364 dL_law_1365 dL_law_1366 ?_
    refine VL_if_eq (tgt := 1374) (pc := 1367) C dL_law_1367 (by decide) (fun hc => absurd hc hb) (fun hc => ?_)
    refine VL_iconst (pc := 1370) C dL_law_1370 kc_i_1 ?_
    refine VL_goto (tgt := 1375) (pc := 1371) C dL_law_1371 (by decide) ?_
    refine VL_callM (T := TX12) (N := 45) (ro := some (.int r)) (As := [.int (xs (8 * t + 1)), .int (xs (8 * t + 2)), .int (1 : Int32)]) (pc := 1375) C (mX12_secondOf _ e2) hz2 zm_X12_secondOf zi_X12_secondOf ml_RL_120 rfl ⟨Nat.le_of_ble_eq_true rfl, Nat.le_of_ble_eq_true rfl⟩ rfl rfl rfl rfl (Nat.le_of_ble_eq_true rfl) dL_law_1375 hcs ?_
    refine VL_icmp_eq (tgt := 2295) (pc := 1378) C dL_law_1378 (by decide) (fun _ => ?_) (fun hc => absurd rfl hc)
    exact kk _ _ _ _ _ hI
set_option maxRecDepth 100000 in
set_option maxHeartbeats 4000000 in
theorem law_c23 (C : zCL K cL_law RL 7 14 532 CE SL) (hz : LZ K μ) (hz2 : LZ K ν) (hX : LX K b N xs) (hN : 8 * t + 8 ≤ N) (hN2 : N ≤ 4096) (hcs : ce ≤ CE ∧ sl ≤ SL) (h : Inv SC SM t) (kk : ∀ (SC1 SM1 : zM) (o1 : Int64) (a5 a6 : Option Value), Inv SC1 SM1 (t + 1) → VC K 2295 [some (.ref b), some (.ref (μ 0)), some (.ref (ν 0)), some (.ref q), some (.int (J ((8 * t : Nat) : Int))), a5, a6] [] (lws μ ν K.2.1.2.2 q SC1 SM1 o1) ce sl) : VC K 1383 [some (.ref b), some (.ref (μ 0)), some (.ref (ν 0)), some (.ref q), some (.int (J ((8 * t : Nat) : Int))), a5, a6] [] (lws μ ν K.2.1.2.2 q SC SM o) ce sl := by
  have ht : t < 512 := by omega
  refine VL_aload_n (pc := 1383) C dL_law_1383 rfl rfl ?_
  refine VL_scr (pc := 1384) (j := 1) C hX hN hN2 (by decide) rfl rfl dL_law_1384 dL_law_1385 dL_law_1387 dL_law_1388 dL_law_1389 ?_
  refine VL_scr (pc := 1390) (j := 2) C hX hN hN2 (by decide) rfl rfl dL_law_1390 dL_law_1391 dL_law_1393 dL_law_1394 dL_law_1395 ?_
  refine VL_scr (pc := 1396) (j := 3) C hX hN hN2 (by decide) rfl rfl dL_law_1396 dL_law_1397 dL_law_1399 dL_law_1400 dL_law_1401 ?_
  obtain ⟨r, SC1, SM1, e1, e2, hI⟩ := st_more h ht (xs (8 * t + 1)) (xs (8 * t + 2)) (xs (8 * t + 3))
  refine VL_callX (T := TX11) (N := 15) (ro := some (.int r)) (As := [.int (xs (8 * t + 1)), .int (xs (8 * t + 2)), .int (xs (8 * t + 3))]) (pc := 1402) C (mX11_more _ e1) hz zm_X11_more zi_X11_more ml_RL_121 rfl ⟨Nat.le_of_ble_eq_true rfl, Nat.le_of_ble_eq_true rfl⟩ rfl rfl rfl rfl (Nat.le_of_ble_eq_true rfl) dL_law_1402 hcs ?_
  show VC K 1405 [some (.ref b), some (.ref (μ 0)), some (.ref (ν 0)), some (.ref q), some (.int (J ((8 * t : Nat) : Int))), a5, a6] [.int r] (lws μ ν K.2.1.2.2 q SC1 SM o) ce sl
  refine VL_aload_n (pc := 1405) C dL_law_1405 rfl rfl ?_
  refine VL_scr (pc := 1406) (j := 1) C hX hN hN2 (by decide) rfl rfl dL_law_1406 dL_law_1407 dL_law_1409 dL_law_1410 dL_law_1411 ?_
  refine VL_scr (pc := 1412) (j := 2) C hX hN hN2 (by decide) rfl rfl dL_law_1412 dL_law_1413 dL_law_1415 dL_law_1416 dL_law_1417 ?_
  refine VL_scr (pc := 1418) (j := 3) C hX hN hN2 (by decide) rfl rfl dL_law_1418 dL_law_1419 dL_law_1421 dL_law_1422 dL_law_1423 ?_
  refine VL_callM (T := TX12) (N := 45) (ro := some (.int r)) (As := [.int (xs (8 * t + 1)), .int (xs (8 * t + 2)), .int (xs (8 * t + 3))]) (pc := 1424) C (mX12_more _ e2) hz2 zm_X12_more zi_X12_more ml_RL_124 rfl ⟨Nat.le_of_ble_eq_true rfl, Nat.le_of_ble_eq_true rfl⟩ rfl rfl rfl rfl (Nat.le_of_ble_eq_true rfl) dL_law_1424 hcs ?_
  refine VL_icmp_eq (tgt := 2295) (pc := 1427) C dL_law_1427 (by decide) (fun _ => ?_) (fun hc => absurd rfl hc)
  exact kk _ _ _ _ _ hI
set_option maxRecDepth 100000 in
set_option maxHeartbeats 4000000 in
theorem law_c24 (C : zCL K cL_law RL 7 14 532 CE SL) (hz : LZ K μ) (hz2 : LZ K ν) (hX : LX K b N xs) (hN : 8 * t + 8 ≤ N) (hN2 : N ≤ 4096) (hcs : ce ≤ CE ∧ sl ≤ SL) (h : Inv SC SM t) (kk : ∀ (SC1 SM1 : zM) (o1 : Int64) (a5 a6 : Option Value), Inv SC1 SM1 (t + 1) → VC K 2295 [some (.ref b), some (.ref (μ 0)), some (.ref (ν 0)), some (.ref q), some (.int (J ((8 * t : Nat) : Int))), a5, a6] [] (lws μ ν K.2.1.2.2 q SC1 SM1 o1) ce sl) : VC K 1432 [some (.ref b), some (.ref (μ 0)), some (.ref (ν 0)), some (.ref q), some (.int (J ((8 * t : Nat) : Int))), a5, a6] [] (lws μ ν K.2.1.2.2 q SC SM o) ce sl := by
  have ht : t < 512 := by omega
  refine VL_aload_n (pc := 1432) C dL_law_1432 rfl rfl ?_
  refine VL_scr (pc := 1433) (j := 1) C hX hN hN2 (by decide) rfl rfl dL_law_1433 dL_law_1434 dL_law_1436 dL_law_1437 dL_law_1438 ?_
  refine VL_scr (pc := 1439) (j := 2) C hX hN hN2 (by decide) rfl rfl dL_law_1439 dL_law_1440 dL_law_1442 dL_law_1443 dL_law_1444 ?_
  refine VL_scr (pc := 1445) (j := 3) C hX hN hN2 (by decide) rfl rfl dL_law_1445 dL_law_1446 dL_law_1448 dL_law_1449 dL_law_1450 ?_
  refine VL_scr (pc := 1451) (j := 4) C hX hN hN2 (by decide) rfl rfl dL_law_1451 dL_law_1452 dL_law_1454 dL_law_1455 dL_law_1456 ?_
  refine VL_scr (pc := 1457) (j := 5) C hX hN hN2 (by decide) rfl rfl dL_law_1457 dL_law_1458 dL_law_1460 dL_law_1461 dL_law_1462 ?_
  obtain ⟨r, SC1, SM1, e1, e2, hI⟩ := st_fails h ht (xs (8 * t + 1)) (xs (8 * t + 2)) (xs (8 * t + 3)) (xs (8 * t + 4)) (xs (8 * t + 5))
  refine VL_callX (T := TX11) (N := 15) (ro := some (.int r)) (As := [.int (xs (8 * t + 1)), .int (xs (8 * t + 2)), .int (xs (8 * t + 3)), .int (xs (8 * t + 4)), .int (xs (8 * t + 5))]) (pc := 1463) C (mX11_fails _ e1) hz zm_X11_fails zi_X11_fails ml_RL_125 rfl ⟨Nat.le_of_ble_eq_true rfl, Nat.le_of_ble_eq_true rfl⟩ rfl rfl rfl rfl (Nat.le_of_ble_eq_true rfl) dL_law_1463 hcs ?_
  show VC K 1466 [some (.ref b), some (.ref (μ 0)), some (.ref (ν 0)), some (.ref q), some (.int (J ((8 * t : Nat) : Int))), a5, a6] [.int r] (lws μ ν K.2.1.2.2 q SC1 SM o) ce sl
  refine VL_aload_n (pc := 1466) C dL_law_1466 rfl rfl ?_
  refine VL_scr (pc := 1467) (j := 1) C hX hN hN2 (by decide) rfl rfl dL_law_1467 dL_law_1468 dL_law_1470 dL_law_1471 dL_law_1472 ?_
  refine VL_scr (pc := 1473) (j := 2) C hX hN hN2 (by decide) rfl rfl dL_law_1473 dL_law_1474 dL_law_1476 dL_law_1477 dL_law_1478 ?_
  refine VL_scr (pc := 1479) (j := 3) C hX hN hN2 (by decide) rfl rfl dL_law_1479 dL_law_1480 dL_law_1482 dL_law_1483 dL_law_1484 ?_
  refine VL_scr (pc := 1485) (j := 4) C hX hN hN2 (by decide) rfl rfl dL_law_1485 dL_law_1486 dL_law_1488 dL_law_1489 dL_law_1490 ?_
  refine VL_scr (pc := 1491) (j := 5) C hX hN hN2 (by decide) rfl rfl dL_law_1491 dL_law_1492 dL_law_1494 dL_law_1495 dL_law_1496 ?_
  refine VL_callM (T := TX12) (N := 45) (ro := some (.int r)) (As := [.int (xs (8 * t + 1)), .int (xs (8 * t + 2)), .int (xs (8 * t + 3)), .int (xs (8 * t + 4)), .int (xs (8 * t + 5))]) (pc := 1497) C (mX12_fails _ e2) hz2 zm_X12_fails zi_X12_fails ml_RL_128 rfl ⟨Nat.le_of_ble_eq_true rfl, Nat.le_of_ble_eq_true rfl⟩ rfl rfl rfl rfl (Nat.le_of_ble_eq_true rfl) dL_law_1497 hcs ?_
  refine VL_icmp_eq (tgt := 2295) (pc := 1500) C dL_law_1500 (by decide) (fun _ => ?_) (fun hc => absurd rfl hc)
  exact kk _ _ _ _ _ hI
set_option maxRecDepth 100000 in
set_option maxHeartbeats 4000000 in
theorem law_c25 (C : zCL K cL_law RL 7 14 532 CE SL) (hz : LZ K μ) (hz2 : LZ K ν) (hX : LX K b N xs) (hN : 8 * t + 8 ≤ N) (hN2 : N ≤ 4096) (hcs : ce ≤ CE ∧ sl ≤ SL) (h : Inv SC SM t) (kk : ∀ (SC1 SM1 : zM) (o1 : Int64) (a5 a6 : Option Value), Inv SC1 SM1 (t + 1) → VC K 2295 [some (.ref b), some (.ref (μ 0)), some (.ref (ν 0)), some (.ref q), some (.int (J ((8 * t : Nat) : Int))), a5, a6] [] (lws μ ν K.2.1.2.2 q SC1 SM1 o1) ce sl) : VC K 1505 [some (.ref b), some (.ref (μ 0)), some (.ref (ν 0)), some (.ref q), some (.int (J ((8 * t : Nat) : Int))), a5, a6] [] (lws μ ν K.2.1.2.2 q SC SM o) ce sl := by
  have ht : t < 512 := by omega
  refine VL_aload_n (pc := 1505) C dL_law_1505 rfl rfl ?_
  refine VL_scr (pc := 1506) (j := 1) C hX hN hN2 (by decide) rfl rfl dL_law_1506 dL_law_1507 dL_law_1509 dL_law_1510 dL_law_1511 ?_
  refine VL_scr (pc := 1512) (j := 2) C hX hN hN2 (by decide) rfl rfl dL_law_1512 dL_law_1513 dL_law_1515 dL_law_1516 dL_law_1517 ?_
  refine VL_scr (pc := 1518) (j := 3) C hX hN hN2 (by decide) rfl rfl dL_law_1518 dL_law_1519 dL_law_1521 dL_law_1522 dL_law_1523 ?_
  refine VL_scr (pc := 1524) (j := 4) C hX hN hN2 (by decide) rfl rfl dL_law_1524 dL_law_1525 dL_law_1527 dL_law_1528 dL_law_1529 ?_
  obtain ⟨r, SC1, SM1, e1, e2, hI⟩ := st_steps h ht (xs (8 * t + 1)) (xs (8 * t + 2)) (xs (8 * t + 3)) (xs (8 * t + 4))
  refine VL_callX (T := TX11) (N := 15) (ro := some (.int r)) (As := [.int (xs (8 * t + 1)), .int (xs (8 * t + 2)), .int (xs (8 * t + 3)), .int (xs (8 * t + 4))]) (pc := 1530) C (mX11_steps _ e1) hz zm_X11_steps zi_X11_steps ml_RL_129 rfl ⟨Nat.le_of_ble_eq_true rfl, Nat.le_of_ble_eq_true rfl⟩ rfl rfl rfl rfl (Nat.le_of_ble_eq_true rfl) dL_law_1530 hcs ?_
  show VC K 1533 [some (.ref b), some (.ref (μ 0)), some (.ref (ν 0)), some (.ref q), some (.int (J ((8 * t : Nat) : Int))), a5, a6] [.int r] (lws μ ν K.2.1.2.2 q SC1 SM o) ce sl
  refine VL_aload_n (pc := 1533) C dL_law_1533 rfl rfl ?_
  refine VL_scr (pc := 1534) (j := 1) C hX hN hN2 (by decide) rfl rfl dL_law_1534 dL_law_1535 dL_law_1537 dL_law_1538 dL_law_1539 ?_
  refine VL_scr (pc := 1540) (j := 2) C hX hN hN2 (by decide) rfl rfl dL_law_1540 dL_law_1541 dL_law_1543 dL_law_1544 dL_law_1545 ?_
  refine VL_scr (pc := 1546) (j := 3) C hX hN hN2 (by decide) rfl rfl dL_law_1546 dL_law_1547 dL_law_1549 dL_law_1550 dL_law_1551 ?_
  refine VL_scr (pc := 1552) (j := 4) C hX hN hN2 (by decide) rfl rfl dL_law_1552 dL_law_1553 dL_law_1555 dL_law_1556 dL_law_1557 ?_
  refine VL_callM (T := TX12) (N := 45) (ro := some (.int r)) (As := [.int (xs (8 * t + 1)), .int (xs (8 * t + 2)), .int (xs (8 * t + 3)), .int (xs (8 * t + 4))]) (pc := 1558) C (mX12_steps _ e2) hz2 zm_X12_steps zi_X12_steps ml_RL_132 rfl ⟨Nat.le_of_ble_eq_true rfl, Nat.le_of_ble_eq_true rfl⟩ rfl rfl rfl rfl (Nat.le_of_ble_eq_true rfl) dL_law_1558 hcs ?_
  refine VL_icmp_eq (tgt := 2295) (pc := 1561) C dL_law_1561 (by decide) (fun _ => ?_) (fun hc => absurd rfl hc)
  exact kk _ _ _ _ _ hI
set_option maxRecDepth 100000 in
set_option maxHeartbeats 4000000 in
theorem law_c26 (C : zCL K cL_law RL 7 14 532 CE SL) (hz : LZ K μ) (hz2 : LZ K ν) (hX : LX K b N xs) (hN : 8 * t + 8 ≤ N) (hN2 : N ≤ 4096) (hcs : ce ≤ CE ∧ sl ≤ SL) (h : Inv SC SM t) (kk : ∀ (SC1 SM1 : zM) (o1 : Int64) (a5 a6 : Option Value), Inv SC1 SM1 (t + 1) → VC K 2295 [some (.ref b), some (.ref (μ 0)), some (.ref (ν 0)), some (.ref q), some (.int (J ((8 * t : Nat) : Int))), a5, a6] [] (lws μ ν K.2.1.2.2 q SC1 SM1 o1) ce sl) : VC K 1566 [some (.ref b), some (.ref (μ 0)), some (.ref (ν 0)), some (.ref q), some (.int (J ((8 * t : Nat) : Int))), a5, a6] [] (lws μ ν K.2.1.2.2 q SC SM o) ce sl := by
  have ht : t < 512 := by omega
  refine VL_aload_n (pc := 1566) C dL_law_1566 rfl rfl ?_
  refine VL_scr (pc := 1567) (j := 1) C hX hN hN2 (by decide) rfl rfl dL_law_1567 dL_law_1568 dL_law_1570 dL_law_1571 dL_law_1572 ?_
  refine VL_scr (pc := 1573) (j := 2) C hX hN hN2 (by decide) rfl rfl dL_law_1573 dL_law_1574 dL_law_1576 dL_law_1577 dL_law_1578 ?_
  obtain ⟨r, SC1, SM1, e1, e2, hI⟩ := st_felt h ht (xs (8 * t + 1)) (xs (8 * t + 2))
  refine VL_callX (T := TX11) (N := 15) (ro := some (.int r)) (As := [.int (xs (8 * t + 1)), .int (xs (8 * t + 2))]) (pc := 1579) C (mX11_felt _ e1) hz zm_X11_felt zi_X11_felt ml_RL_133 rfl ⟨Nat.le_of_ble_eq_true rfl, Nat.le_of_ble_eq_true rfl⟩ rfl rfl rfl rfl (Nat.le_of_ble_eq_true rfl) dL_law_1579 hcs ?_
  show VC K 1582 [some (.ref b), some (.ref (μ 0)), some (.ref (ν 0)), some (.ref q), some (.int (J ((8 * t : Nat) : Int))), a5, a6] [.int r] (lws μ ν K.2.1.2.2 q SC1 SM o) ce sl
  refine VL_aload_n (pc := 1582) C dL_law_1582 rfl rfl ?_
  refine VL_scr (pc := 1583) (j := 1) C hX hN hN2 (by decide) rfl rfl dL_law_1583 dL_law_1584 dL_law_1586 dL_law_1587 dL_law_1588 ?_
  refine VL_scr (pc := 1589) (j := 2) C hX hN hN2 (by decide) rfl rfl dL_law_1589 dL_law_1590 dL_law_1592 dL_law_1593 dL_law_1594 ?_
  refine VL_callM (T := TX12) (N := 45) (ro := some (.int r)) (As := [.int (xs (8 * t + 1)), .int (xs (8 * t + 2))]) (pc := 1595) C (mX12_felt _ e2) hz2 zm_X12_felt zi_X12_felt ml_RL_136 rfl ⟨Nat.le_of_ble_eq_true rfl, Nat.le_of_ble_eq_true rfl⟩ rfl rfl rfl rfl (Nat.le_of_ble_eq_true rfl) dL_law_1595 hcs ?_
  refine VL_icmp_eq (tgt := 2295) (pc := 1598) C dL_law_1598 (by decide) (fun _ => ?_) (fun hc => absurd rfl hc)
  exact kk _ _ _ _ _ hI
set_option maxRecDepth 100000 in
set_option maxHeartbeats 4000000 in
theorem law_c27 (C : zCL K cL_law RL 7 14 532 CE SL) (hz : LZ K μ) (hz2 : LZ K ν) (hX : LX K b N xs) (hN : 8 * t + 8 ≤ N) (hN2 : N ≤ 4096) (hcs : ce ≤ CE ∧ sl ≤ SL) (h : Inv SC SM t) (kk : ∀ (SC1 SM1 : zM) (o1 : Int64) (a5 a6 : Option Value), Inv SC1 SM1 (t + 1) → VC K 2295 [some (.ref b), some (.ref (μ 0)), some (.ref (ν 0)), some (.ref q), some (.int (J ((8 * t : Nat) : Int))), a5, a6] [] (lws μ ν K.2.1.2.2 q SC1 SM1 o1) ce sl) : VC K 1603 [some (.ref b), some (.ref (μ 0)), some (.ref (ν 0)), some (.ref q), some (.int (J ((8 * t : Nat) : Int))), a5, a6] [] (lws μ ν K.2.1.2.2 q SC SM o) ce sl := by
  have ht : t < 512 := by omega
  refine VL_aload_n (pc := 1603) C dL_law_1603 rfl rfl ?_
  refine VL_scr (pc := 1604) (j := 1) C hX hN hN2 (by decide) rfl rfl dL_law_1604 dL_law_1605 dL_law_1607 dL_law_1608 dL_law_1609 ?_
  refine VL_scr (pc := 1610) (j := 2) C hX hN hN2 (by decide) rfl rfl dL_law_1610 dL_law_1611 dL_law_1613 dL_law_1614 dL_law_1615 ?_
  refine VL_scr (pc := 1616) (j := 3) C hX hN hN2 (by decide) rfl rfl dL_law_1616 dL_law_1617 dL_law_1619 dL_law_1620 dL_law_1621 ?_
  refine VL_scr (pc := 1622) (j := 4) C hX hN hN2 (by decide) rfl rfl dL_law_1622 dL_law_1623 dL_law_1625 dL_law_1626 dL_law_1627 ?_
  obtain ⟨r, SC1, SM1, e1, e2, hI⟩ := st_gain h ht (xs (8 * t + 1)) (xs (8 * t + 2)) (xs (8 * t + 3)) (xs (8 * t + 4))
  refine VL_callX (T := TX11) (N := 15) (ro := some (.long r)) (As := [.int (xs (8 * t + 1)), .int (xs (8 * t + 2)), .int (xs (8 * t + 3)), .int (xs (8 * t + 4))]) (pc := 1628) C (mX11_gain _ e1) hz zm_X11_gain zi_X11_gain ml_RL_137 rfl ⟨Nat.le_of_ble_eq_true rfl, Nat.le_of_ble_eq_true rfl⟩ rfl rfl rfl rfl (Nat.le_of_ble_eq_true rfl) dL_law_1628 hcs ?_
  show VC K 1631 [some (.ref b), some (.ref (μ 0)), some (.ref (ν 0)), some (.ref q), some (.int (J ((8 * t : Nat) : Int))), a5, a6] [.long r] (lws μ ν K.2.1.2.2 q SC1 SM o) ce sl
  refine VL_aload_n (pc := 1631) C dL_law_1631 rfl rfl ?_
  refine VL_scr (pc := 1632) (j := 1) C hX hN hN2 (by decide) rfl rfl dL_law_1632 dL_law_1633 dL_law_1635 dL_law_1636 dL_law_1637 ?_
  refine VL_scr (pc := 1638) (j := 2) C hX hN hN2 (by decide) rfl rfl dL_law_1638 dL_law_1639 dL_law_1641 dL_law_1642 dL_law_1643 ?_
  refine VL_scr (pc := 1644) (j := 3) C hX hN hN2 (by decide) rfl rfl dL_law_1644 dL_law_1645 dL_law_1647 dL_law_1648 dL_law_1649 ?_
  refine VL_scr (pc := 1650) (j := 4) C hX hN hN2 (by decide) rfl rfl dL_law_1650 dL_law_1651 dL_law_1653 dL_law_1654 dL_law_1655 ?_
  refine VL_callM (T := TX12) (N := 45) (ro := some (.long r)) (As := [.int (xs (8 * t + 1)), .int (xs (8 * t + 2)), .int (xs (8 * t + 3)), .int (xs (8 * t + 4))]) (pc := 1656) C (mX12_gain _ e2) hz2 zm_X12_gain zi_X12_gain ml_RL_141 rfl ⟨Nat.le_of_ble_eq_true rfl, Nat.le_of_ble_eq_true rfl⟩ rfl rfl rfl rfl (Nat.le_of_ble_eq_true rfl) dL_law_1656 hcs ?_
  refine VL_lcmp_eq (tgt := 2295) (pc := 1659) C dL_law_1659 dL_law_1660 (by decide) (fun _ => ?_) (fun hc => absurd rfl hc)
  exact kk _ _ _ _ _ hI
end LAWC
