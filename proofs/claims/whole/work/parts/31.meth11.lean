set_option maxRecDepth 100000 in
theorem mX12_books_J79 {K : zK} (C : zC K cX12_books yX12_books.cls 7 0 0 mW) {S : zM} {v1 : Int32} {v6 : Int32} {s0 : Int32} {s1 : Int32} {S' : zM}  (hR : zR K cX12_books (none) S' none) (h : gX12_books_J79 S v1 v6 s0 s1 = some S') : V K 79 [some (.ref 0), some (.int v1), none, none, none, none, some (.int v6)] [.int s0, .int s1, .ref 12] S := by
  unfold gX12_books_J79 at h
  obtain ⟨k6, h⟩ := ck_some h
  refine V_iast (pc := 79) C (za_mW_12_26 z1_mW_12) k6 dX12_books_79 ?_
  refine V_aload_n (pc := 80) C dX12_books_80 rfl rfl ?_
  refine V_getF (p1 := 13) (pc := 81) C z1_mW_12 fl_RX12_50 rfl (zf_mW_12_27 z1_mW_12) dX12_books_81 ?_
  refine V_aload_n (pc := 84) C dX12_books_84 rfl rfl ?_
  refine V_getI (pc := 85) C z1_mW_12 fl_RX12_226 (by decide) dX12_books_85 ?_
  refine V_iload (pc := 88) C dX12_books_88 rfl ?_
  obtain ⟨k7, h⟩ := ck_some h
  refine V_iast (pc := 90) C (za_mW_12_27 z1_mW_12) k7 dX12_books_90 ?_
  refine V_aload_n (pc := 91) C dX12_books_91 rfl rfl ?_
  refine V_dup (pc := 92) C dX12_books_92 rfl ?_
  refine V_getI (pc := 93) C z1_mW_12 fl_RX12_226 (by decide) dX12_books_93 ?_
  refine V_iconst (pc := 96) C dX12_books_96 kc_i_1 ?_
  refine V_iadd (pc := 97) C dX12_books_97 ?_
  refine V_putI (pc := 98) C z1_mW_12 fp_RX12_226 rfl rfl dX12_books_98 ?_
  obtain ⟨S8, eS8, h⟩ := lt_some h
  refine V_nmS eS8 ?_
  refine V_aload_n (pc := 101) C dX12_books_101 rfl rfl ?_
  refine V_getF (p1 := 6) (pc := 102) C z1_mW_12 fl_RX12_29 rfl (zf_mW_12_18 z1_mW_12) dX12_books_102 ?_
  refine V_iload_n (pc := 105) C dX12_books_105 rfl rfl ?_
  refine V_dup2 (pc := 106) C dX12_books_106 rfl rfl ?_
  obtain ⟨k9, h⟩ := ck_some h
  refine V_iald (pc := 107) C (za_mW_12_18 z1_mW_12) k9 dX12_books_107 ?_
  refine V_iconst (pc := 108) C dX12_books_108 kc_i_1 ?_
  refine V_iadd (pc := 109) C dX12_books_109 ?_
  obtain ⟨k10, h⟩ := ck_some h
  refine V_iast (pc := 110) C (za_mW_12_18 z1_mW_12) k10 dX12_books_110 ?_
  refine V_aload_n (pc := 111) C dX12_books_111 rfl rfl ?_
  refine V_getF (p1 := 7) (pc := 112) C z1_mW_12 fl_RX12_32 rfl (zf_mW_12_19 z1_mW_12) dX12_books_112 ?_
  refine V_iload_n (pc := 115) C dX12_books_115 rfl rfl ?_
  refine V_dup2 (pc := 116) C dX12_books_116 rfl rfl ?_
  obtain ⟨k11, h⟩ := ck_some h
  refine V_iald (pc := 117) C (za_mW_12_19 z1_mW_12) k11 dX12_books_117 ?_
  refine V_iconst (pc := 118) C dX12_books_118 kc_i_1 ?_
  refine V_iadd (pc := 119) C dX12_books_119 ?_
  obtain ⟨k12, h⟩ := ck_some h
  refine V_iast (pc := 120) C (za_mW_12_19 z1_mW_12) k12 dX12_books_120 ?_
  obtain ⟨S13, eS13, h⟩ := lt_some h
  refine V_nmS eS13 ?_
  cases h
  exact hR 121 _ rfl dX12_books_121
set_option maxRecDepth 100000 in
theorem mX12_books_J54 {K : zK} (C : zC K cX12_books yX12_books.cls 7 0 0 mW) {S : zM} {v1 : Int32} {v2 : Int32} {v5 : Int32} {v6 : Int32} {s0 : Int32} {s1 : Int32} {S' : zM}  (hR : zR K cX12_books (none) S' none) (h : gX12_books_J54 S v1 v2 v5 v6 s0 s1 = some S') : V K 54 [some (.ref 0), some (.int v1), some (.int v2), none, none, some (.int v5), some (.int v6)] [.int s0, .int s1, .ref 11] S := by
  unfold gX12_books_J54 at h
  obtain ⟨k5, h⟩ := ck_some h
  refine V_iast (pc := 54) C (za_mW_12_25 z1_mW_12) k5 dX12_books_54 ?_
  refine V_aload_n (pc := 55) C dX12_books_55 rfl rfl ?_
  refine V_getF (p1 := 12) (pc := 56) C z1_mW_12 fl_RX12_47 rfl (zf_mW_12_26 z1_mW_12) dX12_books_56 ?_
  refine V_aload_n (pc := 59) C dX12_books_59 rfl rfl ?_
  refine V_getI (pc := 60) C z1_mW_12 fl_RX12_226 (by decide) dX12_books_60 ?_
  refine V_iload_n (pc := 63) C dX12_books_63 rfl rfl ?_
  refine V_iconst (pc := 64) C dX12_books_64 kc_i_2 ?_
  refine V_icmp_eq (tgt := 73) (pc := 65) C dX12_books_65 (by decide) (fun hc => ?_) (fun hc => ?_)
  · have h := it_t hc h
    refine V_iload (pc := 73) C dX12_books_73 rfl ?_
    refine V_goto (tgt := 79) (pc := 75) C dX12_books_75 (by decide) ?_
    exact V_mask [true, true, false, false, false, false, true] (mX12_books_J79 C  hR h)
  · have h := it_f hc h
    refine V_iload_n (pc := 68) C dX12_books_68 rfl rfl ?_
    refine V_iconst (pc := 69) C dX12_books_69 kc_i_5 ?_
    refine V_icmp_ne (tgt := 78) (pc := 70) C dX12_books_70 (by decide) (fun hc => ?_) (fun hc => ?_)
    · have h := it_f hc h
      refine V_iconst (pc := 78) C dX12_books_78 kc_i_0 ?_
      exact V_mask [true, true, false, false, false, false, true] (mX12_books_J79 C  hR h)
    · have h := it_t hc h
      refine V_iload (pc := 73) C dX12_books_73 rfl ?_
      refine V_goto (tgt := 79) (pc := 75) C dX12_books_75 (by decide) ?_
      exact V_mask [true, true, false, false, false, false, true] (mX12_books_J79 C  hR h)
set_option maxRecDepth 100000 in
theorem mX12_books (l : Launch) {S : zM} {a1 : Int32} {a2 : Int32} {a3 : Int32} {a4 : Int32} {a5 : Int32} {a6 : Int32} {S' : zM}  (h : gX12_books S a1 a2 a3 a4 a5 a6 = some S') : zMet l mW zS0 yX12_books cX12_books 7 (none) 0 0 [.ref 0, .int a1, .int a2, .int a3, .int a4, .int a5, .int a6] S none S' := by
  refine zmeth (by decide +kernel) (by rfl) (fun K hKl C hR => ?_)
  show V K 0 [some (.ref 0), some (.int a1), some (.int a2), some (.int a3), some (.int a4), some (.int a5), some (.int a6)] [] S
  unfold gX12_books at h
  refine V_aload_n (pc := 0) C dX12_books_0 rfl rfl ?_
  refine V_getF (p1 := 8) (pc := 1) C z1_mW_12 fl_RX12_35 rfl (zf_mW_12_22 z1_mW_12) dX12_books_1 ?_
  refine V_aload_n (pc := 4) C dX12_books_4 rfl rfl ?_
  refine V_getI (pc := 5) C z1_mW_12 fl_RX12_226 (by decide) dX12_books_5 ?_
  refine V_iload_n (pc := 8) C dX12_books_8 rfl rfl ?_
  obtain ⟨k1, h⟩ := ck_some h
  refine V_iast (pc := 9) C (za_mW_12_22 z1_mW_12) k1 dX12_books_9 ?_
  refine V_aload_n (pc := 10) C dX12_books_10 rfl rfl ?_
  refine V_getF (p1 := 9) (pc := 11) C z1_mW_12 fl_RX12_38 rfl (zf_mW_12_23 z1_mW_12) dX12_books_11 ?_
  refine V_aload_n (pc := 14) C dX12_books_14 rfl rfl ?_
  refine V_getI (pc := 15) C z1_mW_12 fl_RX12_226 (by decide) dX12_books_15 ?_
  refine V_iload_n (pc := 18) C dX12_books_18 rfl rfl ?_
  obtain ⟨k2, h⟩ := ck_some h
  refine V_iast (pc := 19) C (za_mW_12_23 z1_mW_12) k2 dX12_books_19 ?_
  refine V_aload_n (pc := 20) C dX12_books_20 rfl rfl ?_
  refine V_getF (p1 := 10) (pc := 21) C z1_mW_12 fl_RX12_41 rfl (zf_mW_12_24 z1_mW_12) dX12_books_21 ?_
  refine V_aload_n (pc := 24) C dX12_books_24 rfl rfl ?_
  refine V_getI (pc := 25) C z1_mW_12 fl_RX12_226 (by decide) dX12_books_25 ?_
  refine V_iload_n (pc := 28) C dX12_books_28 rfl rfl ?_
  obtain ⟨k3, h⟩ := ck_some h
  refine V_iast (pc := 29) C (za_mW_12_24 z1_mW_12) k3 dX12_books_29 ?_
  obtain ⟨S4, eS4, h⟩ := lt_some h
  refine V_nmS eS4 ?_
  refine V_aload_n (pc := 30) C dX12_books_30 rfl rfl ?_
  refine V_getF (p1 := 11) (pc := 31) C z1_mW_12 fl_RX12_44 rfl (zf_mW_12_25 z1_mW_12) dX12_books_31 ?_
  refine V_aload_n (pc := 34) C dX12_books_34 rfl rfl ?_
  refine V_getI (pc := 35) C z1_mW_12 fl_RX12_226 (by decide) dX12_books_35 ?_
  refine V_iload_n (pc := 38) C dX12_books_38 rfl rfl ?_
  refine V_iconst (pc := 39) C dX12_books_39 kc_i_1 ?_
  refine V_icmp_eq (tgt := 48) (pc := 40) C dX12_books_40 (by decide) (fun hc => ?_) (fun hc => ?_)
  · have h := it_t hc h
    refine V_iconst (pc := 48) C dX12_books_48 kc_i_0 ?_
    refine V_goto (tgt := 54) (pc := 49) C dX12_books_49 (by decide) ?_
    exact V_mask [true, true, true, false, false, true, true] (mX12_books_J54 C  hR h)
  · have h := it_f hc h
    refine V_iload_n (pc := 43) C dX12_books_43 rfl rfl ?_
    refine V_iconst (pc := 44) C dX12_books_44 kc_i_3 ?_
    refine V_icmp_ne (tgt := 52) (pc := 45) C dX12_books_45 (by decide) (fun hc => ?_) (fun hc => ?_)
    · have h := it_f hc h
      refine V_iload (pc := 52) C dX12_books_52 rfl ?_
      exact V_mask [true, true, true, false, false, true, true] (mX12_books_J54 C  hR h)
    · have h := it_t hc h
      refine V_iconst (pc := 48) C dX12_books_48 kc_i_0 ?_
      refine V_goto (tgt := 54) (pc := 49) C dX12_books_49 (by decide) ?_
      exact V_mask [true, true, true, false, false, true, true] (mX12_books_J54 C  hR h)
set_option maxRecDepth 100000 in
theorem mX12_draws_J114 {K : zK} (C : zC K cX12_draws yX12_draws.cls 13 3 77 mW) {S : zM} {v1 : Int32} {v2 : Int32} {v3 : Int32} {v4 : Int32} {v5 : Int32} {v9 : Int32} {v10 : Int32} {s0 : Int32} {r : Int32} {S' : zM}  (hR : zR K cX12_draws (some .int) S' (some (.int r))) (h : gX12_draws_J114 S v1 v2 v3 v4 v5 v9 v10 s0 = some (r, S')) : V K 114 [some (.ref 0), some (.int v1), some (.int v2), some (.int v3), some (.int v4), some (.int v5), none, none, none, some (.int v9), some (.int v10), none, none] [.int s0] S := by
  unfold gX12_draws_J114 at h
  refine V_istore (L' := [some (.ref 0), some (.int v1), some (.int v2), some (.int v3), some (.int v4), some (.int v5), none, none, none, some (.int v9), some (.int v10), some (.int s0), none]) (pc := 114) C dX12_draws_114 (by decide) rfl ?_
  refine V_aload_n (pc := 116) C dX12_draws_116 rfl rfl ?_
  refine V_iload_n (pc := 117) C dX12_draws_117 rfl rfl ?_
  refine V_iload_n (pc := 118) C dX12_draws_118 rfl rfl ?_
  refine V_iload (pc := 119) C dX12_draws_119 rfl ?_
  refine V_iload (pc := 121) C dX12_draws_121 rfl ?_
  refine V_iload (pc := 123) C dX12_draws_123 rfl ?_
  refine V_iload (pc := 125) C dX12_draws_125 rfl ?_
  refine V_iload (pc := 127) C dX12_draws_127 rfl ?_
  refine V_aload_n (pc := 129) C dX12_draws_129 rfl rfl ?_
  refine V_iload_n (pc := 130) C dX12_draws_130 rfl rfl ?_
  obtain ⟨r8, er8, h⟩ := b1_some h
  refine V_callV (As := [.int v1]) (pc := 131) C (mX12_tired _ er8) zm_X12_tired zi_X12_tired ml_RX12_318 z1_mW_12 rfl ⟨Nat.le_of_ble_eq_true rfl, Nat.le_of_ble_eq_true rfl⟩ rfl rfl (Nat.le_of_ble_eq_true rfl) dX12_draws_131 ?_
  show V K 134 [some (.ref 0), some (.int v1), some (.int v2), some (.int v3), some (.int v4), some (.int v5), none, none, none, some (.int v9), some (.int v10), some (.int s0), none] [.int r8, .int s0, .int v10, .int v9, .int v5, .int v4, .int v2, .int v1, .ref 0] S
  obtain ⟨r9, er9, h⟩ := b1_some h
  refine V_callV (As := [.int v1, .int v2, .int v4, .int v5, .int v9, .int v10, .int s0, .int r8]) (pc := 134) C (mX12_answered _ er9) zm_X12_answered zi_X12_answered ml_RX12_355 z1_mW_12 rfl ⟨Nat.le_of_ble_eq_true rfl, Nat.le_of_ble_eq_true rfl⟩ rfl rfl (Nat.le_of_ble_eq_true rfl) dX12_draws_134 ?_
  show V K 137 [some (.ref 0), some (.int v1), some (.int v2), some (.int v3), some (.int v4), some (.int v5), none, none, none, some (.int v9), some (.int v10), some (.int s0), none] [.int r9] S
  refine V_istore (L' := [some (.ref 0), some (.int v1), some (.int v2), some (.int v3), some (.int v4), some (.int v5), none, none, none, some (.int v9), some (.int v10), some (.int s0), some (.int r9)]) (pc := 137) C dX12_draws_137 (by decide) rfl ?_
  refine V_aload_n (pc := 139) C dX12_draws_139 rfl rfl ?_
  refine V_iload_n (pc := 140) C dX12_draws_140 rfl rfl ?_
  refine V_iload_n (pc := 141) C dX12_draws_141 rfl rfl ?_
  refine V_iload_n (pc := 142) C dX12_draws_142 rfl rfl ?_
  refine V_iload (pc := 143) C dX12_draws_143 rfl ?_
  refine V_iload (pc := 145) C dX12_draws_145 rfl ?_
  refine V_iload (pc := 147) C dX12_draws_147 rfl ?_
  obtain ⟨S11, euS11, h⟩ := b1_some h
  refine V_callV (As := [.int v1, .int v2, .int v3, .int v4, .int v5, .int r9]) (pc := 149) C (mX12_books _ euS11) zm_X12_books zi_X12_books ml_RX12_374 z1_mW_12 rfl ⟨Nat.le_of_ble_eq_true rfl, Nat.le_of_ble_eq_true rfl⟩ rfl rfl (Nat.le_of_ble_eq_true rfl) dX12_draws_149 ?_
  show V K 152 [some (.ref 0), some (.int v1), some (.int v2), some (.int v3), some (.int v4), some (.int v5), none, none, none, some (.int v9), some (.int v10), some (.int s0), some (.int r9)] [] S11
  refine V_iload (pc := 152) C dX12_draws_152 rfl ?_
  cases h
  exact hR 154 _ ⟨_, rfl, rfl⟩ dX12_draws_154
set_option maxRecDepth 100000 in
theorem mX12_draws_J80 {K : zK} (C : zC K cX12_draws yX12_draws.cls 13 3 77 mW) {S : zM} {v1 : Int32} {v2 : Int32} {v3 : Int32} {v4 : Int32} {v5 : Int32} {v6 : Int32} {v7 : Int32} {v8 : Int32} {v9 : Int32} {s0 : Int32} {r : Int32} {S' : zM}  (hR : zR K cX12_draws (some .int) S' (some (.int r))) (h : gX12_draws_J80 S v1 v2 v3 v4 v5 v6 v7 v8 v9 s0 = some (r, S')) : V K 80 [some (.ref 0), some (.int v1), some (.int v2), some (.int v3), some (.int v4), some (.int v5), some (.int v6), some (.int v7), some (.int v8), some (.int v9), none, none, none] [.int s0] S := by
  unfold gX12_draws_J80 at h
  refine V_istore (L' := [some (.ref 0), some (.int v1), some (.int v2), some (.int v3), some (.int v4), some (.int v5), some (.int v6), some (.int v7), some (.int v8), some (.int v9), some (.int s0), none, none]) (pc := 80) C dX12_draws_80 (by decide) rfl ?_
  refine V_iload (pc := 82) C dX12_draws_82 rfl ?_
  refine V_iconst (pc := 84) C dX12_draws_84 kc_i_2 ?_
  refine V_icmp_le (tgt := 113) (pc := 85) C dX12_draws_85 (by decide) (fun hc => ?_) (fun hc => ?_)
  · have h := it_t hc h
    refine V_iconst (pc := 113) C dX12_draws_113 kc_i_0 ?_
    exact V_mask [true, true, true, true, true, true, false, false, false, true, true, false, false] (mX12_draws_J114 C  hR h)
  · have h := it_f hc h
    refine V_aload_n (pc := 88) C dX12_draws_88 rfl rfl ?_
    refine V_iload (pc := 89) C dX12_draws_89 rfl ?_
    refine V_iload_n (pc := 91) C dX12_draws_91 rfl rfl ?_
    refine V_iload_n (pc := 92) C dX12_draws_92 rfl rfl ?_
    refine V_iload (pc := 93) C dX12_draws_93 rfl ?_
    refine V_iload (pc := 95) C dX12_draws_95 rfl ?_
    refine V_iconst (pc := 97) C dX12_draws_97 kc_i_2 ?_
    obtain ⟨r12, er12, h⟩ := b1_some h
    refine V_callV (As := [.int v6, .int v2, .int v3, .int v4, .int v5, .int (2 : Int32)]) (pc := 98) C (mX12_levelAt _ er12) zm_X12_levelAt zi_X12_levelAt ml_RX12_351 z1_mW_12 rfl ⟨Nat.le_of_ble_eq_true rfl, Nat.le_of_ble_eq_true rfl⟩ rfl rfl (Nat.le_of_ble_eq_true rfl) dX12_draws_98 ?_
    show V K 101 [some (.ref 0), some (.int v1), some (.int v2), some (.int v3), some (.int v4), some (.int v5), some (.int v6), some (.int v7), some (.int v8), some (.int v9), some (.int s0), none, none] [.int r12] S
    refine V_aload_n (pc := 101) C dX12_draws_101 rfl rfl ?_
    refine V_iload (pc := 102) C dX12_draws_102 rfl ?_
    refine V_iload (pc := 104) C dX12_draws_104 rfl ?_
    obtain ⟨r13, S14, er13, h⟩ := b2_some h
    refine V_callV (As := [.int v6, .int v7]) (pc := 106) C (mX12_drawnNoise _ er13) zm_X12_drawnNoise zi_X12_drawnNoise ml_RX12_371 z1_mW_12 rfl ⟨Nat.le_of_ble_eq_true rfl, Nat.le_of_ble_eq_true rfl⟩ rfl rfl (Nat.le_of_ble_eq_true rfl) dX12_draws_106 ?_
    show V K 109 [some (.ref 0), some (.int v1), some (.int v2), some (.int v3), some (.int v4), some (.int v5), some (.int v6), some (.int v7), some (.int v8), some (.int v9), some (.int s0), none, none] [.int r13, .int r12] S14
    refine V_iadd (pc := 109) C dX12_draws_109 ?_
    refine V_goto (tgt := 114) (pc := 110) C dX12_draws_110 (by decide) ?_
    exact V_mask [true, true, true, true, true, true, false, false, false, true, true, false, false] (mX12_draws_J114 C  hR h)
set_option maxRecDepth 100000 in
theorem mX12_draws (l : Launch) {S : zM} {a1 : Int32} {a2 : Int32} {a3 : Int32} {a4 : Int32} {a5 : Int32} {r : Int32} {S' : zM}  (h : gX12_draws S a1 a2 a3 a4 a5 = some (r, S')) : zMet l mW zS0 yX12_draws cX12_draws 13 (some .int) 3 77 [.ref 0, .int a1, .int a2, .int a3, .int a4, .int a5] S (some (.int r)) S' := by
  refine zmeth (by decide +kernel) (by rfl) (fun K hKl C hR => ?_)
  show V K 0 [some (.ref 0), some (.int a1), some (.int a2), some (.int a3), some (.int a4), some (.int a5), none, none, none, none, none, none, none] [] S
  unfold gX12_draws at h
  refine V_aload_n (pc := 0) C dX12_draws_0 rfl rfl ?_
  refine V_getF (p1 := 3) (pc := 1) C z1_mW_12 fl_RX12_20 rfl (zf_mW_12_15 z1_mW_12) dX12_draws_1 ?_
  refine V_bipush (pc := 4) C dX12_draws_4 kc_b_120 ?_
  refine V_iload_n (pc := 6) C dX12_draws_6 rfl rfl ?_
  refine V_iadd (pc := 7) C dX12_draws_7 ?_
  obtain ⟨k1, h⟩ := ck_some h
  refine V_iald (pc := 8) C (za_mW_12_15 z1_mW_12) k1 dX12_draws_8 ?_
  obtain ⟨x2, ex2, h⟩ := lt_some h
  refine V_nmI ex2 ?_
  refine V_istore (L' := [some (.ref 0), some (.int a1), some (.int a2), some (.int a3), some (.int a4), some (.int a5), some (.int x2), none, none, none, none, none, none]) (pc := 9) C dX12_draws_9 (by decide) rfl ?_
  refine V_aload_n (pc := 11) C dX12_draws_11 rfl rfl ?_
  refine V_iload_n (pc := 12) C dX12_draws_12 rfl rfl ?_
  obtain ⟨r3, er3, h⟩ := b1_some h
  refine V_callV (As := [.int a1]) (pc := 13) C (mX12_wholesNow _ er3) zm_X12_wholesNow zi_X12_wholesNow ml_RX12_321 z1_mW_12 rfl ⟨Nat.le_of_ble_eq_true rfl, Nat.le_of_ble_eq_true rfl⟩ rfl rfl (Nat.le_of_ble_eq_true rfl) dX12_draws_13 ?_
  show V K 16 [some (.ref 0), some (.int a1), some (.int a2), some (.int a3), some (.int a4), some (.int a5), some (.int x2), none, none, none, none, none, none] [.int r3] S
  refine V_istore (L' := [some (.ref 0), some (.int a1), some (.int a2), some (.int a3), some (.int a4), some (.int a5), some (.int x2), some (.int r3), none, none, none, none, none]) (pc := 16) C dX12_draws_16 (by decide) rfl ?_
  refine V_iload_n (pc := 18) C dX12_draws_18 rfl rfl ?_
  obtain ⟨r4, er4, h⟩ := b1_some h
  refine V_callS (As := [.int a2]) (pc := 19) C (mX12_feelings _ er4) zm_X12_feelings zs_X12_feelings ml_RX12_348 ⟨Nat.le_of_ble_eq_true rfl, Nat.le_of_ble_eq_true rfl⟩ rfl rfl (Nat.le_of_ble_eq_true rfl) dX12_draws_19 ?_
  show V K 22 [some (.ref 0), some (.int a1), some (.int a2), some (.int a3), some (.int a4), some (.int a5), some (.int x2), some (.int r3), none, none, none, none, none] [.int r4] S
  refine V_istore (L' := [some (.ref 0), some (.int a1), some (.int a2), some (.int a3), some (.int a4), some (.int a5), some (.int x2), some (.int r3), some (.int r4), none, none, none, none]) (pc := 22) C dX12_draws_22 (by decide) rfl ?_
  refine V_aload_n (pc := 24) C dX12_draws_24 rfl rfl ?_
  refine V_iload (pc := 25) C dX12_draws_25 rfl ?_
  refine V_iload_n (pc := 27) C dX12_draws_27 rfl rfl ?_
  refine V_iload_n (pc := 28) C dX12_draws_28 rfl rfl ?_
  refine V_iload (pc := 29) C dX12_draws_29 rfl ?_
  refine V_iload (pc := 31) C dX12_draws_31 rfl ?_
  refine V_iconst (pc := 33) C dX12_draws_33 kc_i_0 ?_
  obtain ⟨r5, er5, h⟩ := b1_some h
  refine V_callV (As := [.int x2, .int a2, .int a3, .int a4, .int a5, .int (0 : Int32)]) (pc := 34) C (mX12_levelAt _ er5) zm_X12_levelAt zi_X12_levelAt ml_RX12_351 z1_mW_12 rfl ⟨Nat.le_of_ble_eq_true rfl, Nat.le_of_ble_eq_true rfl⟩ rfl rfl (Nat.le_of_ble_eq_true rfl) dX12_draws_34 ?_
  show V K 37 [some (.ref 0), some (.int a1), some (.int a2), some (.int a3), some (.int a4), some (.int a5), some (.int x2), some (.int r3), some (.int r4), none, none, none, none] [.int r5] S
  refine V_aload_n (pc := 37) C dX12_draws_37 rfl rfl ?_
  refine V_iload (pc := 38) C dX12_draws_38 rfl ?_
  refine V_iload (pc := 40) C dX12_draws_40 rfl ?_
  obtain ⟨r6, S7, er6, h⟩ := b2_some h
  refine V_callV (As := [.int x2, .int r3]) (pc := 42) C (mX12_drawnNoise _ er6) zm_X12_drawnNoise zi_X12_drawnNoise ml_RX12_371 z1_mW_12 rfl ⟨Nat.le_of_ble_eq_true rfl, Nat.le_of_ble_eq_true rfl⟩ rfl rfl (Nat.le_of_ble_eq_true rfl) dX12_draws_42 ?_
  show V K 45 [some (.ref 0), some (.int a1), some (.int a2), some (.int a3), some (.int a4), some (.int a5), some (.int x2), some (.int r3), some (.int r4), none, none, none, none] [.int r6, .int r5] S7
  refine V_iadd (pc := 45) C dX12_draws_45 ?_
  refine V_istore (L' := [some (.ref 0), some (.int a1), some (.int a2), some (.int a3), some (.int a4), some (.int a5), some (.int x2), some (.int r3), some (.int r4), some (.int (r5 + r6)), none, none, none]) (pc := 46) C dX12_draws_46 (by decide) rfl ?_
  refine V_iload (pc := 48) C dX12_draws_48 rfl ?_
  refine V_iconst (pc := 50) C dX12_draws_50 kc_i_1 ?_
  refine V_icmp_le (tgt := 79) (pc := 51) C dX12_draws_51 (by decide) (fun hc => ?_) (fun hc => ?_)
  · have h := it_t hc h
    refine V_iconst (pc := 79) C dX12_draws_79 kc_i_0 ?_
    exact V_mask [true, true, true, true, true, true, true, true, true, true, false, false, false] (mX12_draws_J80 C  hR h)
  · have h := it_f hc h
    refine V_aload_n (pc := 54) C dX12_draws_54 rfl rfl ?_
    refine V_iload (pc := 55) C dX12_draws_55 rfl ?_
    refine V_iload_n (pc := 57) C dX12_draws_57 rfl rfl ?_
    refine V_iload_n (pc := 58) C dX12_draws_58 rfl rfl ?_
    refine V_iload (pc := 59) C dX12_draws_59 rfl ?_
    refine V_iload (pc := 61) C dX12_draws_61 rfl ?_
    refine V_iconst (pc := 63) C dX12_draws_63 kc_i_1 ?_
    obtain ⟨r15, er15, h⟩ := b1_some h
    refine V_callV (As := [.int x2, .int a2, .int a3, .int a4, .int a5, .int (1 : Int32)]) (pc := 64) C (mX12_levelAt _ er15) zm_X12_levelAt zi_X12_levelAt ml_RX12_351 z1_mW_12 rfl ⟨Nat.le_of_ble_eq_true rfl, Nat.le_of_ble_eq_true rfl⟩ rfl rfl (Nat.le_of_ble_eq_true rfl) dX12_draws_64 ?_
    show V K 67 [some (.ref 0), some (.int a1), some (.int a2), some (.int a3), some (.int a4), some (.int a5), some (.int x2), some (.int r3), some (.int r4), some (.int (r5 + r6)), none, none, none] [.int r15] S7
    refine V_aload_n (pc := 67) C dX12_draws_67 rfl rfl ?_
    refine V_iload (pc := 68) C dX12_draws_68 rfl ?_
    refine V_iload (pc := 70) C dX12_draws_70 rfl ?_
    obtain ⟨r16, S17, er16, h⟩ := b2_some h
    refine V_callV (As := [.int x2, .int r3]) (pc := 72) C (mX12_drawnNoise _ er16) zm_X12_drawnNoise zi_X12_drawnNoise ml_RX12_371 z1_mW_12 rfl ⟨Nat.le_of_ble_eq_true rfl, Nat.le_of_ble_eq_true rfl⟩ rfl rfl (Nat.le_of_ble_eq_true rfl) dX12_draws_72 ?_
    show V K 75 [some (.ref 0), some (.int a1), some (.int a2), some (.int a3), some (.int a4), some (.int a5), some (.int x2), some (.int r3), some (.int r4), some (.int (r5 + r6)), none, none, none] [.int r16, .int r15] S17
    refine V_iadd (pc := 75) C dX12_draws_75 ?_
    refine V_goto (tgt := 80) (pc := 76) C dX12_draws_76 (by decide) ?_
    exact V_mask [true, true, true, true, true, true, true, true, true, true, false, false, false] (mX12_draws_J80 C  hR h)
set_option maxRecDepth 100000 in
theorem mX12_trial (l : Launch) {S : zM} {a1 : Int32} {a2 : Int32} {a3 : Int32} {a4 : Int32} {a5 : Int32} {r : Int32} {S' : zM}  (h : gX12_trial S a1 a2 a3 a4 a5 = some (r, S')) : zMet l mW zS0 yX12_trial cX12_trial 7 (some .int) 4 109 [.ref 0, .int a1, .int a2, .int a3, .int a4, .int a5] S (some (.int r)) S' := by
  refine zmeth (by decide +kernel) (by rfl) (fun K hKl C hR => ?_)
  show V K 0 [some (.ref 0), some (.int a1), some (.int a2), some (.int a3), some (.int a4), some (.int a5), none] [] S
  unfold gX12_trial at h
  refine V_aload_n (pc := 0) C dX12_trial_0 rfl rfl ?_
  obtain ⟨S2, euS2, h⟩ := b1_some h
  refine V_callV (As := []) (pc := 1) C (mX12_good _ euS2) zm_X12_good zi_X12_good ml_RX12_211 z1_mW_12 rfl ⟨Nat.le_of_ble_eq_true rfl, Nat.le_of_ble_eq_true rfl⟩ rfl rfl (Nat.le_of_ble_eq_true rfl) dX12_trial_1 ?_
  show V K 4 [some (.ref 0), some (.int a1), some (.int a2), some (.int a3), some (.int a4), some (.int a5), none] [] S2
  refine V_aload_n (pc := 4) C dX12_trial_4 rfl rfl ?_
  refine V_iload_n (pc := 5) C dX12_trial_5 rfl rfl ?_
  refine V_iload_n (pc := 6) C dX12_trial_6 rfl rfl ?_
  refine V_iload_n (pc := 7) C dX12_trial_7 rfl rfl ?_
  refine V_iload (pc := 8) C dX12_trial_8 rfl ?_
  refine V_iload (pc := 10) C dX12_trial_10 rfl ?_
  obtain ⟨r3, er3, h⟩ := b1_some h
  refine V_callV (As := [.int a1, .int a2, .int a3, .int a4, .int a5]) (pc := 12) C (mX12_bars _ er3) zm_X12_bars zi_X12_bars ml_RX12_359 z1_mW_12 rfl ⟨Nat.le_of_ble_eq_true rfl, Nat.le_of_ble_eq_true rfl⟩ rfl rfl (Nat.le_of_ble_eq_true rfl) dX12_trial_12 ?_
  show V K 15 [some (.ref 0), some (.int a1), some (.int a2), some (.int a3), some (.int a4), some (.int a5), none] [.int r3] S2
  refine V_istore (L' := [some (.ref 0), some (.int a1), some (.int a2), some (.int a3), some (.int a4), some (.int a5), some (.int r3)]) (pc := 15) C dX12_trial_15 (by decide) rfl ?_
  refine V_iload (pc := 17) C dX12_trial_17 rfl ?_
  refine V_if_eq (tgt := 29) (pc := 19) C dX12_trial_19 (by decide) (fun hc => ?_) (fun hc => ?_)
  · have h := it_t hc h
    refine V_aload_n (pc := 29) C dX12_trial_29 rfl rfl ?_
    refine V_getI (pc := 30) C z1_mW_12 fl_RX12_226 (by decide) dX12_trial_30 ?_
    refine V_sipush (pc := 33) C dX12_trial_33 kc_s_1000 ?_
    refine V_icmp_ne (tgt := 47) (pc := 36) C dX12_trial_36 (by decide) (fun hc => ?_) (fun hc => ?_)
    · have h := it_f hc h
      refine V_aload_n (pc := 47) C dX12_trial_47 rfl rfl ?_
      refine V_iload_n (pc := 48) C dX12_trial_48 rfl rfl ?_
      refine V_iload_n (pc := 49) C dX12_trial_49 rfl rfl ?_
      refine V_iload_n (pc := 50) C dX12_trial_50 rfl rfl ?_
      refine V_iload (pc := 51) C dX12_trial_51 rfl ?_
      refine V_iload (pc := 53) C dX12_trial_53 rfl ?_
      obtain ⟨r4, S5, er4, h⟩ := b2_some h
      refine V_callV (As := [.int a1, .int a2, .int a3, .int a4, .int a5]) (pc := 55) C (mX12_draws _ er4) zm_X12_draws zi_X12_draws ml_RX12_378 z1_mW_12 rfl ⟨Nat.le_of_ble_eq_true rfl, Nat.le_of_ble_eq_true rfl⟩ rfl rfl (Nat.le_of_ble_eq_true rfl) dX12_trial_55 ?_
      show V K 58 [some (.ref 0), some (.int a1), some (.int a2), some (.int a3), some (.int a4), some (.int a5), some (.int r3)] [.int r4] S5
      cases h
      exact hR 58 _ ⟨_, rfl, rfl⟩ dX12_trial_58
    · have h := it_t hc h
      refine V_aload_n (pc := 39) C dX12_trial_39 rfl rfl ?_
      refine V_iconst (pc := 40) C dX12_trial_40 kc_i_3 ?_
      obtain ⟨r6, S7, er6, h⟩ := b2_some h
      refine V_callV (As := [.int (3 : Int32)]) (pc := 41) C (mX12_no _ er6) zm_X12_no zi_X12_no ml_RX12_214 z1_mW_12 rfl ⟨Nat.le_of_ble_eq_true rfl, Nat.le_of_ble_eq_true rfl⟩ rfl rfl (Nat.le_of_ble_eq_true rfl) dX12_trial_41 ?_
      show V K 44 [some (.ref 0), some (.int a1), some (.int a2), some (.int a3), some (.int a4), some (.int a5), some (.int r3)] [.int r6] S7
      refine V_goto (tgt := 58) (pc := 44) C dX12_trial_44 (by decide) ?_
      cases h
      exact hR 58 _ ⟨_, rfl, rfl⟩ dX12_trial_58
  · have h := it_f hc h
    refine V_aload_n (pc := 22) C dX12_trial_22 rfl rfl ?_
    refine V_iload (pc := 23) C dX12_trial_23 rfl ?_
    obtain ⟨r8, S9, er8, h⟩ := b2_some h
    refine V_callV (As := [.int r3]) (pc := 25) C (mX12_no _ er8) zm_X12_no zi_X12_no ml_RX12_214 z1_mW_12 rfl ⟨Nat.le_of_ble_eq_true rfl, Nat.le_of_ble_eq_true rfl⟩ rfl rfl (Nat.le_of_ble_eq_true rfl) dX12_trial_25 ?_
    show V K 28 [some (.ref 0), some (.int a1), some (.int a2), some (.int a3), some (.int a4), some (.int a5), some (.int r3)] [.int r8] S9
    cases h
    exact hR 28 _ ⟨_, rfl, rfl⟩ dX12_trial_28
set_option maxRecDepth 100000 in
theorem mX12_tell_J59 {K : zK} (C : zC K cX12_tell yX12_tell.cls 9 3 68 mW) {S : zM} {v1 : Int32} {v2 : Int32} {v3 : Int32} {v4 : Int32} {v5 : Int32} {v6 : Int32} {s0 : Int32} {r : Int32} {S' : zM}  (hR : zR K cX12_tell (some .int) S' (some (.int r))) (h : gX12_tell_J59 S v1 v2 v3 v4 v5 v6 s0 = some (r, S')) : V K 59 [some (.ref 0), some (.int v1), some (.int v2), some (.int v3), some (.int v4), some (.int v5), some (.int v6), none, none] [.int s0] S := by
  unfold gX12_tell_J59 at h
  refine V_istore (L' := [some (.ref 0), some (.int v1), some (.int v2), some (.int v3), some (.int v4), some (.int v5), some (.int v6), none, some (.int s0)]) (pc := 59) C dX12_tell_59 (by decide) rfl ?_
  refine V_iload (pc := 61) C dX12_tell_61 rfl ?_
  refine V_iconst (pc := 63) C dX12_tell_63 kc_i_0 ?_
  refine V_iload (pc := 64) C dX12_tell_64 rfl ?_
  obtain ⟨r4, er4, h⟩ := b1_some h
  refine V_callS (As := [.int v6, .int (0 : Int32), .int s0]) (pc := 66) C (mX12_within _ er4) zm_X12_within zs_X12_within ml_RX12_203 ⟨Nat.le_of_ble_eq_true rfl, Nat.le_of_ble_eq_true rfl⟩ rfl rfl (Nat.le_of_ble_eq_true rfl) dX12_tell_66 ?_
  show V K 69 [some (.ref 0), some (.int v1), some (.int v2), some (.int v3), some (.int v4), some (.int v5), some (.int v6), none, some (.int s0)] [.int r4] S
  refine V_if_ne (tgt := 78) (pc := 69) C dX12_tell_69 (by decide) (fun hc => ?_) (fun hc => ?_)
  · have h := it_f hc h
    refine V_aload_n (pc := 78) C dX12_tell_78 rfl rfl ?_
    refine V_getI (pc := 79) C z1_mW_12 fl_RX12_226 (by decide) dX12_tell_79 ?_
    refine V_sipush (pc := 82) C dX12_tell_82 kc_s_1000 ?_
    refine V_icmp_ne (tgt := 94) (pc := 85) C dX12_tell_85 (by decide) (fun hc => ?_) (fun hc => ?_)
    · have h := it_f hc h
      refine V_aload_n (pc := 94) C dX12_tell_94 rfl rfl ?_
      refine V_iload_n (pc := 95) C dX12_tell_95 rfl rfl ?_
      refine V_iload_n (pc := 96) C dX12_tell_96 rfl rfl ?_
      refine V_iload_n (pc := 97) C dX12_tell_97 rfl rfl ?_
      refine V_iload (pc := 98) C dX12_tell_98 rfl ?_
      refine V_iload (pc := 100) C dX12_tell_100 rfl ?_
      refine V_iload (pc := 102) C dX12_tell_102 rfl ?_
      obtain ⟨S6, euS6, h⟩ := b1_some h
      refine V_callV (As := [.int v1, .int v2, .int v3, .int v4, .int v5, .int v6]) (pc := 104) C (mX12_books _ euS6) zm_X12_books zi_X12_books ml_RX12_374 z1_mW_12 rfl ⟨Nat.le_of_ble_eq_true rfl, Nat.le_of_ble_eq_true rfl⟩ rfl rfl (Nat.le_of_ble_eq_true rfl) dX12_tell_104 ?_
      show V K 107 [some (.ref 0), some (.int v1), some (.int v2), some (.int v3), some (.int v4), some (.int v5), some (.int v6), none, some (.int s0)] [] S6
      refine V_aload_n (pc := 107) C dX12_tell_107 rfl rfl ?_
      refine V_getI (pc := 108) C z1_mW_12 fl_RX12_226 (by decide) dX12_tell_108 ?_
      cases h
      exact hR 111 _ ⟨_, rfl, rfl⟩ dX12_tell_111
    · have h := it_t hc h
      refine V_aload_n (pc := 88) C dX12_tell_88 rfl rfl ?_
      refine V_iconst (pc := 89) C dX12_tell_89 kc_i_3 ?_
      obtain ⟨r7, S8, er7, h⟩ := b2_some h
      refine V_callV (As := [.int (3 : Int32)]) (pc := 90) C (mX12_no _ er7) zm_X12_no zi_X12_no ml_RX12_214 z1_mW_12 rfl ⟨Nat.le_of_ble_eq_true rfl, Nat.le_of_ble_eq_true rfl⟩ rfl rfl (Nat.le_of_ble_eq_true rfl) dX12_tell_90 ?_
      show V K 93 [some (.ref 0), some (.int v1), some (.int v2), some (.int v3), some (.int v4), some (.int v5), some (.int v6), none, some (.int s0)] [.int r7] S8
      cases h
      exact hR 93 _ ⟨_, rfl, rfl⟩ dX12_tell_93
  · have h := it_t hc h
    refine V_aload_n (pc := 72) C dX12_tell_72 rfl rfl ?_
    refine V_iconst (pc := 73) C dX12_tell_73 kc_i_2 ?_
    obtain ⟨r9, S10, er9, h⟩ := b2_some h
    refine V_callV (As := [.int (2 : Int32)]) (pc := 74) C (mX12_no _ er9) zm_X12_no zi_X12_no ml_RX12_214 z1_mW_12 rfl ⟨Nat.le_of_ble_eq_true rfl, Nat.le_of_ble_eq_true rfl⟩ rfl rfl (Nat.le_of_ble_eq_true rfl) dX12_tell_74 ?_
    show V K 77 [some (.ref 0), some (.int v1), some (.int v2), some (.int v3), some (.int v4), some (.int v5), some (.int v6), none, some (.int s0)] [.int r9] S10
    cases h
    exact hR 77 _ ⟨_, rfl, rfl⟩ dX12_tell_77
set_option maxRecDepth 100000 in
theorem mX12_tell (l : Launch) {S : zM} {a1 : Int32} {a2 : Int32} {a3 : Int32} {a4 : Int32} {a5 : Int32} {a6 : Int32} {r : Int32} {S' : zM}  (h : gX12_tell S a1 a2 a3 a4 a5 a6 = some (r, S')) : zMet l mW zS0 yX12_tell cX12_tell 9 (some .int) 3 68 [.ref 0, .int a1, .int a2, .int a3, .int a4, .int a5, .int a6] S (some (.int r)) S' := by
  refine zmeth (by decide +kernel) (by rfl) (fun K hKl C hR => ?_)
  show V K 0 [some (.ref 0), some (.int a1), some (.int a2), some (.int a3), some (.int a4), some (.int a5), some (.int a6), none, none] [] S
  unfold gX12_tell at h
  refine V_aload_n (pc := 0) C dX12_tell_0 rfl rfl ?_
  obtain ⟨S2, euS2, h⟩ := b1_some h
  refine V_callV (As := []) (pc := 1) C (mX12_good _ euS2) zm_X12_good zi_X12_good ml_RX12_211 z1_mW_12 rfl ⟨Nat.le_of_ble_eq_true rfl, Nat.le_of_ble_eq_true rfl⟩ rfl rfl (Nat.le_of_ble_eq_true rfl) dX12_tell_1 ?_
  show V K 4 [some (.ref 0), some (.int a1), some (.int a2), some (.int a3), some (.int a4), some (.int a5), some (.int a6), none, none] [] S2
  refine V_aload_n (pc := 4) C dX12_tell_4 rfl rfl ?_
  refine V_iload_n (pc := 5) C dX12_tell_5 rfl rfl ?_
  refine V_iload_n (pc := 6) C dX12_tell_6 rfl rfl ?_
  refine V_iload_n (pc := 7) C dX12_tell_7 rfl rfl ?_
  refine V_iload (pc := 8) C dX12_tell_8 rfl ?_
  refine V_iload (pc := 10) C dX12_tell_10 rfl ?_
  obtain ⟨r3, er3, h⟩ := b1_some h
  refine V_callV (As := [.int a1, .int a2, .int a3, .int a4, .int a5]) (pc := 12) C (mX12_bars _ er3) zm_X12_bars zi_X12_bars ml_RX12_359 z1_mW_12 rfl ⟨Nat.le_of_ble_eq_true rfl, Nat.le_of_ble_eq_true rfl⟩ rfl rfl (Nat.le_of_ble_eq_true rfl) dX12_tell_12 ?_
  show V K 15 [some (.ref 0), some (.int a1), some (.int a2), some (.int a3), some (.int a4), some (.int a5), some (.int a6), none, none] [.int r3] S2
  refine V_istore (L' := [some (.ref 0), some (.int a1), some (.int a2), some (.int a3), some (.int a4), some (.int a5), some (.int a6), some (.int r3), none]) (pc := 15) C dX12_tell_15 (by decide) rfl ?_
  refine V_iload (pc := 17) C dX12_tell_17 rfl ?_
  refine V_if_eq (tgt := 29) (pc := 19) C dX12_tell_19 (by decide) (fun hc => ?_) (fun hc => ?_)
  · have h := it_t hc h
    refine V_iload_n (pc := 29) C dX12_tell_29 rfl rfl ?_
    refine V_if_eq (tgt := 38) (pc := 30) C dX12_tell_30 (by decide) (fun hc => ?_) (fun hc => ?_)
    · have h := it_t hc h
      refine V_iconst (pc := 38) C dX12_tell_38 kc_i_2 ?_
      refine V_goto (tgt := 59) (pc := 39) C dX12_tell_39 (by decide) ?_
      exact V_mask [true, true, true, true, true, true, true, false, false] (mX12_tell_J59 C  hR h)
    · have h := it_f hc h
      refine V_iload_n (pc := 33) C dX12_tell_33 rfl rfl ?_
      refine V_iconst (pc := 34) C dX12_tell_34 kc_i_2 ?_
      refine V_icmp_ne (tgt := 42) (pc := 35) C dX12_tell_35 (by decide) (fun hc => ?_) (fun hc => ?_)
      · have h := it_f hc h
        refine V_iload_n (pc := 42) C dX12_tell_42 rfl rfl ?_
        refine V_iconst (pc := 43) C dX12_tell_43 kc_i_1 ?_
        refine V_icmp_eq (tgt := 52) (pc := 44) C dX12_tell_44 (by decide) (fun hc => ?_) (fun hc => ?_)
        · have h := it_t hc h
          refine V_iconst (pc := 52) C dX12_tell_52 kc_i_1 ?_
          refine V_goto (tgt := 59) (pc := 53) C dX12_tell_53 (by decide) ?_
          exact V_mask [true, true, true, true, true, true, true, false, false] (mX12_tell_J59 C  hR h)
        · have h := it_f hc h
          refine V_iload_n (pc := 47) C dX12_tell_47 rfl rfl ?_
          refine V_iconst (pc := 48) C dX12_tell_48 kc_i_5 ?_
          refine V_icmp_ne (tgt := 56) (pc := 49) C dX12_tell_49 (by decide) (fun hc => ?_) (fun hc => ?_)
          · have h := it_f hc h
            refine V_ldcw (pc := 56) C dX12_tell_56 ki_RX12_381 ?_
            exact V_mask [true, true, true, true, true, true, true, false, false] (mX12_tell_J59 C  hR h)
          · have h := it_t hc h
            refine V_iconst (pc := 52) C dX12_tell_52 kc_i_1 ?_
            refine V_goto (tgt := 59) (pc := 53) C dX12_tell_53 (by decide) ?_
            exact V_mask [true, true, true, true, true, true, true, false, false] (mX12_tell_J59 C  hR h)
      · have h := it_t hc h
        refine V_iconst (pc := 38) C dX12_tell_38 kc_i_2 ?_
        refine V_goto (tgt := 59) (pc := 39) C dX12_tell_39 (by decide) ?_
        exact V_mask [true, true, true, true, true, true, true, false, false] (mX12_tell_J59 C  hR h)
  · have h := it_f hc h
    refine V_aload_n (pc := 22) C dX12_tell_22 rfl rfl ?_
    refine V_iload (pc := 23) C dX12_tell_23 rfl ?_
    obtain ⟨r11, S12, er11, h⟩ := b2_some h
    refine V_callV (As := [.int r3]) (pc := 25) C (mX12_no _ er11) zm_X12_no zi_X12_no ml_RX12_214 z1_mW_12 rfl ⟨Nat.le_of_ble_eq_true rfl, Nat.le_of_ble_eq_true rfl⟩ rfl rfl (Nat.le_of_ble_eq_true rfl) dX12_tell_25 ?_
    show V K 28 [some (.ref 0), some (.int a1), some (.int a2), some (.int a3), some (.int a4), some (.int a5), some (.int a6), some (.int r3), none] [.int r11] S12
    cases h
    exact hR 28 _ ⟨_, rfl, rfl⟩ dX12_tell_28
set_option maxRecDepth 100000 in
theorem mX12_run_L130 {K : zK} (C : zC K cX12_run yX12_run.cls 12 4 109 mW) {v1 : Int32} {v2 : Int32} {v3 : Int32} {v4 : Int32} {v5 : Int32} {v6 : Int32}  : ∀ (f : Nat) (S : zM) (v7 : Int32) (S' : zM), gX12_run_L130 v1 v2 v3 v4 v5 v6 f S v7 = some S' → V K 196 [some (.ref 0), none, some (.int v2), none, none, some (.int v5), some (.int v6), none, none, none, none, none] [] S' → V K 130 [some (.ref 0), some (.int v1), some (.int v2), some (.int v3), some (.int v4), some (.int v5), some (.int v6), some (.int v7), none, none, none, none] [] S := by
  intro f
  induction f with
  | zero => intro S v7 S' h hx; cases h
  | succ n ih =>
    intro S v7 S' h hx
    unfold gX12_run_L130 at h
    refine V_iload (pc := 130) C dX12_run_130 rfl ?_
    refine V_iload (pc := 132) C dX12_run_132 rfl ?_
    refine V_icmp_ge (tgt := 196) (pc := 134) C dX12_run_134 (by decide) (fun hc => ?_) (fun hc => ?_)
    · have h := it_t hc h
      cases h
      exact V_mask [true, false, true, false, false, true, true, false, false, false, false, false] hx
    · have h := it_f hc h
      refine V_iload (pc := 137) C dX12_run_137 rfl ?_
      refine V_iload (pc := 139) C dX12_run_139 rfl ?_
      obtain ⟨k19, h⟩ := ck_some h
      refine V_idiv (pc := 141) C dX12_run_141 (of_decide_eq_true k19) ?_
      refine V_istore (L' := [some (.ref 0), some (.int v1), some (.int v2), some (.int v3), some (.int v4), some (.int v5), some (.int v6), some (.int v7), some (.int (v7 / v4)), none, none, none]) (pc := 142) C dX12_run_142 (by decide) rfl ?_
      refine V_aload_n (pc := 144) C dX12_run_144 rfl rfl ?_
      refine V_getF (p1 := 14) (pc := 145) C z1_mW_12 fl_RX12_53 rfl (zf_mW_12_28 z1_mW_12) dX12_run_145 ?_
      refine V_iload (pc := 148) C dX12_run_148 rfl ?_
      refine V_aload_n (pc := 150) C dX12_run_150 rfl rfl ?_
      refine V_getF (p1 := 3) (pc := 151) C z1_mW_12 fl_RX12_20 rfl (zf_mW_12_15 z1_mW_12) dX12_run_151 ?_
      refine V_sipush (pc := 154) C dX12_run_154 kc_s_202 ?_
      refine V_iload_n (pc := 157) C dX12_run_157 rfl rfl ?_
      refine V_iadd (pc := 158) C dX12_run_158 ?_
      obtain ⟨k20, h⟩ := ck_some h
      refine V_iald (pc := 159) C (za_mW_12_15 z1_mW_12) k20 dX12_run_159 ?_
      refine V_aload_n (pc := 160) C dX12_run_160 rfl rfl ?_
      refine V_getF (p1 := 3) (pc := 161) C z1_mW_12 fl_RX12_20 rfl (zf_mW_12_15 z1_mW_12) dX12_run_161 ?_
      refine V_sipush (pc := 164) C dX12_run_164 kc_s_210 ?_
      refine V_iload_n (pc := 167) C dX12_run_167 rfl rfl ?_
      refine V_iadd (pc := 168) C dX12_run_168 ?_
      obtain ⟨k21, h⟩ := ck_some h
      refine V_iald (pc := 169) C (za_mW_12_15 z1_mW_12) k21 dX12_run_169 ?_
      refine V_iload (pc := 170) C dX12_run_170 rfl ?_
      refine V_iconst (pc := 172) C dX12_run_172 kc_i_1 ?_
      refine V_icmp_ne (tgt := 185) (pc := 173) C dX12_run_173 (by decide) (fun hc => ?_) (fun hc => ?_)
      · have h := it_f hc h
        refine V_iload (pc := 185) C dX12_run_185 rfl ?_
        refine V_imul (pc := 187) C dX12_run_187 ?_
        refine V_iadd (pc := 188) C dX12_run_188 ?_
        obtain ⟨k22, h⟩ := ck_some h
        refine V_iast (pc := 189) C (za_mW_12_28 z1_mW_12) k22 dX12_run_189 ?_
        obtain ⟨S23, eS23, h⟩ := lt_some h
        refine V_nmS eS23 ?_
        refine V_iinc (L' := [some (.ref 0), some (.int v1), some (.int v2), some (.int v3), some (.int v4), some (.int v5), some (.int v6), some (.int (v7 + (1 : Int32))), some (.int (v7 / v4)), none, none, none]) (v := (v7 + (1 : Int32))) (pc := 190) C dX12_run_190 rfl (congrArg (v7 + ·) kc_i_1) (by decide) rfl ?_
        refine V_goto (tgt := 130) (pc := 193) C dX12_run_193 (by decide) ?_
        exact V_mask [true, true, true, true, true, true, true, true, false, false, false, false] (ih _ _ _ h hx)
      · have h := it_t hc h
        refine V_iload_n (pc := 176) C dX12_run_176 rfl rfl ?_
        refine V_iconst (pc := 177) C dX12_run_177 kc_i_1 ?_
        refine V_isub (pc := 178) C dX12_run_178 ?_
        refine V_iload (pc := 179) C dX12_run_179 rfl ?_
        refine V_isub (pc := 181) C dX12_run_181 ?_
        refine V_goto (tgt := 187) (pc := 182) C dX12_run_182 (by decide) ?_
        refine V_imul (pc := 187) C dX12_run_187 ?_
        refine V_iadd (pc := 188) C dX12_run_188 ?_
        obtain ⟨k24, h⟩ := ck_some h
        refine V_iast (pc := 189) C (za_mW_12_28 z1_mW_12) k24 dX12_run_189 ?_
        obtain ⟨S25, eS25, h⟩ := lt_some h
        refine V_nmS eS25 ?_
        refine V_iinc (L' := [some (.ref 0), some (.int v1), some (.int v2), some (.int v3), some (.int v4), some (.int v5), some (.int v6), some (.int (v7 + (1 : Int32))), some (.int (v7 / v4)), none, none, none]) (v := (v7 + (1 : Int32))) (pc := 190) C dX12_run_190 rfl (congrArg (v7 + ·) kc_i_1) (by decide) rfl ?_
        refine V_goto (tgt := 130) (pc := 193) C dX12_run_193 (by decide) ?_
        exact V_mask [true, true, true, true, true, true, true, true, false, false, false, false] (ih _ _ _ h hx)
set_option maxRecDepth 100000 in
theorem mX12_run_L239 {K : zK} (C : zC K cX12_run yX12_run.cls 12 4 109 mW) {v2 : Int32} {v6 : Int32} {v7 : Int32} {v8 : Int32} {v10 : Int32}  : ∀ (f : Nat) (S : zM) (v11 : Int32) (S' : zM), gX12_run_L239 v2 v6 v7 v8 v10 f S v11 = some S' → V K 270 [some (.ref 0), none, some (.int v2), none, none, none, some (.int v6), some (.int v7), some (.int v8), none, some (.int v10), none] [] S' → V K 239 [some (.ref 0), none, some (.int v2), none, none, none, some (.int v6), some (.int v7), some (.int v8), none, some (.int v10), some (.int v11)] [] S := by
  intro f
  induction f with
  | zero => intro S v11 S' h hx; cases h
  | succ n ih =>
    intro S v11 S' h hx
    unfold gX12_run_L239 at h
    refine V_iload (pc := 239) C dX12_run_239 rfl ?_
    refine V_iload (pc := 241) C dX12_run_241 rfl ?_
    refine V_iconst (pc := 243) C dX12_run_243 kc_i_1 ?_
    refine V_isub (pc := 244) C dX12_run_244 ?_
    refine V_icmp_ge (tgt := 270) (pc := 245) C dX12_run_245 (by decide) (fun hc => ?_) (fun hc => ?_)
    · have h := it_t hc h
      cases h
      exact V_mask [true, false, true, false, false, false, true, true, true, false, true, false] hx
    · have h := it_f hc h
      refine V_aload_n (pc := 248) C dX12_run_248 rfl rfl ?_
      refine V_getF (p1 := 14) (pc := 249) C z1_mW_12 fl_RX12_53 rfl (zf_mW_12_28 z1_mW_12) dX12_run_249 ?_
      refine V_iload (pc := 252) C dX12_run_252 rfl ?_
      refine V_aload_n (pc := 254) C dX12_run_254 rfl rfl ?_
      refine V_getF (p1 := 14) (pc := 255) C z1_mW_12 fl_RX12_53 rfl (zf_mW_12_28 z1_mW_12) dX12_run_255 ?_
      refine V_iload (pc := 258) C dX12_run_258 rfl ?_
      refine V_iconst (pc := 260) C dX12_run_260 kc_i_1 ?_
      refine V_iadd (pc := 261) C dX12_run_261 ?_
      obtain ⟨k28, h⟩ := ck_some h
      refine V_iald (pc := 262) C (za_mW_12_28 z1_mW_12) k28 dX12_run_262 ?_
      obtain ⟨k29, h⟩ := ck_some h
      refine V_iast (pc := 263) C (za_mW_12_28 z1_mW_12) k29 dX12_run_263 ?_
      refine V_iinc (L' := [some (.ref 0), none, some (.int v2), none, none, none, some (.int v6), some (.int v7), some (.int v8), none, some (.int v10), some (.int (v11 + (1 : Int32)))]) (v := (v11 + (1 : Int32))) (pc := 264) C dX12_run_264 rfl (congrArg (v11 + ·) kc_i_1) (by decide) rfl ?_
      refine V_goto (tgt := 239) (pc := 267) C dX12_run_267 (by decide) ?_
      exact V_mask [true, false, true, false, false, false, true, true, true, false, true, true] (ih _ _ _ h hx)
set_option maxRecDepth 100000 in
theorem mX12_run_L203 {K : zK} (C : zC K cX12_run yX12_run.cls 12 4 109 mW) {v2 : Int32} {v6 : Int32}  : ∀ (f : Nat) (S : zM) (v7 : Int32) (v8 : Int32) (r : Int32) (S' : zM), gX12_run_L203 v2 v6 f S v7 v8 = some (r, S') → zR K cX12_run (some .int) S' (some (.int r)) → V K 203 [some (.ref 0), none, some (.int v2), none, none, none, some (.int v6), some (.int v7), some (.int v8), none, none, none] [] S := by
  intro f
  induction f with
  | zero => intro S v7 v8 r S' h hR; cases h
  | succ n ih =>
    intro S v7 v8 r S' h hR
    unfold gX12_run_L203 at h
    refine V_iload (pc := 203) C dX12_run_203 rfl ?_
    refine V_if_le (tgt := 291) (pc := 205) C dX12_run_205 (by decide) (fun hc => ?_) (fun hc => ?_)
    · have h := it_t hc h
      refine V_iload (pc := 291) C dX12_run_291 rfl ?_
      cases h
      exact hR 293 _ ⟨_, rfl, rfl⟩ dX12_run_293
    · have h := it_f hc h
      refine V_iload (pc := 208) C dX12_run_208 rfl ?_
      refine V_iconst (pc := 210) C dX12_run_210 kc_i_2 ?_
      refine V_icmp_ne (tgt := 223) (pc := 211) C dX12_run_211 (by decide) (fun hc => ?_) (fun hc => ?_)
      · have h := it_f hc h
        refine V_iconst (pc := 223) C dX12_run_223 kc_i_0 ?_
        refine V_istore (L' := [some (.ref 0), none, some (.int v2), none, none, none, some (.int v6), some (.int v7), some (.int v8), some (.int (0 : Int32)), none, none]) (pc := 224) C dX12_run_224 (by decide) rfl ?_
        refine V_aload_n (pc := 226) C dX12_run_226 rfl rfl ?_
        refine V_getF (p1 := 14) (pc := 227) C z1_mW_12 fl_RX12_53 rfl (zf_mW_12_28 z1_mW_12) dX12_run_227 ?_
        refine V_iload (pc := 230) C dX12_run_230 rfl ?_
        obtain ⟨k27, h⟩ := ck_some h
        refine V_iald (pc := 232) C (za_mW_12_28 z1_mW_12) k27 dX12_run_232 ?_
        refine V_istore (L' := [some (.ref 0), none, some (.int v2), none, none, none, some (.int v6), some (.int v7), some (.int v8), some (.int (0 : Int32)), some (.int (gI S 14 (ix (0 : Int32)))), none]) (pc := 233) C dX12_run_233 (by decide) rfl ?_
        refine V_iload (pc := 235) C dX12_run_235 rfl ?_
        refine V_istore (L' := [some (.ref 0), none, some (.int v2), none, none, none, some (.int v6), some (.int v7), some (.int v8), some (.int (0 : Int32)), some (.int (gI S 14 (ix (0 : Int32)))), some (.int (0 : Int32))]) (pc := 237) C dX12_run_237 (by decide) rfl ?_
        obtain ⟨S30, e239, h⟩ := b1_some h
        refine V_mask [true, false, true, false, false, false, true, true, true, false, true, true] (mX12_run_L239 C  FU _ _ _ e239 ?_)
        refine V_iload (pc := 270) C dX12_run_270 rfl ?_
        refine V_aload_n (pc := 272) C dX12_run_272 rfl rfl ?_
        refine V_iload_n (pc := 273) C dX12_run_273 rfl rfl ?_
        refine V_iconst (pc := 274) C dX12_run_274 kc_i_1 ?_
        refine V_iload (pc := 275) C dX12_run_275 rfl ?_
        refine V_iconst (pc := 277) C dX12_run_277 kc_i_0 ?_
        refine V_iconst (pc := 278) C dX12_run_278 kc_i_0 ?_
        obtain ⟨r31, S32, er31, h⟩ := b2_some h
        refine V_callV (As := [.int v2, .int (1 : Int32), .int (gI S 14 (ix (0 : Int32))), .int (0 : Int32), .int (0 : Int32)]) (pc := 279) C (mX12_draws _ er31) zm_X12_draws zi_X12_draws ml_RX12_378 z1_mW_12 rfl ⟨Nat.le_of_ble_eq_true rfl, Nat.le_of_ble_eq_true rfl⟩ rfl rfl (Nat.le_of_ble_eq_true rfl) dX12_run_279 ?_
        show V K 282 [some (.ref 0), none, some (.int v2), none, none, none, some (.int v6), some (.int v7), some (.int v8), none, some (.int (gI S 14 (ix (0 : Int32)))), none] [.int r31, .int v7] S32
        refine V_iadd (pc := 282) C dX12_run_282 ?_
        refine V_istore (L' := [some (.ref 0), none, some (.int v2), none, none, none, some (.int v6), some (.int (v7 + r31)), some (.int v8), none, some (.int (gI S 14 (ix (0 : Int32)))), none]) (pc := 283) C dX12_run_283 (by decide) rfl ?_
        refine V_iinc (L' := [some (.ref 0), none, some (.int v2), none, none, none, some (.int v6), some (.int (v7 + r31)), some (.int (v8 + (-1 : Int32))), none, some (.int (gI S 14 (ix (0 : Int32)))), none]) (v := (v8 + (-1 : Int32))) (pc := 285) C dX12_run_285 rfl (congrArg (v8 + ·) kc_i_m1) (by decide) rfl ?_
        refine V_goto (tgt := 203) (pc := 288) C dX12_run_288 (by decide) ?_
        exact V_mask [true, false, true, false, false, false, true, true, true, false, false, false] (ih _ _ _ _ _ h hR)
      · have h := it_t hc h
        refine V_aload_n (pc := 214) C dX12_run_214 rfl rfl ?_
        refine V_iload (pc := 215) C dX12_run_215 rfl ?_
        obtain ⟨r33, S34, er33, h⟩ := b2_some h
        refine V_callV (As := [.int v8]) (pc := 217) C (mX12_drawn _ er33) zm_X12_drawn zi_X12_drawn ml_RX12_368 z1_mW_12 rfl ⟨Nat.le_of_ble_eq_true rfl, Nat.le_of_ble_eq_true rfl⟩ rfl rfl (Nat.le_of_ble_eq_true rfl) dX12_run_217 ?_
        show V K 220 [some (.ref 0), none, some (.int v2), none, none, none, some (.int v6), some (.int v7), some (.int v8), none, none, none] [.int r33] S34
        refine V_goto (tgt := 224) (pc := 220) C dX12_run_220 (by decide) ?_
        refine V_istore (L' := [some (.ref 0), none, some (.int v2), none, none, none, some (.int v6), some (.int v7), some (.int v8), some (.int r33), none, none]) (pc := 224) C dX12_run_224 (by decide) rfl ?_
        refine V_aload_n (pc := 226) C dX12_run_226 rfl rfl ?_
        refine V_getF (p1 := 14) (pc := 227) C z1_mW_12 fl_RX12_53 rfl (zf_mW_12_28 z1_mW_12) dX12_run_227 ?_
        refine V_iload (pc := 230) C dX12_run_230 rfl ?_
        obtain ⟨k35, h⟩ := ck_some h
        refine V_iald (pc := 232) C (za_mW_12_28 z1_mW_12) k35 dX12_run_232 ?_
        refine V_istore (L' := [some (.ref 0), none, some (.int v2), none, none, none, some (.int v6), some (.int v7), some (.int v8), some (.int r33), some (.int (gI S34 14 (ix r33))), none]) (pc := 233) C dX12_run_233 (by decide) rfl ?_
        refine V_iload (pc := 235) C dX12_run_235 rfl ?_
        refine V_istore (L' := [some (.ref 0), none, some (.int v2), none, none, none, some (.int v6), some (.int v7), some (.int v8), some (.int r33), some (.int (gI S34 14 (ix r33))), some (.int r33)]) (pc := 237) C dX12_run_237 (by decide) rfl ?_
        obtain ⟨S38, e239, h⟩ := b1_some h
        refine V_mask [true, false, true, false, false, false, true, true, true, false, true, true] (mX12_run_L239 C  FU _ _ _ e239 ?_)
        refine V_iload (pc := 270) C dX12_run_270 rfl ?_
        refine V_aload_n (pc := 272) C dX12_run_272 rfl rfl ?_
        refine V_iload_n (pc := 273) C dX12_run_273 rfl rfl ?_
        refine V_iconst (pc := 274) C dX12_run_274 kc_i_1 ?_
        refine V_iload (pc := 275) C dX12_run_275 rfl ?_
        refine V_iconst (pc := 277) C dX12_run_277 kc_i_0 ?_
        refine V_iconst (pc := 278) C dX12_run_278 kc_i_0 ?_
        obtain ⟨r39, S40, er39, h⟩ := b2_some h
        refine V_callV (As := [.int v2, .int (1 : Int32), .int (gI S34 14 (ix r33)), .int (0 : Int32), .int (0 : Int32)]) (pc := 279) C (mX12_draws _ er39) zm_X12_draws zi_X12_draws ml_RX12_378 z1_mW_12 rfl ⟨Nat.le_of_ble_eq_true rfl, Nat.le_of_ble_eq_true rfl⟩ rfl rfl (Nat.le_of_ble_eq_true rfl) dX12_run_279 ?_
        show V K 282 [some (.ref 0), none, some (.int v2), none, none, none, some (.int v6), some (.int v7), some (.int v8), none, some (.int (gI S34 14 (ix r33))), none] [.int r39, .int v7] S40
        refine V_iadd (pc := 282) C dX12_run_282 ?_
        refine V_istore (L' := [some (.ref 0), none, some (.int v2), none, none, none, some (.int v6), some (.int (v7 + r39)), some (.int v8), none, some (.int (gI S34 14 (ix r33))), none]) (pc := 283) C dX12_run_283 (by decide) rfl ?_
        refine V_iinc (L' := [some (.ref 0), none, some (.int v2), none, none, none, some (.int v6), some (.int (v7 + r39)), some (.int (v8 + (-1 : Int32))), none, some (.int (gI S34 14 (ix r33))), none]) (v := (v8 + (-1 : Int32))) (pc := 285) C dX12_run_285 rfl (congrArg (v8 + ·) kc_i_m1) (by decide) rfl ?_
        refine V_goto (tgt := 203) (pc := 288) C dX12_run_288 (by decide) ?_
        exact V_mask [true, false, true, false, false, false, true, true, true, false, false, false] (ih _ _ _ _ _ h hR)
set_option maxRecDepth 100000 in
theorem mX12_run (l : Launch) {S : zM} {a1 : Int32} {a2 : Int32} {r : Int32} {S' : zM}  (h : gX12_run S a1 a2 = some (r, S')) : zMet l mW zS0 yX12_run cX12_run 12 (some .int) 4 109 [.ref 0, .int a1, .int a2] S (some (.int r)) S' := by
  refine zmeth (by decide +kernel) (by rfl) (fun K hKl C hR => ?_)
  show V K 0 [some (.ref 0), some (.int a1), some (.int a2), none, none, none, none, none, none, none, none, none] [] S
  unfold gX12_run at h
  refine V_aload_n (pc := 0) C dX12_run_0 rfl rfl ?_
  obtain ⟨S2, euS2, h⟩ := b1_some h
  refine V_callV (As := []) (pc := 1) C (mX12_good _ euS2) zm_X12_good zi_X12_good ml_RX12_211 z1_mW_12 rfl ⟨Nat.le_of_ble_eq_true rfl, Nat.le_of_ble_eq_true rfl⟩ rfl rfl (Nat.le_of_ble_eq_true rfl) dX12_run_1 ?_
  show V K 4 [some (.ref 0), some (.int a1), some (.int a2), none, none, none, none, none, none, none, none, none] [] S2
  refine V_aload_n (pc := 4) C dX12_run_4 rfl rfl ?_
  refine V_getI (pc := 5) C z1_mW_12 fl_RX12_220 (by decide) dX12_run_5 ?_
  refine V_if_eq (tgt := 37) (pc := 8) C dX12_run_8 (by decide) (fun hc => ?_) (fun hc => ?_)
  · have h := it_t hc h
    refine V_aload_n (pc := 37) C dX12_run_37 rfl rfl ?_
    refine V_iconst (pc := 38) C dX12_run_38 kc_i_1 ?_
    obtain ⟨r3, S4, er3, h⟩ := b2_some h
    refine V_callV (As := [.int (1 : Int32)]) (pc := 39) C (mX12_no _ er3) zm_X12_no zi_X12_no ml_RX12_214 z1_mW_12 rfl ⟨Nat.le_of_ble_eq_true rfl, Nat.le_of_ble_eq_true rfl⟩ rfl rfl (Nat.le_of_ble_eq_true rfl) dX12_run_39 ?_
    show V K 42 [some (.ref 0), some (.int a1), some (.int a2), none, none, none, none, none, none, none, none, none] [.int r3] S4
    cases h
    exact hR 42 _ ⟨_, rfl, rfl⟩ dX12_run_42
  · have h := it_f hc h
    refine V_iload_n (pc := 11) C dX12_run_11 rfl rfl ?_
    refine V_iconst (pc := 12) C dX12_run_12 kc_i_0 ?_
    refine V_aload_n (pc := 13) C dX12_run_13 rfl rfl ?_
    refine V_getF (p1 := 3) (pc := 14) C z1_mW_12 fl_RX12_20 rfl (zf_mW_12_15 z1_mW_12) dX12_run_14 ?_
    refine V_sipush (pc := 17) C dX12_run_17 kc_s_240 ?_
    obtain ⟨k5, h⟩ := ck_some h
    refine V_iald (pc := 20) C (za_mW_12_15 z1_mW_12) k5 dX12_run_20 ?_
    refine V_iconst (pc := 21) C dX12_run_21 kc_i_1 ?_
    refine V_isub (pc := 22) C dX12_run_22 ?_
    obtain ⟨r6, er6, h⟩ := b1_some h
    refine V_callS (As := [.int a1, .int (0 : Int32), .int ((gI S2 3 (ix (240 : Int32))) - (1 : Int32))]) (pc := 23) C (mX12_within _ er6) zm_X12_within zs_X12_within ml_RX12_203 ⟨Nat.le_of_ble_eq_true rfl, Nat.le_of_ble_eq_true rfl⟩ rfl rfl (Nat.le_of_ble_eq_true rfl) dX12_run_23 ?_
    show V K 26 [some (.ref 0), some (.int a1), some (.int a2), none, none, none, none, none, none, none, none, none] [.int r6] S2
    refine V_if_eq (tgt := 37) (pc := 26) C dX12_run_26 (by decide) (fun hc => ?_) (fun hc => ?_)
    · have h := it_t hc h
      refine V_aload_n (pc := 37) C dX12_run_37 rfl rfl ?_
      refine V_iconst (pc := 38) C dX12_run_38 kc_i_1 ?_
      obtain ⟨r7, S8, er7, h⟩ := b2_some h
      refine V_callV (As := [.int (1 : Int32)]) (pc := 39) C (mX12_no _ er7) zm_X12_no zi_X12_no ml_RX12_214 z1_mW_12 rfl ⟨Nat.le_of_ble_eq_true rfl, Nat.le_of_ble_eq_true rfl⟩ rfl rfl (Nat.le_of_ble_eq_true rfl) dX12_run_39 ?_
      show V K 42 [some (.ref 0), some (.int a1), some (.int a2), none, none, none, none, none, none, none, none, none] [.int r7] S8
      cases h
      exact hR 42 _ ⟨_, rfl, rfl⟩ dX12_run_42
    · have h := it_f hc h
      refine V_aload_n (pc := 29) C dX12_run_29 rfl rfl ?_
      refine V_iload_n (pc := 30) C dX12_run_30 rfl rfl ?_
      obtain ⟨r9, er9, h⟩ := b1_some h
      refine V_callV (As := [.int a2]) (pc := 31) C (mX12_isSayer _ er9) zm_X12_isSayer zi_X12_isSayer ml_RX12_315 z1_mW_12 rfl ⟨Nat.le_of_ble_eq_true rfl, Nat.le_of_ble_eq_true rfl⟩ rfl rfl (Nat.le_of_ble_eq_true rfl) dX12_run_31 ?_
      show V K 34 [some (.ref 0), some (.int a1), some (.int a2), none, none, none, none, none, none, none, none, none] [.int r9] S2
      refine V_if_ne (tgt := 43) (pc := 34) C dX12_run_34 (by decide) (fun hc => ?_) (fun hc => ?_)
      · have h := it_f hc h
        refine V_aload_n (pc := 43) C dX12_run_43 rfl rfl ?_
        refine V_getF (p1 := 3) (pc := 44) C z1_mW_12 fl_RX12_20 rfl (zf_mW_12_15 z1_mW_12) dX12_run_44 ?_
        refine V_sipush (pc := 47) C dX12_run_47 kc_s_206 ?_
        refine V_iload_n (pc := 50) C dX12_run_50 rfl rfl ?_
        refine V_iadd (pc := 51) C dX12_run_51 ?_
        obtain ⟨k10, h⟩ := ck_some h
        refine V_iald (pc := 52) C (za_mW_12_15 z1_mW_12) k10 dX12_run_52 ?_
        refine V_aload_n (pc := 53) C dX12_run_53 rfl rfl ?_
        refine V_getF (p1 := 3) (pc := 54) C z1_mW_12 fl_RX12_20 rfl (zf_mW_12_15 z1_mW_12) dX12_run_54 ?_
        refine V_sipush (pc := 57) C dX12_run_57 kc_s_202 ?_
        refine V_iload_n (pc := 60) C dX12_run_60 rfl rfl ?_
        refine V_iadd (pc := 61) C dX12_run_61 ?_
        obtain ⟨k11, h⟩ := ck_some h
        refine V_iald (pc := 62) C (za_mW_12_15 z1_mW_12) k11 dX12_run_62 ?_
        refine V_isub (pc := 63) C dX12_run_63 ?_
        refine V_aload_n (pc := 64) C dX12_run_64 rfl rfl ?_
        refine V_getF (p1 := 3) (pc := 65) C z1_mW_12 fl_RX12_20 rfl (zf_mW_12_15 z1_mW_12) dX12_run_65 ?_
        refine V_sipush (pc := 68) C dX12_run_68 kc_s_210 ?_
        refine V_iload_n (pc := 71) C dX12_run_71 rfl rfl ?_
        refine V_iadd (pc := 72) C dX12_run_72 ?_
        obtain ⟨k12, h⟩ := ck_some h
        refine V_iald (pc := 73) C (za_mW_12_15 z1_mW_12) k12 dX12_run_73 ?_
        obtain ⟨k13, h⟩ := ck_some h
        refine V_idiv (pc := 74) C dX12_run_74 (of_decide_eq_true k13) ?_
        refine V_iconst (pc := 75) C dX12_run_75 kc_i_1 ?_
        refine V_iadd (pc := 76) C dX12_run_76 ?_
        obtain ⟨x14, ex14, h⟩ := lt_some h
        refine V_nmI ex14 ?_
        refine V_istore_n (L' := [some (.ref 0), some (.int a1), some (.int a2), some (.int x14), none, none, none, none, none, none, none, none]) (pc := 77) C dX12_run_77 rfl (by decide) rfl ?_
        refine V_aload_n (pc := 78) C dX12_run_78 rfl rfl ?_
        refine V_getF (p1 := 3) (pc := 79) C z1_mW_12 fl_RX12_20 rfl (zf_mW_12_15 z1_mW_12) dX12_run_79 ?_
        refine V_sipush (pc := 82) C dX12_run_82 kc_s_214 ?_
        refine V_iload_n (pc := 85) C dX12_run_85 rfl rfl ?_
        refine V_iadd (pc := 86) C dX12_run_86 ?_
        obtain ⟨k15, h⟩ := ck_some h
        refine V_iald (pc := 87) C (za_mW_12_15 z1_mW_12) k15 dX12_run_87 ?_
        obtain ⟨x16, ex16, h⟩ := lt_some h
        refine V_nmI ex16 ?_
        refine V_istore (L' := [some (.ref 0), some (.int a1), some (.int a2), some (.int x14), some (.int x16), none, none, none, none, none, none, none]) (pc := 88) C dX12_run_88 (by decide) rfl ?_
        refine V_iload_n (pc := 90) C dX12_run_90 rfl rfl ?_
        refine V_iload (pc := 91) C dX12_run_91 rfl ?_
        refine V_imul (pc := 93) C dX12_run_93 ?_
        refine V_istore (L' := [some (.ref 0), some (.int a1), some (.int a2), some (.int x14), some (.int x16), some (.int (x14 * x16)), none, none, none, none, none, none]) (pc := 94) C dX12_run_94 (by decide) rfl ?_
        refine V_aload_n (pc := 96) C dX12_run_96 rfl rfl ?_
        refine V_getI (pc := 97) C z1_mW_12 fl_RX12_226 (by decide) dX12_run_97 ?_
        refine V_iload (pc := 100) C dX12_run_100 rfl ?_
        refine V_iadd (pc := 102) C dX12_run_102 ?_
        refine V_sipush (pc := 103) C dX12_run_103 kc_s_1000 ?_
        refine V_icmp_le (tgt := 115) (pc := 106) C dX12_run_106 (by decide) (fun hc => ?_) (fun hc => ?_)
        · have h := it_t hc h
          refine V_aload_n (pc := 115) C dX12_run_115 rfl rfl ?_
          refine V_getF (p1 := 3) (pc := 116) C z1_mW_12 fl_RX12_20 rfl (zf_mW_12_15 z1_mW_12) dX12_run_116 ?_
          refine V_sipush (pc := 119) C dX12_run_119 kc_s_198 ?_
          refine V_iload_n (pc := 122) C dX12_run_122 rfl rfl ?_
          refine V_iadd (pc := 123) C dX12_run_123 ?_
          obtain ⟨k17, h⟩ := ck_some h
          refine V_iald (pc := 124) C (za_mW_12_15 z1_mW_12) k17 dX12_run_124 ?_
          obtain ⟨x18, ex18, h⟩ := lt_some h
          refine V_nmI ex18 ?_
          refine V_istore (L' := [some (.ref 0), some (.int a1), some (.int a2), some (.int x14), some (.int x16), some (.int (x14 * x16)), some (.int x18), none, none, none, none, none]) (pc := 125) C dX12_run_125 (by decide) rfl ?_
          refine V_iconst (pc := 127) C dX12_run_127 kc_i_0 ?_
          refine V_istore (L' := [some (.ref 0), some (.int a1), some (.int a2), some (.int x14), some (.int x16), some (.int (x14 * x16)), some (.int x18), some (.int (0 : Int32)), none, none, none, none]) (pc := 128) C dX12_run_128 (by decide) rfl ?_
          obtain ⟨S26, e130, h⟩ := b1_some h
          refine V_mask [true, true, true, true, true, true, true, true, false, false, false, false] (mX12_run_L130 C  FU _ _ _ e130 ?_)
          refine V_iconst (pc := 196) C dX12_run_196 kc_i_0 ?_
          refine V_istore (L' := [some (.ref 0), none, some (.int a2), none, none, some (.int (x14 * x16)), some (.int x18), some (.int (0 : Int32)), none, none, none, none]) (pc := 197) C dX12_run_197 (by decide) rfl ?_
          refine V_iload (pc := 199) C dX12_run_199 rfl ?_
          refine V_istore (L' := [some (.ref 0), none, some (.int a2), none, none, some (.int (x14 * x16)), some (.int x18), some (.int (0 : Int32)), some (.int (x14 * x16)), none, none, none]) (pc := 201) C dX12_run_201 (by decide) rfl ?_
          exact V_mask [true, false, true, false, false, false, true, true, true, false, false, false] (mX12_run_L203 C  FU _ _ _ _ _ h hR)
        · have h := it_f hc h
          refine V_aload_n (pc := 109) C dX12_run_109 rfl rfl ?_
          refine V_iconst (pc := 110) C dX12_run_110 kc_i_3 ?_
          obtain ⟨r41, S42, er41, h⟩ := b2_some h
          refine V_callV (As := [.int (3 : Int32)]) (pc := 111) C (mX12_no _ er41) zm_X12_no zi_X12_no ml_RX12_214 z1_mW_12 rfl ⟨Nat.le_of_ble_eq_true rfl, Nat.le_of_ble_eq_true rfl⟩ rfl rfl (Nat.le_of_ble_eq_true rfl) dX12_run_111 ?_
          show V K 114 [some (.ref 0), some (.int a1), some (.int a2), some (.int x14), some (.int x16), some (.int (x14 * x16)), none, none, none, none, none, none] [.int r41] S42
          cases h
          exact hR 114 _ ⟨_, rfl, rfl⟩ dX12_run_114
      · have h := it_t hc h
        refine V_aload_n (pc := 37) C dX12_run_37 rfl rfl ?_
        refine V_iconst (pc := 38) C dX12_run_38 kc_i_1 ?_
        obtain ⟨r43, S44, er43, h⟩ := b2_some h
        refine V_callV (As := [.int (1 : Int32)]) (pc := 39) C (mX12_no _ er43) zm_X12_no zi_X12_no ml_RX12_214 z1_mW_12 rfl ⟨Nat.le_of_ble_eq_true rfl, Nat.le_of_ble_eq_true rfl⟩ rfl rfl (Nat.le_of_ble_eq_true rfl) dX12_run_39 ?_
        show V K 42 [some (.ref 0), some (.int a1), some (.int a2), none, none, none, none, none, none, none, none, none] [.int r43] S44
        cases h
        exact hR 42 _ ⟨_, rfl, rfl⟩ dX12_run_42
set_option maxRecDepth 100000 in
theorem mX12_held (l : Launch) {S : zM} {a0 : Int32} {r : Int32}  (h : gX12_held a0 = some r) : zMet l mW zS0 yX12_held cX12_held 1 (some .int) 0 0 [.int a0] S (some (.int r)) S := by
  refine zmeth (by decide +kernel) (by rfl) (fun K hKl C hR => ?_)
  show V K 0 [some (.int a0)] [] S
  unfold gX12_held at h
  refine V_iload_n (pc := 0) C dX12_held_0 rfl rfl ?_
  refine V_iconst (pc := 1) C dX12_held_1 kc_i_1 ?_
  refine V_icmp_ge (tgt := 9) (pc := 2) C dX12_held_2 (by decide) (fun hc => ?_) (fun hc => ?_)
  · have h := it_t hc h
    refine V_iload_n (pc := 9) C dX12_held_9 rfl rfl ?_
    refine V_sipush (pc := 10) C dX12_held_10 kc_s_400 ?_
    refine V_icmp_le (tgt := 22) (pc := 13) C dX12_held_13 (by decide) (fun hc => ?_) (fun hc => ?_)
    · have h := it_t hc h
      refine V_iload_n (pc := 22) C dX12_held_22 rfl rfl ?_
      cases h
      exact hR 23 _ ⟨_, rfl, rfl⟩ dX12_held_23
    · have h := it_f hc h
      refine V_sipush (pc := 16) C dX12_held_16 kc_s_400 ?_
      refine V_goto (tgt := 23) (pc := 19) C dX12_held_19 (by decide) ?_
      cases h
      exact hR 23 _ ⟨_, rfl, rfl⟩ dX12_held_23
  · have h := it_f hc h
    refine V_iconst (pc := 5) C dX12_held_5 kc_i_1 ?_
    refine V_goto (tgt := 23) (pc := 6) C dX12_held_6 (by decide) ?_
    cases h
    exact hR 23 _ ⟨_, rfl, rfl⟩ dX12_held_23
set_option maxRecDepth 100000 in
theorem mX12_climb_L82 {K : zK} (C : zC K cX12_climb yX12_climb.cls 7 4 109 mW) {v1 : Int32} {v3 : Int32} {v4 : Int32}  : ∀ (f : Nat) (S : zM) (v5 : Int32) (v6 : Int32) (r : Int32) (S' : zM), gX12_climb_L82 v1 v3 v4 f S v5 v6 = some (r, S') → zR K cX12_climb (some .int) S' (some (.int r)) → V K 82 [some (.ref 0), some (.int v1), none, some (.int v3), some (.int v4), some (.int v5), some (.int v6)] [] S := by
  intro f
  induction f with
  | zero => intro S v5 v6 r S' h hR; cases h
  | succ n ih =>
    intro S v5 v6 r S' h hR
    unfold gX12_climb_L82 at h
    refine V_iload (pc := 82) C dX12_climb_82 rfl ?_
    refine V_iload (pc := 84) C dX12_climb_84 rfl ?_
    refine V_icmp_ge (tgt := 125) (pc := 86) C dX12_climb_86 (by decide) (fun hc => ?_) (fun hc => ?_)
    · have h := it_t hc h
      refine V_iload (pc := 125) C dX12_climb_125 rfl ?_
      cases h
      exact hR 127 _ ⟨_, rfl, rfl⟩ dX12_climb_127
    · have h := it_f hc h
      refine V_aload_n (pc := 89) C dX12_climb_89 rfl rfl ?_
      refine V_iload_n (pc := 90) C dX12_climb_90 rfl rfl ?_
      refine V_iconst (pc := 91) C dX12_climb_91 kc_i_1 ?_
      refine V_iload (pc := 92) C dX12_climb_92 rfl ?_
      refine V_iconst (pc := 94) C dX12_climb_94 kc_i_0 ?_
      refine V_iconst (pc := 95) C dX12_climb_95 kc_i_0 ?_
      obtain ⟨r11, S12, er11, h⟩ := b2_some h
      refine V_callV (As := [.int v1, .int (1 : Int32), .int v5, .int (0 : Int32), .int (0 : Int32)]) (pc := 96) C (mX12_draws _ er11) zm_X12_draws zi_X12_draws ml_RX12_378 z1_mW_12 rfl ⟨Nat.le_of_ble_eq_true rfl, Nat.le_of_ble_eq_true rfl⟩ rfl rfl (Nat.le_of_ble_eq_true rfl) dX12_climb_96 ?_
      show V K 99 [some (.ref 0), some (.int v1), none, some (.int v3), some (.int v4), some (.int v5), some (.int v6)] [.int r11] S12
      refine V_iconst (pc := 99) C dX12_climb_99 kc_i_1 ?_
      refine V_icmp_ne (tgt := 110) (pc := 100) C dX12_climb_100 (by decide) (fun hc => ?_) (fun hc => ?_)
      · have h := it_f hc h
        refine V_iload (pc := 110) C dX12_climb_110 rfl ?_
        refine V_iload_n (pc := 112) C dX12_climb_112 rfl rfl ?_
        refine V_iadd (pc := 113) C dX12_climb_113 ?_
        obtain ⟨r13, er13, h⟩ := b1_some h
        refine V_callS (As := [.int (v5 + v3)]) (pc := 114) C (mX12_held _ er13) zm_X12_held zs_X12_held ml_RX12_382 ⟨Nat.le_of_ble_eq_true rfl, Nat.le_of_ble_eq_true rfl⟩ rfl rfl (Nat.le_of_ble_eq_true rfl) dX12_climb_114 ?_
        show V K 117 [some (.ref 0), some (.int v1), none, some (.int v3), some (.int v4), some (.int v5), some (.int v6)] [.int r13] S12
        refine V_istore (L' := [some (.ref 0), some (.int v1), none, some (.int v3), some (.int v4), some (.int r13), some (.int v6)]) (pc := 117) C dX12_climb_117 (by decide) rfl ?_
        refine V_iinc (L' := [some (.ref 0), some (.int v1), none, some (.int v3), some (.int v4), some (.int r13), some (.int (v6 + (1 : Int32)))]) (v := (v6 + (1 : Int32))) (pc := 119) C dX12_climb_119 rfl (congrArg (v6 + ·) kc_i_1) (by decide) rfl ?_
        refine V_goto (tgt := 82) (pc := 122) C dX12_climb_122 (by decide) ?_
        exact V_mask [true, true, false, true, true, true, true] (ih _ _ _ _ _ h hR)
      · have h := it_t hc h
        refine V_iload (pc := 103) C dX12_climb_103 rfl ?_
        refine V_iload_n (pc := 105) C dX12_climb_105 rfl rfl ?_
        refine V_isub (pc := 106) C dX12_climb_106 ?_
        refine V_goto (tgt := 114) (pc := 107) C dX12_climb_107 (by decide) ?_
        obtain ⟨r14, er14, h⟩ := b1_some h
        refine V_callS (As := [.int (v5 - v3)]) (pc := 114) C (mX12_held _ er14) zm_X12_held zs_X12_held ml_RX12_382 ⟨Nat.le_of_ble_eq_true rfl, Nat.le_of_ble_eq_true rfl⟩ rfl rfl (Nat.le_of_ble_eq_true rfl) dX12_climb_114 ?_
        show V K 117 [some (.ref 0), some (.int v1), none, some (.int v3), some (.int v4), some (.int v5), some (.int v6)] [.int r14] S12
        refine V_istore (L' := [some (.ref 0), some (.int v1), none, some (.int v3), some (.int v4), some (.int r14), some (.int v6)]) (pc := 117) C dX12_climb_117 (by decide) rfl ?_
        refine V_iinc (L' := [some (.ref 0), some (.int v1), none, some (.int v3), some (.int v4), some (.int r14), some (.int (v6 + (1 : Int32)))]) (v := (v6 + (1 : Int32))) (pc := 119) C dX12_climb_119 rfl (congrArg (v6 + ·) kc_i_1) (by decide) rfl ?_
        refine V_goto (tgt := 82) (pc := 122) C dX12_climb_122 (by decide) ?_
        exact V_mask [true, true, false, true, true, true, true] (ih _ _ _ _ _ h hR)
set_option maxRecDepth 100000 in
theorem mX12_climb (l : Launch) {S : zM} {a1 : Int32} {a2 : Int32} {a3 : Int32} {a4 : Int32} {r : Int32} {S' : zM}  (h : gX12_climb S a1 a2 a3 a4 = some (r, S')) : zMet l mW zS0 yX12_climb cX12_climb 7 (some .int) 4 109 [.ref 0, .int a1, .int a2, .int a3, .int a4] S (some (.int r)) S' := by
  refine zmeth (by decide +kernel) (by rfl) (fun K hKl C hR => ?_)
  show V K 0 [some (.ref 0), some (.int a1), some (.int a2), some (.int a3), some (.int a4), none, none] [] S
  unfold gX12_climb at h
  refine V_aload_n (pc := 0) C dX12_climb_0 rfl rfl ?_
  obtain ⟨S2, euS2, h⟩ := b1_some h
  refine V_callV (As := []) (pc := 1) C (mX12_good _ euS2) zm_X12_good zi_X12_good ml_RX12_211 z1_mW_12 rfl ⟨Nat.le_of_ble_eq_true rfl, Nat.le_of_ble_eq_true rfl⟩ rfl rfl (Nat.le_of_ble_eq_true rfl) dX12_climb_1 ?_
  show V K 4 [some (.ref 0), some (.int a1), some (.int a2), some (.int a3), some (.int a4), none, none] [] S2
  refine V_aload_n (pc := 4) C dX12_climb_4 rfl rfl ?_
  refine V_iload_n (pc := 5) C dX12_climb_5 rfl rfl ?_
  obtain ⟨r3, er3, h⟩ := b1_some h
  refine V_callV (As := [.int a1]) (pc := 6) C (mX12_isSayer _ er3) zm_X12_isSayer zi_X12_isSayer ml_RX12_315 z1_mW_12 rfl ⟨Nat.le_of_ble_eq_true rfl, Nat.le_of_ble_eq_true rfl⟩ rfl rfl (Nat.le_of_ble_eq_true rfl) dX12_climb_6 ?_
  show V K 9 [some (.ref 0), some (.int a1), some (.int a2), some (.int a3), some (.int a4), none, none] [.int r3] S2
  refine V_if_ne (tgt := 18) (pc := 9) C dX12_climb_9 (by decide) (fun hc => ?_) (fun hc => ?_)
  · have h := it_f hc h
    refine V_iload_n (pc := 18) C dX12_climb_18 rfl rfl ?_
    refine V_iconst (pc := 19) C dX12_climb_19 kc_i_1 ?_
    refine V_sipush (pc := 20) C dX12_climb_20 kc_s_400 ?_
    obtain ⟨r4, er4, h⟩ := b1_some h
    refine V_callS (As := [.int a2, .int (1 : Int32), .int (400 : Int32)]) (pc := 23) C (mX12_within _ er4) zm_X12_within zs_X12_within ml_RX12_203 ⟨Nat.le_of_ble_eq_true rfl, Nat.le_of_ble_eq_true rfl⟩ rfl rfl (Nat.le_of_ble_eq_true rfl) dX12_climb_23 ?_
    show V K 26 [some (.ref 0), some (.int a1), some (.int a2), some (.int a3), some (.int a4), none, none] [.int r4] S2
    refine V_if_eq (tgt := 51) (pc := 26) C dX12_climb_26 (by decide) (fun hc => ?_) (fun hc => ?_)
    · have h := it_t hc h
      refine V_aload_n (pc := 51) C dX12_climb_51 rfl rfl ?_
      refine V_iconst (pc := 52) C dX12_climb_52 kc_i_2 ?_
      obtain ⟨r5, S6, er5, h⟩ := b2_some h
      refine V_callV (As := [.int (2 : Int32)]) (pc := 53) C (mX12_no _ er5) zm_X12_no zi_X12_no ml_RX12_214 z1_mW_12 rfl ⟨Nat.le_of_ble_eq_true rfl, Nat.le_of_ble_eq_true rfl⟩ rfl rfl (Nat.le_of_ble_eq_true rfl) dX12_climb_53 ?_
      show V K 56 [some (.ref 0), some (.int a1), some (.int a2), some (.int a3), some (.int a4), none, none] [.int r5] S6
      cases h
      exact hR 56 _ ⟨_, rfl, rfl⟩ dX12_climb_56
    · have h := it_f hc h
      refine V_iload_n (pc := 29) C dX12_climb_29 rfl rfl ?_
      refine V_iconst (pc := 30) C dX12_climb_30 kc_i_1 ?_
      refine V_sipush (pc := 31) C dX12_climb_31 kc_s_400 ?_
      obtain ⟨r7, er7, h⟩ := b1_some h
      refine V_callS (As := [.int a3, .int (1 : Int32), .int (400 : Int32)]) (pc := 34) C (mX12_within _ er7) zm_X12_within zs_X12_within ml_RX12_203 ⟨Nat.le_of_ble_eq_true rfl, Nat.le_of_ble_eq_true rfl⟩ rfl rfl (Nat.le_of_ble_eq_true rfl) dX12_climb_34 ?_
      show V K 37 [some (.ref 0), some (.int a1), some (.int a2), some (.int a3), some (.int a4), none, none] [.int r7] S2
      refine V_if_eq (tgt := 51) (pc := 37) C dX12_climb_37 (by decide) (fun hc => ?_) (fun hc => ?_)
      · have h := it_t hc h
        refine V_aload_n (pc := 51) C dX12_climb_51 rfl rfl ?_
        refine V_iconst (pc := 52) C dX12_climb_52 kc_i_2 ?_
        obtain ⟨r8, S9, er8, h⟩ := b2_some h
        refine V_callV (As := [.int (2 : Int32)]) (pc := 53) C (mX12_no _ er8) zm_X12_no zi_X12_no ml_RX12_214 z1_mW_12 rfl ⟨Nat.le_of_ble_eq_true rfl, Nat.le_of_ble_eq_true rfl⟩ rfl rfl (Nat.le_of_ble_eq_true rfl) dX12_climb_53 ?_
        show V K 56 [some (.ref 0), some (.int a1), some (.int a2), some (.int a3), some (.int a4), none, none] [.int r8] S9
        cases h
        exact hR 56 _ ⟨_, rfl, rfl⟩ dX12_climb_56
      · have h := it_f hc h
        refine V_iload (pc := 40) C dX12_climb_40 rfl ?_
        refine V_iconst (pc := 42) C dX12_climb_42 kc_i_1 ?_
        refine V_bipush (pc := 43) C dX12_climb_43 kc_b_50 ?_
        obtain ⟨r10, er10, h⟩ := b1_some h
        refine V_callS (As := [.int a4, .int (1 : Int32), .int (50 : Int32)]) (pc := 45) C (mX12_within _ er10) zm_X12_within zs_X12_within ml_RX12_203 ⟨Nat.le_of_ble_eq_true rfl, Nat.le_of_ble_eq_true rfl⟩ rfl rfl (Nat.le_of_ble_eq_true rfl) dX12_climb_45 ?_
        show V K 48 [some (.ref 0), some (.int a1), some (.int a2), some (.int a3), some (.int a4), none, none] [.int r10] S2
        refine V_if_ne (tgt := 57) (pc := 48) C dX12_climb_48 (by decide) (fun hc => ?_) (fun hc => ?_)
        · have h := it_f hc h
          refine V_aload_n (pc := 57) C dX12_climb_57 rfl rfl ?_
          refine V_getI (pc := 58) C z1_mW_12 fl_RX12_226 (by decide) dX12_climb_58 ?_
          refine V_iload (pc := 61) C dX12_climb_61 rfl ?_
          refine V_iadd (pc := 63) C dX12_climb_63 ?_
          refine V_sipush (pc := 64) C dX12_climb_64 kc_s_1000 ?_
          refine V_icmp_le (tgt := 76) (pc := 67) C dX12_climb_67 (by decide) (fun hc => ?_) (fun hc => ?_)
          · have h := it_t hc h
            refine V_iload_n (pc := 76) C dX12_climb_76 rfl rfl ?_
            refine V_istore (L' := [some (.ref 0), some (.int a1), some (.int a2), some (.int a3), some (.int a4), some (.int a2), none]) (pc := 77) C dX12_climb_77 (by decide) rfl ?_
            refine V_iconst (pc := 79) C dX12_climb_79 kc_i_0 ?_
            refine V_istore (L' := [some (.ref 0), some (.int a1), some (.int a2), some (.int a3), some (.int a4), some (.int a2), some (.int (0 : Int32))]) (pc := 80) C dX12_climb_80 (by decide) rfl ?_
            exact V_mask [true, true, false, true, true, true, true] (mX12_climb_L82 C  FU _ _ _ _ _ h hR)
          · have h := it_f hc h
            refine V_aload_n (pc := 70) C dX12_climb_70 rfl rfl ?_
            refine V_iconst (pc := 71) C dX12_climb_71 kc_i_3 ?_
            obtain ⟨r15, S16, er15, h⟩ := b2_some h
            refine V_callV (As := [.int (3 : Int32)]) (pc := 72) C (mX12_no _ er15) zm_X12_no zi_X12_no ml_RX12_214 z1_mW_12 rfl ⟨Nat.le_of_ble_eq_true rfl, Nat.le_of_ble_eq_true rfl⟩ rfl rfl (Nat.le_of_ble_eq_true rfl) dX12_climb_72 ?_
            show V K 75 [some (.ref 0), some (.int a1), some (.int a2), some (.int a3), some (.int a4), none, none] [.int r15] S16
            cases h
            exact hR 75 _ ⟨_, rfl, rfl⟩ dX12_climb_75
        · have h := it_t hc h
          refine V_aload_n (pc := 51) C dX12_climb_51 rfl rfl ?_
          refine V_iconst (pc := 52) C dX12_climb_52 kc_i_2 ?_
          obtain ⟨r17, S18, er17, h⟩ := b2_some h
          refine V_callV (As := [.int (2 : Int32)]) (pc := 53) C (mX12_no _ er17) zm_X12_no zi_X12_no ml_RX12_214 z1_mW_12 rfl ⟨Nat.le_of_ble_eq_true rfl, Nat.le_of_ble_eq_true rfl⟩ rfl rfl (Nat.le_of_ble_eq_true rfl) dX12_climb_53 ?_
          show V K 56 [some (.ref 0), some (.int a1), some (.int a2), some (.int a3), some (.int a4), none, none] [.int r17] S18
          cases h
          exact hR 56 _ ⟨_, rfl, rfl⟩ dX12_climb_56
  · have h := it_t hc h
    refine V_aload_n (pc := 12) C dX12_climb_12 rfl rfl ?_
    refine V_iconst (pc := 13) C dX12_climb_13 kc_i_1 ?_
    obtain ⟨r19, S20, er19, h⟩ := b2_some h
    refine V_callV (As := [.int (1 : Int32)]) (pc := 14) C (mX12_no _ er19) zm_X12_no zi_X12_no ml_RX12_214 z1_mW_12 rfl ⟨Nat.le_of_ble_eq_true rfl, Nat.le_of_ble_eq_true rfl⟩ rfl rfl (Nat.le_of_ble_eq_true rfl) dX12_climb_14 ?_
    show V K 17 [some (.ref 0), some (.int a1), some (.int a2), some (.int a3), some (.int a4), none, none] [.int r19] S20
    cases h
    exact hR 17 _ ⟨_, rfl, rfl⟩ dX12_climb_17
set_option maxRecDepth 100000 in
theorem mX12_book (l : Launch) {S : zM} {a1 : Int32} {a2 : Int32} {r : Int32} {S' : zM}  (h : gX12_book S a1 a2 = some (r, S')) : zMet l mW zS0 yX12_book cX12_book 3 (some .int) 1 22 [.ref 0, .int a1, .int a2] S (some (.int r)) S' := by
  refine zmeth (by decide +kernel) (by rfl) (fun K hKl C hR => ?_)
  show V K 0 [some (.ref 0), some (.int a1), some (.int a2)] [] S
  unfold gX12_book at h
  refine V_aload_n (pc := 0) C dX12_book_0 rfl rfl ?_
  refine V_iconst (pc := 1) C dX12_book_1 kc_i_0 ?_
  refine V_putI (pc := 2) C z1_mW_12 fp_RX12_103 rfl rfl dX12_book_2 ?_
  refine V_iload_n (pc := 5) C dX12_book_5 rfl rfl ?_
  refine V_iconst (pc := 6) C dX12_book_6 kc_i_0 ?_
  refine V_aload_n (pc := 7) C dX12_book_7 rfl rfl ?_
  refine V_getI (pc := 8) C z1_mW_12 fl_RX12_226 (by decide) dX12_book_8 ?_
  refine V_iconst (pc := 11) C dX12_book_11 kc_i_1 ?_
  refine V_isub (pc := 12) C dX12_book_12 ?_
  obtain ⟨r1, er1, h⟩ := b1_some h
  refine V_callS (As := [.int a1, .int (0 : Int32), .int ((gI (pI S 0 0 (0 : Int32)) 0 21) - (1 : Int32))]) (pc := 13) C (mX12_within _ er1) zm_X12_within zs_X12_within ml_RX12_203 ⟨Nat.le_of_ble_eq_true rfl, Nat.le_of_ble_eq_true rfl⟩ rfl rfl (Nat.le_of_ble_eq_true rfl) dX12_book_13 ?_
  show V K 16 [some (.ref 0), some (.int a1), some (.int a2)] [.int r1] (pI S 0 0 (0 : Int32))
  refine V_if_ne (tgt := 21) (pc := 16) C dX12_book_16 (by decide) (fun hc => ?_) (fun hc => ?_)
  · have h := it_f hc h
    refine V_iload_n (pc := 21) C dX12_book_21 rfl rfl ?_
    by_cases c22_0 : a2 = (0 : Int32)
    · have h := it_t c22_0 h
      refine V_case (tgt := 60) (off := (38)) (pc := 22) C dX12_book_22 c22_0 (by decide +kernel) (by decide) ?_
      refine V_aload_n (pc := 60) C dX12_book_60 rfl rfl ?_
      refine V_getF (p1 := 8) (pc := 61) C z1_mW_12 fl_RX12_35 rfl (zf_mW_12_22 z1_mW_12) dX12_book_61 ?_
      refine V_iload_n (pc := 64) C dX12_book_64 rfl rfl ?_
      obtain ⟨k2, h⟩ := ck_some h
      refine V_iald (pc := 65) C (za_mW_12_22 z1_mW_12) k2 dX12_book_65 ?_
      cases h
      exact hR 66 _ ⟨_, rfl, rfl⟩ dX12_book_66
    · have h := it_f c22_0 h
      by_cases c22_1 : a2 = (1 : Int32)
      · have h := it_t c22_1 h
        refine V_case (tgt := 67) (off := (45)) (pc := 22) C dX12_book_22 c22_1 (by decide +kernel) (by decide) ?_
        refine V_aload_n (pc := 67) C dX12_book_67 rfl rfl ?_
        refine V_getF (p1 := 9) (pc := 68) C z1_mW_12 fl_RX12_38 rfl (zf_mW_12_23 z1_mW_12) dX12_book_68 ?_
        refine V_iload_n (pc := 71) C dX12_book_71 rfl rfl ?_
        obtain ⟨k3, h⟩ := ck_some h
        refine V_iald (pc := 72) C (za_mW_12_23 z1_mW_12) k3 dX12_book_72 ?_
        cases h
        exact hR 73 _ ⟨_, rfl, rfl⟩ dX12_book_73
      · have h := it_f c22_1 h
        by_cases c22_2 : a2 = (2 : Int32)
        · have h := it_t c22_2 h
          refine V_case (tgt := 74) (off := (52)) (pc := 22) C dX12_book_22 c22_2 (by decide +kernel) (by decide) ?_
          refine V_aload_n (pc := 74) C dX12_book_74 rfl rfl ?_
          refine V_getF (p1 := 10) (pc := 75) C z1_mW_12 fl_RX12_41 rfl (zf_mW_12_24 z1_mW_12) dX12_book_75 ?_
          refine V_iload_n (pc := 78) C dX12_book_78 rfl rfl ?_
          obtain ⟨k4, h⟩ := ck_some h
          refine V_iald (pc := 79) C (za_mW_12_24 z1_mW_12) k4 dX12_book_79 ?_
          cases h
          exact hR 80 _ ⟨_, rfl, rfl⟩ dX12_book_80
        · have h := it_f c22_2 h
          by_cases c22_3 : a2 = (3 : Int32)
          · have h := it_t c22_3 h
            refine V_case (tgt := 81) (off := (59)) (pc := 22) C dX12_book_22 c22_3 (by decide +kernel) (by decide) ?_
            refine V_aload_n (pc := 81) C dX12_book_81 rfl rfl ?_
            refine V_getF (p1 := 11) (pc := 82) C z1_mW_12 fl_RX12_44 rfl (zf_mW_12_25 z1_mW_12) dX12_book_82 ?_
            refine V_iload_n (pc := 85) C dX12_book_85 rfl rfl ?_
            obtain ⟨k5, h⟩ := ck_some h
            refine V_iald (pc := 86) C (za_mW_12_25 z1_mW_12) k5 dX12_book_86 ?_
            cases h
            exact hR 87 _ ⟨_, rfl, rfl⟩ dX12_book_87
          · have h := it_f c22_3 h
            by_cases c22_4 : a2 = (4 : Int32)
            · have h := it_t c22_4 h
              refine V_case (tgt := 88) (off := (66)) (pc := 22) C dX12_book_22 c22_4 (by decide +kernel) (by decide) ?_
              refine V_aload_n (pc := 88) C dX12_book_88 rfl rfl ?_
              refine V_getF (p1 := 12) (pc := 89) C z1_mW_12 fl_RX12_47 rfl (zf_mW_12_26 z1_mW_12) dX12_book_89 ?_
              refine V_iload_n (pc := 92) C dX12_book_92 rfl rfl ?_
              obtain ⟨k6, h⟩ := ck_some h
              refine V_iald (pc := 93) C (za_mW_12_26 z1_mW_12) k6 dX12_book_93 ?_
              cases h
              exact hR 94 _ ⟨_, rfl, rfl⟩ dX12_book_94
            · have h := it_f c22_4 h
              by_cases c22_5 : a2 = (5 : Int32)
              · have h := it_t c22_5 h
                refine V_case (tgt := 95) (off := (73)) (pc := 22) C dX12_book_22 c22_5 (by decide +kernel) (by decide) ?_
                refine V_aload_n (pc := 95) C dX12_book_95 rfl rfl ?_
                refine V_getF (p1 := 13) (pc := 96) C z1_mW_12 fl_RX12_50 rfl (zf_mW_12_27 z1_mW_12) dX12_book_96 ?_
                refine V_iload_n (pc := 99) C dX12_book_99 rfl rfl ?_
                obtain ⟨k7, h⟩ := ck_some h
                refine V_iald (pc := 100) C (za_mW_12_27 z1_mW_12) k7 dX12_book_100 ?_
                cases h
                exact hR 101 _ ⟨_, rfl, rfl⟩ dX12_book_101
              · have h := it_f c22_5 h
                refine V_dflt (tgt := 102) (m := 6) (pc := 22) C dX12_book_22 (by decide) (fun i hi => match i, hi with | 0, _ => c22_0 | 1, _ => c22_1 | 2, _ => c22_2 | 3, _ => c22_3 | 4, _ => c22_4 | 5, _ => c22_5 | k + 6, hi => absurd hi (by omega)) (by decide) ?_
                refine V_iconst (pc := 102) C dX12_book_102 kc_i_m1 ?_
                cases h
                exact hR 103 _ ⟨_, rfl, rfl⟩ dX12_book_103
  · have h := it_t hc h
    refine V_iconst (pc := 19) C dX12_book_19 kc_i_m1 ?_
    cases h
    exact hR 20 _ ⟨_, rfl, rfl⟩ dX12_book_20
set_option maxRecDepth 100000 in
theorem mX12_isOf_J69 {K : zK} (C : zC K cX12_isOf yX12_isOf.cls 8 0 0 mW) {S : zM} {v1 : Int32} {v3 : Int32} {v6 : Int32} {s0 : Int32} {r : Int32}  (hR : zR K cX12_isOf (some .boolean) S (some (.int r))) (h : gX12_isOf_J69 S v1 v3 v6 s0 = some r) : V K 69 [some (.ref 0), some (.int v1), none, some (.int v3), none, none, some (.int v6), none] [.int s0] S := by
  unfold gX12_isOf_J69 at h
  refine V_istore (L' := [some (.ref 0), some (.int v1), none, some (.int v3), none, none, some (.int v6), some (.int s0)]) (pc := 69) C dX12_isOf_69 (by decide) rfl ?_
  refine V_iload (pc := 71) C dX12_isOf_71 rfl ?_
  refine V_if_eq (tgt := 101) (pc := 73) C dX12_isOf_73 (by decide) (fun hc => ?_) (fun hc => ?_)
  · have h := it_t hc h
    refine V_iconst (pc := 101) C dX12_isOf_101 kc_i_0 ?_
    cases h
    exact hR 102 _ ⟨_, rfl, zB0⟩ dX12_isOf_102
  · have h := it_f hc h
    refine V_iload_n (pc := 76) C dX12_isOf_76 rfl rfl ?_
    refine V_iconst (pc := 77) C dX12_isOf_77 kc_i_2 ?_
    refine V_icmp_eq (tgt := 86) (pc := 78) C dX12_isOf_78 (by decide) (fun hc => ?_) (fun hc => ?_)
    · have h := it_t hc h
      refine V_aload_n (pc := 86) C dX12_isOf_86 rfl rfl ?_
      refine V_getF (p1 := 12) (pc := 87) C z1_mW_12 fl_RX12_47 rfl (zf_mW_12_26 z1_mW_12) dX12_isOf_87 ?_
      refine V_iload_n (pc := 90) C dX12_isOf_90 rfl rfl ?_
      obtain ⟨k2, h⟩ := ck_some h
      refine V_iald (pc := 91) C (za_mW_12_26 z1_mW_12) k2 dX12_isOf_91 ?_
      refine V_iload (pc := 92) C dX12_isOf_92 rfl ?_
      refine V_icmp_ne (tgt := 101) (pc := 94) C dX12_isOf_94 (by decide) (fun hc => ?_) (fun hc => ?_)
      · have h := it_f hc h
        refine V_iconst (pc := 101) C dX12_isOf_101 kc_i_0 ?_
        cases h
        exact hR 102 _ ⟨_, rfl, zB0⟩ dX12_isOf_102
      · have h := it_t hc h
        refine V_iconst (pc := 97) C dX12_isOf_97 kc_i_1 ?_
        refine V_goto (tgt := 102) (pc := 98) C dX12_isOf_98 (by decide) ?_
        cases h
        exact hR 102 _ ⟨_, rfl, zB1⟩ dX12_isOf_102
    · have h := it_f hc h
      refine V_iload_n (pc := 81) C dX12_isOf_81 rfl rfl ?_
      refine V_iconst (pc := 82) C dX12_isOf_82 kc_i_5 ?_
      refine V_icmp_ne (tgt := 97) (pc := 83) C dX12_isOf_83 (by decide) (fun hc => ?_) (fun hc => ?_)
      · have h := it_f hc h
        refine V_iconst (pc := 97) C dX12_isOf_97 kc_i_1 ?_
        refine V_goto (tgt := 102) (pc := 98) C dX12_isOf_98 (by decide) ?_
        cases h
        exact hR 102 _ ⟨_, rfl, zB1⟩ dX12_isOf_102
      · have h := it_t hc h
        refine V_aload_n (pc := 86) C dX12_isOf_86 rfl rfl ?_
        refine V_getF (p1 := 12) (pc := 87) C z1_mW_12 fl_RX12_47 rfl (zf_mW_12_26 z1_mW_12) dX12_isOf_87 ?_
        refine V_iload_n (pc := 90) C dX12_isOf_90 rfl rfl ?_
        obtain ⟨k3, h⟩ := ck_some h
        refine V_iald (pc := 91) C (za_mW_12_26 z1_mW_12) k3 dX12_isOf_91 ?_
        refine V_iload (pc := 92) C dX12_isOf_92 rfl ?_
        refine V_icmp_ne (tgt := 101) (pc := 94) C dX12_isOf_94 (by decide) (fun hc => ?_) (fun hc => ?_)
        · have h := it_f hc h
          refine V_iconst (pc := 101) C dX12_isOf_101 kc_i_0 ?_
          cases h
          exact hR 102 _ ⟨_, rfl, zB0⟩ dX12_isOf_102
        · have h := it_t hc h
          refine V_iconst (pc := 97) C dX12_isOf_97 kc_i_1 ?_
          refine V_goto (tgt := 102) (pc := 98) C dX12_isOf_98 (by decide) ?_
          cases h
          exact hR 102 _ ⟨_, rfl, zB1⟩ dX12_isOf_102
set_option maxRecDepth 100000 in
theorem mX12_isOf_J36 {K : zK} (C : zC K cX12_isOf yX12_isOf.cls 8 0 0 mW) {S : zM} {v1 : Int32} {v3 : Int32} {v5 : Int32} {v6 : Int32} {s0 : Int32} {r : Int32}  (hR : zR K cX12_isOf (some .boolean) S (some (.int r))) (h : gX12_isOf_J36 S v1 v3 v5 v6 s0 = some r) : V K 36 [some (.ref 0), some (.int v1), none, some (.int v3), none, some (.int v5), some (.int v6), none] [.int s0] S := by
  unfold gX12_isOf_J36 at h
  refine V_istore (L' := [some (.ref 0), some (.int v1), none, some (.int v3), none, some (.int v5), some (.int v6), some (.int s0)]) (pc := 36) C dX12_isOf_36 (by decide) rfl ?_
  refine V_iload (pc := 38) C dX12_isOf_38 rfl ?_
  refine V_if_eq (tgt := 68) (pc := 40) C dX12_isOf_40 (by decide) (fun hc => ?_) (fun hc => ?_)
  · have h := it_t hc h
    refine V_iconst (pc := 68) C dX12_isOf_68 kc_i_0 ?_
    exact V_mask [true, true, false, true, false, false, true, false] (mX12_isOf_J69 C  hR h)
  · have h := it_f hc h
    refine V_iload_n (pc := 43) C dX12_isOf_43 rfl rfl ?_
    refine V_iconst (pc := 44) C dX12_isOf_44 kc_i_1 ?_
    refine V_icmp_eq (tgt := 64) (pc := 45) C dX12_isOf_45 (by decide) (fun hc => ?_) (fun hc => ?_)
    · have h := it_t hc h
      refine V_iconst (pc := 64) C dX12_isOf_64 kc_i_1 ?_
      refine V_goto (tgt := 69) (pc := 65) C dX12_isOf_65 (by decide) ?_
      exact V_mask [true, true, false, true, false, false, true, false] (mX12_isOf_J69 C  hR h)
    · have h := it_f hc h
      refine V_iload_n (pc := 48) C dX12_isOf_48 rfl rfl ?_
      refine V_iconst (pc := 49) C dX12_isOf_49 kc_i_3 ?_
      refine V_icmp_eq (tgt := 64) (pc := 50) C dX12_isOf_50 (by decide) (fun hc => ?_) (fun hc => ?_)
      · have h := it_t hc h
        refine V_iconst (pc := 64) C dX12_isOf_64 kc_i_1 ?_
        refine V_goto (tgt := 69) (pc := 65) C dX12_isOf_65 (by decide) ?_
        exact V_mask [true, true, false, true, false, false, true, false] (mX12_isOf_J69 C  hR h)
      · have h := it_f hc h
        refine V_aload_n (pc := 53) C dX12_isOf_53 rfl rfl ?_
        refine V_getF (p1 := 11) (pc := 54) C z1_mW_12 fl_RX12_44 rfl (zf_mW_12_25 z1_mW_12) dX12_isOf_54 ?_
        refine V_iload_n (pc := 57) C dX12_isOf_57 rfl rfl ?_
        obtain ⟨k4, h⟩ := ck_some h
        refine V_iald (pc := 58) C (za_mW_12_25 z1_mW_12) k4 dX12_isOf_58 ?_
        refine V_iload (pc := 59) C dX12_isOf_59 rfl ?_
        refine V_icmp_ne (tgt := 68) (pc := 61) C dX12_isOf_61 (by decide) (fun hc => ?_) (fun hc => ?_)
        · have h := it_f hc h
          refine V_iconst (pc := 68) C dX12_isOf_68 kc_i_0 ?_
          exact V_mask [true, true, false, true, false, false, true, false] (mX12_isOf_J69 C  hR h)
        · have h := it_t hc h
          refine V_iconst (pc := 64) C dX12_isOf_64 kc_i_1 ?_
          refine V_goto (tgt := 69) (pc := 65) C dX12_isOf_65 (by decide) ?_
          exact V_mask [true, true, false, true, false, false, true, false] (mX12_isOf_J69 C  hR h)
set_option maxRecDepth 100000 in
theorem mX12_isOf (l : Launch) {S : zM} {a1 : Int32} {a2 : Int32} {a3 : Int32} {a4 : Int32} {a5 : Int32} {a6 : Int32} {r : Int32}  (h : gX12_isOf S a1 a2 a3 a4 a5 a6 = some r) : zMet l mW zS0 yX12_isOf cX12_isOf 8 (some .boolean) 0 0 [.ref 0, .int a1, .int a2, .int a3, .int a4, .int a5, .int a6] S (some (.int r)) S := by
  refine zmeth (by decide +kernel) (by rfl) (fun K hKl C hR => ?_)
  show V K 0 [some (.ref 0), some (.int a1), some (.int a2), some (.int a3), some (.int a4), some (.int a5), some (.int a6), none] [] S
  unfold gX12_isOf at h
  refine V_aload_n (pc := 0) C dX12_isOf_0 rfl rfl ?_
  refine V_getF (p1 := 8) (pc := 1) C z1_mW_12 fl_RX12_35 rfl (zf_mW_12_22 z1_mW_12) dX12_isOf_1 ?_
  refine V_iload_n (pc := 4) C dX12_isOf_4 rfl rfl ?_
  obtain ⟨k1, h⟩ := ck_some h
  refine V_iald (pc := 5) C (za_mW_12_22 z1_mW_12) k1 dX12_isOf_5 ?_
  refine V_iload_n (pc := 6) C dX12_isOf_6 rfl rfl ?_
  refine V_icmp_ne (tgt := 35) (pc := 7) C dX12_isOf_7 (by decide) (fun hc => ?_) (fun hc => ?_)
  · have h := it_f hc h
    refine V_iconst (pc := 35) C dX12_isOf_35 kc_i_0 ?_
    exact V_mask [true, true, false, true, false, true, true, false] (mX12_isOf_J36 C  hR h)
  · have h := it_t hc h
    refine V_aload_n (pc := 10) C dX12_isOf_10 rfl rfl ?_
    refine V_getF (p1 := 9) (pc := 11) C z1_mW_12 fl_RX12_38 rfl (zf_mW_12_23 z1_mW_12) dX12_isOf_11 ?_
    refine V_iload_n (pc := 14) C dX12_isOf_14 rfl rfl ?_
    obtain ⟨k5, h⟩ := ck_some h
    refine V_iald (pc := 15) C (za_mW_12_23 z1_mW_12) k5 dX12_isOf_15 ?_
    refine V_iload_n (pc := 16) C dX12_isOf_16 rfl rfl ?_
    refine V_icmp_ne (tgt := 35) (pc := 17) C dX12_isOf_17 (by decide) (fun hc => ?_) (fun hc => ?_)
    · have h := it_f hc h
      refine V_iconst (pc := 35) C dX12_isOf_35 kc_i_0 ?_
      exact V_mask [true, true, false, true, false, true, true, false] (mX12_isOf_J36 C  hR h)
    · have h := it_t hc h
      refine V_aload_n (pc := 20) C dX12_isOf_20 rfl rfl ?_
      refine V_getF (p1 := 10) (pc := 21) C z1_mW_12 fl_RX12_41 rfl (zf_mW_12_24 z1_mW_12) dX12_isOf_21 ?_
      refine V_iload_n (pc := 24) C dX12_isOf_24 rfl rfl ?_
      obtain ⟨k6, h⟩ := ck_some h
      refine V_iald (pc := 25) C (za_mW_12_24 z1_mW_12) k6 dX12_isOf_25 ?_
      refine V_iload (pc := 26) C dX12_isOf_26 rfl ?_
      refine V_icmp_ne (tgt := 35) (pc := 28) C dX12_isOf_28 (by decide) (fun hc => ?_) (fun hc => ?_)
      · have h := it_f hc h
        refine V_iconst (pc := 35) C dX12_isOf_35 kc_i_0 ?_
        exact V_mask [true, true, false, true, false, true, true, false] (mX12_isOf_J36 C  hR h)
      · have h := it_t hc h
        refine V_iconst (pc := 31) C dX12_isOf_31 kc_i_1 ?_
        refine V_goto (tgt := 36) (pc := 32) C dX12_isOf_32 (by decide) ?_
        exact V_mask [true, true, false, true, false, true, true, false] (mX12_isOf_J36 C  hR h)
set_option maxRecDepth 100000 in
theorem mX12_count_L35 {K : zK} (C : zC K cX12_count yX12_count.cls 10 3 68 mW) {S : zM} {v1 : Int32} {v2 : Int32} {v3 : Int32} {v4 : Int32} {v5 : Int32} {v6 : Int32}  : ∀ (f : Nat) (v8 : Int32) (v9 : Int32) (r : Int32) (S' : zM), gX12_count_L35 S v1 v2 v3 v4 v5 v6 f v8 v9 = some (r, S') → zR K cX12_count (some .int) S' (some (.int r)) → V K 35 [some (.ref 0), some (.int v1), some (.int v2), some (.int v3), some (.int v4), some (.int v5), some (.int v6), none, some (.int v8), some (.int v9)] [] S := by
  intro f
  induction f with
  | zero => intro v8 v9 r S' h hR; cases h
  | succ n ih =>
    intro v8 v9 r S' h hR
    unfold gX12_count_L35 at h
    refine V_iload (pc := 35) C dX12_count_35 rfl ?_
    refine V_aload_n (pc := 37) C dX12_count_37 rfl rfl ?_
    refine V_getI (pc := 38) C z1_mW_12 fl_RX12_226 (by decide) dX12_count_38 ?_
    refine V_icmp_ge (tgt := 94) (pc := 41) C dX12_count_41 (by decide) (fun hc => ?_) (fun hc => ?_)
    · have h := it_t hc h
      refine V_iload (pc := 94) C dX12_count_94 rfl ?_
      cases h
      exact hR 96 _ ⟨_, rfl, rfl⟩ dX12_count_96
    · have h := it_f hc h
      refine V_iload (pc := 44) C dX12_count_44 rfl ?_
      refine V_aload_n (pc := 46) C dX12_count_46 rfl rfl ?_
      refine V_iload (pc := 47) C dX12_count_47 rfl ?_
      refine V_iload_n (pc := 49) C dX12_count_49 rfl rfl ?_
      refine V_iload_n (pc := 50) C dX12_count_50 rfl rfl ?_
      refine V_iload_n (pc := 51) C dX12_count_51 rfl rfl ?_
      refine V_iload (pc := 52) C dX12_count_52 rfl ?_
      refine V_iload (pc := 54) C dX12_count_54 rfl ?_
      obtain ⟨r4, er4, h⟩ := b1_some h
      refine V_callV (As := [.int v9, .int v1, .int v2, .int v3, .int v4, .int v5]) (pc := 56) C (mX12_isOf _ er4) zm_X12_isOf zi_X12_isOf ml_RX12_385 z1_mW_12 rfl ⟨Nat.le_of_ble_eq_true rfl, Nat.le_of_ble_eq_true rfl⟩ rfl rfl (Nat.le_of_ble_eq_true rfl) dX12_count_56 ?_
      show V K 59 [some (.ref 0), some (.int v1), some (.int v2), some (.int v3), some (.int v4), some (.int v5), some (.int v6), none, some (.int v8), some (.int v9)] [.int r4, .int v8] S
      refine V_if_eq (tgt := 84) (pc := 59) C dX12_count_59 (by decide) (fun hc => ?_) (fun hc => ?_)
      · have h := it_t hc h
        refine V_iconst (pc := 84) C dX12_count_84 kc_i_0 ?_
        refine V_iadd (pc := 85) C dX12_count_85 ?_
        refine V_istore (L' := [some (.ref 0), some (.int v1), some (.int v2), some (.int v3), some (.int v4), some (.int v5), some (.int v6), none, some (.int (v8 + (0 : Int32))), some (.int v9)]) (pc := 86) C dX12_count_86 (by decide) rfl ?_
        refine V_iinc (L' := [some (.ref 0), some (.int v1), some (.int v2), some (.int v3), some (.int v4), some (.int v5), some (.int v6), none, some (.int (v8 + (0 : Int32))), some (.int (v9 + (1 : Int32)))]) (v := (v9 + (1 : Int32))) (pc := 88) C dX12_count_88 rfl (congrArg (v9 + ·) kc_i_1) (by decide) rfl ?_
        refine V_goto (tgt := 35) (pc := 91) C dX12_count_91 (by decide) ?_
        exact V_mask [true, true, true, true, true, true, true, false, true, true] (ih _ _ _ _ h hR)
      · have h := it_f hc h
        refine V_iload (pc := 62) C dX12_count_62 rfl ?_
        refine V_iconst (pc := 64) C dX12_count_64 kc_i_m1 ?_
        refine V_icmp_eq (tgt := 80) (pc := 65) C dX12_count_65 (by decide) (fun hc => ?_) (fun hc => ?_)
        · have h := it_t hc h
          refine V_iconst (pc := 80) C dX12_count_80 kc_i_1 ?_
          refine V_goto (tgt := 85) (pc := 81) C dX12_count_81 (by decide) ?_
          refine V_iadd (pc := 85) C dX12_count_85 ?_
          refine V_istore (L' := [some (.ref 0), some (.int v1), some (.int v2), some (.int v3), some (.int v4), some (.int v5), some (.int v6), none, some (.int (v8 + (1 : Int32))), some (.int v9)]) (pc := 86) C dX12_count_86 (by decide) rfl ?_
          refine V_iinc (L' := [some (.ref 0), some (.int v1), some (.int v2), some (.int v3), some (.int v4), some (.int v5), some (.int v6), none, some (.int (v8 + (1 : Int32))), some (.int (v9 + (1 : Int32)))]) (v := (v9 + (1 : Int32))) (pc := 88) C dX12_count_88 rfl (congrArg (v9 + ·) kc_i_1) (by decide) rfl ?_
          refine V_goto (tgt := 35) (pc := 91) C dX12_count_91 (by decide) ?_
          exact V_mask [true, true, true, true, true, true, true, false, true, true] (ih _ _ _ _ h hR)
        · have h := it_f hc h
          refine V_aload_n (pc := 68) C dX12_count_68 rfl rfl ?_
          refine V_getF (p1 := 13) (pc := 69) C z1_mW_12 fl_RX12_50 rfl (zf_mW_12_27 z1_mW_12) dX12_count_69 ?_
          refine V_iload (pc := 72) C dX12_count_72 rfl ?_
          obtain ⟨k5, h⟩ := ck_some h
          refine V_iald (pc := 74) C (za_mW_12_27 z1_mW_12) k5 dX12_count_74 ?_
          refine V_iload (pc := 75) C dX12_count_75 rfl ?_
          refine V_icmp_ne (tgt := 84) (pc := 77) C dX12_count_77 (by decide) (fun hc => ?_) (fun hc => ?_)
          · have h := it_f hc h
            refine V_iconst (pc := 84) C dX12_count_84 kc_i_0 ?_
            refine V_iadd (pc := 85) C dX12_count_85 ?_
            refine V_istore (L' := [some (.ref 0), some (.int v1), some (.int v2), some (.int v3), some (.int v4), some (.int v5), some (.int v6), none, some (.int (v8 + (0 : Int32))), some (.int v9)]) (pc := 86) C dX12_count_86 (by decide) rfl ?_
            refine V_iinc (L' := [some (.ref 0), some (.int v1), some (.int v2), some (.int v3), some (.int v4), some (.int v5), some (.int v6), none, some (.int (v8 + (0 : Int32))), some (.int (v9 + (1 : Int32)))]) (v := (v9 + (1 : Int32))) (pc := 88) C dX12_count_88 rfl (congrArg (v9 + ·) kc_i_1) (by decide) rfl ?_
            refine V_goto (tgt := 35) (pc := 91) C dX12_count_91 (by decide) ?_
            exact V_mask [true, true, true, true, true, true, true, false, true, true] (ih _ _ _ _ h hR)
          · have h := it_t hc h
            refine V_iconst (pc := 80) C dX12_count_80 kc_i_1 ?_
            refine V_goto (tgt := 85) (pc := 81) C dX12_count_81 (by decide) ?_
            refine V_iadd (pc := 85) C dX12_count_85 ?_
            refine V_istore (L' := [some (.ref 0), some (.int v1), some (.int v2), some (.int v3), some (.int v4), some (.int v5), some (.int v6), none, some (.int (v8 + (1 : Int32))), some (.int v9)]) (pc := 86) C dX12_count_86 (by decide) rfl ?_
            refine V_iinc (L' := [some (.ref 0), some (.int v1), some (.int v2), some (.int v3), some (.int v4), some (.int v5), some (.int v6), none, some (.int (v8 + (1 : Int32))), some (.int (v9 + (1 : Int32)))]) (v := (v9 + (1 : Int32))) (pc := 88) C dX12_count_88 rfl (congrArg (v9 + ·) kc_i_1) (by decide) rfl ?_
            refine V_goto (tgt := 35) (pc := 91) C dX12_count_91 (by decide) ?_
            exact V_mask [true, true, true, true, true, true, true, false, true, true] (ih _ _ _ _ h hR)
set_option maxRecDepth 100000 in
theorem mX12_count (l : Launch) {S : zM} {a1 : Int32} {a2 : Int32} {a3 : Int32} {a4 : Int32} {a5 : Int32} {a6 : Int32} {r : Int32} {S' : zM}  (h : gX12_count S a1 a2 a3 a4 a5 a6 = some (r, S')) : zMet l mW zS0 yX12_count cX12_count 10 (some .int) 3 68 [.ref 0, .int a1, .int a2, .int a3, .int a4, .int a5, .int a6] S (some (.int r)) S' := by
  refine zmeth (by decide +kernel) (by rfl) (fun K hKl C hR => ?_)
  show V K 0 [some (.ref 0), some (.int a1), some (.int a2), some (.int a3), some (.int a4), some (.int a5), some (.int a6), none, none, none] [] S
  unfold gX12_count at h
  refine V_aload_n (pc := 0) C dX12_count_0 rfl rfl ?_
  obtain ⟨S2, euS2, h⟩ := b1_some h
  refine V_callV (As := []) (pc := 1) C (mX12_good _ euS2) zm_X12_good zi_X12_good ml_RX12_211 z1_mW_12 rfl ⟨Nat.le_of_ble_eq_true rfl, Nat.le_of_ble_eq_true rfl⟩ rfl rfl (Nat.le_of_ble_eq_true rfl) dX12_count_1 ?_
  show V K 4 [some (.ref 0), some (.int a1), some (.int a2), some (.int a3), some (.int a4), some (.int a5), some (.int a6), none, none, none] [] S2
  refine V_aload_n (pc := 4) C dX12_count_4 rfl rfl ?_
  refine V_iload_n (pc := 5) C dX12_count_5 rfl rfl ?_
  refine V_iload_n (pc := 6) C dX12_count_6 rfl rfl ?_
  refine V_iload_n (pc := 7) C dX12_count_7 rfl rfl ?_
  refine V_iload (pc := 8) C dX12_count_8 rfl ?_
  refine V_iload (pc := 10) C dX12_count_10 rfl ?_
  obtain ⟨r3, er3, h⟩ := b1_some h
  refine V_callV (As := [.int a1, .int a2, .int a3, .int a4, .int a5]) (pc := 12) C (mX12_bars _ er3) zm_X12_bars zi_X12_bars ml_RX12_359 z1_mW_12 rfl ⟨Nat.le_of_ble_eq_true rfl, Nat.le_of_ble_eq_true rfl⟩ rfl rfl (Nat.le_of_ble_eq_true rfl) dX12_count_12 ?_
  show V K 15 [some (.ref 0), some (.int a1), some (.int a2), some (.int a3), some (.int a4), some (.int a5), some (.int a6), none, none, none] [.int r3] S2
  refine V_istore (L' := [some (.ref 0), some (.int a1), some (.int a2), some (.int a3), some (.int a4), some (.int a5), some (.int a6), some (.int r3), none, none]) (pc := 15) C dX12_count_15 (by decide) rfl ?_
  refine V_iload (pc := 17) C dX12_count_17 rfl ?_
  refine V_if_eq (tgt := 29) (pc := 19) C dX12_count_19 (by decide) (fun hc => ?_) (fun hc => ?_)
  · have h := it_t hc h
    refine V_iconst (pc := 29) C dX12_count_29 kc_i_0 ?_
    refine V_istore (L' := [some (.ref 0), some (.int a1), some (.int a2), some (.int a3), some (.int a4), some (.int a5), some (.int a6), some (.int r3), some (.int (0 : Int32)), none]) (pc := 30) C dX12_count_30 (by decide) rfl ?_
    refine V_iconst (pc := 32) C dX12_count_32 kc_i_0 ?_
    refine V_istore (L' := [some (.ref 0), some (.int a1), some (.int a2), some (.int a3), some (.int a4), some (.int a5), some (.int a6), some (.int r3), some (.int (0 : Int32)), some (.int (0 : Int32))]) (pc := 33) C dX12_count_33 (by decide) rfl ?_
    exact V_mask [true, true, true, true, true, true, true, false, true, true] (mX12_count_L35 C  FU _ _ _ _ h hR)
  · have h := it_f hc h
    refine V_aload_n (pc := 22) C dX12_count_22 rfl rfl ?_
    refine V_iload (pc := 23) C dX12_count_23 rfl ?_
    obtain ⟨r6, S7, er6, h⟩ := b2_some h
    refine V_callV (As := [.int r3]) (pc := 25) C (mX12_no _ er6) zm_X12_no zi_X12_no ml_RX12_214 z1_mW_12 rfl ⟨Nat.le_of_ble_eq_true rfl, Nat.le_of_ble_eq_true rfl⟩ rfl rfl (Nat.le_of_ble_eq_true rfl) dX12_count_25 ?_
    show V K 28 [some (.ref 0), some (.int a1), some (.int a2), some (.int a3), some (.int a4), some (.int a5), some (.int a6), some (.int r3), none, none] [.int r6] S7
    cases h
    exact hR 28 _ ⟨_, rfl, rfl⟩ dX12_count_28
set_option maxRecDepth 100000 in
theorem mX12_become_L2 {K : zK} (C : zC K cX12_become yX12_become.cls 3 0 0 mW) {v0 : Nat} {v1 : Int32} (hv0 : zar mW 1 0 24 v0) : ∀ (f : Nat) (S : zM) (v2 : Int32) (S' : zM), gX12_become_L2 v0 v1 f S v2 = some S' → zR K cX12_become (none) S' none → V K 2 [some (.ref v0), some (.int v1), some (.int v2)] [] S := by
  intro f
  induction f with
  | zero => intro S v2 S' h hR; cases h
  | succ n ih =>
    intro S v2 S' h hR
    unfold gX12_become_L2 at h
    refine V_iload_n (pc := 2) C dX12_become_2 rfl rfl ?_
    refine V_bipush (pc := 3) C dX12_become_3 kc_b_24 ?_
    refine V_icmp_ge (tgt := 18) (pc := 5) C dX12_become_5 (by decide) (fun hc => ?_) (fun hc => ?_)
    · have h := it_t hc h
      refine V_aload_n (pc := 18) C dX12_become_18 rfl rfl ?_
      refine V_iconst (pc := 19) C dX12_become_19 kc_i_0 ?_
      refine V_iload_n (pc := 20) C dX12_become_20 rfl rfl ?_
      obtain ⟨k1, h⟩ := ck_some h
      refine V_iast (pc := 21) C hv0 k1 dX12_become_21 ?_
      cases h
      exact hR 22 _ rfl dX12_become_22
    · have h := it_f hc h
      refine V_aload_n (pc := 8) C dX12_become_8 rfl rfl ?_
      refine V_iload_n (pc := 9) C dX12_become_9 rfl rfl ?_
      refine V_iconst (pc := 10) C dX12_become_10 kc_i_0 ?_
      obtain ⟨k2, h⟩ := ck_some h
      refine V_iast (pc := 11) C hv0 k2 dX12_become_11 ?_
      refine V_iinc (L' := [some (.ref v0), some (.int v1), some (.int (v2 + (1 : Int32)))]) (v := (v2 + (1 : Int32))) (pc := 12) C dX12_become_12 rfl (congrArg (v2 + ·) kc_i_1) (by decide) rfl ?_
      refine V_goto (tgt := 2) (pc := 15) C dX12_become_15 (by decide) ?_
      exact V_mask [true, true, true] (ih _ _ _ h hR)
set_option maxRecDepth 100000 in
theorem mX12_become (l : Launch) {S : zM} {a0 : Nat} {a1 : Int32} {S' : zM} (ha0 : zar mW 1 0 24 a0) (h : gX12_become S a0 a1 = some S') : zMet l mW zS0 yX12_become cX12_become 3 (none) 0 0 [.ref a0, .int a1] S none S' := by
  refine zmeth (by decide +kernel) (by rfl) (fun K hKl C hR => ?_)
  show V K 0 [some (.ref a0), some (.int a1), none] [] S
  unfold gX12_become at h
  refine V_iconst (pc := 0) C dX12_become_0 kc_i_0 ?_
  refine V_istore_n (L' := [some (.ref a0), some (.int a1), some (.int (0 : Int32))]) (pc := 1) C dX12_become_1 rfl (by decide) rfl ?_
  exact V_mask [true, true, true] (mX12_become_L2 C ha0 FU _ _ _ h hR)
set_option maxRecDepth 100000 in
theorem mX12_times_L5 {K : zK} (C : zC K cX12_times yX12_times.cls 6 0 0 mW) {v0 : Nat} {v1 : Int64} (hv0 : zar mW 1 0 24 v0) : ∀ (f : Nat) (S : zM) (v3 : Int64) (v5 : Int32) (S' : zM), gX12_times_L5 v0 v1 f S v3 v5 = some S' → zR K cX12_times (none) S' none → V K 5 [some (.ref v0), some (.long v1), none, some (.long v3), none, some (.int v5)] [] S := by
  intro f
  induction f with
  | zero => intro S v3 v5 S' h hR; cases h
  | succ n ih =>
    intro S v3 v5 S' h hR
    unfold gX12_times_L5 at h
    refine V_iload (pc := 5) C dX12_times_5 rfl ?_
    refine V_bipush (pc := 7) C dX12_times_7 kc_b_24 ?_
    refine V_icmp_ge (tgt := 43) (pc := 9) C dX12_times_9 (by decide) (fun hc => ?_) (fun hc => ?_)
    · have h := it_t hc h
      cases h
      exact hR 43 _ rfl dX12_times_43
    · have h := it_f hc h
      refine V_lload_n (pc := 12) C dX12_times_12 rfl rfl ?_
      refine V_aload_n (pc := 13) C dX12_times_13 rfl rfl ?_
      refine V_iload (pc := 14) C dX12_times_14 rfl ?_
      obtain ⟨k1, h⟩ := ck_some h
      refine V_iald (pc := 16) C hv0 k1 dX12_times_16 ?_
      refine V_i2l (pc := 17) C dX12_times_17 ?_
      refine V_lload_n (pc := 18) C dX12_times_18 rfl rfl ?_
      refine V_lmul (pc := 19) C dX12_times_19 ?_
      refine V_ladd (pc := 20) C dX12_times_20 ?_
      obtain ⟨x2, ex2, h⟩ := lt_some h
      refine V_nmJ ex2 ?_
      refine V_lstore_n (L' := [some (.ref v0), some (.long v1), none, some (.long x2), none, some (.int v5)]) (pc := 21) C dX12_times_21 rfl (by decide) rfl ?_
      refine V_aload_n (pc := 22) C dX12_times_22 rfl rfl ?_
      refine V_iload (pc := 23) C dX12_times_23 rfl ?_
      refine V_lload_n (pc := 25) C dX12_times_25 rfl rfl ?_
      refine V_ldc2 (pc := 26) C dX12_times_26 kl_RX12_389 ?_
      refine V_land (pc := 29) C dX12_times_29 ?_
      refine V_l2i (pc := 30) C dX12_times_30 ?_
      obtain ⟨k3, h⟩ := ck_some h
      refine V_iast (pc := 31) C hv0 k3 dX12_times_31 ?_
      refine V_lload_n (pc := 32) C dX12_times_32 rfl rfl ?_
      refine V_bipush (pc := 33) C dX12_times_33 kc_b_28 ?_
      refine V_lshr (pc := 35) C dX12_times_35 ?_
      obtain ⟨x4, ex4, h⟩ := lt_some h
      refine V_nmJ ex4 ?_
      refine V_lstore_n (L' := [some (.ref v0), some (.long v1), none, some (.long x4), none, some (.int v5)]) (pc := 36) C dX12_times_36 rfl (by decide) rfl ?_
      refine V_iinc (L' := [some (.ref v0), some (.long v1), none, some (.long x4), none, some (.int (v5 + (1 : Int32)))]) (v := (v5 + (1 : Int32))) (pc := 37) C dX12_times_37 rfl (congrArg (v5 + ·) kc_i_1) (by decide) rfl ?_
      refine V_goto (tgt := 5) (pc := 40) C dX12_times_40 (by decide) ?_
      exact V_mask [true, true, false, true, false, true] (ih _ _ _ _ h hR)
set_option maxRecDepth 100000 in
theorem mX12_times (l : Launch) {S : zM} {a0 : Nat} {a1 : Int64} {S' : zM} (ha0 : zar mW 1 0 24 a0) (h : gX12_times S a0 a1 = some S') : zMet l mW zS0 yX12_times cX12_times 6 (none) 0 0 [.ref a0, .long a1] S none S' := by
  refine zmeth (by decide +kernel) (by rfl) (fun K hKl C hR => ?_)
  show V K 0 [some (.ref a0), some (.long a1), none, none, none, none] [] S
  unfold gX12_times at h
  refine V_lconst (pc := 0) C dX12_times_0 (v := (0 : Int64)) rfl ?_
  refine V_lstore_n (L' := [some (.ref a0), some (.long a1), none, some (.long (0 : Int64)), none, none]) (pc := 1) C dX12_times_1 rfl (by decide) rfl ?_
  refine V_iconst (pc := 2) C dX12_times_2 kc_i_0 ?_
  refine V_istore (L' := [some (.ref a0), some (.long a1), none, some (.long (0 : Int64)), none, some (.int (0 : Int32))]) (pc := 3) C dX12_times_3 (by decide) rfl ?_
  exact V_mask [true, true, false, true, false, true] (mX12_times_L5 C ha0 FU _ _ _ _ h hR)
set_option maxRecDepth 100000 in
theorem mX12_over_L6 {K : zK} (C : zC K cX12_over yX12_over.cls 5 0 0 mW) {v0 : Nat} {v1 : Int32} (hv0 : zar mW 1 0 24 v0) : ∀ (f : Nat) (S : zM) (v2 : Int64) (v4 : Int32) (S' : zM), gX12_over_L6 v0 v1 f S v2 v4 = some S' → zR K cX12_over (none) S' none → V K 6 [some (.ref v0), some (.int v1), some (.long v2), none, some (.int v4)] [] S := by
  intro f
  induction f with
  | zero => intro S v2 v4 S' h hR; cases h
  | succ n ih =>
    intro S v2 v4 S' h hR
    unfold gX12_over_L6 at h
    refine V_iload (pc := 6) C dX12_over_6 rfl ?_
    refine V_if_lt (tgt := 42) (pc := 8) C dX12_over_8 (by decide) (fun hc => ?_) (fun hc => ?_)
    · have h := it_t hc h
      cases h
      exact hR 42 _ rfl dX12_over_42
    · have h := it_f hc h
      refine V_lload_n (pc := 11) C dX12_over_11 rfl rfl ?_
      refine V_bipush (pc := 12) C dX12_over_12 kc_b_28 ?_
      refine V_lshl (pc := 14) C dX12_over_14 ?_
      refine V_aload_n (pc := 15) C dX12_over_15 rfl rfl ?_
      refine V_iload (pc := 16) C dX12_over_16 rfl ?_
      obtain ⟨k1, h⟩ := ck_some h
      refine V_iald (pc := 18) C hv0 k1 dX12_over_18 ?_
      refine V_i2l (pc := 19) C dX12_over_19 ?_
      refine V_ladd (pc := 20) C dX12_over_20 ?_
      obtain ⟨x2, ex2, h⟩ := lt_some h
      refine V_nmJ ex2 ?_
      refine V_lstore_n (L' := [some (.ref v0), some (.int v1), some (.long x2), none, some (.int v4)]) (pc := 21) C dX12_over_21 rfl (by decide) rfl ?_
      refine V_aload_n (pc := 22) C dX12_over_22 rfl rfl ?_
      refine V_iload (pc := 23) C dX12_over_23 rfl ?_
      refine V_lload_n (pc := 25) C dX12_over_25 rfl rfl ?_
      refine V_iload_n (pc := 26) C dX12_over_26 rfl rfl ?_
      refine V_i2l (pc := 27) C dX12_over_27 ?_
      obtain ⟨k3, h⟩ := ck_some h
      refine V_ldiv (pc := 28) C dX12_over_28 (of_decide_eq_true k3) ?_
      refine V_l2i (pc := 29) C dX12_over_29 ?_
      obtain ⟨k4, h⟩ := ck_some h
      refine V_iast (pc := 30) C hv0 k4 dX12_over_30 ?_
      refine V_lload_n (pc := 31) C dX12_over_31 rfl rfl ?_
      refine V_iload_n (pc := 32) C dX12_over_32 rfl rfl ?_
      refine V_i2l (pc := 33) C dX12_over_33 ?_
      obtain ⟨k5, h⟩ := ck_some h
      refine V_lrem (pc := 34) C dX12_over_34 (of_decide_eq_true k5) ?_
      obtain ⟨x6, ex6, h⟩ := lt_some h
      refine V_nmJ ex6 ?_
      refine V_lstore_n (L' := [some (.ref v0), some (.int v1), some (.long x6), none, some (.int v4)]) (pc := 35) C dX12_over_35 rfl (by decide) rfl ?_
      refine V_iinc (L' := [some (.ref v0), some (.int v1), some (.long x6), none, some (.int (v4 + (-1 : Int32)))]) (v := (v4 + (-1 : Int32))) (pc := 36) C dX12_over_36 rfl (congrArg (v4 + ·) kc_i_m1) (by decide) rfl ?_
      refine V_goto (tgt := 6) (pc := 39) C dX12_over_39 (by decide) ?_
      exact V_mask [true, true, true, false, true] (ih _ _ _ _ h hR)
set_option maxRecDepth 100000 in
theorem mX12_over (l : Launch) {S : zM} {a0 : Nat} {a1 : Int32} {S' : zM} (ha0 : zar mW 1 0 24 a0) (h : gX12_over S a0 a1 = some S') : zMet l mW zS0 yX12_over cX12_over 5 (none) 0 0 [.ref a0, .int a1] S none S' := by
  refine zmeth (by decide +kernel) (by rfl) (fun K hKl C hR => ?_)
  show V K 0 [some (.ref a0), some (.int a1), none, none, none] [] S
  unfold gX12_over at h
  refine V_lconst (pc := 0) C dX12_over_0 (v := (0 : Int64)) rfl ?_
  refine V_lstore_n (L' := [some (.ref a0), some (.int a1), some (.long (0 : Int64)), none, none]) (pc := 1) C dX12_over_1 rfl (by decide) rfl ?_
  refine V_bipush (pc := 2) C dX12_over_2 kc_b_23 ?_
  refine V_istore (L' := [some (.ref a0), some (.int a1), some (.long (0 : Int64)), none, some (.int (23 : Int32))]) (pc := 4) C dX12_over_4 (by decide) rfl ?_
  exact V_mask [true, true, true, false, true] (mX12_over_L6 C ha0 FU _ _ _ _ h hR)
set_option maxRecDepth 100000 in
theorem mX12_add_L6 {K : zK} (C : zC K cX12_add yX12_add.cls 7 0 0 mW) {v0 : Nat} {v1 : Nat} {v2 : Int64} (hv0 : zar mW 1 0 24 v0) (hv1 : zar mW 1 0 24 v1) : ∀ (f : Nat) (S : zM) (v4 : Int64) (v6 : Int32) (S' : zM), gX12_add_L6 v0 v1 v2 f S v4 v6 = some S' → zR K cX12_add (none) S' none → V K 6 [some (.ref v0), some (.ref v1), some (.long v2), none, some (.long v4), none, some (.int v6)] [] S := by
  intro f
  induction f with
  | zero => intro S v4 v6 S' h hR; cases h
  | succ n ih =>
    intro S v4 v6 S' h hR
    unfold gX12_add_L6 at h
    refine V_iload (pc := 6) C dX12_add_6 rfl ?_
    refine V_bipush (pc := 8) C dX12_add_8 kc_b_24 ?_
    refine V_icmp_ge (tgt := 55) (pc := 10) C dX12_add_10 (by decide) (fun hc => ?_) (fun hc => ?_)
    · have h := it_t hc h
      cases h
      exact hR 55 _ rfl dX12_add_55
    · have h := it_f hc h
      refine V_lload (pc := 13) C dX12_add_13 rfl ?_
      refine V_aload_n (pc := 15) C dX12_add_15 rfl rfl ?_
      refine V_iload (pc := 16) C dX12_add_16 rfl ?_
      obtain ⟨k1, h⟩ := ck_some h
      refine V_iald (pc := 18) C hv0 k1 dX12_add_18 ?_
      refine V_i2l (pc := 19) C dX12_add_19 ?_
      refine V_aload_n (pc := 20) C dX12_add_20 rfl rfl ?_
      refine V_iload (pc := 21) C dX12_add_21 rfl ?_
      obtain ⟨k2, h⟩ := ck_some h
      refine V_iald (pc := 23) C hv1 k2 dX12_add_23 ?_
      refine V_i2l (pc := 24) C dX12_add_24 ?_
      refine V_lload_n (pc := 25) C dX12_add_25 rfl rfl ?_
      refine V_lmul (pc := 26) C dX12_add_26 ?_
      refine V_ladd (pc := 27) C dX12_add_27 ?_
      refine V_ladd (pc := 28) C dX12_add_28 ?_
      obtain ⟨x3, ex3, h⟩ := lt_some h
      refine V_nmJ ex3 ?_
      refine V_lstore (L' := [some (.ref v0), some (.ref v1), some (.long v2), none, some (.long x3), none, some (.int v6)]) (pc := 29) C dX12_add_29 (by decide) rfl ?_
      refine V_aload_n (pc := 31) C dX12_add_31 rfl rfl ?_
      refine V_iload (pc := 32) C dX12_add_32 rfl ?_
      refine V_lload (pc := 34) C dX12_add_34 rfl ?_
      refine V_ldc2 (pc := 36) C dX12_add_36 kl_RX12_389 ?_
      refine V_land (pc := 39) C dX12_add_39 ?_
      refine V_l2i (pc := 40) C dX12_add_40 ?_
      obtain ⟨k4, h⟩ := ck_some h
      refine V_iast (pc := 41) C hv0 k4 dX12_add_41 ?_
      refine V_lload (pc := 42) C dX12_add_42 rfl ?_
      refine V_bipush (pc := 44) C dX12_add_44 kc_b_28 ?_
      refine V_lshr (pc := 46) C dX12_add_46 ?_
      obtain ⟨x5, ex5, h⟩ := lt_some h
      refine V_nmJ ex5 ?_
      refine V_lstore (L' := [some (.ref v0), some (.ref v1), some (.long v2), none, some (.long x5), none, some (.int v6)]) (pc := 47) C dX12_add_47 (by decide) rfl ?_
      refine V_iinc (L' := [some (.ref v0), some (.ref v1), some (.long v2), none, some (.long x5), none, some (.int (v6 + (1 : Int32)))]) (v := (v6 + (1 : Int32))) (pc := 49) C dX12_add_49 rfl (congrArg (v6 + ·) kc_i_1) (by decide) rfl ?_
      refine V_goto (tgt := 6) (pc := 52) C dX12_add_52 (by decide) ?_
      exact V_mask [true, true, true, false, true, false, true] (ih _ _ _ _ h hR)
set_option maxRecDepth 100000 in
theorem mX12_add (l : Launch) {S : zM} {a0 : Nat} {a1 : Nat} {a2 : Int64} {S' : zM} (ha0 : zar mW 1 0 24 a0) (ha1 : zar mW 1 0 24 a1) (h : gX12_add S a0 a1 a2 = some S') : zMet l mW zS0 yX12_add cX12_add 7 (none) 0 0 [.ref a0, .ref a1, .long a2] S none S' := by
  refine zmeth (by decide +kernel) (by rfl) (fun K hKl C hR => ?_)
  show V K 0 [some (.ref a0), some (.ref a1), some (.long a2), none, none, none, none] [] S
  unfold gX12_add at h
  refine V_lconst (pc := 0) C dX12_add_0 (v := (0 : Int64)) rfl ?_
  refine V_lstore (L' := [some (.ref a0), some (.ref a1), some (.long a2), none, some (.long (0 : Int64)), none, none]) (pc := 1) C dX12_add_1 (by decide) rfl ?_
  refine V_iconst (pc := 3) C dX12_add_3 kc_i_0 ?_
  refine V_istore (L' := [some (.ref a0), some (.ref a1), some (.long a2), none, some (.long (0 : Int64)), none, some (.int (0 : Int32))]) (pc := 4) C dX12_add_4 (by decide) rfl ?_
  exact V_mask [true, true, true, false, true, false, true] (mX12_add_L6 C ha0 ha1 FU _ _ _ _ h hR)
set_option maxRecDepth 100000 in
theorem mX12_compare_L3 {K : zK} (C : zC K cX12_compare yX12_compare.cls 3 0 0 mW) {S : zM} {v0 : Nat} {v1 : Nat} (hv0 : zar mW 1 0 24 v0) (hv1 : zar mW 1 0 24 v1) : ∀ (f : Nat) (v2 : Int32) (r : Int32), gX12_compare_L3 S v0 v1 f v2 = some r → zR K cX12_compare (some .int) S (some (.int r)) → V K 3 [some (.ref v0), some (.ref v1), some (.int v2)] [] S := by
  intro f
  induction f with
  | zero => intro v2 r h hR; cases h
  | succ n ih =>
    intro v2 r h hR
    unfold gX12_compare_L3 at h
    refine V_iload_n (pc := 3) C dX12_compare_3 rfl rfl ?_
    refine V_if_lt (tgt := 37) (pc := 4) C dX12_compare_4 (by decide) (fun hc => ?_) (fun hc => ?_)
    · have h := it_t hc h
      refine V_iconst (pc := 37) C dX12_compare_37 kc_i_0 ?_
      cases h
      exact hR 38 _ ⟨_, rfl, rfl⟩ dX12_compare_38
    · have h := it_f hc h
      refine V_aload_n (pc := 7) C dX12_compare_7 rfl rfl ?_
      refine V_iload_n (pc := 8) C dX12_compare_8 rfl rfl ?_
      obtain ⟨k1, h⟩ := ck_some h
      refine V_iald (pc := 9) C hv0 k1 dX12_compare_9 ?_
      refine V_aload_n (pc := 10) C dX12_compare_10 rfl rfl ?_
      refine V_iload_n (pc := 11) C dX12_compare_11 rfl rfl ?_
      obtain ⟨k2, h⟩ := ck_some h
      refine V_iald (pc := 12) C hv1 k2 dX12_compare_12 ?_
      refine V_icmp_eq (tgt := 31) (pc := 13) C dX12_compare_13 (by decide) (fun hc => ?_) (fun hc => ?_)
      · have h := it_t hc h
        refine V_iinc (L' := [some (.ref v0), some (.ref v1), some (.int (v2 + (-1 : Int32)))]) (v := (v2 + (-1 : Int32))) (pc := 31) C dX12_compare_31 rfl (congrArg (v2 + ·) kc_i_m1) (by decide) rfl ?_
        refine V_goto (tgt := 3) (pc := 34) C dX12_compare_34 (by decide) ?_
        exact V_mask [true, true, true] (ih _ _ h hR)
      · have h := it_f hc h
        refine V_aload_n (pc := 16) C dX12_compare_16 rfl rfl ?_
        refine V_iload_n (pc := 17) C dX12_compare_17 rfl rfl ?_
        obtain ⟨k3, h⟩ := ck_some h
        refine V_iald (pc := 18) C hv0 k3 dX12_compare_18 ?_
        refine V_aload_n (pc := 19) C dX12_compare_19 rfl rfl ?_
        refine V_iload_n (pc := 20) C dX12_compare_20 rfl rfl ?_
        obtain ⟨k4, h⟩ := ck_some h
        refine V_iald (pc := 21) C hv1 k4 dX12_compare_21 ?_
        refine V_icmp_ge (tgt := 29) (pc := 22) C dX12_compare_22 (by decide) (fun hc => ?_) (fun hc => ?_)
        · have h := it_t hc h
          refine V_iconst (pc := 29) C dX12_compare_29 kc_i_1 ?_
          cases h
          exact hR 30 _ ⟨_, rfl, rfl⟩ dX12_compare_30
        · have h := it_f hc h
          refine V_iconst (pc := 25) C dX12_compare_25 kc_i_m1 ?_
          refine V_goto (tgt := 30) (pc := 26) C dX12_compare_26 (by decide) ?_
          cases h
          exact hR 30 _ ⟨_, rfl, rfl⟩ dX12_compare_30
set_option maxRecDepth 100000 in
theorem mX12_compare (l : Launch) {S : zM} {a0 : Nat} {a1 : Nat} {r : Int32} (ha0 : zar mW 1 0 24 a0) (ha1 : zar mW 1 0 24 a1) (h : gX12_compare S a0 a1 = some r) : zMet l mW zS0 yX12_compare cX12_compare 3 (some .int) 0 0 [.ref a0, .ref a1] S (some (.int r)) S := by
  refine zmeth (by decide +kernel) (by rfl) (fun K hKl C hR => ?_)
  show V K 0 [some (.ref a0), some (.ref a1), none] [] S
  unfold gX12_compare at h
  refine V_bipush (pc := 0) C dX12_compare_0 kc_b_23 ?_
  refine V_istore_n (L' := [some (.ref a0), some (.ref a1), some (.int (23 : Int32))]) (pc := 2) C dX12_compare_2 rfl (by decide) rfl ?_
  exact V_mask [true, true, true] (mX12_compare_L3 C ha0 ha1 FU _ _ h hR)
set_option maxRecDepth 100000 in
theorem mX12_copy_L2 {K : zK} (C : zC K cX12_copy yX12_copy.cls 3 0 0 mW) {v0 : Nat} {v1 : Nat} (hv0 : zar mW 1 0 24 v0) (hv1 : zar mW 1 0 24 v1) : ∀ (f : Nat) (S : zM) (v2 : Int32) (S' : zM), gX12_copy_L2 v0 v1 f S v2 = some S' → zR K cX12_copy (none) S' none → V K 2 [some (.ref v0), some (.ref v1), some (.int v2)] [] S := by
  intro f
  induction f with
  | zero => intro S v2 S' h hR; cases h
  | succ n ih =>
    intro S v2 S' h hR
    unfold gX12_copy_L2 at h
    refine V_iload_n (pc := 2) C dX12_copy_2 rfl rfl ?_
    refine V_bipush (pc := 3) C dX12_copy_3 kc_b_24 ?_
    refine V_icmp_ge (tgt := 20) (pc := 5) C dX12_copy_5 (by decide) (fun hc => ?_) (fun hc => ?_)
    · have h := it_t hc h
      cases h
      exact hR 20 _ rfl dX12_copy_20
    · have h := it_f hc h
      refine V_aload_n (pc := 8) C dX12_copy_8 rfl rfl ?_
      refine V_iload_n (pc := 9) C dX12_copy_9 rfl rfl ?_
      refine V_aload_n (pc := 10) C dX12_copy_10 rfl rfl ?_
      refine V_iload_n (pc := 11) C dX12_copy_11 rfl rfl ?_
      obtain ⟨k1, h⟩ := ck_some h
      refine V_iald (pc := 12) C hv0 k1 dX12_copy_12 ?_
      obtain ⟨k2, h⟩ := ck_some h
      refine V_iast (pc := 13) C hv1 k2 dX12_copy_13 ?_
      refine V_iinc (L' := [some (.ref v0), some (.ref v1), some (.int (v2 + (1 : Int32)))]) (v := (v2 + (1 : Int32))) (pc := 14) C dX12_copy_14 rfl (congrArg (v2 + ·) kc_i_1) (by decide) rfl ?_
      refine V_goto (tgt := 2) (pc := 17) C dX12_copy_17 (by decide) ?_
      exact V_mask [true, true, true] (ih _ _ _ h hR)
set_option maxRecDepth 100000 in
theorem mX12_copy (l : Launch) {S : zM} {a0 : Nat} {a1 : Nat} {S' : zM} (ha0 : zar mW 1 0 24 a0) (ha1 : zar mW 1 0 24 a1) (h : gX12_copy S a0 a1 = some S') : zMet l mW zS0 yX12_copy cX12_copy 3 (none) 0 0 [.ref a0, .ref a1] S none S' := by
  refine zmeth (by decide +kernel) (by rfl) (fun K hKl C hR => ?_)
  show V K 0 [some (.ref a0), some (.ref a1), none] [] S
  unfold gX12_copy at h
  refine V_iconst (pc := 0) C dX12_copy_0 kc_i_0 ?_
  refine V_istore_n (L' := [some (.ref a0), some (.ref a1), some (.int (0 : Int32))]) (pc := 1) C dX12_copy_1 rfl (by decide) rfl ?_
  exact V_mask [true, true, true] (mX12_copy_L2 C ha0 ha1 FU _ _ _ h hR)
set_option maxRecDepth 100000 in
theorem mX12_ways_L5 {K : zK} (C : zC K cX12_ways yX12_ways.cls 5 0 0 mW) {S : zM} {v0 : Int32} {v1 : Int32}  : ∀ (f : Nat) (v2 : Int64) (v4 : Int32) (r : Int64), gX12_ways_L5 v0 v1 f v2 v4 = some r → zR K cX12_ways (some .long) S (some (.long r)) → V K 5 [some (.int v0), some (.int v1), some (.long v2), none, some (.int v4)] [] S := by
  intro f
  induction f with
  | zero => intro v2 v4 r h hR; cases h
  | succ n ih =>
    intro v2 v4 r h hR
    unfold gX12_ways_L5 at h
    refine V_iload (pc := 5) C dX12_ways_5 rfl ?_
    refine V_iload_n (pc := 7) C dX12_ways_7 rfl rfl ?_
    refine V_icmp_gt (tgt := 31) (pc := 8) C dX12_ways_8 (by decide) (fun hc => ?_) (fun hc => ?_)
    · have h := it_t hc h
      refine V_lload_n (pc := 31) C dX12_ways_31 rfl rfl ?_
      cases h
      exact hR 32 _ rfl dX12_ways_32
    · have h := it_f hc h
      refine V_lload_n (pc := 11) C dX12_ways_11 rfl rfl ?_
      refine V_iload_n (pc := 12) C dX12_ways_12 rfl rfl ?_
      refine V_iload_n (pc := 13) C dX12_ways_13 rfl rfl ?_
      refine V_isub (pc := 14) C dX12_ways_14 ?_
      refine V_iload (pc := 15) C dX12_ways_15 rfl ?_
      refine V_iadd (pc := 17) C dX12_ways_17 ?_
      refine V_i2l (pc := 18) C dX12_ways_18 ?_
      refine V_lmul (pc := 19) C dX12_ways_19 ?_
      refine V_iload (pc := 20) C dX12_ways_20 rfl ?_
      refine V_i2l (pc := 22) C dX12_ways_22 ?_
      obtain ⟨k1, h⟩ := ck_some h
      refine V_ldiv (pc := 23) C dX12_ways_23 (of_decide_eq_true k1) ?_
      obtain ⟨x2, ex2, h⟩ := lt_some h
      refine V_nmJ ex2 ?_
      refine V_lstore_n (L' := [some (.int v0), some (.int v1), some (.long x2), none, some (.int v4)]) (pc := 24) C dX12_ways_24 rfl (by decide) rfl ?_
      refine V_iinc (L' := [some (.int v0), some (.int v1), some (.long x2), none, some (.int (v4 + (1 : Int32)))]) (v := (v4 + (1 : Int32))) (pc := 25) C dX12_ways_25 rfl (congrArg (v4 + ·) kc_i_1) (by decide) rfl ?_
      refine V_goto (tgt := 5) (pc := 28) C dX12_ways_28 (by decide) ?_
      exact V_mask [true, true, true, false, true] (ih _ _ _ h hR)
set_option maxRecDepth 100000 in
theorem mX12_ways (l : Launch) {S : zM} {a0 : Int32} {a1 : Int32} {r : Int64}  (h : gX12_ways a0 a1 = some r) : zMet l mW zS0 yX12_ways cX12_ways 5 (some .long) 0 0 [.int a0, .int a1] S (some (.long r)) S := by
  refine zmeth (by decide +kernel) (by rfl) (fun K hKl C hR => ?_)
  show V K 0 [some (.int a0), some (.int a1), none, none, none] [] S
  unfold gX12_ways at h
  refine V_lconst (pc := 0) C dX12_ways_0 (v := (1 : Int64)) rfl ?_
  refine V_lstore_n (L' := [some (.int a0), some (.int a1), some (.long (1 : Int64)), none, none]) (pc := 1) C dX12_ways_1 rfl (by decide) rfl ?_
  refine V_iconst (pc := 2) C dX12_ways_2 kc_i_1 ?_
  refine V_istore (L' := [some (.int a0), some (.int a1), some (.long (1 : Int64)), none, some (.int (1 : Int32))]) (pc := 3) C dX12_ways_3 (by decide) rfl ?_
  exact V_mask [true, true, true, false, true] (mX12_ways_L5 C  FU _ _ _ h hR)
set_option maxRecDepth 100000 in
theorem mX12_grows (l : Launch) {S : zM} {a1 : Int32} {a2 : Int32} {S' : zM}  (h : gX12_grows S a1 a2 = some S') : zMet l mW zS0 yX12_grows cX12_grows 5 (none) 1 26 [.ref 0, .int a1, .int a2] S none S' := by
  refine zmeth (by decide +kernel) (by rfl) (fun K hKl C hR => ?_)
  show V K 0 [some (.ref 0), some (.int a1), some (.int a2), none, none] [] S
  unfold gX12_grows at h
  refine V_iload_n (pc := 0) C dX12_grows_0 rfl rfl ?_
  refine V_iload_n (pc := 1) C dX12_grows_1 rfl rfl ?_
  obtain ⟨r1, er1, h⟩ := b1_some h
  refine V_callS (As := [.int a1, .int a2]) (pc := 2) C (mX12_ways _ er1) zm_X12_ways zs_X12_ways ml_RX12_391 ⟨Nat.le_of_ble_eq_true rfl, Nat.le_of_ble_eq_true rfl⟩ rfl rfl (Nat.le_of_ble_eq_true rfl) dX12_grows_2 ?_
  show V K 5 [some (.ref 0), some (.int a1), some (.int a2), none, none] [.long r1] S
  refine V_lstore_n (L' := [some (.ref 0), some (.int a1), some (.int a2), some (.long r1), none]) (pc := 5) C dX12_grows_5 rfl (by decide) rfl ?_
  refine V_aload_n (pc := 6) C dX12_grows_6 rfl rfl ?_
  refine V_getF (p1 := 16) (pc := 7) C z1_mW_12 fl_RX12_59 rfl (zf_mW_12_30 z1_mW_12) dX12_grows_7 ?_
  refine V_aload_n (pc := 10) C dX12_grows_10 rfl rfl ?_
  refine V_getF (p1 := 15) (pc := 11) C z1_mW_12 fl_RX12_56 rfl (zf_mW_12_29 z1_mW_12) dX12_grows_11 ?_
  refine V_lload_n (pc := 14) C dX12_grows_14 rfl rfl ?_
  refine V_ldc2 (pc := 15) C dX12_grows_15 kl_RX12_395 ?_
  refine V_land (pc := 18) C dX12_grows_18 ?_
  obtain ⟨S3, euS3, h⟩ := b1_some h
  refine V_callS (As := [.ref 16, .ref 15, .long (r1 &&& (524287 : Int64))]) (pc := 19) C (mX12_add _ (za_mW_12_30 z1_mW_12) (za_mW_12_29 z1_mW_12) euS3) zm_X12_add zs_X12_add ml_RX12_397 ⟨Nat.le_of_ble_eq_true rfl, Nat.le_of_ble_eq_true rfl⟩ rfl rfl (Nat.le_of_ble_eq_true rfl) dX12_grows_19 ?_
  show V K 22 [some (.ref 0), some (.int a1), some (.int a2), some (.long r1), none] [] S3
  refine V_aload_n (pc := 22) C dX12_grows_22 rfl rfl ?_
  refine V_getF (p1 := 15) (pc := 23) C z1_mW_12 fl_RX12_56 rfl (zf_mW_12_29 z1_mW_12) dX12_grows_23 ?_
  refine V_aload_n (pc := 26) C dX12_grows_26 rfl rfl ?_
  refine V_getF (p1 := 19) (pc := 27) C z1_mW_12 fl_RX12_68 rfl (zf_mW_12_33 z1_mW_12) dX12_grows_27 ?_
  obtain ⟨S5, euS5, h⟩ := b1_some h
  refine V_callS (As := [.ref 15, .ref 19]) (pc := 30) C (mX12_copy _ (za_mW_12_29 z1_mW_12) (za_mW_12_33 z1_mW_12) euS5) zm_X12_copy zs_X12_copy ml_RX12_401 ⟨Nat.le_of_ble_eq_true rfl, Nat.le_of_ble_eq_true rfl⟩ rfl rfl (Nat.le_of_ble_eq_true rfl) dX12_grows_30 ?_
  show V K 33 [some (.ref 0), some (.int a1), some (.int a2), some (.long r1), none] [] S5
  refine V_aload_n (pc := 33) C dX12_grows_33 rfl rfl ?_
  refine V_getF (p1 := 19) (pc := 34) C z1_mW_12 fl_RX12_68 rfl (zf_mW_12_33 z1_mW_12) dX12_grows_34 ?_
  refine V_ldc2 (pc := 37) C dX12_grows_37 kl_RX12_405 ?_
  obtain ⟨S7, euS7, h⟩ := b1_some h
  refine V_callS (As := [.ref 19, .long (524288 : Int64)]) (pc := 40) C (mX12_times _ (za_mW_12_33 z1_mW_12) euS7) zm_X12_times zs_X12_times ml_RX12_407 ⟨Nat.le_of_ble_eq_true rfl, Nat.le_of_ble_eq_true rfl⟩ rfl rfl (Nat.le_of_ble_eq_true rfl) dX12_grows_40 ?_
  show V K 43 [some (.ref 0), some (.int a1), some (.int a2), some (.long r1), none] [] S7
  refine V_aload_n (pc := 43) C dX12_grows_43 rfl rfl ?_
  refine V_getF (p1 := 16) (pc := 44) C z1_mW_12 fl_RX12_59 rfl (zf_mW_12_30 z1_mW_12) dX12_grows_44 ?_
  refine V_aload_n (pc := 47) C dX12_grows_47 rfl rfl ?_
  refine V_getF (p1 := 19) (pc := 48) C z1_mW_12 fl_RX12_68 rfl (zf_mW_12_33 z1_mW_12) dX12_grows_48 ?_
  refine V_lload_n (pc := 51) C dX12_grows_51 rfl rfl ?_
  refine V_bipush (pc := 52) C dX12_grows_52 kc_b_19 ?_
  refine V_lshr (pc := 54) C dX12_grows_54 ?_
  obtain ⟨S9, euS9, h⟩ := b1_some h
  refine V_callS (As := [.ref 16, .ref 19, .long (r1 >>> ((19 : Int32).toInt64 &&& 63))]) (pc := 55) C (mX12_add _ (za_mW_12_30 z1_mW_12) (za_mW_12_33 z1_mW_12) euS9) zm_X12_add zs_X12_add ml_RX12_397 ⟨Nat.le_of_ble_eq_true rfl, Nat.le_of_ble_eq_true rfl⟩ rfl rfl (Nat.le_of_ble_eq_true rfl) dX12_grows_55 ?_
  show V K 58 [some (.ref 0), some (.int a1), some (.int a2), some (.long r1), none] [] S9
  cases h
  exact hR 58 _ rfl dX12_grows_58
set_option maxRecDepth 100000 in
theorem mX12_isFortieth (l : Launch) {S : zM} {a1 : Nat} {r : Int32} {S' : zM} (ha1 : zar mW 1 0 24 a1) (h : gX12_isFortieth S a1 = some (r, S')) : zMet l mW zS0 yX12_isFortieth cX12_isFortieth 2 (some .boolean) 1 25 [.ref 0, .ref a1] S (some (.int r)) S' := by
  refine zmeth (by decide +kernel) (by rfl) (fun K hKl C hR => ?_)
  show V K 0 [some (.ref 0), some (.ref a1)] [] S
  unfold gX12_isFortieth at h
  refine V_aload_n (pc := 0) C dX12_isFortieth_0 rfl rfl ?_
  refine V_aload_n (pc := 1) C dX12_isFortieth_1 rfl rfl ?_
  refine V_getF (p1 := 19) (pc := 2) C z1_mW_12 fl_RX12_68 rfl (zf_mW_12_33 z1_mW_12) dX12_isFortieth_2 ?_
  obtain ⟨S2, euS2, h⟩ := b1_some h
  refine V_callS (As := [.ref a1, .ref 19]) (pc := 5) C (mX12_copy _ ha1 (za_mW_12_33 z1_mW_12) euS2) zm_X12_copy zs_X12_copy ml_RX12_401 ⟨Nat.le_of_ble_eq_true rfl, Nat.le_of_ble_eq_true rfl⟩ rfl rfl (Nat.le_of_ble_eq_true rfl) dX12_isFortieth_5 ?_
  show V K 8 [some (.ref 0), some (.ref a1)] [] S2
  refine V_aload_n (pc := 8) C dX12_isFortieth_8 rfl rfl ?_
  refine V_getF (p1 := 19) (pc := 9) C z1_mW_12 fl_RX12_68 rfl (zf_mW_12_33 z1_mW_12) dX12_isFortieth_9 ?_
  refine V_ldc2 (pc := 12) C dX12_isFortieth_12 kl_RX12_410 ?_
  obtain ⟨S4, euS4, h⟩ := b1_some h
  refine V_callS (As := [.ref 19, .long (40 : Int64)]) (pc := 15) C (mX12_times _ (za_mW_12_33 z1_mW_12) euS4) zm_X12_times zs_X12_times ml_RX12_407 ⟨Nat.le_of_ble_eq_true rfl, Nat.le_of_ble_eq_true rfl⟩ rfl rfl (Nat.le_of_ble_eq_true rfl) dX12_isFortieth_15 ?_
  show V K 18 [some (.ref 0), some (.ref a1)] [] S4
  refine V_aload_n (pc := 18) C dX12_isFortieth_18 rfl rfl ?_
  refine V_getF (p1 := 19) (pc := 19) C z1_mW_12 fl_RX12_68 rfl (zf_mW_12_33 z1_mW_12) dX12_isFortieth_19 ?_
  refine V_aload_n (pc := 22) C dX12_isFortieth_22 rfl rfl ?_
  refine V_getF (p1 := 17) (pc := 23) C z1_mW_12 fl_RX12_62 rfl (zf_mW_12_31 z1_mW_12) dX12_isFortieth_23 ?_
  obtain ⟨r5, er5, h⟩ := b1_some h
  refine V_callS (As := [.ref 19, .ref 17]) (pc := 26) C (mX12_compare _ (za_mW_12_33 z1_mW_12) (za_mW_12_31 z1_mW_12) er5) zm_X12_compare zs_X12_compare ml_RX12_412 ⟨Nat.le_of_ble_eq_true rfl, Nat.le_of_ble_eq_true rfl⟩ rfl rfl (Nat.le_of_ble_eq_true rfl) dX12_isFortieth_26 ?_
  show V K 29 [some (.ref 0), some (.ref a1)] [.int r5] S4
  refine V_if_lt (tgt := 36) (pc := 29) C dX12_isFortieth_29 (by decide) (fun hc => ?_) (fun hc => ?_)
  · have h := it_t hc h
    refine V_iconst (pc := 36) C dX12_isFortieth_36 kc_i_0 ?_
    cases h
    exact hR 37 _ ⟨_, rfl, zB0⟩ dX12_isFortieth_37
  · have h := it_f hc h
    refine V_iconst (pc := 32) C dX12_isFortieth_32 kc_i_1 ?_
    refine V_goto (tgt := 37) (pc := 33) C dX12_isFortieth_33 (by decide) ?_
    cases h
    exact hR 37 _ ⟨_, rfl, zB1⟩ dX12_isFortieth_37
