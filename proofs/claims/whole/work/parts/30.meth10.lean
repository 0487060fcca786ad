set_option maxRecDepth 100000 in
theorem mX12_learned_J34 {K : zK} (C : zC K cX12_learned yX12_learned.cls 4 0 0 mW) {S : zM} {v1 : Int32} {s0 : Int32} {r : Int32}  (hR : zR K cX12_learned (some .int) S (some (.int r))) (h : gX12_learned_J34 S v1 s0 = some r) : V K 34 [some (.ref 0), some (.int v1), none, none] [.int s0] S := by
  unfold gX12_learned_J34 at h
  refine V_istore_n (L' := [some (.ref 0), some (.int v1), some (.int s0), none]) (pc := 34) C dX12_learned_34 rfl (by decide) rfl ?_
  refine V_aload_n (pc := 35) C dX12_learned_35 rfl rfl ?_
  refine V_getF (p1 := 3) (pc := 36) C z1_mW_12 fl_RX12_20 rfl (zf_mW_12_15 z1_mW_12) dX12_learned_36 ?_
  refine V_bipush (pc := 39) C dX12_learned_39 kc_b_78 ?_
  refine V_aload_n (pc := 41) C dX12_learned_41 rfl rfl ?_
  refine V_getF (p1 := 3) (pc := 42) C z1_mW_12 fl_RX12_20 rfl (zf_mW_12_15 z1_mW_12) dX12_learned_42 ?_
  refine V_bipush (pc := 45) C dX12_learned_45 kc_b_120 ?_
  refine V_iload_n (pc := 47) C dX12_learned_47 rfl rfl ?_
  refine V_iadd (pc := 48) C dX12_learned_48 ?_
  obtain ⟨k5, h⟩ := ck_some h
  refine V_iald (pc := 49) C (za_mW_12_15 z1_mW_12) k5 dX12_learned_49 ?_
  refine V_iadd (pc := 50) C dX12_learned_50 ?_
  obtain ⟨k6, h⟩ := ck_some h
  refine V_iald (pc := 51) C (za_mW_12_15 z1_mW_12) k6 dX12_learned_51 ?_
  refine V_iconst (pc := 52) C dX12_learned_52 kc_i_1 ?_
  refine V_isub (pc := 53) C dX12_learned_53 ?_
  obtain ⟨x7, ex7, h⟩ := lt_some h
  refine V_nmI ex7 ?_
  refine V_istore_n (L' := [some (.ref 0), some (.int v1), some (.int s0), some (.int x7)]) (pc := 54) C dX12_learned_54 rfl (by decide) rfl ?_
  refine V_iload_n (pc := 55) C dX12_learned_55 rfl rfl ?_
  refine V_iload_n (pc := 56) C dX12_learned_56 rfl rfl ?_
  refine V_icmp_ge (tgt := 64) (pc := 57) C dX12_learned_57 (by decide) (fun hc => ?_) (fun hc => ?_)
  · have h := it_t hc h
    refine V_iload_n (pc := 64) C dX12_learned_64 rfl rfl ?_
    cases h
    exact hR 65 _ ⟨_, rfl, rfl⟩ dX12_learned_65
  · have h := it_f hc h
    refine V_iload_n (pc := 60) C dX12_learned_60 rfl rfl ?_
    refine V_goto (tgt := 65) (pc := 61) C dX12_learned_61 (by decide) ?_
    cases h
    exact hR 65 _ ⟨_, rfl, rfl⟩ dX12_learned_65
set_option maxRecDepth 100000 in
theorem mX12_learned (l : Launch) {S : zM} {a1 : Int32} {r : Int32}  (h : gX12_learned S a1 = some r) : zMet l mW zS0 yX12_learned cX12_learned 4 (some .int) 0 0 [.ref 0, .int a1] S (some (.int r)) S := by
  refine zmeth (by decide +kernel) (by rfl) (fun K hKl C hR => ?_)
  show V K 0 [some (.ref 0), some (.int a1), none, none] [] S
  unfold gX12_learned at h
  refine V_aload_n (pc := 0) C dX12_learned_0 rfl rfl ?_
  refine V_getF (p1 := 3) (pc := 1) C z1_mW_12 fl_RX12_20 rfl (zf_mW_12_15 z1_mW_12) dX12_learned_1 ?_
  refine V_sipush (pc := 4) C dX12_learned_4 kc_s_144 ?_
  refine V_iload_n (pc := 7) C dX12_learned_7 rfl rfl ?_
  refine V_iadd (pc := 8) C dX12_learned_8 ?_
  obtain ⟨k1, h⟩ := ck_some h
  refine V_iald (pc := 9) C (za_mW_12_15 z1_mW_12) k1 dX12_learned_9 ?_
  refine V_if_ne (tgt := 17) (pc := 10) C dX12_learned_10 (by decide) (fun hc => ?_) (fun hc => ?_)
  · have h := it_f hc h
    refine V_aload_n (pc := 17) C dX12_learned_17 rfl rfl ?_
    refine V_getF (p1 := 6) (pc := 18) C z1_mW_12 fl_RX12_29 rfl (zf_mW_12_18 z1_mW_12) dX12_learned_18 ?_
    refine V_iload_n (pc := 21) C dX12_learned_21 rfl rfl ?_
    obtain ⟨k2, h⟩ := ck_some h
    refine V_iald (pc := 22) C (za_mW_12_18 z1_mW_12) k2 dX12_learned_22 ?_
    refine V_aload_n (pc := 23) C dX12_learned_23 rfl rfl ?_
    refine V_getF (p1 := 3) (pc := 24) C z1_mW_12 fl_RX12_20 rfl (zf_mW_12_15 z1_mW_12) dX12_learned_24 ?_
    refine V_sipush (pc := 27) C dX12_learned_27 kc_s_144 ?_
    refine V_iload_n (pc := 30) C dX12_learned_30 rfl rfl ?_
    refine V_iadd (pc := 31) C dX12_learned_31 ?_
    obtain ⟨k3, h⟩ := ck_some h
    refine V_iald (pc := 32) C (za_mW_12_15 z1_mW_12) k3 dX12_learned_32 ?_
    obtain ⟨k4, h⟩ := ck_some h
    refine V_idiv (pc := 33) C dX12_learned_33 (of_decide_eq_true k4) ?_
    exact V_mask [true, true, false, false] (mX12_learned_J34 C  hR h)
  · have h := it_t hc h
    refine V_iconst (pc := 13) C dX12_learned_13 kc_i_0 ?_
    refine V_goto (tgt := 34) (pc := 14) C dX12_learned_14 (by decide) ?_
    exact V_mask [true, true, false, false] (mX12_learned_J34 C  hR h)
set_option maxRecDepth 100000 in
theorem mX12_wholesNow (l : Launch) {S : zM} {a1 : Int32} {r : Int32}  (h : gX12_wholesNow S a1 = some r) : zMet l mW zS0 yX12_wholesNow cX12_wholesNow 2 (some .int) 1 23 [.ref 0, .int a1] S (some (.int r)) S := by
  refine zmeth (by decide +kernel) (by rfl) (fun K hKl C hR => ?_)
  show V K 0 [some (.ref 0), some (.int a1)] [] S
  unfold gX12_wholesNow at h
  refine V_aload_n (pc := 0) C dX12_wholesNow_0 rfl rfl ?_
  refine V_getF (p1 := 3) (pc := 1) C z1_mW_12 fl_RX12_20 rfl (zf_mW_12_15 z1_mW_12) dX12_wholesNow_1 ?_
  refine V_bipush (pc := 4) C dX12_wholesNow_4 kc_b_78 ?_
  refine V_aload_n (pc := 6) C dX12_wholesNow_6 rfl rfl ?_
  refine V_getF (p1 := 3) (pc := 7) C z1_mW_12 fl_RX12_20 rfl (zf_mW_12_15 z1_mW_12) dX12_wholesNow_7 ?_
  refine V_bipush (pc := 10) C dX12_wholesNow_10 kc_b_120 ?_
  refine V_iload_n (pc := 12) C dX12_wholesNow_12 rfl rfl ?_
  refine V_iadd (pc := 13) C dX12_wholesNow_13 ?_
  obtain ⟨k1, h⟩ := ck_some h
  refine V_iald (pc := 14) C (za_mW_12_15 z1_mW_12) k1 dX12_wholesNow_14 ?_
  refine V_iadd (pc := 15) C dX12_wholesNow_15 ?_
  obtain ⟨k2, h⟩ := ck_some h
  refine V_iald (pc := 16) C (za_mW_12_15 z1_mW_12) k2 dX12_wholesNow_16 ?_
  refine V_aload_n (pc := 17) C dX12_wholesNow_17 rfl rfl ?_
  refine V_iload_n (pc := 18) C dX12_wholesNow_18 rfl rfl ?_
  obtain ⟨r3, er3, h⟩ := b1_some h
  refine V_callV (As := [.int a1]) (pc := 19) C (mX12_learned _ er3) zm_X12_learned zi_X12_learned ml_RX12_312 z1_mW_12 rfl ⟨Nat.le_of_ble_eq_true rfl, Nat.le_of_ble_eq_true rfl⟩ rfl rfl (Nat.le_of_ble_eq_true rfl) dX12_wholesNow_19 ?_
  show V K 22 [some (.ref 0), some (.int a1)] [.int r3, .int (gI S 3 (ix ((78 : Int32) + (gI S 3 (ix ((120 : Int32) + a1))))))] S
  refine V_isub (pc := 22) C dX12_wholesNow_22 ?_
  cases h
  exact hR 23 _ ⟨_, rfl, rfl⟩ dX12_wholesNow_23
set_option maxRecDepth 100000 in
theorem mX12_sayer (l : Launch) {S : zM} {a1 : Int32} {a2 : Int32} {r : Int32} {S' : zM}  (h : gX12_sayer S a1 a2 = some (r, S')) : zMet l mW zS0 yX12_sayer cX12_sayer 3 (some .int) 2 48 [.ref 0, .int a1, .int a2] S (some (.int r)) S' := by
  refine zmeth (by decide +kernel) (by rfl) (fun K hKl C hR => ?_)
  show V K 0 [some (.ref 0), some (.int a1), some (.int a2)] [] S
  unfold gX12_sayer at h
  refine V_aload_n (pc := 0) C dX12_sayer_0 rfl rfl ?_
  refine V_iconst (pc := 1) C dX12_sayer_1 kc_i_0 ?_
  refine V_putI (pc := 2) C z1_mW_12 fp_RX12_103 rfl rfl dX12_sayer_2 ?_
  refine V_aload_n (pc := 5) C dX12_sayer_5 rfl rfl ?_
  refine V_iload_n (pc := 6) C dX12_sayer_6 rfl rfl ?_
  obtain ⟨r1, er1, h⟩ := b1_some h
  refine V_callV (As := [.int a1]) (pc := 7) C (mX12_isSayer _ er1) zm_X12_isSayer zi_X12_isSayer ml_RX12_315 z1_mW_12 rfl ⟨Nat.le_of_ble_eq_true rfl, Nat.le_of_ble_eq_true rfl⟩ rfl rfl (Nat.le_of_ble_eq_true rfl) dX12_sayer_7 ?_
  show V K 10 [some (.ref 0), some (.int a1), some (.int a2)] [.int r1] (pI S 0 0 (0 : Int32))
  refine V_if_ne (tgt := 17) (pc := 10) C dX12_sayer_10 (by decide) (fun hc => ?_) (fun hc => ?_)
  · have h := it_f hc h
    refine V_iload_n (pc := 17) C dX12_sayer_17 rfl rfl ?_
    by_cases c18_0 : a2 = (0 : Int32)
    · have h := it_t c18_0 h
      refine V_case (tgt := 72) (off := (54)) (pc := 18) C dX12_sayer_18 c18_0 (by decide +kernel) (by decide) ?_
      refine V_aload_n (pc := 72) C dX12_sayer_72 rfl rfl ?_
      refine V_getF (p1 := 3) (pc := 73) C z1_mW_12 fl_RX12_20 rfl (zf_mW_12_15 z1_mW_12) dX12_sayer_73 ?_
      refine V_bipush (pc := 76) C dX12_sayer_76 kc_b_120 ?_
      refine V_iload_n (pc := 78) C dX12_sayer_78 rfl rfl ?_
      refine V_iadd (pc := 79) C dX12_sayer_79 ?_
      obtain ⟨k2, h⟩ := ck_some h
      refine V_iald (pc := 80) C (za_mW_12_15 z1_mW_12) k2 dX12_sayer_80 ?_
      cases h
      exact hR 81 _ ⟨_, rfl, rfl⟩ dX12_sayer_81
    · have h := it_f c18_0 h
      by_cases c18_1 : a2 = (1 : Int32)
      · have h := it_t c18_1 h
        refine V_case (tgt := 82) (off := (64)) (pc := 18) C dX12_sayer_18 c18_1 (by decide +kernel) (by decide) ?_
        refine V_aload_n (pc := 82) C dX12_sayer_82 rfl rfl ?_
        refine V_getF (p1 := 3) (pc := 83) C z1_mW_12 fl_RX12_20 rfl (zf_mW_12_15 z1_mW_12) dX12_sayer_83 ?_
        refine V_bipush (pc := 86) C dX12_sayer_86 kc_b_126 ?_
        refine V_iload_n (pc := 88) C dX12_sayer_88 rfl rfl ?_
        refine V_iadd (pc := 89) C dX12_sayer_89 ?_
        obtain ⟨k3, h⟩ := ck_some h
        refine V_iald (pc := 90) C (za_mW_12_15 z1_mW_12) k3 dX12_sayer_90 ?_
        cases h
        exact hR 91 _ ⟨_, rfl, rfl⟩ dX12_sayer_91
      · have h := it_f c18_1 h
        by_cases c18_2 : a2 = (2 : Int32)
        · have h := it_t c18_2 h
          refine V_case (tgt := 92) (off := (74)) (pc := 18) C dX12_sayer_18 c18_2 (by decide +kernel) (by decide) ?_
          refine V_aload_n (pc := 92) C dX12_sayer_92 rfl rfl ?_
          refine V_getF (p1 := 3) (pc := 93) C z1_mW_12 fl_RX12_20 rfl (zf_mW_12_15 z1_mW_12) dX12_sayer_93 ?_
          refine V_sipush (pc := 96) C dX12_sayer_96 kc_s_132 ?_
          refine V_iload_n (pc := 99) C dX12_sayer_99 rfl rfl ?_
          refine V_iadd (pc := 100) C dX12_sayer_100 ?_
          obtain ⟨k4, h⟩ := ck_some h
          refine V_iald (pc := 101) C (za_mW_12_15 z1_mW_12) k4 dX12_sayer_101 ?_
          cases h
          exact hR 102 _ ⟨_, rfl, rfl⟩ dX12_sayer_102
        · have h := it_f c18_2 h
          by_cases c18_3 : a2 = (3 : Int32)
          · have h := it_t c18_3 h
            refine V_case (tgt := 103) (off := (85)) (pc := 18) C dX12_sayer_18 c18_3 (by decide +kernel) (by decide) ?_
            refine V_aload_n (pc := 103) C dX12_sayer_103 rfl rfl ?_
            refine V_iload_n (pc := 104) C dX12_sayer_104 rfl rfl ?_
            obtain ⟨r5, er5, h⟩ := b1_some h
            refine V_callV (As := [.int a1]) (pc := 105) C (mX12_tired _ er5) zm_X12_tired zi_X12_tired ml_RX12_318 z1_mW_12 rfl ⟨Nat.le_of_ble_eq_true rfl, Nat.le_of_ble_eq_true rfl⟩ rfl rfl (Nat.le_of_ble_eq_true rfl) dX12_sayer_105 ?_
            show V K 108 [some (.ref 0), some (.int a1), some (.int a2)] [.int r5] (pI S 0 0 (0 : Int32))
            cases h
            exact hR 108 _ ⟨_, rfl, rfl⟩ dX12_sayer_108
          · have h := it_f c18_3 h
            by_cases c18_4 : a2 = (4 : Int32)
            · have h := it_t c18_4 h
              refine V_case (tgt := 109) (off := (91)) (pc := 18) C dX12_sayer_18 c18_4 (by decide +kernel) (by decide) ?_
              refine V_aload_n (pc := 109) C dX12_sayer_109 rfl rfl ?_
              refine V_iload_n (pc := 110) C dX12_sayer_110 rfl rfl ?_
              obtain ⟨r6, er6, h⟩ := b1_some h
              refine V_callV (As := [.int a1]) (pc := 111) C (mX12_learned _ er6) zm_X12_learned zi_X12_learned ml_RX12_312 z1_mW_12 rfl ⟨Nat.le_of_ble_eq_true rfl, Nat.le_of_ble_eq_true rfl⟩ rfl rfl (Nat.le_of_ble_eq_true rfl) dX12_sayer_111 ?_
              show V K 114 [some (.ref 0), some (.int a1), some (.int a2)] [.int r6] (pI S 0 0 (0 : Int32))
              cases h
              exact hR 114 _ ⟨_, rfl, rfl⟩ dX12_sayer_114
            · have h := it_f c18_4 h
              by_cases c18_5 : a2 = (5 : Int32)
              · have h := it_t c18_5 h
                refine V_case (tgt := 115) (off := (97)) (pc := 18) C dX12_sayer_18 c18_5 (by decide +kernel) (by decide) ?_
                refine V_aload_n (pc := 115) C dX12_sayer_115 rfl rfl ?_
                refine V_getF (p1 := 6) (pc := 116) C z1_mW_12 fl_RX12_29 rfl (zf_mW_12_18 z1_mW_12) dX12_sayer_116 ?_
                refine V_iload_n (pc := 119) C dX12_sayer_119 rfl rfl ?_
                obtain ⟨k7, h⟩ := ck_some h
                refine V_iald (pc := 120) C (za_mW_12_18 z1_mW_12) k7 dX12_sayer_120 ?_
                cases h
                exact hR 121 _ ⟨_, rfl, rfl⟩ dX12_sayer_121
              · have h := it_f c18_5 h
                by_cases c18_6 : a2 = (6 : Int32)
                · have h := it_t c18_6 h
                  refine V_case (tgt := 122) (off := (104)) (pc := 18) C dX12_sayer_18 c18_6 (by decide +kernel) (by decide) ?_
                  refine V_aload_n (pc := 122) C dX12_sayer_122 rfl rfl ?_
                  refine V_getF (p1 := 7) (pc := 123) C z1_mW_12 fl_RX12_32 rfl (zf_mW_12_19 z1_mW_12) dX12_sayer_123 ?_
                  refine V_iload_n (pc := 126) C dX12_sayer_126 rfl rfl ?_
                  obtain ⟨k8, h⟩ := ck_some h
                  refine V_iald (pc := 127) C (za_mW_12_19 z1_mW_12) k8 dX12_sayer_127 ?_
                  cases h
                  exact hR 128 _ ⟨_, rfl, rfl⟩ dX12_sayer_128
                · have h := it_f c18_6 h
                  by_cases c18_7 : a2 = (7 : Int32)
                  · have h := it_t c18_7 h
                    refine V_case (tgt := 129) (off := (111)) (pc := 18) C dX12_sayer_18 c18_7 (by decide +kernel) (by decide) ?_
                    refine V_aload_n (pc := 129) C dX12_sayer_129 rfl rfl ?_
                    refine V_aload_n (pc := 130) C dX12_sayer_130 rfl rfl ?_
                    refine V_getF (p1 := 3) (pc := 131) C z1_mW_12 fl_RX12_20 rfl (zf_mW_12_15 z1_mW_12) dX12_sayer_131 ?_
                    refine V_bipush (pc := 134) C dX12_sayer_134 kc_b_120 ?_
                    refine V_iload_n (pc := 136) C dX12_sayer_136 rfl rfl ?_
                    refine V_iadd (pc := 137) C dX12_sayer_137 ?_
                    obtain ⟨k9, h⟩ := ck_some h
                    refine V_iald (pc := 138) C (za_mW_12_15 z1_mW_12) k9 dX12_sayer_138 ?_
                    refine V_aload_n (pc := 139) C dX12_sayer_139 rfl rfl ?_
                    refine V_iload_n (pc := 140) C dX12_sayer_140 rfl rfl ?_
                    obtain ⟨r10, er10, h⟩ := b1_some h
                    refine V_callV (As := [.int a1]) (pc := 141) C (mX12_wholesNow _ er10) zm_X12_wholesNow zi_X12_wholesNow ml_RX12_321 z1_mW_12 rfl ⟨Nat.le_of_ble_eq_true rfl, Nat.le_of_ble_eq_true rfl⟩ rfl rfl (Nat.le_of_ble_eq_true rfl) dX12_sayer_141 ?_
                    show V K 144 [some (.ref 0), some (.int a1), some (.int a2)] [.int r10, .int (gI (pI S 0 0 (0 : Int32)) 3 (ix ((120 : Int32) + a1))), .ref 0] (pI S 0 0 (0 : Int32))
                    obtain ⟨r11, er11, h⟩ := b1_some h
                    refine V_callV (As := [.int (gI (pI S 0 0 (0 : Int32)) 3 (ix ((120 : Int32) + a1))), .int r10]) (pc := 144) C (mX12_all _ er11) zm_X12_all zi_X12_all ml_RX12_324 z1_mW_12 rfl ⟨Nat.le_of_ble_eq_true rfl, Nat.le_of_ble_eq_true rfl⟩ rfl rfl (Nat.le_of_ble_eq_true rfl) dX12_sayer_144 ?_
                    show V K 147 [some (.ref 0), some (.int a1), some (.int a2)] [.int r11] (pI S 0 0 (0 : Int32))
                    cases h
                    exact hR 147 _ ⟨_, rfl, rfl⟩ dX12_sayer_147
                  · have h := it_f c18_7 h
                    by_cases c18_8 : a2 = (8 : Int32)
                    · have h := it_t c18_8 h
                      refine V_case (tgt := 148) (off := (130)) (pc := 18) C dX12_sayer_18 c18_8 (by decide +kernel) (by decide) ?_
                      refine V_aload_n (pc := 148) C dX12_sayer_148 rfl rfl ?_
                      refine V_getF (p1 := 3) (pc := 149) C z1_mW_12 fl_RX12_20 rfl (zf_mW_12_15 z1_mW_12) dX12_sayer_149 ?_
                      refine V_sipush (pc := 152) C dX12_sayer_152 kc_s_150 ?_
                      refine V_iload_n (pc := 155) C dX12_sayer_155 rfl rfl ?_
                      refine V_iadd (pc := 156) C dX12_sayer_156 ?_
                      obtain ⟨k12, h⟩ := ck_some h
                      refine V_iald (pc := 157) C (za_mW_12_15 z1_mW_12) k12 dX12_sayer_157 ?_
                      cases h
                      exact hR 158 _ ⟨_, rfl, rfl⟩ dX12_sayer_158
                    · have h := it_f c18_8 h
                      by_cases c18_9 : a2 = (9 : Int32)
                      · have h := it_t c18_9 h
                        refine V_case (tgt := 159) (off := (141)) (pc := 18) C dX12_sayer_18 c18_9 (by decide +kernel) (by decide) ?_
                        refine V_aload_n (pc := 159) C dX12_sayer_159 rfl rfl ?_
                        refine V_getF (p1 := 3) (pc := 160) C z1_mW_12 fl_RX12_20 rfl (zf_mW_12_15 z1_mW_12) dX12_sayer_160 ?_
                        refine V_sipush (pc := 163) C dX12_sayer_163 kc_s_156 ?_
                        refine V_iload_n (pc := 166) C dX12_sayer_166 rfl rfl ?_
                        refine V_iadd (pc := 167) C dX12_sayer_167 ?_
                        obtain ⟨k13, h⟩ := ck_some h
                        refine V_iald (pc := 168) C (za_mW_12_15 z1_mW_12) k13 dX12_sayer_168 ?_
                        cases h
                        exact hR 169 _ ⟨_, rfl, rfl⟩ dX12_sayer_169
                      · have h := it_f c18_9 h
                        refine V_dflt (tgt := 170) (m := 10) (pc := 18) C dX12_sayer_18 (by decide) (fun i hi => match i, hi with | 0, _ => c18_0 | 1, _ => c18_1 | 2, _ => c18_2 | 3, _ => c18_3 | 4, _ => c18_4 | 5, _ => c18_5 | 6, _ => c18_6 | 7, _ => c18_7 | 8, _ => c18_8 | 9, _ => c18_9 | k + 10, hi => absurd hi (by omega)) (by decide) ?_
                        refine V_sipush (pc := 170) C dX12_sayer_170 kc_s_m1000 ?_
                        cases h
                        exact hR 173 _ ⟨_, rfl, rfl⟩ dX12_sayer_173
  · have h := it_t hc h
    refine V_sipush (pc := 13) C dX12_sayer_13 kc_s_m1000 ?_
    cases h
    exact hR 16 _ ⟨_, rfl, rfl⟩ dX12_sayer_16
set_option maxRecDepth 100000 in
theorem mX12_rest (l : Launch) {S : zM} {a1 : Int32} {r : Int32} {S' : zM}  (h : gX12_rest S a1 = some (r, S')) : zMet l mW zS0 yX12_rest cX12_rest 2 (some .boolean) 2 43 [.ref 0, .int a1] S (some (.int r)) S' := by
  refine zmeth (by decide +kernel) (by rfl) (fun K hKl C hR => ?_)
  show V K 0 [some (.ref 0), some (.int a1)] [] S
  unfold gX12_rest at h
  refine V_aload_n (pc := 0) C dX12_rest_0 rfl rfl ?_
  obtain ⟨S2, euS2, h⟩ := b1_some h
  refine V_callV (As := []) (pc := 1) C (mX12_good _ euS2) zm_X12_good zi_X12_good ml_RX12_211 z1_mW_12 rfl ⟨Nat.le_of_ble_eq_true rfl, Nat.le_of_ble_eq_true rfl⟩ rfl rfl (Nat.le_of_ble_eq_true rfl) dX12_rest_1 ?_
  show V K 4 [some (.ref 0), some (.int a1)] [] S2
  refine V_aload_n (pc := 4) C dX12_rest_4 rfl rfl ?_
  refine V_iload_n (pc := 5) C dX12_rest_5 rfl rfl ?_
  obtain ⟨r3, er3, h⟩ := b1_some h
  refine V_callV (As := [.int a1]) (pc := 6) C (mX12_isSayer _ er3) zm_X12_isSayer zi_X12_isSayer ml_RX12_315 z1_mW_12 rfl ⟨Nat.le_of_ble_eq_true rfl, Nat.le_of_ble_eq_true rfl⟩ rfl rfl (Nat.le_of_ble_eq_true rfl) dX12_rest_6 ?_
  show V K 9 [some (.ref 0), some (.int a1)] [.int r3] S2
  refine V_if_ne (tgt := 18) (pc := 9) C dX12_rest_9 (by decide) (fun hc => ?_) (fun hc => ?_)
  · have h := it_f hc h
    refine V_aload_n (pc := 18) C dX12_rest_18 rfl rfl ?_
    refine V_getF (p1 := 7) (pc := 19) C z1_mW_12 fl_RX12_32 rfl (zf_mW_12_19 z1_mW_12) dX12_rest_19 ?_
    refine V_iload_n (pc := 22) C dX12_rest_22 rfl rfl ?_
    refine V_iconst (pc := 23) C dX12_rest_23 kc_i_0 ?_
    obtain ⟨k4, h⟩ := ck_some h
    refine V_iast (pc := 24) C (za_mW_12_19 z1_mW_12) k4 dX12_rest_24 ?_
    refine V_iconst (pc := 25) C dX12_rest_25 kc_i_1 ?_
    cases h
    exact hR 26 _ ⟨_, rfl, zB1⟩ dX12_rest_26
  · have h := it_t hc h
    refine V_aload_n (pc := 12) C dX12_rest_12 rfl rfl ?_
    refine V_iconst (pc := 13) C dX12_rest_13 kc_i_1 ?_
    obtain ⟨r5, S6, er5, h⟩ := b2_some h
    refine V_callV (As := [.int (1 : Int32)]) (pc := 14) C (mX12_isNot _ er5) zm_X12_isNot zi_X12_isNot ml_RX12_327 z1_mW_12 rfl ⟨Nat.le_of_ble_eq_true rfl, Nat.le_of_ble_eq_true rfl⟩ rfl rfl (Nat.le_of_ble_eq_true rfl) dX12_rest_14 ?_
    show V K 17 [some (.ref 0), some (.int a1)] [.int r5] S6
    obtain ⟨k7, h⟩ := ck_some h
    cases h
    exact hR 17 _ ⟨_, rfl, isB_nar k7⟩ dX12_rest_17
set_option maxRecDepth 100000 in
theorem mX12_without (l : Launch) {S : zM} {a0 : Int32} {r : Int32}  (h : gX12_without a0 = some r) : zMet l mW zS0 yX12_without cX12_without 1 (some .int) 0 0 [.int a0] S (some (.int r)) S := by
  refine zmeth (by decide +kernel) (by rfl) (fun K hKl C hR => ?_)
  show V K 0 [some (.int a0)] [] S
  unfold gX12_without at h
  refine V_iload_n (pc := 0) C dX12_without_0 rfl rfl ?_
  refine V_if_ge (tgt := 9) (pc := 1) C dX12_without_1 (by decide) (fun hc => ?_) (fun hc => ?_)
  · have h := it_t hc h
    refine V_iload_n (pc := 9) C dX12_without_9 rfl rfl ?_
    cases h
    exact hR 10 _ ⟨_, rfl, rfl⟩ dX12_without_10
  · have h := it_f hc h
    refine V_iload_n (pc := 4) C dX12_without_4 rfl rfl ?_
    refine V_ineg (pc := 5) C dX12_without_5 ?_
    refine V_goto (tgt := 10) (pc := 6) C dX12_without_6 (by decide) ?_
    cases h
    exact hR 10 _ ⟨_, rfl, rfl⟩ dX12_without_10
set_option maxRecDepth 100000 in
theorem mX12_ordered (l : Launch) {S : zM} {a0 : Int32} {r : Int32}  (h : gX12_ordered a0 = some r) : zMet l mW zS0 yX12_ordered cX12_ordered 1 (some .int) 0 0 [.int a0] S (some (.int r)) S := by
  refine zmeth (by decide +kernel) (by rfl) (fun K hKl C hR => ?_)
  show V K 0 [some (.int a0)] [] S
  unfold gX12_ordered at h
  refine V_iload_n (pc := 0) C dX12_ordered_0 rfl rfl ?_
  refine V_if_le (tgt := 8) (pc := 1) C dX12_ordered_1 (by decide) (fun hc => ?_) (fun hc => ?_)
  · have h := it_t hc h
    refine V_iload_n (pc := 8) C dX12_ordered_8 rfl rfl ?_
    refine V_if_ge (tgt := 16) (pc := 9) C dX12_ordered_9 (by decide) (fun hc => ?_) (fun hc => ?_)
    · have h := it_t hc h
      refine V_iconst (pc := 16) C dX12_ordered_16 kc_i_2 ?_
      cases h
      exact hR 17 _ ⟨_, rfl, rfl⟩ dX12_ordered_17
    · have h := it_f hc h
      refine V_iconst (pc := 12) C dX12_ordered_12 kc_i_0 ?_
      refine V_goto (tgt := 17) (pc := 13) C dX12_ordered_13 (by decide) ?_
      cases h
      exact hR 17 _ ⟨_, rfl, rfl⟩ dX12_ordered_17
  · have h := it_f hc h
    refine V_iconst (pc := 4) C dX12_ordered_4 kc_i_1 ?_
    refine V_goto (tgt := 17) (pc := 5) C dX12_ordered_5 (by decide) ?_
    cases h
    exact hR 17 _ ⟨_, rfl, rfl⟩ dX12_ordered_17
set_option maxRecDepth 100000 in
theorem mX12_matched_L5 {K : zK} (C : zC K cX12_matched yX12_matched.cls 5 1 22 mW) {S : zM} {v1 : Int32} {v2 : Int32}  : ∀ (f : Nat) (v3 : Int32) (v4 : Int32) (r : Int32), gX12_matched_L5 S v1 v2 f v3 v4 = some r → zR K cX12_matched (some .int) S (some (.int r)) → V K 5 [some (.ref 0), some (.int v1), some (.int v2), some (.int v3), some (.int v4)] [] S := by
  intro f
  induction f with
  | zero => intro v3 v4 r h hR; cases h
  | succ n ih =>
    intro v3 v4 r h hR
    unfold gX12_matched_L5 at h
    refine V_iload (pc := 5) C dX12_matched_5 rfl ?_
    refine V_sipush (pc := 7) C dX12_matched_7 kc_s_401 ?_
    refine V_icmp_ge (tgt := 48) (pc := 10) C dX12_matched_10 (by decide) (fun hc => ?_) (fun hc => ?_)
    · have h := it_t hc h
      refine V_iload_n (pc := 48) C dX12_matched_48 rfl rfl ?_
      cases h
      exact hR 49 _ ⟨_, rfl, rfl⟩ dX12_matched_49
    · have h := it_f hc h
      refine V_aload_n (pc := 13) C dX12_matched_13 rfl rfl ?_
      refine V_iload_n (pc := 14) C dX12_matched_14 rfl rfl ?_
      refine V_iload (pc := 15) C dX12_matched_15 rfl ?_
      obtain ⟨r1, er1, h⟩ := b1_some h
      refine V_callV (As := [.int v1, .int v4]) (pc := 17) C (mX12_levelOf _ er1) zm_X12_levelOf zi_X12_levelOf ml_RX12_330 z1_mW_12 rfl ⟨Nat.le_of_ble_eq_true rfl, Nat.le_of_ble_eq_true rfl⟩ rfl rfl (Nat.le_of_ble_eq_true rfl) dX12_matched_17 ?_
      show V K 20 [some (.ref 0), some (.int v1), some (.int v2), some (.int v3), some (.int v4)] [.int r1] S
      refine V_iload_n (pc := 20) C dX12_matched_20 rfl rfl ?_
      refine V_isub (pc := 21) C dX12_matched_21 ?_
      obtain ⟨r2, er2, h⟩ := b1_some h
      refine V_callS (As := [.int (r1 - v2)]) (pc := 22) C (mX12_without _ er2) zm_X12_without zs_X12_without ml_RX12_333 ⟨Nat.le_of_ble_eq_true rfl, Nat.le_of_ble_eq_true rfl⟩ rfl rfl (Nat.le_of_ble_eq_true rfl) dX12_matched_22 ?_
      show V K 25 [some (.ref 0), some (.int v1), some (.int v2), some (.int v3), some (.int v4)] [.int r2] S
      refine V_aload_n (pc := 25) C dX12_matched_25 rfl rfl ?_
      refine V_iload_n (pc := 26) C dX12_matched_26 rfl rfl ?_
      refine V_iload_n (pc := 27) C dX12_matched_27 rfl rfl ?_
      obtain ⟨r3, er3, h⟩ := b1_some h
      refine V_callV (As := [.int v1, .int v3]) (pc := 28) C (mX12_levelOf _ er3) zm_X12_levelOf zi_X12_levelOf ml_RX12_330 z1_mW_12 rfl ⟨Nat.le_of_ble_eq_true rfl, Nat.le_of_ble_eq_true rfl⟩ rfl rfl (Nat.le_of_ble_eq_true rfl) dX12_matched_28 ?_
      show V K 31 [some (.ref 0), some (.int v1), some (.int v2), some (.int v3), some (.int v4)] [.int r3, .int r2] S
      refine V_iload_n (pc := 31) C dX12_matched_31 rfl rfl ?_
      refine V_isub (pc := 32) C dX12_matched_32 ?_
      obtain ⟨r4, er4, h⟩ := b1_some h
      refine V_callS (As := [.int (r3 - v2)]) (pc := 33) C (mX12_without _ er4) zm_X12_without zs_X12_without ml_RX12_333 ⟨Nat.le_of_ble_eq_true rfl, Nat.le_of_ble_eq_true rfl⟩ rfl rfl (Nat.le_of_ble_eq_true rfl) dX12_matched_33 ?_
      show V K 36 [some (.ref 0), some (.int v1), some (.int v2), some (.int v3), some (.int v4)] [.int r4, .int r2] S
      refine V_icmp_ge (tgt := 42) (pc := 36) C dX12_matched_36 (by decide) (fun hc => ?_) (fun hc => ?_)
      · have h := it_t hc h
        refine V_iinc (L' := [some (.ref 0), some (.int v1), some (.int v2), some (.int v3), some (.int (v4 + (1 : Int32)))]) (v := (v4 + (1 : Int32))) (pc := 42) C dX12_matched_42 rfl (congrArg (v4 + ·) kc_i_1) (by decide) rfl ?_
        refine V_goto (tgt := 5) (pc := 45) C dX12_matched_45 (by decide) ?_
        exact V_mask [true, true, true, true, true] (ih _ _ _ h hR)
      · have h := it_f hc h
        refine V_iload (pc := 39) C dX12_matched_39 rfl ?_
        refine V_istore_n (L' := [some (.ref 0), some (.int v1), some (.int v2), some (.int v4), some (.int v4)]) (pc := 41) C dX12_matched_41 rfl (by decide) rfl ?_
        refine V_iinc (L' := [some (.ref 0), some (.int v1), some (.int v2), some (.int v4), some (.int (v4 + (1 : Int32)))]) (v := (v4 + (1 : Int32))) (pc := 42) C dX12_matched_42 rfl (congrArg (v4 + ·) kc_i_1) (by decide) rfl ?_
        refine V_goto (tgt := 5) (pc := 45) C dX12_matched_45 (by decide) ?_
        exact V_mask [true, true, true, true, true] (ih _ _ _ h hR)
set_option maxRecDepth 100000 in
theorem mX12_matched (l : Launch) {S : zM} {a1 : Int32} {a2 : Int32} {r : Int32}  (h : gX12_matched S a1 a2 = some r) : zMet l mW zS0 yX12_matched cX12_matched 5 (some .int) 1 22 [.ref 0, .int a1, .int a2] S (some (.int r)) S := by
  refine zmeth (by decide +kernel) (by rfl) (fun K hKl C hR => ?_)
  show V K 0 [some (.ref 0), some (.int a1), some (.int a2), none, none] [] S
  unfold gX12_matched at h
  refine V_iconst (pc := 0) C dX12_matched_0 kc_i_1 ?_
  refine V_istore_n (L' := [some (.ref 0), some (.int a1), some (.int a2), some (.int (1 : Int32)), none]) (pc := 1) C dX12_matched_1 rfl (by decide) rfl ?_
  refine V_iconst (pc := 2) C dX12_matched_2 kc_i_2 ?_
  refine V_istore (L' := [some (.ref 0), some (.int a1), some (.int a2), some (.int (1 : Int32)), some (.int (2 : Int32))]) (pc := 3) C dX12_matched_3 (by decide) rfl ?_
  exact V_mask [true, true, true, true, true] (mX12_matched_L5 C  FU _ _ _ h hR)
set_option maxRecDepth 100000 in
theorem mX12_named_L47 {K : zK} (C : zC K cX12_named yX12_named.cls 9 1 20 mW) {S : zM} {v1 : Int32} {v3 : Int32} {v4 : Int32}  : ∀ (f : Nat) (v5 : Int32) (v6 : Int32) (r : Int32), gX12_named_L47 S v1 v3 v4 f v5 v6 = some r → zR K cX12_named (some .int) S (some (.int r)) → V K 47 [some (.ref 0), some (.int v1), none, some (.int v3), some (.int v4), some (.int v5), some (.int v6), none, none] [] S := by
  intro f
  induction f with
  | zero => intro v5 v6 r h hR; cases h
  | succ n ih =>
    intro v5 v6 r h hR
    unfold gX12_named_L47 at h
    refine V_iload (pc := 47) C dX12_named_47 rfl ?_
    refine V_iload (pc := 49) C dX12_named_49 rfl ?_
    refine V_icmp_ge (tgt := 121) (pc := 51) C dX12_named_51 (by decide) (fun hc => ?_) (fun hc => ?_)
    · have h := it_t hc h
      refine V_iload (pc := 121) C dX12_named_121 rfl ?_
      cases h
      exact hR 123 _ ⟨_, rfl, rfl⟩ dX12_named_123
    · have h := it_f hc h
      refine V_aload_n (pc := 54) C dX12_named_54 rfl rfl ?_
      refine V_getF (p1 := 3) (pc := 55) C z1_mW_12 fl_RX12_20 rfl (zf_mW_12_15 z1_mW_12) dX12_named_55 ?_
      refine V_sipush (pc := 58) C dX12_named_58 kc_s_162 ?_
      refine V_bipush (pc := 61) C dX12_named_61 kc_b_6 ?_
      refine V_iload_n (pc := 63) C dX12_named_63 rfl rfl ?_
      refine V_imul (pc := 64) C dX12_named_64 ?_
      refine V_iadd (pc := 65) C dX12_named_65 ?_
      refine V_iload (pc := 66) C dX12_named_66 rfl ?_
      refine V_iadd (pc := 68) C dX12_named_68 ?_
      obtain ⟨k5, h⟩ := ck_some h
      refine V_iald (pc := 69) C (za_mW_12_15 z1_mW_12) k5 dX12_named_69 ?_
      obtain ⟨x6, ex6, h⟩ := lt_some h
      refine V_nmI ex6 ?_
      refine V_istore (L' := [some (.ref 0), some (.int v1), none, some (.int v3), some (.int v4), some (.int v5), some (.int v6), some (.int x6), none]) (pc := 70) C dX12_named_70 (by decide) rfl ?_
      refine V_iload (pc := 72) C dX12_named_72 rfl ?_
      refine V_iload_n (pc := 74) C dX12_named_74 rfl rfl ?_
      refine V_isub (pc := 75) C dX12_named_75 ?_
      obtain ⟨r7, er7, h⟩ := b1_some h
      refine V_callS (As := [.int (x6 - v3)]) (pc := 76) C (mX12_without _ er7) zm_X12_without zs_X12_without ml_RX12_333 ⟨Nat.le_of_ble_eq_true rfl, Nat.le_of_ble_eq_true rfl⟩ rfl rfl (Nat.le_of_ble_eq_true rfl) dX12_named_76 ?_
      show V K 79 [some (.ref 0), some (.int v1), none, some (.int v3), some (.int v4), some (.int v5), some (.int v6), some (.int x6), none] [.int r7] S
      refine V_iload (pc := 79) C dX12_named_79 rfl ?_
      refine V_iload_n (pc := 81) C dX12_named_81 rfl rfl ?_
      refine V_isub (pc := 82) C dX12_named_82 ?_
      obtain ⟨r8, er8, h⟩ := b1_some h
      refine V_callS (As := [.int (v5 - v3)]) (pc := 83) C (mX12_without _ er8) zm_X12_without zs_X12_without ml_RX12_333 ⟨Nat.le_of_ble_eq_true rfl, Nat.le_of_ble_eq_true rfl⟩ rfl rfl (Nat.le_of_ble_eq_true rfl) dX12_named_83 ?_
      show V K 86 [some (.ref 0), some (.int v1), none, some (.int v3), some (.int v4), some (.int v5), some (.int v6), some (.int x6), none] [.int r8, .int r7] S
      refine V_isub (pc := 86) C dX12_named_86 ?_
      refine V_istore (L' := [some (.ref 0), some (.int v1), none, some (.int v3), some (.int v4), some (.int v5), some (.int v6), some (.int x6), some (.int (r7 - r8))]) (pc := 87) C dX12_named_87 (by decide) rfl ?_
      refine V_iload (pc := 89) C dX12_named_89 rfl ?_
      refine V_if_lt (tgt := 106) (pc := 91) C dX12_named_91 (by decide) (fun hc => ?_) (fun hc => ?_)
      · have h := it_t hc h
        refine V_iload (pc := 106) C dX12_named_106 rfl ?_
        refine V_goto (tgt := 113) (pc := 108) C dX12_named_108 (by decide) ?_
        refine V_istore (L' := [some (.ref 0), some (.int v1), none, some (.int v3), some (.int v4), some (.int x6), some (.int v6), some (.int x6), some (.int (r7 - r8))]) (pc := 113) C dX12_named_113 (by decide) rfl ?_
        refine V_iinc (L' := [some (.ref 0), some (.int v1), none, some (.int v3), some (.int v4), some (.int x6), some (.int (v6 + (1 : Int32))), some (.int x6), some (.int (r7 - r8))]) (v := (v6 + (1 : Int32))) (pc := 115) C dX12_named_115 rfl (congrArg (v6 + ·) kc_i_1) (by decide) rfl ?_
        refine V_goto (tgt := 47) (pc := 118) C dX12_named_118 (by decide) ?_
        exact V_mask [true, true, false, true, true, true, true, false, false] (ih _ _ _ h hR)
      · have h := it_f hc h
        refine V_iload (pc := 94) C dX12_named_94 rfl ?_
        refine V_if_ne (tgt := 111) (pc := 96) C dX12_named_96 (by decide) (fun hc => ?_) (fun hc => ?_)
        · have h := it_f hc h
          refine V_iload (pc := 111) C dX12_named_111 rfl ?_
          refine V_istore (L' := [some (.ref 0), some (.int v1), none, some (.int v3), some (.int v4), some (.int v5), some (.int v6), some (.int x6), some (.int (r7 - r8))]) (pc := 113) C dX12_named_113 (by decide) rfl ?_
          refine V_iinc (L' := [some (.ref 0), some (.int v1), none, some (.int v3), some (.int v4), some (.int v5), some (.int (v6 + (1 : Int32))), some (.int x6), some (.int (r7 - r8))]) (v := (v6 + (1 : Int32))) (pc := 115) C dX12_named_115 rfl (congrArg (v6 + ·) kc_i_1) (by decide) rfl ?_
          refine V_goto (tgt := 47) (pc := 118) C dX12_named_118 (by decide) ?_
          exact V_mask [true, true, false, true, true, true, true, false, false] (ih _ _ _ h hR)
        · have h := it_t hc h
          refine V_iload (pc := 99) C dX12_named_99 rfl ?_
          refine V_iload (pc := 101) C dX12_named_101 rfl ?_
          refine V_icmp_ge (tgt := 111) (pc := 103) C dX12_named_103 (by decide) (fun hc => ?_) (fun hc => ?_)
          · have h := it_t hc h
            refine V_iload (pc := 111) C dX12_named_111 rfl ?_
            refine V_istore (L' := [some (.ref 0), some (.int v1), none, some (.int v3), some (.int v4), some (.int v5), some (.int v6), some (.int x6), some (.int (r7 - r8))]) (pc := 113) C dX12_named_113 (by decide) rfl ?_
            refine V_iinc (L' := [some (.ref 0), some (.int v1), none, some (.int v3), some (.int v4), some (.int v5), some (.int (v6 + (1 : Int32))), some (.int x6), some (.int (r7 - r8))]) (v := (v6 + (1 : Int32))) (pc := 115) C dX12_named_115 rfl (congrArg (v6 + ·) kc_i_1) (by decide) rfl ?_
            refine V_goto (tgt := 47) (pc := 118) C dX12_named_118 (by decide) ?_
            exact V_mask [true, true, false, true, true, true, true, false, false] (ih _ _ _ h hR)
          · have h := it_f hc h
            refine V_iload (pc := 106) C dX12_named_106 rfl ?_
            refine V_goto (tgt := 113) (pc := 108) C dX12_named_108 (by decide) ?_
            refine V_istore (L' := [some (.ref 0), some (.int v1), none, some (.int v3), some (.int v4), some (.int x6), some (.int v6), some (.int x6), some (.int (r7 - r8))]) (pc := 113) C dX12_named_113 (by decide) rfl ?_
            refine V_iinc (L' := [some (.ref 0), some (.int v1), none, some (.int v3), some (.int v4), some (.int x6), some (.int (v6 + (1 : Int32))), some (.int x6), some (.int (r7 - r8))]) (v := (v6 + (1 : Int32))) (pc := 115) C dX12_named_115 rfl (congrArg (v6 + ·) kc_i_1) (by decide) rfl ?_
            refine V_goto (tgt := 47) (pc := 118) C dX12_named_118 (by decide) ?_
            exact V_mask [true, true, false, true, true, true, true, false, false] (ih _ _ _ h hR)
set_option maxRecDepth 100000 in
theorem mX12_named_J9 {K : zK} (C : zC K cX12_named yX12_named.cls 9 1 20 mW) {S : zM} {v1 : Int32} {s0 : Int32} {r : Int32}  (hR : zR K cX12_named (some .int) S (some (.int r))) (h : gX12_named_J9 S v1 s0 = some r) : V K 9 [some (.ref 0), some (.int v1), none, none, none, none, none, none, none] [.int s0] S := by
  unfold gX12_named_J9 at h
  refine V_istore_n (L' := [some (.ref 0), some (.int v1), none, some (.int s0), none, none, none, none, none]) (pc := 9) C dX12_named_9 rfl (by decide) rfl ?_
  refine V_aload_n (pc := 10) C dX12_named_10 rfl rfl ?_
  refine V_getF (p1 := 3) (pc := 11) C z1_mW_12 fl_RX12_20 rfl (zf_mW_12_15 z1_mW_12) dX12_named_11 ?_
  refine V_sipush (pc := 14) C dX12_named_14 kc_s_156 ?_
  refine V_iload_n (pc := 17) C dX12_named_17 rfl rfl ?_
  refine V_iadd (pc := 18) C dX12_named_18 ?_
  obtain ⟨k1, h⟩ := ck_some h
  refine V_iald (pc := 19) C (za_mW_12_15 z1_mW_12) k1 dX12_named_19 ?_
  obtain ⟨x2, ex2, h⟩ := lt_some h
  refine V_nmI ex2 ?_
  refine V_istore (L' := [some (.ref 0), some (.int v1), none, some (.int s0), some (.int x2), none, none, none, none]) (pc := 20) C dX12_named_20 (by decide) rfl ?_
  refine V_iload (pc := 22) C dX12_named_22 rfl ?_
  refine V_if_ne (tgt := 29) (pc := 24) C dX12_named_24 (by decide) (fun hc => ?_) (fun hc => ?_)
  · have h := it_f hc h
    refine V_aload_n (pc := 29) C dX12_named_29 rfl rfl ?_
    refine V_getF (p1 := 3) (pc := 30) C z1_mW_12 fl_RX12_20 rfl (zf_mW_12_15 z1_mW_12) dX12_named_30 ?_
    refine V_sipush (pc := 33) C dX12_named_33 kc_s_162 ?_
    refine V_bipush (pc := 36) C dX12_named_36 kc_b_6 ?_
    refine V_iload_n (pc := 38) C dX12_named_38 rfl rfl ?_
    refine V_imul (pc := 39) C dX12_named_39 ?_
    refine V_iadd (pc := 40) C dX12_named_40 ?_
    obtain ⟨k3, h⟩ := ck_some h
    refine V_iald (pc := 41) C (za_mW_12_15 z1_mW_12) k3 dX12_named_41 ?_
    obtain ⟨x4, ex4, h⟩ := lt_some h
    refine V_nmI ex4 ?_
    refine V_istore (L' := [some (.ref 0), some (.int v1), none, some (.int s0), some (.int x2), some (.int x4), none, none, none]) (pc := 42) C dX12_named_42 (by decide) rfl ?_
    refine V_iconst (pc := 44) C dX12_named_44 kc_i_1 ?_
    refine V_istore (L' := [some (.ref 0), some (.int v1), none, some (.int s0), some (.int x2), some (.int x4), some (.int (1 : Int32)), none, none]) (pc := 45) C dX12_named_45 (by decide) rfl ?_
    exact V_mask [true, true, false, true, true, true, true, false, false] (mX12_named_L47 C  FU _ _ _ h hR)
  · have h := it_t hc h
    refine V_iload_n (pc := 27) C dX12_named_27 rfl rfl ?_
    cases h
    exact hR 28 _ ⟨_, rfl, rfl⟩ dX12_named_28
set_option maxRecDepth 100000 in
theorem mX12_named (l : Launch) {S : zM} {a1 : Int32} {a2 : Int32} {r : Int32}  (h : gX12_named S a1 a2 = some r) : zMet l mW zS0 yX12_named cX12_named 9 (some .int) 1 20 [.ref 0, .int a1, .int a2] S (some (.int r)) S := by
  refine zmeth (by decide +kernel) (by rfl) (fun K hKl C hR => ?_)
  show V K 0 [some (.ref 0), some (.int a1), some (.int a2), none, none, none, none, none, none] [] S
  unfold gX12_named at h
  refine V_iload_n (pc := 0) C dX12_named_0 rfl rfl ?_
  refine V_if_ge (tgt := 8) (pc := 1) C dX12_named_1 (by decide) (fun hc => ?_) (fun hc => ?_)
  · have h := it_t hc h
    refine V_iload_n (pc := 8) C dX12_named_8 rfl rfl ?_
    exact V_mask [true, true, false, false, false, false, false, false, false] (mX12_named_J9 C  hR h)
  · have h := it_f hc h
    refine V_iconst (pc := 4) C dX12_named_4 kc_i_0 ?_
    refine V_goto (tgt := 9) (pc := 5) C dX12_named_5 (by decide) ?_
    exact V_mask [true, true, false, false, false, false, false, false, false] (mX12_named_J9 C  hR h)
set_option maxRecDepth 100000 in
theorem mX12_oddOne (l : Launch) {S : zM} {a0 : Int32} {a1 : Int32} {a2 : Int32} {r : Int32}  (h : gX12_oddOne a0 a1 a2 = some r) : zMet l mW zS0 yX12_oddOne cX12_oddOne 6 (some .int) 1 20 [.int a0, .int a1, .int a2] S (some (.int r)) S := by
  refine zmeth (by decide +kernel) (by rfl) (fun K hKl C hR => ?_)
  show V K 0 [some (.int a0), some (.int a1), some (.int a2), none, none, none] [] S
  unfold gX12_oddOne at h
  refine V_iconst (pc := 0) C dX12_oddOne_0 kc_i_2 ?_
  refine V_iload_n (pc := 1) C dX12_oddOne_1 rfl rfl ?_
  refine V_imul (pc := 2) C dX12_oddOne_2 ?_
  refine V_iload_n (pc := 3) C dX12_oddOne_3 rfl rfl ?_
  refine V_isub (pc := 4) C dX12_oddOne_4 ?_
  refine V_iload_n (pc := 5) C dX12_oddOne_5 rfl rfl ?_
  refine V_isub (pc := 6) C dX12_oddOne_6 ?_
  obtain ⟨r1, er1, h⟩ := b1_some h
  refine V_callS (As := [.int ((((2 : Int32) * a0) - a1) - a2)]) (pc := 7) C (mX12_without _ er1) zm_X12_without zs_X12_without ml_RX12_333 ⟨Nat.le_of_ble_eq_true rfl, Nat.le_of_ble_eq_true rfl⟩ rfl rfl (Nat.le_of_ble_eq_true rfl) dX12_oddOne_7 ?_
  show V K 10 [some (.int a0), some (.int a1), some (.int a2), none, none, none] [.int r1] S
  refine V_istore_n (L' := [some (.int a0), some (.int a1), some (.int a2), some (.int r1), none, none]) (pc := 10) C dX12_oddOne_10 rfl (by decide) rfl ?_
  refine V_iconst (pc := 11) C dX12_oddOne_11 kc_i_2 ?_
  refine V_iload_n (pc := 12) C dX12_oddOne_12 rfl rfl ?_
  refine V_imul (pc := 13) C dX12_oddOne_13 ?_
  refine V_iload_n (pc := 14) C dX12_oddOne_14 rfl rfl ?_
  refine V_isub (pc := 15) C dX12_oddOne_15 ?_
  refine V_iload_n (pc := 16) C dX12_oddOne_16 rfl rfl ?_
  refine V_isub (pc := 17) C dX12_oddOne_17 ?_
  obtain ⟨r2, er2, h⟩ := b1_some h
  refine V_callS (As := [.int ((((2 : Int32) * a1) - a0) - a2)]) (pc := 18) C (mX12_without _ er2) zm_X12_without zs_X12_without ml_RX12_333 ⟨Nat.le_of_ble_eq_true rfl, Nat.le_of_ble_eq_true rfl⟩ rfl rfl (Nat.le_of_ble_eq_true rfl) dX12_oddOne_18 ?_
  show V K 21 [some (.int a0), some (.int a1), some (.int a2), some (.int r1), none, none] [.int r2] S
  refine V_istore (L' := [some (.int a0), some (.int a1), some (.int a2), some (.int r1), some (.int r2), none]) (pc := 21) C dX12_oddOne_21 (by decide) rfl ?_
  refine V_iconst (pc := 23) C dX12_oddOne_23 kc_i_2 ?_
  refine V_iload_n (pc := 24) C dX12_oddOne_24 rfl rfl ?_
  refine V_imul (pc := 25) C dX12_oddOne_25 ?_
  refine V_iload_n (pc := 26) C dX12_oddOne_26 rfl rfl ?_
  refine V_isub (pc := 27) C dX12_oddOne_27 ?_
  refine V_iload_n (pc := 28) C dX12_oddOne_28 rfl rfl ?_
  refine V_isub (pc := 29) C dX12_oddOne_29 ?_
  obtain ⟨r3, er3, h⟩ := b1_some h
  refine V_callS (As := [.int ((((2 : Int32) * a2) - a0) - a1)]) (pc := 30) C (mX12_without _ er3) zm_X12_without zs_X12_without ml_RX12_333 ⟨Nat.le_of_ble_eq_true rfl, Nat.le_of_ble_eq_true rfl⟩ rfl rfl (Nat.le_of_ble_eq_true rfl) dX12_oddOne_30 ?_
  show V K 33 [some (.int a0), some (.int a1), some (.int a2), some (.int r1), some (.int r2), none] [.int r3] S
  refine V_istore (L' := [some (.int a0), some (.int a1), some (.int a2), some (.int r1), some (.int r2), some (.int r3)]) (pc := 33) C dX12_oddOne_33 (by decide) rfl ?_
  refine V_iload_n (pc := 35) C dX12_oddOne_35 rfl rfl ?_
  refine V_iload (pc := 36) C dX12_oddOne_36 rfl ?_
  refine V_icmp_lt (tgt := 51) (pc := 38) C dX12_oddOne_38 (by decide) (fun hc => ?_) (fun hc => ?_)
  · have h := it_t hc h
    refine V_iload (pc := 51) C dX12_oddOne_51 rfl ?_
    refine V_iload (pc := 53) C dX12_oddOne_53 rfl ?_
    refine V_icmp_lt (tgt := 62) (pc := 55) C dX12_oddOne_55 (by decide) (fun hc => ?_) (fun hc => ?_)
    · have h := it_t hc h
      refine V_iconst (pc := 62) C dX12_oddOne_62 kc_i_2 ?_
      cases h
      exact hR 63 _ ⟨_, rfl, rfl⟩ dX12_oddOne_63
    · have h := it_f hc h
      refine V_iconst (pc := 58) C dX12_oddOne_58 kc_i_1 ?_
      refine V_goto (tgt := 63) (pc := 59) C dX12_oddOne_59 (by decide) ?_
      cases h
      exact hR 63 _ ⟨_, rfl, rfl⟩ dX12_oddOne_63
  · have h := it_f hc h
    refine V_iload_n (pc := 41) C dX12_oddOne_41 rfl rfl ?_
    refine V_iload (pc := 42) C dX12_oddOne_42 rfl ?_
    refine V_icmp_lt (tgt := 51) (pc := 44) C dX12_oddOne_44 (by decide) (fun hc => ?_) (fun hc => ?_)
    · have h := it_t hc h
      refine V_iload (pc := 51) C dX12_oddOne_51 rfl ?_
      refine V_iload (pc := 53) C dX12_oddOne_53 rfl ?_
      refine V_icmp_lt (tgt := 62) (pc := 55) C dX12_oddOne_55 (by decide) (fun hc => ?_) (fun hc => ?_)
      · have h := it_t hc h
        refine V_iconst (pc := 62) C dX12_oddOne_62 kc_i_2 ?_
        cases h
        exact hR 63 _ ⟨_, rfl, rfl⟩ dX12_oddOne_63
      · have h := it_f hc h
        refine V_iconst (pc := 58) C dX12_oddOne_58 kc_i_1 ?_
        refine V_goto (tgt := 63) (pc := 59) C dX12_oddOne_59 (by decide) ?_
        cases h
        exact hR 63 _ ⟨_, rfl, rfl⟩ dX12_oddOne_63
    · have h := it_f hc h
      refine V_iconst (pc := 47) C dX12_oddOne_47 kc_i_0 ?_
      refine V_goto (tgt := 63) (pc := 48) C dX12_oddOne_48 (by decide) ?_
      cases h
      exact hR 63 _ ⟨_, rfl, rfl⟩ dX12_oddOne_63
set_option maxRecDepth 100000 in
theorem mX12_feelings (l : Launch) {S : zM} {a0 : Int32} {r : Int32}  (h : gX12_feelings a0 = some r) : zMet l mW zS0 yX12_feelings cX12_feelings 1 (some .int) 0 0 [.int a0] S (some (.int r)) S := by
  refine zmeth (by decide +kernel) (by rfl) (fun K hKl C hR => ?_)
  show V K 0 [some (.int a0)] [] S
  unfold gX12_feelings at h
  refine V_iload_n (pc := 0) C dX12_feelings_0 rfl rfl ?_
  refine V_iconst (pc := 1) C dX12_feelings_1 kc_i_2 ?_
  refine V_icmp_ne (tgt := 9) (pc := 2) C dX12_feelings_2 (by decide) (fun hc => ?_) (fun hc => ?_)
  · have h := it_f hc h
    refine V_iload_n (pc := 9) C dX12_feelings_9 rfl rfl ?_
    refine V_if_eq (tgt := 18) (pc := 10) C dX12_feelings_10 (by decide) (fun hc => ?_) (fun hc => ?_)
    · have h := it_t hc h
      refine V_iconst (pc := 18) C dX12_feelings_18 kc_i_2 ?_
      refine V_goto (tgt := 23) (pc := 19) C dX12_feelings_19 (by decide) ?_
      cases h
      exact hR 23 _ ⟨_, rfl, rfl⟩ dX12_feelings_23
    · have h := it_f hc h
      refine V_iload_n (pc := 13) C dX12_feelings_13 rfl rfl ?_
      refine V_iconst (pc := 14) C dX12_feelings_14 kc_i_5 ?_
      refine V_icmp_ne (tgt := 22) (pc := 15) C dX12_feelings_15 (by decide) (fun hc => ?_) (fun hc => ?_)
      · have h := it_f hc h
        refine V_iconst (pc := 22) C dX12_feelings_22 kc_i_1 ?_
        cases h
        exact hR 23 _ ⟨_, rfl, rfl⟩ dX12_feelings_23
      · have h := it_t hc h
        refine V_iconst (pc := 18) C dX12_feelings_18 kc_i_2 ?_
        refine V_goto (tgt := 23) (pc := 19) C dX12_feelings_19 (by decide) ?_
        cases h
        exact hR 23 _ ⟨_, rfl, rfl⟩ dX12_feelings_23
  · have h := it_t hc h
    refine V_iconst (pc := 5) C dX12_feelings_5 kc_i_3 ?_
    refine V_goto (tgt := 23) (pc := 6) C dX12_feelings_6 (by decide) ?_
    cases h
    exact hR 23 _ ⟨_, rfl, rfl⟩ dX12_feelings_23
set_option maxRecDepth 100000 in
theorem mX12_levelAt_J32 {K : zK} (C : zC K cX12_levelAt yX12_levelAt.cls 8 1 22 mW) {S : zM} {v1 : Int32} {s0 : Int32} {r : Int32}  (hR : zR K cX12_levelAt (some .int) S (some (.int r))) (h : gX12_levelAt_J32 S v1 s0 = some r) : V K 32 [some (.ref 0), some (.int v1), none, none, none, none, none, none] [.int s0] S := by
  unfold gX12_levelAt_J32 at h
  refine V_istore (L' := [some (.ref 0), some (.int v1), none, none, none, none, none, some (.int s0)]) (pc := 32) C dX12_levelAt_32 (by decide) rfl ?_
  refine V_aload_n (pc := 34) C dX12_levelAt_34 rfl rfl ?_
  refine V_iload_n (pc := 35) C dX12_levelAt_35 rfl rfl ?_
  refine V_iload (pc := 36) C dX12_levelAt_36 rfl ?_
  obtain ⟨r1, er1, h⟩ := b1_some h
  refine V_callV (As := [.int v1, .int s0]) (pc := 38) C (mX12_levelOf _ er1) zm_X12_levelOf zi_X12_levelOf ml_RX12_330 z1_mW_12 rfl ⟨Nat.le_of_ble_eq_true rfl, Nat.le_of_ble_eq_true rfl⟩ rfl rfl (Nat.le_of_ble_eq_true rfl) dX12_levelAt_38 ?_
  show V K 41 [some (.ref 0), some (.int v1), none, none, none, none, none, some (.int s0)] [.int r1] S
  cases h
  exact hR 41 _ ⟨_, rfl, rfl⟩ dX12_levelAt_41
set_option maxRecDepth 100000 in
theorem mX12_levelAt (l : Launch) {S : zM} {a1 : Int32} {a2 : Int32} {a3 : Int32} {a4 : Int32} {a5 : Int32} {a6 : Int32} {r : Int32}  (h : gX12_levelAt S a1 a2 a3 a4 a5 a6 = some r) : zMet l mW zS0 yX12_levelAt cX12_levelAt 8 (some .int) 1 22 [.ref 0, .int a1, .int a2, .int a3, .int a4, .int a5, .int a6] S (some (.int r)) S := by
  refine zmeth (by decide +kernel) (by rfl) (fun K hKl C hR => ?_)
  show V K 0 [some (.ref 0), some (.int a1), some (.int a2), some (.int a3), some (.int a4), some (.int a5), some (.int a6), none] [] S
  unfold gX12_levelAt at h
  refine V_iload_n (pc := 0) C dX12_levelAt_0 rfl rfl ?_
  refine V_iconst (pc := 1) C dX12_levelAt_1 kc_i_2 ?_
  refine V_icmp_ne (tgt := 21) (pc := 2) C dX12_levelAt_2 (by decide) (fun hc => ?_) (fun hc => ?_)
  · have h := it_f hc h
    refine V_iload (pc := 21) C dX12_levelAt_21 rfl ?_
    refine V_if_ne (tgt := 30) (pc := 23) C dX12_levelAt_23 (by decide) (fun hc => ?_) (fun hc => ?_)
    · have h := it_f hc h
      refine V_iload (pc := 30) C dX12_levelAt_30 rfl ?_
      exact V_mask [true, true, false, false, false, false, false, false] (mX12_levelAt_J32 C  hR h)
    · have h := it_t hc h
      refine V_iload_n (pc := 26) C dX12_levelAt_26 rfl rfl ?_
      refine V_goto (tgt := 32) (pc := 27) C dX12_levelAt_27 (by decide) ?_
      exact V_mask [true, true, false, false, false, false, false, false] (mX12_levelAt_J32 C  hR h)
  · have h := it_t hc h
    refine V_iload (pc := 5) C dX12_levelAt_5 rfl ?_
    refine V_iload (pc := 7) C dX12_levelAt_7 rfl ?_
    refine V_icmp_ne (tgt := 17) (pc := 9) C dX12_levelAt_9 (by decide) (fun hc => ?_) (fun hc => ?_)
    · have h := it_f hc h
      refine V_iload_n (pc := 17) C dX12_levelAt_17 rfl rfl ?_
      refine V_goto (tgt := 32) (pc := 18) C dX12_levelAt_18 (by decide) ?_
      exact V_mask [true, true, false, false, false, false, false, false] (mX12_levelAt_J32 C  hR h)
    · have h := it_t hc h
      refine V_iload (pc := 12) C dX12_levelAt_12 rfl ?_
      refine V_goto (tgt := 32) (pc := 14) C dX12_levelAt_14 (by decide) ?_
      exact V_mask [true, true, false, false, false, false, false, false] (mX12_levelAt_J32 C  hR h)
set_option maxRecDepth 100000 in
theorem mX12_answered (l : Launch) {S : zM} {a1 : Int32} {a2 : Int32} {a3 : Int32} {a4 : Int32} {a5 : Int32} {a6 : Int32} {a7 : Int32} {a8 : Int32} {r : Int32}  (h : gX12_answered S a1 a2 a3 a4 a5 a6 a7 a8 = some r) : zMet l mW zS0 yX12_answered cX12_answered 10 (some .int) 2 48 [.ref 0, .int a1, .int a2, .int a3, .int a4, .int a5, .int a6, .int a7, .int a8] S (some (.int r)) S := by
  refine zmeth (by decide +kernel) (by rfl) (fun K hKl C hR => ?_)
  show V K 0 [some (.ref 0), some (.int a1), some (.int a2), some (.int a3), some (.int a4), some (.int a5), some (.int a6), some (.int a7), some (.int a8), none] [] S
  unfold gX12_answered at h
  refine V_iload (pc := 0) C dX12_answered_0 rfl ?_
  refine V_aload_n (pc := 2) C dX12_answered_2 rfl rfl ?_
  refine V_getF (p1 := 3) (pc := 3) C z1_mW_12 fl_RX12_20 rfl (zf_mW_12_15 z1_mW_12) dX12_answered_3 ?_
  refine V_sipush (pc := 6) C dX12_answered_6 kc_s_132 ?_
  refine V_iload_n (pc := 9) C dX12_answered_9 rfl rfl ?_
  refine V_iadd (pc := 10) C dX12_answered_10 ?_
  obtain ⟨k1, h⟩ := ck_some h
  refine V_iald (pc := 11) C (za_mW_12_15 z1_mW_12) k1 dX12_answered_11 ?_
  refine V_iadd (pc := 12) C dX12_answered_12 ?_
  refine V_iload (pc := 13) C dX12_answered_13 rfl ?_
  refine V_iadd (pc := 15) C dX12_answered_15 ?_
  refine V_iload (pc := 16) C dX12_answered_16 rfl ?_
  refine V_isub (pc := 18) C dX12_answered_18 ?_
  obtain ⟨x2, ex2, h⟩ := lt_some h
  refine V_nmI ex2 ?_
  refine V_istore (L' := [some (.ref 0), some (.int a1), some (.int a2), some (.int a3), some (.int a4), some (.int a5), some (.int a6), some (.int a7), some (.int a8), some (.int x2)]) (pc := 19) C dX12_answered_19 (by decide) rfl ?_
  refine V_iload_n (pc := 21) C dX12_answered_21 rfl rfl ?_
  by_cases c22_0 : a2 = (0 : Int32)
  · have h := it_t c22_0 h
    refine V_case (tgt := 56) (off := (34)) (pc := 22) C dX12_answered_22 c22_0 (by decide +kernel) (by decide) ?_
    refine V_iload (pc := 56) C dX12_answered_56 rfl ?_
    refine V_if_ne (tgt := 79) (pc := 58) C dX12_answered_58 (by decide) (fun hc => ?_) (fun hc => ?_)
    · have h := it_f hc h
      refine V_iload (pc := 79) C dX12_answered_79 rfl ?_
      obtain ⟨r3, er3, h⟩ := b1_some h
      refine V_callS (As := [.int x2]) (pc := 81) C (mX12_ordered _ er3) zm_X12_ordered zs_X12_ordered ml_RX12_336 ⟨Nat.le_of_ble_eq_true rfl, Nat.le_of_ble_eq_true rfl⟩ rfl rfl (Nat.le_of_ble_eq_true rfl) dX12_answered_81 ?_
      show V K 84 [some (.ref 0), some (.int a1), some (.int a2), some (.int a3), some (.int a4), some (.int a5), some (.int a6), some (.int a7), some (.int a8), some (.int x2)] [.int r3] S
      cases h
      exact hR 84 _ ⟨_, rfl, rfl⟩ dX12_answered_84
    · have h := it_t hc h
      refine V_aload_n (pc := 61) C dX12_answered_61 rfl rfl ?_
      refine V_getF (p1 := 3) (pc := 62) C z1_mW_12 fl_RX12_20 rfl (zf_mW_12_15 z1_mW_12) dX12_answered_62 ?_
      refine V_sipush (pc := 65) C dX12_answered_65 kc_s_150 ?_
      refine V_iload_n (pc := 68) C dX12_answered_68 rfl rfl ?_
      refine V_iadd (pc := 69) C dX12_answered_69 ?_
      obtain ⟨k4, h⟩ := ck_some h
      refine V_iald (pc := 70) C (za_mW_12_15 z1_mW_12) k4 dX12_answered_70 ?_
      refine V_iconst (pc := 71) C dX12_answered_71 kc_i_1 ?_
      refine V_icmp_ne (tgt := 79) (pc := 72) C dX12_answered_72 (by decide) (fun hc => ?_) (fun hc => ?_)
      · have h := it_f hc h
        refine V_iload (pc := 79) C dX12_answered_79 rfl ?_
        obtain ⟨r5, er5, h⟩ := b1_some h
        refine V_callS (As := [.int x2]) (pc := 81) C (mX12_ordered _ er5) zm_X12_ordered zs_X12_ordered ml_RX12_336 ⟨Nat.le_of_ble_eq_true rfl, Nat.le_of_ble_eq_true rfl⟩ rfl rfl (Nat.le_of_ble_eq_true rfl) dX12_answered_81 ?_
        show V K 84 [some (.ref 0), some (.int a1), some (.int a2), some (.int a3), some (.int a4), some (.int a5), some (.int a6), some (.int a7), some (.int a8), some (.int x2)] [.int r5] S
        cases h
        exact hR 84 _ ⟨_, rfl, rfl⟩ dX12_answered_84
      · have h := it_t hc h
        refine V_iconst (pc := 75) C dX12_answered_75 kc_i_1 ?_
        refine V_goto (tgt := 84) (pc := 76) C dX12_answered_76 (by decide) ?_
        cases h
        exact hR 84 _ ⟨_, rfl, rfl⟩ dX12_answered_84
  · have h := it_f c22_0 h
    by_cases c22_1 : a2 = (1 : Int32)
    · have h := it_t c22_1 h
      refine V_case (tgt := 85) (off := (63)) (pc := 22) C dX12_answered_22 c22_1 (by decide +kernel) (by decide) ?_
      refine V_iload (pc := 85) C dX12_answered_85 rfl ?_
      refine V_aload_n (pc := 87) C dX12_answered_87 rfl rfl ?_
      refine V_getF (p1 := 3) (pc := 88) C z1_mW_12 fl_RX12_20 rfl (zf_mW_12_15 z1_mW_12) dX12_answered_88 ?_
      refine V_bipush (pc := 91) C dX12_answered_91 kc_b_126 ?_
      refine V_iload_n (pc := 93) C dX12_answered_93 rfl rfl ?_
      refine V_iadd (pc := 94) C dX12_answered_94 ?_
      obtain ⟨k6, h⟩ := ck_some h
      refine V_iald (pc := 95) C (za_mW_12_15 z1_mW_12) k6 dX12_answered_95 ?_
      refine V_iload (pc := 96) C dX12_answered_96 rfl ?_
      refine V_iadd (pc := 98) C dX12_answered_98 ?_
      refine V_icmp_le (tgt := 106) (pc := 99) C dX12_answered_99 (by decide) (fun hc => ?_) (fun hc => ?_)
      · have h := it_t hc h
        refine V_iconst (pc := 106) C dX12_answered_106 kc_i_0 ?_
        cases h
        exact hR 107 _ ⟨_, rfl, rfl⟩ dX12_answered_107
      · have h := it_f hc h
        refine V_iconst (pc := 102) C dX12_answered_102 kc_i_1 ?_
        refine V_goto (tgt := 107) (pc := 103) C dX12_answered_103 (by decide) ?_
        cases h
        exact hR 107 _ ⟨_, rfl, rfl⟩ dX12_answered_107
    · have h := it_f c22_1 h
      by_cases c22_2 : a2 = (2 : Int32)
      · have h := it_t c22_2 h
        refine V_case (tgt := 108) (off := (86)) (pc := 22) C dX12_answered_22 c22_2 (by decide +kernel) (by decide) ?_
        refine V_iload (pc := 108) C dX12_answered_108 rfl ?_
        refine V_iload (pc := 110) C dX12_answered_110 rfl ?_
        refine V_iload (pc := 112) C dX12_answered_112 rfl ?_
        obtain ⟨r7, er7, h⟩ := b1_some h
        refine V_callS (As := [.int a5, .int a6, .int a7]) (pc := 114) C (mX12_oddOne _ er7) zm_X12_oddOne zs_X12_oddOne ml_RX12_339 ⟨Nat.le_of_ble_eq_true rfl, Nat.le_of_ble_eq_true rfl⟩ rfl rfl (Nat.le_of_ble_eq_true rfl) dX12_answered_114 ?_
        show V K 117 [some (.ref 0), some (.int a1), some (.int a2), some (.int a3), some (.int a4), some (.int a5), some (.int a6), some (.int a7), some (.int a8), some (.int x2)] [.int r7] S
        cases h
        exact hR 117 _ ⟨_, rfl, rfl⟩ dX12_answered_117
      · have h := it_f c22_2 h
        by_cases c22_3 : a2 = (3 : Int32)
        · have h := it_t c22_3 h
          refine V_case (tgt := 118) (off := (96)) (pc := 22) C dX12_answered_22 c22_3 (by decide +kernel) (by decide) ?_
          refine V_aload_n (pc := 118) C dX12_answered_118 rfl rfl ?_
          refine V_iload_n (pc := 119) C dX12_answered_119 rfl rfl ?_
          refine V_iload (pc := 120) C dX12_answered_120 rfl ?_
          obtain ⟨r8, er8, h⟩ := b1_some h
          refine V_callV (As := [.int a1, .int a5]) (pc := 122) C (mX12_named _ er8) zm_X12_named zi_X12_named ml_RX12_342 z1_mW_12 rfl ⟨Nat.le_of_ble_eq_true rfl, Nat.le_of_ble_eq_true rfl⟩ rfl rfl (Nat.le_of_ble_eq_true rfl) dX12_answered_122 ?_
          show V K 125 [some (.ref 0), some (.int a1), some (.int a2), some (.int a3), some (.int a4), some (.int a5), some (.int a6), some (.int a7), some (.int a8), some (.int x2)] [.int r8] S
          cases h
          exact hR 125 _ ⟨_, rfl, rfl⟩ dX12_answered_125
        · have h := it_f c22_3 h
          by_cases c22_4 : a2 = (4 : Int32)
          · have h := it_t c22_4 h
            refine V_case (tgt := 126) (off := (104)) (pc := 22) C dX12_answered_22 c22_4 (by decide +kernel) (by decide) ?_
            refine V_aload_n (pc := 126) C dX12_answered_126 rfl rfl ?_
            refine V_iload_n (pc := 127) C dX12_answered_127 rfl rfl ?_
            refine V_iload (pc := 128) C dX12_answered_128 rfl ?_
            obtain ⟨r9, er9, h⟩ := b1_some h
            refine V_callV (As := [.int a3, .int a5]) (pc := 130) C (mX12_matched _ er9) zm_X12_matched zi_X12_matched ml_RX12_345 z1_mW_12 rfl ⟨Nat.le_of_ble_eq_true rfl, Nat.le_of_ble_eq_true rfl⟩ rfl rfl (Nat.le_of_ble_eq_true rfl) dX12_answered_130 ?_
            show V K 133 [some (.ref 0), some (.int a1), some (.int a2), some (.int a3), some (.int a4), some (.int a5), some (.int a6), some (.int a7), some (.int a8), some (.int x2)] [.int r9] S
            cases h
            exact hR 133 _ ⟨_, rfl, rfl⟩ dX12_answered_133
          · have h := it_f c22_4 h
            refine V_dflt (tgt := 134) (m := 5) (pc := 22) C dX12_answered_22 (by decide) (fun i hi => match i, hi with | 0, _ => c22_0 | 1, _ => c22_1 | 2, _ => c22_2 | 3, _ => c22_3 | 4, _ => c22_4 | k + 5, hi => absurd hi (by omega)) (by decide) ?_
            refine V_iload (pc := 134) C dX12_answered_134 rfl ?_
            refine V_iconst (pc := 136) C dX12_answered_136 kc_i_1 ?_
            refine V_icmp_ne (tgt := 155) (pc := 137) C dX12_answered_137 (by decide) (fun hc => ?_) (fun hc => ?_)
            · have h := it_f hc h
              refine V_iload (pc := 155) C dX12_answered_155 rfl ?_
              refine V_iconst (pc := 157) C dX12_answered_157 kc_i_2 ?_
              refine V_icmp_le (tgt := 165) (pc := 158) C dX12_answered_158 (by decide) (fun hc => ?_) (fun hc => ?_)
              · have h := it_t hc h
                refine V_iconst (pc := 165) C dX12_answered_165 kc_i_0 ?_
                cases h
                exact hR 166 _ ⟨_, rfl, rfl⟩ dX12_answered_166
              · have h := it_f hc h
                refine V_iconst (pc := 161) C dX12_answered_161 kc_i_1 ?_
                refine V_goto (tgt := 166) (pc := 162) C dX12_answered_162 (by decide) ?_
                cases h
                exact hR 166 _ ⟨_, rfl, rfl⟩ dX12_answered_166
            · have h := it_t hc h
              refine V_iload (pc := 140) C dX12_answered_140 rfl ?_
              refine V_bipush (pc := 142) C dX12_answered_142 kc_b_m2 ?_
              refine V_icmp_ge (tgt := 151) (pc := 144) C dX12_answered_144 (by decide) (fun hc => ?_) (fun hc => ?_)
              · have h := it_t hc h
                refine V_iconst (pc := 151) C dX12_answered_151 kc_i_1 ?_
                refine V_goto (tgt := 166) (pc := 152) C dX12_answered_152 (by decide) ?_
                cases h
                exact hR 166 _ ⟨_, rfl, rfl⟩ dX12_answered_166
              · have h := it_f hc h
                refine V_iconst (pc := 147) C dX12_answered_147 kc_i_0 ?_
                refine V_goto (tgt := 166) (pc := 148) C dX12_answered_148 (by decide) ?_
                cases h
                exact hR 166 _ ⟨_, rfl, rfl⟩ dX12_answered_166
set_option maxRecDepth 100000 in
theorem mX12_bars_J44 {K : zK} (C : zC K cX12_bars yX12_bars.cls 6 2 43 mW) {S : zM} {v2 : Int32} {v4 : Int32} {v5 : Int32} {s0 : Int32} {s1 : Int32} {r : Int32}  (hR : zR K cX12_bars (some .int) S (some (.int r))) (h : gX12_bars_J44 S v2 v4 v5 s0 s1 = some r) : V K 44 [none, none, some (.int v2), none, some (.int v4), some (.int v5)] [.int s0, .int s1] S := by
  unfold gX12_bars_J44 at h
  refine V_sipush (pc := 44) C dX12_bars_44 kc_s_400 ?_
  obtain ⟨r3, er3, h⟩ := b1_some h
  refine V_callS (As := [.int s1, .int s0, .int (400 : Int32)]) (pc := 47) C (mX12_within _ er3) zm_X12_within zs_X12_within ml_RX12_203 ⟨Nat.le_of_ble_eq_true rfl, Nat.le_of_ble_eq_true rfl⟩ rfl rfl (Nat.le_of_ble_eq_true rfl) dX12_bars_47 ?_
  show V K 50 [none, none, some (.int v2), none, some (.int v4), some (.int v5)] [.int r3] S
  refine V_if_ne (tgt := 55) (pc := 50) C dX12_bars_50 (by decide) (fun hc => ?_) (fun hc => ?_)
  · have h := it_f hc h
    refine V_iload_n (pc := 55) C dX12_bars_55 rfl rfl ?_
    refine V_if_eq (tgt := 69) (pc := 56) C dX12_bars_56 (by decide) (fun hc => ?_) (fun hc => ?_)
    · have h := it_t hc h
      refine V_iload (pc := 69) C dX12_bars_69 rfl ?_
      refine V_iconst (pc := 71) C dX12_bars_71 kc_i_1 ?_
      refine V_sipush (pc := 72) C dX12_bars_72 kc_s_400 ?_
      obtain ⟨r4, er4, h⟩ := b1_some h
      refine V_callS (As := [.int v4, .int (1 : Int32), .int (400 : Int32)]) (pc := 75) C (mX12_within _ er4) zm_X12_within zs_X12_within ml_RX12_203 ⟨Nat.le_of_ble_eq_true rfl, Nat.le_of_ble_eq_true rfl⟩ rfl rfl (Nat.le_of_ble_eq_true rfl) dX12_bars_75 ?_
      show V K 78 [none, none, some (.int v2), none, some (.int v4), some (.int v5)] [.int r4] S
      refine V_if_ne (tgt := 83) (pc := 78) C dX12_bars_78 (by decide) (fun hc => ?_) (fun hc => ?_)
      · have h := it_f hc h
        refine V_iload_n (pc := 83) C dX12_bars_83 rfl rfl ?_
        refine V_iconst (pc := 84) C dX12_bars_84 kc_i_2 ?_
        refine V_icmp_ne (tgt := 98) (pc := 85) C dX12_bars_85 (by decide) (fun hc => ?_) (fun hc => ?_)
        · have h := it_f hc h
          refine V_iload_n (pc := 98) C dX12_bars_98 rfl rfl ?_
          refine V_iconst (pc := 99) C dX12_bars_99 kc_i_5 ?_
          refine V_icmp_ne (tgt := 117) (pc := 100) C dX12_bars_100 (by decide) (fun hc => ?_) (fun hc => ?_)
          · have h := it_f hc h
            refine V_iconst (pc := 117) C dX12_bars_117 kc_i_0 ?_
            cases h
            exact hR 118 _ ⟨_, rfl, rfl⟩ dX12_bars_118
          · have h := it_t hc h
            refine V_iload (pc := 103) C dX12_bars_103 rfl ?_
            refine V_iconst (pc := 105) C dX12_bars_105 kc_i_0 ?_
            refine V_iconst (pc := 106) C dX12_bars_106 kc_i_1 ?_
            obtain ⟨r5, er5, h⟩ := b1_some h
            refine V_callS (As := [.int v5, .int (0 : Int32), .int (1 : Int32)]) (pc := 107) C (mX12_within _ er5) zm_X12_within zs_X12_within ml_RX12_203 ⟨Nat.le_of_ble_eq_true rfl, Nat.le_of_ble_eq_true rfl⟩ rfl rfl (Nat.le_of_ble_eq_true rfl) dX12_bars_107 ?_
            show V K 110 [none, none, some (.int v2), none, some (.int v4), some (.int v5)] [.int r5] S
            refine V_if_ne (tgt := 117) (pc := 110) C dX12_bars_110 (by decide) (fun hc => ?_) (fun hc => ?_)
            · have h := it_f hc h
              refine V_iconst (pc := 117) C dX12_bars_117 kc_i_0 ?_
              cases h
              exact hR 118 _ ⟨_, rfl, rfl⟩ dX12_bars_118
            · have h := it_t hc h
              refine V_iconst (pc := 113) C dX12_bars_113 kc_i_2 ?_
              refine V_goto (tgt := 118) (pc := 114) C dX12_bars_114 (by decide) ?_
              cases h
              exact hR 118 _ ⟨_, rfl, rfl⟩ dX12_bars_118
        · have h := it_t hc h
          refine V_iload (pc := 88) C dX12_bars_88 rfl ?_
          refine V_iconst (pc := 90) C dX12_bars_90 kc_i_0 ?_
          refine V_iconst (pc := 91) C dX12_bars_91 kc_i_2 ?_
          obtain ⟨r6, er6, h⟩ := b1_some h
          refine V_callS (As := [.int v5, .int (0 : Int32), .int (2 : Int32)]) (pc := 92) C (mX12_within _ er6) zm_X12_within zs_X12_within ml_RX12_203 ⟨Nat.le_of_ble_eq_true rfl, Nat.le_of_ble_eq_true rfl⟩ rfl rfl (Nat.le_of_ble_eq_true rfl) dX12_bars_92 ?_
          show V K 95 [none, none, some (.int v2), none, some (.int v4), some (.int v5)] [.int r6] S
          refine V_if_eq (tgt := 113) (pc := 95) C dX12_bars_95 (by decide) (fun hc => ?_) (fun hc => ?_)
          · have h := it_t hc h
            refine V_iconst (pc := 113) C dX12_bars_113 kc_i_2 ?_
            refine V_goto (tgt := 118) (pc := 114) C dX12_bars_114 (by decide) ?_
            cases h
            exact hR 118 _ ⟨_, rfl, rfl⟩ dX12_bars_118
          · have h := it_f hc h
            refine V_iload_n (pc := 98) C dX12_bars_98 rfl rfl ?_
            refine V_iconst (pc := 99) C dX12_bars_99 kc_i_5 ?_
            refine V_icmp_ne (tgt := 117) (pc := 100) C dX12_bars_100 (by decide) (fun hc => ?_) (fun hc => ?_)
            · have h := it_f hc h
              refine V_iconst (pc := 117) C dX12_bars_117 kc_i_0 ?_
              cases h
              exact hR 118 _ ⟨_, rfl, rfl⟩ dX12_bars_118
            · have h := it_t hc h
              refine V_iload (pc := 103) C dX12_bars_103 rfl ?_
              refine V_iconst (pc := 105) C dX12_bars_105 kc_i_0 ?_
              refine V_iconst (pc := 106) C dX12_bars_106 kc_i_1 ?_
              obtain ⟨r7, er7, h⟩ := b1_some h
              refine V_callS (As := [.int v5, .int (0 : Int32), .int (1 : Int32)]) (pc := 107) C (mX12_within _ er7) zm_X12_within zs_X12_within ml_RX12_203 ⟨Nat.le_of_ble_eq_true rfl, Nat.le_of_ble_eq_true rfl⟩ rfl rfl (Nat.le_of_ble_eq_true rfl) dX12_bars_107 ?_
              show V K 110 [none, none, some (.int v2), none, some (.int v4), some (.int v5)] [.int r7] S
              refine V_if_ne (tgt := 117) (pc := 110) C dX12_bars_110 (by decide) (fun hc => ?_) (fun hc => ?_)
              · have h := it_f hc h
                refine V_iconst (pc := 117) C dX12_bars_117 kc_i_0 ?_
                cases h
                exact hR 118 _ ⟨_, rfl, rfl⟩ dX12_bars_118
              · have h := it_t hc h
                refine V_iconst (pc := 113) C dX12_bars_113 kc_i_2 ?_
                refine V_goto (tgt := 118) (pc := 114) C dX12_bars_114 (by decide) ?_
                cases h
                exact hR 118 _ ⟨_, rfl, rfl⟩ dX12_bars_118
      · have h := it_t hc h
        refine V_iconst (pc := 81) C dX12_bars_81 kc_i_2 ?_
        cases h
        exact hR 82 _ ⟨_, rfl, rfl⟩ dX12_bars_82
    · have h := it_f hc h
      refine V_iload_n (pc := 59) C dX12_bars_59 rfl rfl ?_
      refine V_iconst (pc := 60) C dX12_bars_60 kc_i_2 ?_
      refine V_icmp_eq (tgt := 69) (pc := 61) C dX12_bars_61 (by decide) (fun hc => ?_) (fun hc => ?_)
      · have h := it_t hc h
        refine V_iload (pc := 69) C dX12_bars_69 rfl ?_
        refine V_iconst (pc := 71) C dX12_bars_71 kc_i_1 ?_
        refine V_sipush (pc := 72) C dX12_bars_72 kc_s_400 ?_
        obtain ⟨r8, er8, h⟩ := b1_some h
        refine V_callS (As := [.int v4, .int (1 : Int32), .int (400 : Int32)]) (pc := 75) C (mX12_within _ er8) zm_X12_within zs_X12_within ml_RX12_203 ⟨Nat.le_of_ble_eq_true rfl, Nat.le_of_ble_eq_true rfl⟩ rfl rfl (Nat.le_of_ble_eq_true rfl) dX12_bars_75 ?_
        show V K 78 [none, none, some (.int v2), none, some (.int v4), some (.int v5)] [.int r8] S
        refine V_if_ne (tgt := 83) (pc := 78) C dX12_bars_78 (by decide) (fun hc => ?_) (fun hc => ?_)
        · have h := it_f hc h
          refine V_iload_n (pc := 83) C dX12_bars_83 rfl rfl ?_
          refine V_iconst (pc := 84) C dX12_bars_84 kc_i_2 ?_
          refine V_icmp_ne (tgt := 98) (pc := 85) C dX12_bars_85 (by decide) (fun hc => ?_) (fun hc => ?_)
          · have h := it_f hc h
            refine V_iload_n (pc := 98) C dX12_bars_98 rfl rfl ?_
            refine V_iconst (pc := 99) C dX12_bars_99 kc_i_5 ?_
            refine V_icmp_ne (tgt := 117) (pc := 100) C dX12_bars_100 (by decide) (fun hc => ?_) (fun hc => ?_)
            · have h := it_f hc h
              refine V_iconst (pc := 117) C dX12_bars_117 kc_i_0 ?_
              cases h
              exact hR 118 _ ⟨_, rfl, rfl⟩ dX12_bars_118
            · have h := it_t hc h
              refine V_iload (pc := 103) C dX12_bars_103 rfl ?_
              refine V_iconst (pc := 105) C dX12_bars_105 kc_i_0 ?_
              refine V_iconst (pc := 106) C dX12_bars_106 kc_i_1 ?_
              obtain ⟨r9, er9, h⟩ := b1_some h
              refine V_callS (As := [.int v5, .int (0 : Int32), .int (1 : Int32)]) (pc := 107) C (mX12_within _ er9) zm_X12_within zs_X12_within ml_RX12_203 ⟨Nat.le_of_ble_eq_true rfl, Nat.le_of_ble_eq_true rfl⟩ rfl rfl (Nat.le_of_ble_eq_true rfl) dX12_bars_107 ?_
              show V K 110 [none, none, some (.int v2), none, some (.int v4), some (.int v5)] [.int r9] S
              refine V_if_ne (tgt := 117) (pc := 110) C dX12_bars_110 (by decide) (fun hc => ?_) (fun hc => ?_)
              · have h := it_f hc h
                refine V_iconst (pc := 117) C dX12_bars_117 kc_i_0 ?_
                cases h
                exact hR 118 _ ⟨_, rfl, rfl⟩ dX12_bars_118
              · have h := it_t hc h
                refine V_iconst (pc := 113) C dX12_bars_113 kc_i_2 ?_
                refine V_goto (tgt := 118) (pc := 114) C dX12_bars_114 (by decide) ?_
                cases h
                exact hR 118 _ ⟨_, rfl, rfl⟩ dX12_bars_118
          · have h := it_t hc h
            refine V_iload (pc := 88) C dX12_bars_88 rfl ?_
            refine V_iconst (pc := 90) C dX12_bars_90 kc_i_0 ?_
            refine V_iconst (pc := 91) C dX12_bars_91 kc_i_2 ?_
            obtain ⟨r10, er10, h⟩ := b1_some h
            refine V_callS (As := [.int v5, .int (0 : Int32), .int (2 : Int32)]) (pc := 92) C (mX12_within _ er10) zm_X12_within zs_X12_within ml_RX12_203 ⟨Nat.le_of_ble_eq_true rfl, Nat.le_of_ble_eq_true rfl⟩ rfl rfl (Nat.le_of_ble_eq_true rfl) dX12_bars_92 ?_
            show V K 95 [none, none, some (.int v2), none, some (.int v4), some (.int v5)] [.int r10] S
            refine V_if_eq (tgt := 113) (pc := 95) C dX12_bars_95 (by decide) (fun hc => ?_) (fun hc => ?_)
            · have h := it_t hc h
              refine V_iconst (pc := 113) C dX12_bars_113 kc_i_2 ?_
              refine V_goto (tgt := 118) (pc := 114) C dX12_bars_114 (by decide) ?_
              cases h
              exact hR 118 _ ⟨_, rfl, rfl⟩ dX12_bars_118
            · have h := it_f hc h
              refine V_iload_n (pc := 98) C dX12_bars_98 rfl rfl ?_
              refine V_iconst (pc := 99) C dX12_bars_99 kc_i_5 ?_
              refine V_icmp_ne (tgt := 117) (pc := 100) C dX12_bars_100 (by decide) (fun hc => ?_) (fun hc => ?_)
              · have h := it_f hc h
                refine V_iconst (pc := 117) C dX12_bars_117 kc_i_0 ?_
                cases h
                exact hR 118 _ ⟨_, rfl, rfl⟩ dX12_bars_118
              · have h := it_t hc h
                refine V_iload (pc := 103) C dX12_bars_103 rfl ?_
                refine V_iconst (pc := 105) C dX12_bars_105 kc_i_0 ?_
                refine V_iconst (pc := 106) C dX12_bars_106 kc_i_1 ?_
                obtain ⟨r11, er11, h⟩ := b1_some h
                refine V_callS (As := [.int v5, .int (0 : Int32), .int (1 : Int32)]) (pc := 107) C (mX12_within _ er11) zm_X12_within zs_X12_within ml_RX12_203 ⟨Nat.le_of_ble_eq_true rfl, Nat.le_of_ble_eq_true rfl⟩ rfl rfl (Nat.le_of_ble_eq_true rfl) dX12_bars_107 ?_
                show V K 110 [none, none, some (.int v2), none, some (.int v4), some (.int v5)] [.int r11] S
                refine V_if_ne (tgt := 117) (pc := 110) C dX12_bars_110 (by decide) (fun hc => ?_) (fun hc => ?_)
                · have h := it_f hc h
                  refine V_iconst (pc := 117) C dX12_bars_117 kc_i_0 ?_
                  cases h
                  exact hR 118 _ ⟨_, rfl, rfl⟩ dX12_bars_118
                · have h := it_t hc h
                  refine V_iconst (pc := 113) C dX12_bars_113 kc_i_2 ?_
                  refine V_goto (tgt := 118) (pc := 114) C dX12_bars_114 (by decide) ?_
                  cases h
                  exact hR 118 _ ⟨_, rfl, rfl⟩ dX12_bars_118
        · have h := it_t hc h
          refine V_iconst (pc := 81) C dX12_bars_81 kc_i_2 ?_
          cases h
          exact hR 82 _ ⟨_, rfl, rfl⟩ dX12_bars_82
      · have h := it_f hc h
        refine V_iload_n (pc := 64) C dX12_bars_64 rfl rfl ?_
        refine V_iconst (pc := 65) C dX12_bars_65 kc_i_5 ?_
        refine V_icmp_ne (tgt := 83) (pc := 66) C dX12_bars_66 (by decide) (fun hc => ?_) (fun hc => ?_)
        · have h := it_f hc h
          refine V_iload_n (pc := 83) C dX12_bars_83 rfl rfl ?_
          refine V_iconst (pc := 84) C dX12_bars_84 kc_i_2 ?_
          refine V_icmp_ne (tgt := 98) (pc := 85) C dX12_bars_85 (by decide) (fun hc => ?_) (fun hc => ?_)
          · have h := it_f hc h
            refine V_iload_n (pc := 98) C dX12_bars_98 rfl rfl ?_
            refine V_iconst (pc := 99) C dX12_bars_99 kc_i_5 ?_
            refine V_icmp_ne (tgt := 117) (pc := 100) C dX12_bars_100 (by decide) (fun hc => ?_) (fun hc => ?_)
            · have h := it_f hc h
              refine V_iconst (pc := 117) C dX12_bars_117 kc_i_0 ?_
              cases h
              exact hR 118 _ ⟨_, rfl, rfl⟩ dX12_bars_118
            · have h := it_t hc h
              refine V_iload (pc := 103) C dX12_bars_103 rfl ?_
              refine V_iconst (pc := 105) C dX12_bars_105 kc_i_0 ?_
              refine V_iconst (pc := 106) C dX12_bars_106 kc_i_1 ?_
              obtain ⟨r12, er12, h⟩ := b1_some h
              refine V_callS (As := [.int v5, .int (0 : Int32), .int (1 : Int32)]) (pc := 107) C (mX12_within _ er12) zm_X12_within zs_X12_within ml_RX12_203 ⟨Nat.le_of_ble_eq_true rfl, Nat.le_of_ble_eq_true rfl⟩ rfl rfl (Nat.le_of_ble_eq_true rfl) dX12_bars_107 ?_
              show V K 110 [none, none, some (.int v2), none, some (.int v4), some (.int v5)] [.int r12] S
              refine V_if_ne (tgt := 117) (pc := 110) C dX12_bars_110 (by decide) (fun hc => ?_) (fun hc => ?_)
              · have h := it_f hc h
                refine V_iconst (pc := 117) C dX12_bars_117 kc_i_0 ?_
                cases h
                exact hR 118 _ ⟨_, rfl, rfl⟩ dX12_bars_118
              · have h := it_t hc h
                refine V_iconst (pc := 113) C dX12_bars_113 kc_i_2 ?_
                refine V_goto (tgt := 118) (pc := 114) C dX12_bars_114 (by decide) ?_
                cases h
                exact hR 118 _ ⟨_, rfl, rfl⟩ dX12_bars_118
          · have h := it_t hc h
            refine V_iload (pc := 88) C dX12_bars_88 rfl ?_
            refine V_iconst (pc := 90) C dX12_bars_90 kc_i_0 ?_
            refine V_iconst (pc := 91) C dX12_bars_91 kc_i_2 ?_
            obtain ⟨r13, er13, h⟩ := b1_some h
            refine V_callS (As := [.int v5, .int (0 : Int32), .int (2 : Int32)]) (pc := 92) C (mX12_within _ er13) zm_X12_within zs_X12_within ml_RX12_203 ⟨Nat.le_of_ble_eq_true rfl, Nat.le_of_ble_eq_true rfl⟩ rfl rfl (Nat.le_of_ble_eq_true rfl) dX12_bars_92 ?_
            show V K 95 [none, none, some (.int v2), none, some (.int v4), some (.int v5)] [.int r13] S
            refine V_if_eq (tgt := 113) (pc := 95) C dX12_bars_95 (by decide) (fun hc => ?_) (fun hc => ?_)
            · have h := it_t hc h
              refine V_iconst (pc := 113) C dX12_bars_113 kc_i_2 ?_
              refine V_goto (tgt := 118) (pc := 114) C dX12_bars_114 (by decide) ?_
              cases h
              exact hR 118 _ ⟨_, rfl, rfl⟩ dX12_bars_118
            · have h := it_f hc h
              refine V_iload_n (pc := 98) C dX12_bars_98 rfl rfl ?_
              refine V_iconst (pc := 99) C dX12_bars_99 kc_i_5 ?_
              refine V_icmp_ne (tgt := 117) (pc := 100) C dX12_bars_100 (by decide) (fun hc => ?_) (fun hc => ?_)
              · have h := it_f hc h
                refine V_iconst (pc := 117) C dX12_bars_117 kc_i_0 ?_
                cases h
                exact hR 118 _ ⟨_, rfl, rfl⟩ dX12_bars_118
              · have h := it_t hc h
                refine V_iload (pc := 103) C dX12_bars_103 rfl ?_
                refine V_iconst (pc := 105) C dX12_bars_105 kc_i_0 ?_
                refine V_iconst (pc := 106) C dX12_bars_106 kc_i_1 ?_
                obtain ⟨r14, er14, h⟩ := b1_some h
                refine V_callS (As := [.int v5, .int (0 : Int32), .int (1 : Int32)]) (pc := 107) C (mX12_within _ er14) zm_X12_within zs_X12_within ml_RX12_203 ⟨Nat.le_of_ble_eq_true rfl, Nat.le_of_ble_eq_true rfl⟩ rfl rfl (Nat.le_of_ble_eq_true rfl) dX12_bars_107 ?_
                show V K 110 [none, none, some (.int v2), none, some (.int v4), some (.int v5)] [.int r14] S
                refine V_if_ne (tgt := 117) (pc := 110) C dX12_bars_110 (by decide) (fun hc => ?_) (fun hc => ?_)
                · have h := it_f hc h
                  refine V_iconst (pc := 117) C dX12_bars_117 kc_i_0 ?_
                  cases h
                  exact hR 118 _ ⟨_, rfl, rfl⟩ dX12_bars_118
                · have h := it_t hc h
                  refine V_iconst (pc := 113) C dX12_bars_113 kc_i_2 ?_
                  refine V_goto (tgt := 118) (pc := 114) C dX12_bars_114 (by decide) ?_
                  cases h
                  exact hR 118 _ ⟨_, rfl, rfl⟩ dX12_bars_118
        · have h := it_t hc h
          refine V_iload (pc := 69) C dX12_bars_69 rfl ?_
          refine V_iconst (pc := 71) C dX12_bars_71 kc_i_1 ?_
          refine V_sipush (pc := 72) C dX12_bars_72 kc_s_400 ?_
          obtain ⟨r15, er15, h⟩ := b1_some h
          refine V_callS (As := [.int v4, .int (1 : Int32), .int (400 : Int32)]) (pc := 75) C (mX12_within _ er15) zm_X12_within zs_X12_within ml_RX12_203 ⟨Nat.le_of_ble_eq_true rfl, Nat.le_of_ble_eq_true rfl⟩ rfl rfl (Nat.le_of_ble_eq_true rfl) dX12_bars_75 ?_
          show V K 78 [none, none, some (.int v2), none, some (.int v4), some (.int v5)] [.int r15] S
          refine V_if_ne (tgt := 83) (pc := 78) C dX12_bars_78 (by decide) (fun hc => ?_) (fun hc => ?_)
          · have h := it_f hc h
            refine V_iload_n (pc := 83) C dX12_bars_83 rfl rfl ?_
            refine V_iconst (pc := 84) C dX12_bars_84 kc_i_2 ?_
            refine V_icmp_ne (tgt := 98) (pc := 85) C dX12_bars_85 (by decide) (fun hc => ?_) (fun hc => ?_)
            · have h := it_f hc h
              refine V_iload_n (pc := 98) C dX12_bars_98 rfl rfl ?_
              refine V_iconst (pc := 99) C dX12_bars_99 kc_i_5 ?_
              refine V_icmp_ne (tgt := 117) (pc := 100) C dX12_bars_100 (by decide) (fun hc => ?_) (fun hc => ?_)
              · have h := it_f hc h
                refine V_iconst (pc := 117) C dX12_bars_117 kc_i_0 ?_
                cases h
                exact hR 118 _ ⟨_, rfl, rfl⟩ dX12_bars_118
              · have h := it_t hc h
                refine V_iload (pc := 103) C dX12_bars_103 rfl ?_
                refine V_iconst (pc := 105) C dX12_bars_105 kc_i_0 ?_
                refine V_iconst (pc := 106) C dX12_bars_106 kc_i_1 ?_
                obtain ⟨r16, er16, h⟩ := b1_some h
                refine V_callS (As := [.int v5, .int (0 : Int32), .int (1 : Int32)]) (pc := 107) C (mX12_within _ er16) zm_X12_within zs_X12_within ml_RX12_203 ⟨Nat.le_of_ble_eq_true rfl, Nat.le_of_ble_eq_true rfl⟩ rfl rfl (Nat.le_of_ble_eq_true rfl) dX12_bars_107 ?_
                show V K 110 [none, none, some (.int v2), none, some (.int v4), some (.int v5)] [.int r16] S
                refine V_if_ne (tgt := 117) (pc := 110) C dX12_bars_110 (by decide) (fun hc => ?_) (fun hc => ?_)
                · have h := it_f hc h
                  refine V_iconst (pc := 117) C dX12_bars_117 kc_i_0 ?_
                  cases h
                  exact hR 118 _ ⟨_, rfl, rfl⟩ dX12_bars_118
                · have h := it_t hc h
                  refine V_iconst (pc := 113) C dX12_bars_113 kc_i_2 ?_
                  refine V_goto (tgt := 118) (pc := 114) C dX12_bars_114 (by decide) ?_
                  cases h
                  exact hR 118 _ ⟨_, rfl, rfl⟩ dX12_bars_118
            · have h := it_t hc h
              refine V_iload (pc := 88) C dX12_bars_88 rfl ?_
              refine V_iconst (pc := 90) C dX12_bars_90 kc_i_0 ?_
              refine V_iconst (pc := 91) C dX12_bars_91 kc_i_2 ?_
              obtain ⟨r17, er17, h⟩ := b1_some h
              refine V_callS (As := [.int v5, .int (0 : Int32), .int (2 : Int32)]) (pc := 92) C (mX12_within _ er17) zm_X12_within zs_X12_within ml_RX12_203 ⟨Nat.le_of_ble_eq_true rfl, Nat.le_of_ble_eq_true rfl⟩ rfl rfl (Nat.le_of_ble_eq_true rfl) dX12_bars_92 ?_
              show V K 95 [none, none, some (.int v2), none, some (.int v4), some (.int v5)] [.int r17] S
              refine V_if_eq (tgt := 113) (pc := 95) C dX12_bars_95 (by decide) (fun hc => ?_) (fun hc => ?_)
              · have h := it_t hc h
                refine V_iconst (pc := 113) C dX12_bars_113 kc_i_2 ?_
                refine V_goto (tgt := 118) (pc := 114) C dX12_bars_114 (by decide) ?_
                cases h
                exact hR 118 _ ⟨_, rfl, rfl⟩ dX12_bars_118
              · have h := it_f hc h
                refine V_iload_n (pc := 98) C dX12_bars_98 rfl rfl ?_
                refine V_iconst (pc := 99) C dX12_bars_99 kc_i_5 ?_
                refine V_icmp_ne (tgt := 117) (pc := 100) C dX12_bars_100 (by decide) (fun hc => ?_) (fun hc => ?_)
                · have h := it_f hc h
                  refine V_iconst (pc := 117) C dX12_bars_117 kc_i_0 ?_
                  cases h
                  exact hR 118 _ ⟨_, rfl, rfl⟩ dX12_bars_118
                · have h := it_t hc h
                  refine V_iload (pc := 103) C dX12_bars_103 rfl ?_
                  refine V_iconst (pc := 105) C dX12_bars_105 kc_i_0 ?_
                  refine V_iconst (pc := 106) C dX12_bars_106 kc_i_1 ?_
                  obtain ⟨r18, er18, h⟩ := b1_some h
                  refine V_callS (As := [.int v5, .int (0 : Int32), .int (1 : Int32)]) (pc := 107) C (mX12_within _ er18) zm_X12_within zs_X12_within ml_RX12_203 ⟨Nat.le_of_ble_eq_true rfl, Nat.le_of_ble_eq_true rfl⟩ rfl rfl (Nat.le_of_ble_eq_true rfl) dX12_bars_107 ?_
                  show V K 110 [none, none, some (.int v2), none, some (.int v4), some (.int v5)] [.int r18] S
                  refine V_if_ne (tgt := 117) (pc := 110) C dX12_bars_110 (by decide) (fun hc => ?_) (fun hc => ?_)
                  · have h := it_f hc h
                    refine V_iconst (pc := 117) C dX12_bars_117 kc_i_0 ?_
                    cases h
                    exact hR 118 _ ⟨_, rfl, rfl⟩ dX12_bars_118
                  · have h := it_t hc h
                    refine V_iconst (pc := 113) C dX12_bars_113 kc_i_2 ?_
                    refine V_goto (tgt := 118) (pc := 114) C dX12_bars_114 (by decide) ?_
                    cases h
                    exact hR 118 _ ⟨_, rfl, rfl⟩ dX12_bars_118
          · have h := it_t hc h
            refine V_iconst (pc := 81) C dX12_bars_81 kc_i_2 ?_
            cases h
            exact hR 82 _ ⟨_, rfl, rfl⟩ dX12_bars_82
  · have h := it_t hc h
    refine V_iconst (pc := 53) C dX12_bars_53 kc_i_2 ?_
    cases h
    exact hR 54 _ ⟨_, rfl, rfl⟩ dX12_bars_54
set_option maxRecDepth 100000 in
theorem mX12_bars (l : Launch) {S : zM} {a1 : Int32} {a2 : Int32} {a3 : Int32} {a4 : Int32} {a5 : Int32} {r : Int32}  (h : gX12_bars S a1 a2 a3 a4 a5 = some r) : zMet l mW zS0 yX12_bars cX12_bars 6 (some .int) 2 43 [.ref 0, .int a1, .int a2, .int a3, .int a4, .int a5] S (some (.int r)) S := by
  refine zmeth (by decide +kernel) (by rfl) (fun K hKl C hR => ?_)
  show V K 0 [some (.ref 0), some (.int a1), some (.int a2), some (.int a3), some (.int a4), some (.int a5)] [] S
  unfold gX12_bars at h
  refine V_aload_n (pc := 0) C dX12_bars_0 rfl rfl ?_
  refine V_iload_n (pc := 1) C dX12_bars_1 rfl rfl ?_
  obtain ⟨r1, er1, h⟩ := b1_some h
  refine V_callV (As := [.int a1]) (pc := 2) C (mX12_isSayer _ er1) zm_X12_isSayer zi_X12_isSayer ml_RX12_315 z1_mW_12 rfl ⟨Nat.le_of_ble_eq_true rfl, Nat.le_of_ble_eq_true rfl⟩ rfl rfl (Nat.le_of_ble_eq_true rfl) dX12_bars_2 ?_
  show V K 5 [some (.ref 0), some (.int a1), some (.int a2), some (.int a3), some (.int a4), some (.int a5)] [.int r1] S
  refine V_if_eq (tgt := 31) (pc := 5) C dX12_bars_5 (by decide) (fun hc => ?_) (fun hc => ?_)
  · have h := it_t hc h
    refine V_iconst (pc := 31) C dX12_bars_31 kc_i_1 ?_
    cases h
    exact hR 32 _ ⟨_, rfl, rfl⟩ dX12_bars_32
  · have h := it_f hc h
    refine V_iload_n (pc := 8) C dX12_bars_8 rfl rfl ?_
    refine V_iconst (pc := 9) C dX12_bars_9 kc_i_0 ?_
    refine V_iconst (pc := 10) C dX12_bars_10 kc_i_5 ?_
    obtain ⟨r2, er2, h⟩ := b1_some h
    refine V_callS (As := [.int a2, .int (0 : Int32), .int (5 : Int32)]) (pc := 11) C (mX12_within _ er2) zm_X12_within zs_X12_within ml_RX12_203 ⟨Nat.le_of_ble_eq_true rfl, Nat.le_of_ble_eq_true rfl⟩ rfl rfl (Nat.le_of_ble_eq_true rfl) dX12_bars_11 ?_
    show V K 14 [some (.ref 0), some (.int a1), some (.int a2), some (.int a3), some (.int a4), some (.int a5)] [.int r2] S
    refine V_if_eq (tgt := 31) (pc := 14) C dX12_bars_14 (by decide) (fun hc => ?_) (fun hc => ?_)
    · have h := it_t hc h
      refine V_iconst (pc := 31) C dX12_bars_31 kc_i_1 ?_
      cases h
      exact hR 32 _ ⟨_, rfl, rfl⟩ dX12_bars_32
    · have h := it_f hc h
      refine V_iload_n (pc := 17) C dX12_bars_17 rfl rfl ?_
      refine V_iconst (pc := 18) C dX12_bars_18 kc_i_4 ?_
      refine V_icmp_ne (tgt := 33) (pc := 19) C dX12_bars_19 (by decide) (fun hc => ?_) (fun hc => ?_)
      · have h := it_f hc h
        refine V_iload_n (pc := 33) C dX12_bars_33 rfl rfl ?_
        refine V_iload_n (pc := 34) C dX12_bars_34 rfl rfl ?_
        refine V_iconst (pc := 35) C dX12_bars_35 kc_i_1 ?_
        refine V_icmp_ne (tgt := 43) (pc := 36) C dX12_bars_36 (by decide) (fun hc => ?_) (fun hc => ?_)
        · have h := it_f hc h
          refine V_iconst (pc := 43) C dX12_bars_43 kc_i_1 ?_
          exact V_mask [false, false, true, false, true, true] (mX12_bars_J44 C  hR h)
        · have h := it_t hc h
          refine V_iconst (pc := 39) C dX12_bars_39 kc_i_0 ?_
          refine V_goto (tgt := 44) (pc := 40) C dX12_bars_40 (by decide) ?_
          exact V_mask [false, false, true, false, true, true] (mX12_bars_J44 C  hR h)
      · have h := it_t hc h
        refine V_aload_n (pc := 22) C dX12_bars_22 rfl rfl ?_
        refine V_iload (pc := 23) C dX12_bars_23 rfl ?_
        obtain ⟨r19, er19, h⟩ := b1_some h
        refine V_callV (As := [.int a4]) (pc := 25) C (mX12_isSense _ er19) zm_X12_isSense zi_X12_isSense ml_RX12_306 z1_mW_12 rfl ⟨Nat.le_of_ble_eq_true rfl, Nat.le_of_ble_eq_true rfl⟩ rfl rfl (Nat.le_of_ble_eq_true rfl) dX12_bars_25 ?_
        show V K 28 [some (.ref 0), some (.int a1), some (.int a2), some (.int a3), some (.int a4), some (.int a5)] [.int r19] S
        refine V_if_ne (tgt := 33) (pc := 28) C dX12_bars_28 (by decide) (fun hc => ?_) (fun hc => ?_)
        · have h := it_f hc h
          refine V_iload_n (pc := 33) C dX12_bars_33 rfl rfl ?_
          refine V_iload_n (pc := 34) C dX12_bars_34 rfl rfl ?_
          refine V_iconst (pc := 35) C dX12_bars_35 kc_i_1 ?_
          refine V_icmp_ne (tgt := 43) (pc := 36) C dX12_bars_36 (by decide) (fun hc => ?_) (fun hc => ?_)
          · have h := it_f hc h
            refine V_iconst (pc := 43) C dX12_bars_43 kc_i_1 ?_
            exact V_mask [false, false, true, false, true, true] (mX12_bars_J44 C  hR h)
          · have h := it_t hc h
            refine V_iconst (pc := 39) C dX12_bars_39 kc_i_0 ?_
            refine V_goto (tgt := 44) (pc := 40) C dX12_bars_40 (by decide) ?_
            exact V_mask [false, false, true, false, true, true] (mX12_bars_J44 C  hR h)
        · have h := it_t hc h
          refine V_iconst (pc := 31) C dX12_bars_31 kc_i_1 ?_
          cases h
          exact hR 32 _ ⟨_, rfl, rfl⟩ dX12_bars_32
set_option maxRecDepth 100000 in
theorem mX12_oddsOf_J230 {K : zK} (C : zC K cX12_oddsOf yX12_oddsOf.cls 21 3 77 mW) {S : zM} {v1 : Int32} {v2 : Int32} {v3 : Int32} {v4 : Int32} {v5 : Int32} {v6 : Int32} {v7 : Int32} {v8 : Int32} {v9 : Int32} {v10 : Int32} {v11 : Int32} {v12 : Int32} {v13 : Int32} {v14 : Int32} {v15 : Int32} {v16 : Int32} {v17 : Int32} {v18 : Int32} {v19 : Int32} {s0 : Int32} {out : Int32 ⊕ (Int32 × Int32)}  (h : gX12_oddsOf_J230 S v1 v2 v3 v4 v5 v6 v7 v8 v9 v10 v11 v12 v13 v14 v15 v16 v17 v18 v19 s0 = some out) (hb : ∀ (b11 : Int32) (b18 : Int32), out = .inr (b11, b18) → V K 164 [some (.ref 0), some (.int v1), some (.int v2), some (.int v3), some (.int v4), some (.int v5), some (.int v6), some (.int v7), some (.int v8), some (.int v9), some (.int v10), some (.int b11), some (.int v12), some (.int v13), some (.int v14), some (.int v15), some (.int v16), some (.int v17), some (.int b18), none, none] [] S) : V K 230 [some (.ref 0), some (.int v1), some (.int v2), some (.int v3), some (.int v4), some (.int v5), some (.int v6), some (.int v7), some (.int v8), some (.int v9), some (.int v10), some (.int v11), some (.int v12), some (.int v13), some (.int v14), some (.int v15), some (.int v16), some (.int v17), some (.int v18), some (.int v19), none] [.int s0] S := by
  unfold gX12_oddsOf_J230 at h
  refine V_istore (L' := [some (.ref 0), some (.int v1), some (.int v2), some (.int v3), some (.int v4), some (.int v5), some (.int v6), some (.int v7), some (.int v8), some (.int v9), some (.int v10), some (.int v11), some (.int v12), some (.int v13), some (.int v14), some (.int v15), some (.int v16), some (.int v17), some (.int v18), some (.int v19), some (.int s0)]) (pc := 230) C dX12_oddsOf_230 (by decide) rfl ?_
  refine V_iload (pc := 232) C dX12_oddsOf_232 rfl ?_
  refine V_aload_n (pc := 234) C dX12_oddsOf_234 rfl rfl ?_
  refine V_iload_n (pc := 235) C dX12_oddsOf_235 rfl rfl ?_
  refine V_iload_n (pc := 236) C dX12_oddsOf_236 rfl rfl ?_
  refine V_iload (pc := 237) C dX12_oddsOf_237 rfl ?_
  refine V_iload (pc := 239) C dX12_oddsOf_239 rfl ?_
  refine V_iload (pc := 241) C dX12_oddsOf_241 rfl ?_
  refine V_iload (pc := 243) C dX12_oddsOf_243 rfl ?_
  refine V_iload (pc := 245) C dX12_oddsOf_245 rfl ?_
  refine V_iload (pc := 247) C dX12_oddsOf_247 rfl ?_
  obtain ⟨r6, er6, h⟩ := b1_some h
  refine V_callV (As := [.int v1, .int v2, .int v4, .int v5, .int v14, .int v17, .int s0, .int v7]) (pc := 249) C (mX12_answered _ er6) zm_X12_answered zi_X12_answered ml_RX12_355 z1_mW_12 rfl ⟨Nat.le_of_ble_eq_true rfl, Nat.le_of_ble_eq_true rfl⟩ rfl rfl (Nat.le_of_ble_eq_true rfl) dX12_oddsOf_249 ?_
  show V K 252 [some (.ref 0), some (.int v1), some (.int v2), some (.int v3), some (.int v4), some (.int v5), some (.int v6), some (.int v7), some (.int v8), some (.int v9), some (.int v10), some (.int v11), some (.int v12), some (.int v13), some (.int v14), some (.int v15), some (.int v16), some (.int v17), some (.int v18), some (.int v19), some (.int s0)] [.int r6, .int v11] S
  refine V_iload (pc := 252) C dX12_oddsOf_252 rfl ?_
  refine V_icmp_ne (tgt := 262) (pc := 254) C dX12_oddsOf_254 (by decide) (fun hc => ?_) (fun hc => ?_)
  · have h := it_f hc h
    refine V_iconst (pc := 262) C dX12_oddsOf_262 kc_i_0 ?_
    refine V_iadd (pc := 263) C dX12_oddsOf_263 ?_
    refine V_istore (L' := [some (.ref 0), some (.int v1), some (.int v2), some (.int v3), some (.int v4), some (.int v5), some (.int v6), some (.int v7), some (.int v8), some (.int v9), some (.int v10), some (.int (v11 + (0 : Int32))), some (.int v12), some (.int v13), some (.int v14), some (.int v15), some (.int v16), some (.int v17), some (.int v18), some (.int v19), some (.int s0)]) (pc := 264) C dX12_oddsOf_264 (by decide) rfl ?_
    refine V_iinc (L' := [some (.ref 0), some (.int v1), some (.int v2), some (.int v3), some (.int v4), some (.int v5), some (.int v6), some (.int v7), some (.int v8), some (.int v9), some (.int v10), some (.int (v11 + (0 : Int32))), some (.int v12), some (.int v13), some (.int v14), some (.int v15), some (.int v16), some (.int v17), some (.int (v18 + (1 : Int32))), some (.int v19), some (.int s0)]) (v := (v18 + (1 : Int32))) (pc := 266) C dX12_oddsOf_266 rfl (congrArg (v18 + ·) kc_i_1) (by decide) rfl ?_
    refine V_goto (tgt := 164) (pc := 269) C dX12_oddsOf_269 (by decide) ?_
    cases h
    exact V_mask [true, true, true, true, true, true, true, true, true, true, true, true, true, true, true, true, true, true, true, false, false] (hb _ _ rfl)
  · have h := it_t hc h
    refine V_iload (pc := 257) C dX12_oddsOf_257 rfl ?_
    refine V_goto (tgt := 263) (pc := 259) C dX12_oddsOf_259 (by decide) ?_
    refine V_iadd (pc := 263) C dX12_oddsOf_263 ?_
    refine V_istore (L' := [some (.ref 0), some (.int v1), some (.int v2), some (.int v3), some (.int v4), some (.int v5), some (.int v6), some (.int v7), some (.int v8), some (.int v9), some (.int v10), some (.int (v11 + v19)), some (.int v12), some (.int v13), some (.int v14), some (.int v15), some (.int v16), some (.int v17), some (.int v18), some (.int v19), some (.int s0)]) (pc := 264) C dX12_oddsOf_264 (by decide) rfl ?_
    refine V_iinc (L' := [some (.ref 0), some (.int v1), some (.int v2), some (.int v3), some (.int v4), some (.int v5), some (.int v6), some (.int v7), some (.int v8), some (.int v9), some (.int v10), some (.int (v11 + v19)), some (.int v12), some (.int v13), some (.int v14), some (.int v15), some (.int v16), some (.int v17), some (.int (v18 + (1 : Int32))), some (.int v19), some (.int s0)]) (v := (v18 + (1 : Int32))) (pc := 266) C dX12_oddsOf_266 rfl (congrArg (v18 + ·) kc_i_1) (by decide) rfl ?_
    refine V_goto (tgt := 164) (pc := 269) C dX12_oddsOf_269 (by decide) ?_
    cases h
    exact V_mask [true, true, true, true, true, true, true, true, true, true, true, true, true, true, true, true, true, true, true, false, false] (hb _ _ rfl)
set_option maxRecDepth 100000 in
theorem mX12_oddsOf_J194 {K : zK} (C : zC K cX12_oddsOf yX12_oddsOf.cls 21 3 77 mW) {S : zM} {v1 : Int32} {v2 : Int32} {v3 : Int32} {v4 : Int32} {v5 : Int32} {v6 : Int32} {v7 : Int32} {v8 : Int32} {v9 : Int32} {v10 : Int32} {v11 : Int32} {v12 : Int32} {v13 : Int32} {v14 : Int32} {v15 : Int32} {v16 : Int32} {v17 : Int32} {v18 : Int32} {s0 : Int32} {out : Int32 ⊕ (Int32 × Int32)}  (h : gX12_oddsOf_J194 S v1 v2 v3 v4 v5 v6 v7 v8 v9 v10 v11 v12 v13 v14 v15 v16 v17 v18 s0 = some out) (hb : ∀ (b11 : Int32) (b18 : Int32), out = .inr (b11, b18) → V K 164 [some (.ref 0), some (.int v1), some (.int v2), some (.int v3), some (.int v4), some (.int v5), some (.int v6), some (.int v7), some (.int v8), some (.int v9), some (.int v10), some (.int b11), some (.int v12), some (.int v13), some (.int v14), some (.int v15), some (.int v16), some (.int v17), some (.int b18), none, none] [] S) : V K 194 [some (.ref 0), some (.int v1), some (.int v2), some (.int v3), some (.int v4), some (.int v5), some (.int v6), some (.int v7), some (.int v8), some (.int v9), some (.int v10), some (.int v11), some (.int v12), some (.int v13), some (.int v14), some (.int v15), some (.int v16), some (.int v17), some (.int v18), none, none] [.int s0] S := by
  unfold gX12_oddsOf_J194 at h
  refine V_istore (L' := [some (.ref 0), some (.int v1), some (.int v2), some (.int v3), some (.int v4), some (.int v5), some (.int v6), some (.int v7), some (.int v8), some (.int v9), some (.int v10), some (.int v11), some (.int v12), some (.int v13), some (.int v14), some (.int v15), some (.int v16), some (.int v17), some (.int v18), some (.int s0), none]) (pc := 194) C dX12_oddsOf_194 (by decide) rfl ?_
  refine V_iload (pc := 196) C dX12_oddsOf_196 rfl ?_
  refine V_if_ne (tgt := 204) (pc := 198) C dX12_oddsOf_198 (by decide) (fun hc => ?_) (fun hc => ?_)
  · have h := it_f hc h
    refine V_iload (pc := 204) C dX12_oddsOf_204 rfl ?_
    refine V_iconst (pc := 206) C dX12_oddsOf_206 kc_i_2 ?_
    refine V_icmp_le (tgt := 229) (pc := 207) C dX12_oddsOf_207 (by decide) (fun hc => ?_) (fun hc => ?_)
    · have h := it_t hc h
      refine V_iconst (pc := 229) C dX12_oddsOf_229 kc_i_0 ?_
      exact V_mask [true, true, true, true, true, true, true, true, true, true, true, true, true, true, true, true, true, true, true, true, false] (mX12_oddsOf_J230 C  h hb)
    · have h := it_f hc h
      refine V_aload_n (pc := 210) C dX12_oddsOf_210 rfl rfl ?_
      refine V_iload (pc := 211) C dX12_oddsOf_211 rfl ?_
      refine V_iload_n (pc := 213) C dX12_oddsOf_213 rfl rfl ?_
      refine V_iload_n (pc := 214) C dX12_oddsOf_214 rfl rfl ?_
      refine V_iload (pc := 215) C dX12_oddsOf_215 rfl ?_
      refine V_iload (pc := 217) C dX12_oddsOf_217 rfl ?_
      refine V_iconst (pc := 219) C dX12_oddsOf_219 kc_i_2 ?_
      obtain ⟨r7, er7, h⟩ := b1_some h
      refine V_callV (As := [.int v9, .int v2, .int v3, .int v4, .int v5, .int (2 : Int32)]) (pc := 220) C (mX12_levelAt _ er7) zm_X12_levelAt zi_X12_levelAt ml_RX12_351 z1_mW_12 rfl ⟨Nat.le_of_ble_eq_true rfl, Nat.le_of_ble_eq_true rfl⟩ rfl rfl (Nat.le_of_ble_eq_true rfl) dX12_oddsOf_220 ?_
      show V K 223 [some (.ref 0), some (.int v1), some (.int v2), some (.int v3), some (.int v4), some (.int v5), some (.int v6), some (.int v7), some (.int v8), some (.int v9), some (.int v10), some (.int v11), some (.int v12), some (.int v13), some (.int v14), some (.int v15), some (.int v16), some (.int v17), some (.int v18), some (.int s0), none] [.int r7] S
      refine V_iload (pc := 223) C dX12_oddsOf_223 rfl ?_
      refine V_iadd (pc := 225) C dX12_oddsOf_225 ?_
      refine V_goto (tgt := 230) (pc := 226) C dX12_oddsOf_226 (by decide) ?_
      exact V_mask [true, true, true, true, true, true, true, true, true, true, true, true, true, true, true, true, true, true, true, true, false] (mX12_oddsOf_J230 C  h hb)
  · have h := it_t hc h
    refine V_goto (tgt := 266) (pc := 201) C dX12_oddsOf_201 (by decide) ?_
    refine V_iinc (L' := [some (.ref 0), some (.int v1), some (.int v2), some (.int v3), some (.int v4), some (.int v5), some (.int v6), some (.int v7), some (.int v8), some (.int v9), some (.int v10), some (.int v11), some (.int v12), some (.int v13), some (.int v14), some (.int v15), some (.int v16), some (.int v17), some (.int (v18 + (1 : Int32))), some (.int s0), none]) (v := (v18 + (1 : Int32))) (pc := 266) C dX12_oddsOf_266 rfl (congrArg (v18 + ·) kc_i_1) (by decide) rfl ?_
    refine V_goto (tgt := 164) (pc := 269) C dX12_oddsOf_269 (by decide) ?_
    cases h
    exact V_mask [true, true, true, true, true, true, true, true, true, true, true, true, true, true, true, true, true, true, true, false, false] (hb _ _ rfl)
set_option maxRecDepth 100000 in
theorem mX12_oddsOf_L164 {K : zK} (C : zC K cX12_oddsOf yX12_oddsOf.cls 21 3 77 mW) {S : zM} {v1 : Int32} {v2 : Int32} {v3 : Int32} {v4 : Int32} {v5 : Int32} {v6 : Int32} {v7 : Int32} {v8 : Int32} {v9 : Int32} {v10 : Int32} {v12 : Int32} {v13 : Int32} {v14 : Int32} {v15 : Int32} {v16 : Int32} {v17 : Int32}  : ∀ (f : Nat) (v11 : Int32) (v18 : Int32) (o11 : Int32), gX12_oddsOf_L164 S v1 v2 v3 v4 v5 v6 v7 v8 v9 v10 v12 v13 v14 v15 v16 v17 f v11 v18 = some o11 → V K 272 [some (.ref 0), some (.int v1), some (.int v2), some (.int v3), some (.int v4), some (.int v5), some (.int v6), some (.int v7), some (.int v8), some (.int v9), some (.int v10), some (.int o11), some (.int v12), some (.int v13), some (.int v14), some (.int v15), none, none, none, none, none] [] S → V K 164 [some (.ref 0), some (.int v1), some (.int v2), some (.int v3), some (.int v4), some (.int v5), some (.int v6), some (.int v7), some (.int v8), some (.int v9), some (.int v10), some (.int v11), some (.int v12), some (.int v13), some (.int v14), some (.int v15), some (.int v16), some (.int v17), some (.int v18), none, none] [] S := by
  intro f
  induction f with
  | zero => intro v11 v18 o11 h hx; cases h
  | succ n ih =>
    intro v11 v18 o11 h hx
    unfold gX12_oddsOf_L164 at h
    refine V_iload (pc := 164) C dX12_oddsOf_164 rfl ?_
    refine V_iconst (pc := 166) C dX12_oddsOf_166 kc_i_5 ?_
    refine V_icmp_gt (tgt := 272) (pc := 167) C dX12_oddsOf_167 (by decide) (fun hc => ?_) (fun hc => ?_)
    · have h := it_t hc h
      cases h
      exact V_mask [true, true, true, true, true, true, true, true, true, true, true, true, true, true, true, true, false, false, false, false, false] hx
    · have h := it_f hc h
      refine V_iload (pc := 170) C dX12_oddsOf_170 rfl ?_
      refine V_iconst (pc := 172) C dX12_oddsOf_172 kc_i_2 ?_
      refine V_icmp_le (tgt := 192) (pc := 173) C dX12_oddsOf_173 (by decide) (fun hc => ?_) (fun hc => ?_)
      · have h := it_t hc h
        refine V_iload (pc := 192) C dX12_oddsOf_192 rfl ?_
        obtain ⟨out', e194, hi, hb⟩ := lm_some h
        refine V_mask [true, true, true, true, true, true, true, true, true, true, true, true, true, true, true, true, true, true, true, false, false] (mX12_oddsOf_J194 C  e194 ?_)
        · intro v11 v18 eo
          have h := hb _ eo
          exact ih _ _ _ h hx
      · have h := it_f hc h
        refine V_iload (pc := 176) C dX12_oddsOf_176 rfl ?_
        refine V_aload_n (pc := 178) C dX12_oddsOf_178 rfl rfl ?_
        refine V_iload (pc := 179) C dX12_oddsOf_179 rfl ?_
        refine V_iload (pc := 181) C dX12_oddsOf_181 rfl ?_
        refine V_iload (pc := 183) C dX12_oddsOf_183 rfl ?_
        obtain ⟨r8, er8, h⟩ := b1_some h
        refine V_callV (As := [.int v9, .int v18, .int v8]) (pc := 185) C (mX12_often _ er8) zm_X12_often zi_X12_often ml_RX12_309 z1_mW_12 rfl ⟨Nat.le_of_ble_eq_true rfl, Nat.le_of_ble_eq_true rfl⟩ rfl rfl (Nat.le_of_ble_eq_true rfl) dX12_oddsOf_185 ?_
        show V K 188 [some (.ref 0), some (.int v1), some (.int v2), some (.int v3), some (.int v4), some (.int v5), some (.int v6), some (.int v7), some (.int v8), some (.int v9), some (.int v10), some (.int v11), some (.int v12), some (.int v13), some (.int v14), some (.int v15), some (.int v16), some (.int v17), some (.int v18), none, none] [.int r8, .int v16] S
        refine V_imul (pc := 188) C dX12_oddsOf_188 ?_
        refine V_goto (tgt := 194) (pc := 189) C dX12_oddsOf_189 (by decide) ?_
        obtain ⟨out', e194, hi, hb⟩ := lm_some h
        refine V_mask [true, true, true, true, true, true, true, true, true, true, true, true, true, true, true, true, true, true, true, false, false] (mX12_oddsOf_J194 C  e194 ?_)
        · intro v11 v18 eo
          have h := hb _ eo
          exact ih _ _ _ h hx
set_option maxRecDepth 100000 in
theorem mX12_oddsOf_J112 {K : zK} (C : zC K cX12_oddsOf yX12_oddsOf.cls 21 3 77 mW) {S : zM} {v1 : Int32} {v2 : Int32} {v3 : Int32} {v4 : Int32} {v5 : Int32} {v6 : Int32} {v7 : Int32} {v8 : Int32} {v9 : Int32} {v10 : Int32} {v11 : Int32} {v12 : Int32} {v13 : Int32} {v14 : Int32} {v15 : Int32} {s0 : Int32} {out : Int32 ⊕ (Int32 × Int32)}  (h : gX12_oddsOf_J112 S v1 v2 v3 v4 v5 v6 v7 v8 v9 v10 v11 v12 v13 v14 v15 s0 = some out) (hb : ∀ (b11 : Int32) (b15 : Int32), out = .inr (b11, b15) → V K 82 [some (.ref 0), some (.int v1), some (.int v2), some (.int v3), some (.int v4), some (.int v5), some (.int v6), some (.int v7), some (.int v8), some (.int v9), some (.int v10), some (.int b11), some (.int v12), some (.int v13), some (.int v14), some (.int b15), none, none, none, none, none] [] S) : V K 112 [some (.ref 0), some (.int v1), some (.int v2), some (.int v3), some (.int v4), some (.int v5), some (.int v6), some (.int v7), some (.int v8), some (.int v9), some (.int v10), some (.int v11), some (.int v12), some (.int v13), some (.int v14), some (.int v15), none, none, none, none, none] [.int s0] S := by
  unfold gX12_oddsOf_J112 at h
  refine V_istore (L' := [some (.ref 0), some (.int v1), some (.int v2), some (.int v3), some (.int v4), some (.int v5), some (.int v6), some (.int v7), some (.int v8), some (.int v9), some (.int v10), some (.int v11), some (.int v12), some (.int v13), some (.int v14), some (.int v15), some (.int s0), none, none, none, none]) (pc := 112) C dX12_oddsOf_112 (by decide) rfl ?_
  refine V_iload (pc := 114) C dX12_oddsOf_114 rfl ?_
  refine V_if_ne (tgt := 122) (pc := 116) C dX12_oddsOf_116 (by decide) (fun hc => ?_) (fun hc => ?_)
  · have h := it_f hc h
    refine V_iload (pc := 122) C dX12_oddsOf_122 rfl ?_
    refine V_iconst (pc := 124) C dX12_oddsOf_124 kc_i_1 ?_
    refine V_icmp_le (tgt := 147) (pc := 125) C dX12_oddsOf_125 (by decide) (fun hc => ?_) (fun hc => ?_)
    · have h := it_t hc h
      refine V_iconst (pc := 147) C dX12_oddsOf_147 kc_i_0 ?_
      refine V_istore (L' := [some (.ref 0), some (.int v1), some (.int v2), some (.int v3), some (.int v4), some (.int v5), some (.int v6), some (.int v7), some (.int v8), some (.int v9), some (.int v10), some (.int v11), some (.int v12), some (.int v13), some (.int v14), some (.int v15), some (.int s0), some (.int (0 : Int32)), none, none, none]) (pc := 148) C dX12_oddsOf_148 (by decide) rfl ?_
      refine V_iload (pc := 150) C dX12_oddsOf_150 rfl ?_
      refine V_iconst (pc := 152) C dX12_oddsOf_152 kc_i_2 ?_
      refine V_icmp_le (tgt := 161) (pc := 153) C dX12_oddsOf_153 (by decide) (fun hc => ?_) (fun hc => ?_)
      · have h := it_t hc h
        refine V_iconst (pc := 161) C dX12_oddsOf_161 kc_i_5 ?_
        refine V_istore (L' := [some (.ref 0), some (.int v1), some (.int v2), some (.int v3), some (.int v4), some (.int v5), some (.int v6), some (.int v7), some (.int v8), some (.int v9), some (.int v10), some (.int v11), some (.int v12), some (.int v13), some (.int v14), some (.int v15), some (.int s0), some (.int (0 : Int32)), some (.int (5 : Int32)), none, none]) (pc := 162) C dX12_oddsOf_162 (by decide) rfl ?_
        obtain ⟨w9, e164, h⟩ := b1_some h
        refine V_mask [true, true, true, true, true, true, true, true, true, true, true, true, true, true, true, true, true, true, true, false, false] (mX12_oddsOf_L164 C  FU _ _ _ e164 ?_)
        refine V_iinc (L' := [some (.ref 0), some (.int v1), some (.int v2), some (.int v3), some (.int v4), some (.int v5), some (.int v6), some (.int v7), some (.int v8), some (.int v9), some (.int v10), some (.int w9), some (.int v12), some (.int v13), some (.int v14), some (.int (v15 + (1 : Int32))), none, none, none, none, none]) (v := (v15 + (1 : Int32))) (pc := 272) C dX12_oddsOf_272 rfl (congrArg (v15 + ·) kc_i_1) (by decide) rfl ?_
        refine V_goto (tgt := 82) (pc := 275) C dX12_oddsOf_275 (by decide) ?_
        cases h
        exact V_mask [true, true, true, true, true, true, true, true, true, true, true, true, true, true, true, true, false, false, false, false, false] (hb _ _ rfl)
      · have h := it_f hc h
        refine V_bipush (pc := 156) C dX12_oddsOf_156 kc_b_m5 ?_
        refine V_goto (tgt := 162) (pc := 158) C dX12_oddsOf_158 (by decide) ?_
        refine V_istore (L' := [some (.ref 0), some (.int v1), some (.int v2), some (.int v3), some (.int v4), some (.int v5), some (.int v6), some (.int v7), some (.int v8), some (.int v9), some (.int v10), some (.int v11), some (.int v12), some (.int v13), some (.int v14), some (.int v15), some (.int s0), some (.int (0 : Int32)), some (.int (-5 : Int32)), none, none]) (pc := 162) C dX12_oddsOf_162 (by decide) rfl ?_
        obtain ⟨w11, e164, h⟩ := b1_some h
        refine V_mask [true, true, true, true, true, true, true, true, true, true, true, true, true, true, true, true, true, true, true, false, false] (mX12_oddsOf_L164 C  FU _ _ _ e164 ?_)
        refine V_iinc (L' := [some (.ref 0), some (.int v1), some (.int v2), some (.int v3), some (.int v4), some (.int v5), some (.int v6), some (.int v7), some (.int v8), some (.int v9), some (.int v10), some (.int w11), some (.int v12), some (.int v13), some (.int v14), some (.int (v15 + (1 : Int32))), none, none, none, none, none]) (v := (v15 + (1 : Int32))) (pc := 272) C dX12_oddsOf_272 rfl (congrArg (v15 + ·) kc_i_1) (by decide) rfl ?_
        refine V_goto (tgt := 82) (pc := 275) C dX12_oddsOf_275 (by decide) ?_
        cases h
        exact V_mask [true, true, true, true, true, true, true, true, true, true, true, true, true, true, true, true, false, false, false, false, false] (hb _ _ rfl)
    · have h := it_f hc h
      refine V_aload_n (pc := 128) C dX12_oddsOf_128 rfl rfl ?_
      refine V_iload (pc := 129) C dX12_oddsOf_129 rfl ?_
      refine V_iload_n (pc := 131) C dX12_oddsOf_131 rfl rfl ?_
      refine V_iload_n (pc := 132) C dX12_oddsOf_132 rfl rfl ?_
      refine V_iload (pc := 133) C dX12_oddsOf_133 rfl ?_
      refine V_iload (pc := 135) C dX12_oddsOf_135 rfl ?_
      refine V_iconst (pc := 137) C dX12_oddsOf_137 kc_i_1 ?_
      obtain ⟨r12, er12, h⟩ := b1_some h
      refine V_callV (As := [.int v9, .int v2, .int v3, .int v4, .int v5, .int (1 : Int32)]) (pc := 138) C (mX12_levelAt _ er12) zm_X12_levelAt zi_X12_levelAt ml_RX12_351 z1_mW_12 rfl ⟨Nat.le_of_ble_eq_true rfl, Nat.le_of_ble_eq_true rfl⟩ rfl rfl (Nat.le_of_ble_eq_true rfl) dX12_oddsOf_138 ?_
      show V K 141 [some (.ref 0), some (.int v1), some (.int v2), some (.int v3), some (.int v4), some (.int v5), some (.int v6), some (.int v7), some (.int v8), some (.int v9), some (.int v10), some (.int v11), some (.int v12), some (.int v13), some (.int v14), some (.int v15), some (.int s0), none, none, none, none] [.int r12] S
      refine V_iload (pc := 141) C dX12_oddsOf_141 rfl ?_
      refine V_iadd (pc := 143) C dX12_oddsOf_143 ?_
      refine V_goto (tgt := 148) (pc := 144) C dX12_oddsOf_144 (by decide) ?_
      refine V_istore (L' := [some (.ref 0), some (.int v1), some (.int v2), some (.int v3), some (.int v4), some (.int v5), some (.int v6), some (.int v7), some (.int v8), some (.int v9), some (.int v10), some (.int v11), some (.int v12), some (.int v13), some (.int v14), some (.int v15), some (.int s0), some (.int (r12 + v15)), none, none, none]) (pc := 148) C dX12_oddsOf_148 (by decide) rfl ?_
      refine V_iload (pc := 150) C dX12_oddsOf_150 rfl ?_
      refine V_iconst (pc := 152) C dX12_oddsOf_152 kc_i_2 ?_
      refine V_icmp_le (tgt := 161) (pc := 153) C dX12_oddsOf_153 (by decide) (fun hc => ?_) (fun hc => ?_)
      · have h := it_t hc h
        refine V_iconst (pc := 161) C dX12_oddsOf_161 kc_i_5 ?_
        refine V_istore (L' := [some (.ref 0), some (.int v1), some (.int v2), some (.int v3), some (.int v4), some (.int v5), some (.int v6), some (.int v7), some (.int v8), some (.int v9), some (.int v10), some (.int v11), some (.int v12), some (.int v13), some (.int v14), some (.int v15), some (.int s0), some (.int (r12 + v15)), some (.int (5 : Int32)), none, none]) (pc := 162) C dX12_oddsOf_162 (by decide) rfl ?_
        obtain ⟨w14, e164, h⟩ := b1_some h
        refine V_mask [true, true, true, true, true, true, true, true, true, true, true, true, true, true, true, true, true, true, true, false, false] (mX12_oddsOf_L164 C  FU _ _ _ e164 ?_)
        refine V_iinc (L' := [some (.ref 0), some (.int v1), some (.int v2), some (.int v3), some (.int v4), some (.int v5), some (.int v6), some (.int v7), some (.int v8), some (.int v9), some (.int v10), some (.int w14), some (.int v12), some (.int v13), some (.int v14), some (.int (v15 + (1 : Int32))), none, none, none, none, none]) (v := (v15 + (1 : Int32))) (pc := 272) C dX12_oddsOf_272 rfl (congrArg (v15 + ·) kc_i_1) (by decide) rfl ?_
        refine V_goto (tgt := 82) (pc := 275) C dX12_oddsOf_275 (by decide) ?_
        cases h
        exact V_mask [true, true, true, true, true, true, true, true, true, true, true, true, true, true, true, true, false, false, false, false, false] (hb _ _ rfl)
      · have h := it_f hc h
        refine V_bipush (pc := 156) C dX12_oddsOf_156 kc_b_m5 ?_
        refine V_goto (tgt := 162) (pc := 158) C dX12_oddsOf_158 (by decide) ?_
        refine V_istore (L' := [some (.ref 0), some (.int v1), some (.int v2), some (.int v3), some (.int v4), some (.int v5), some (.int v6), some (.int v7), some (.int v8), some (.int v9), some (.int v10), some (.int v11), some (.int v12), some (.int v13), some (.int v14), some (.int v15), some (.int s0), some (.int (r12 + v15)), some (.int (-5 : Int32)), none, none]) (pc := 162) C dX12_oddsOf_162 (by decide) rfl ?_
        obtain ⟨w16, e164, h⟩ := b1_some h
        refine V_mask [true, true, true, true, true, true, true, true, true, true, true, true, true, true, true, true, true, true, true, false, false] (mX12_oddsOf_L164 C  FU _ _ _ e164 ?_)
        refine V_iinc (L' := [some (.ref 0), some (.int v1), some (.int v2), some (.int v3), some (.int v4), some (.int v5), some (.int v6), some (.int v7), some (.int v8), some (.int v9), some (.int v10), some (.int w16), some (.int v12), some (.int v13), some (.int v14), some (.int (v15 + (1 : Int32))), none, none, none, none, none]) (v := (v15 + (1 : Int32))) (pc := 272) C dX12_oddsOf_272 rfl (congrArg (v15 + ·) kc_i_1) (by decide) rfl ?_
        refine V_goto (tgt := 82) (pc := 275) C dX12_oddsOf_275 (by decide) ?_
        cases h
        exact V_mask [true, true, true, true, true, true, true, true, true, true, true, true, true, true, true, true, false, false, false, false, false] (hb _ _ rfl)
  · have h := it_t hc h
    refine V_goto (tgt := 272) (pc := 119) C dX12_oddsOf_119 (by decide) ?_
    refine V_iinc (L' := [some (.ref 0), some (.int v1), some (.int v2), some (.int v3), some (.int v4), some (.int v5), some (.int v6), some (.int v7), some (.int v8), some (.int v9), some (.int v10), some (.int v11), some (.int v12), some (.int v13), some (.int v14), some (.int (v15 + (1 : Int32))), some (.int s0), none, none, none, none]) (v := (v15 + (1 : Int32))) (pc := 272) C dX12_oddsOf_272 rfl (congrArg (v15 + ·) kc_i_1) (by decide) rfl ?_
    refine V_goto (tgt := 82) (pc := 275) C dX12_oddsOf_275 (by decide) ?_
    cases h
    exact V_mask [true, true, true, true, true, true, true, true, true, true, true, true, true, true, true, true, false, false, false, false, false] (hb _ _ rfl)
set_option maxRecDepth 100000 in
theorem mX12_oddsOf_L82 {K : zK} (C : zC K cX12_oddsOf yX12_oddsOf.cls 21 3 77 mW) {S : zM} {v1 : Int32} {v2 : Int32} {v3 : Int32} {v4 : Int32} {v5 : Int32} {v6 : Int32} {v7 : Int32} {v8 : Int32} {v9 : Int32} {v10 : Int32} {v12 : Int32} {v13 : Int32} {v14 : Int32}  : ∀ (f : Nat) (v11 : Int32) (v15 : Int32) (o11 : Int32), gX12_oddsOf_L82 S v1 v2 v3 v4 v5 v6 v7 v8 v9 v10 v12 v13 v14 f v11 v15 = some o11 → V K 278 [some (.ref 0), some (.int v1), some (.int v2), some (.int v3), some (.int v4), some (.int v5), some (.int v6), some (.int v7), some (.int v8), some (.int v9), some (.int v10), some (.int o11), some (.int v12), none, none, none, none, none, none, none, none] [] S → V K 82 [some (.ref 0), some (.int v1), some (.int v2), some (.int v3), some (.int v4), some (.int v5), some (.int v6), some (.int v7), some (.int v8), some (.int v9), some (.int v10), some (.int v11), some (.int v12), some (.int v13), some (.int v14), some (.int v15), none, none, none, none, none] [] S := by
  intro f
  induction f with
  | zero => intro v11 v15 o11 h hx; cases h
  | succ n ih =>
    intro v11 v15 o11 h hx
    unfold gX12_oddsOf_L82 at h
    refine V_iload (pc := 82) C dX12_oddsOf_82 rfl ?_
    refine V_iconst (pc := 84) C dX12_oddsOf_84 kc_i_5 ?_
    refine V_icmp_gt (tgt := 278) (pc := 85) C dX12_oddsOf_85 (by decide) (fun hc => ?_) (fun hc => ?_)
    · have h := it_t hc h
      cases h
      exact V_mask [true, true, true, true, true, true, true, true, true, true, true, true, true, false, false, false, false, false, false, false, false] hx
    · have h := it_f hc h
      refine V_iload (pc := 88) C dX12_oddsOf_88 rfl ?_
      refine V_iconst (pc := 90) C dX12_oddsOf_90 kc_i_1 ?_
      refine V_icmp_le (tgt := 110) (pc := 91) C dX12_oddsOf_91 (by decide) (fun hc => ?_) (fun hc => ?_)
      · have h := it_t hc h
        refine V_iload (pc := 110) C dX12_oddsOf_110 rfl ?_
        obtain ⟨out', e112, hi, hb⟩ := lm_some h
        refine V_mask [true, true, true, true, true, true, true, true, true, true, true, true, true, true, true, true, false, false, false, false, false] (mX12_oddsOf_J112 C  e112 ?_)
        · intro v11 v15 eo
          have h := hb _ eo
          exact ih _ _ _ h hx
      · have h := it_f hc h
        refine V_iload (pc := 94) C dX12_oddsOf_94 rfl ?_
        refine V_aload_n (pc := 96) C dX12_oddsOf_96 rfl rfl ?_
        refine V_iload (pc := 97) C dX12_oddsOf_97 rfl ?_
        refine V_iload (pc := 99) C dX12_oddsOf_99 rfl ?_
        refine V_iload (pc := 101) C dX12_oddsOf_101 rfl ?_
        obtain ⟨r17, er17, h⟩ := b1_some h
        refine V_callV (As := [.int v9, .int v15, .int v8]) (pc := 103) C (mX12_often _ er17) zm_X12_often zi_X12_often ml_RX12_309 z1_mW_12 rfl ⟨Nat.le_of_ble_eq_true rfl, Nat.le_of_ble_eq_true rfl⟩ rfl rfl (Nat.le_of_ble_eq_true rfl) dX12_oddsOf_103 ?_
        show V K 106 [some (.ref 0), some (.int v1), some (.int v2), some (.int v3), some (.int v4), some (.int v5), some (.int v6), some (.int v7), some (.int v8), some (.int v9), some (.int v10), some (.int v11), some (.int v12), some (.int v13), some (.int v14), some (.int v15), none, none, none, none, none] [.int r17, .int v13] S
        refine V_imul (pc := 106) C dX12_oddsOf_106 ?_
        refine V_goto (tgt := 112) (pc := 107) C dX12_oddsOf_107 (by decide) ?_
        obtain ⟨out', e112, hi, hb⟩ := lm_some h
        refine V_mask [true, true, true, true, true, true, true, true, true, true, true, true, true, true, true, true, false, false, false, false, false] (mX12_oddsOf_J112 C  e112 ?_)
        · intro v11 v15 eo
          have h := hb _ eo
          exact ih _ _ _ h hx
set_option maxRecDepth 100000 in
theorem mX12_oddsOf_L24 {K : zK} (C : zC K cX12_oddsOf yX12_oddsOf.cls 21 3 77 mW) {S : zM} {v1 : Int32} {v2 : Int32} {v3 : Int32} {v4 : Int32} {v5 : Int32} {v6 : Int32} {v7 : Int32} {v8 : Int32} {v9 : Int32} {v10 : Int32}  : ∀ (f : Nat) (v11 : Int32) (v12 : Int32) (r : Int32), gX12_oddsOf_L24 S v1 v2 v3 v4 v5 v6 v7 v8 v9 v10 f v11 v12 = some r → zR K cX12_oddsOf (some .int) S (some (.int r)) → V K 24 [some (.ref 0), some (.int v1), some (.int v2), some (.int v3), some (.int v4), some (.int v5), some (.int v6), some (.int v7), some (.int v8), some (.int v9), some (.int v10), some (.int v11), some (.int v12), none, none, none, none, none, none, none, none] [] S := by
  intro f
  induction f with
  | zero => intro v11 v12 r h hR; cases h
  | succ n ih =>
    intro v11 v12 r h hR
    unfold gX12_oddsOf_L24 at h
    refine V_iload (pc := 24) C dX12_oddsOf_24 rfl ?_
    refine V_iconst (pc := 26) C dX12_oddsOf_26 kc_i_5 ?_
    refine V_icmp_gt (tgt := 284) (pc := 27) C dX12_oddsOf_27 (by decide) (fun hc => ?_) (fun hc => ?_)
    · have h := it_t hc h
      refine V_iload (pc := 284) C dX12_oddsOf_284 rfl ?_
      cases h
      exact hR 286 _ ⟨_, rfl, rfl⟩ dX12_oddsOf_286
    · have h := it_f hc h
      refine V_aload_n (pc := 30) C dX12_oddsOf_30 rfl rfl ?_
      refine V_iload (pc := 31) C dX12_oddsOf_31 rfl ?_
      refine V_iload (pc := 33) C dX12_oddsOf_33 rfl ?_
      refine V_iload (pc := 35) C dX12_oddsOf_35 rfl ?_
      obtain ⟨r4, er4, h⟩ := b1_some h
      refine V_callV (As := [.int v9, .int v12, .int v8]) (pc := 37) C (mX12_often _ er4) zm_X12_often zi_X12_often ml_RX12_309 z1_mW_12 rfl ⟨Nat.le_of_ble_eq_true rfl, Nat.le_of_ble_eq_true rfl⟩ rfl rfl (Nat.le_of_ble_eq_true rfl) dX12_oddsOf_37 ?_
      show V K 40 [some (.ref 0), some (.int v1), some (.int v2), some (.int v3), some (.int v4), some (.int v5), some (.int v6), some (.int v7), some (.int v8), some (.int v9), some (.int v10), some (.int v11), some (.int v12), none, none, none, none, none, none, none, none] [.int r4] S
      refine V_istore (L' := [some (.ref 0), some (.int v1), some (.int v2), some (.int v3), some (.int v4), some (.int v5), some (.int v6), some (.int v7), some (.int v8), some (.int v9), some (.int v10), some (.int v11), some (.int v12), some (.int r4), none, none, none, none, none, none, none]) (pc := 40) C dX12_oddsOf_40 (by decide) rfl ?_
      refine V_iload (pc := 42) C dX12_oddsOf_42 rfl ?_
      refine V_if_ne (tgt := 50) (pc := 44) C dX12_oddsOf_44 (by decide) (fun hc => ?_) (fun hc => ?_)
      · have h := it_f hc h
        refine V_aload_n (pc := 50) C dX12_oddsOf_50 rfl rfl ?_
        refine V_iload (pc := 51) C dX12_oddsOf_51 rfl ?_
        refine V_iload_n (pc := 53) C dX12_oddsOf_53 rfl rfl ?_
        refine V_iload_n (pc := 54) C dX12_oddsOf_54 rfl rfl ?_
        refine V_iload (pc := 55) C dX12_oddsOf_55 rfl ?_
        refine V_iload (pc := 57) C dX12_oddsOf_57 rfl ?_
        refine V_iconst (pc := 59) C dX12_oddsOf_59 kc_i_0 ?_
        obtain ⟨r5, er5, h⟩ := b1_some h
        refine V_callV (As := [.int v9, .int v2, .int v3, .int v4, .int v5, .int (0 : Int32)]) (pc := 60) C (mX12_levelAt _ er5) zm_X12_levelAt zi_X12_levelAt ml_RX12_351 z1_mW_12 rfl ⟨Nat.le_of_ble_eq_true rfl, Nat.le_of_ble_eq_true rfl⟩ rfl rfl (Nat.le_of_ble_eq_true rfl) dX12_oddsOf_60 ?_
        show V K 63 [some (.ref 0), some (.int v1), some (.int v2), some (.int v3), some (.int v4), some (.int v5), some (.int v6), some (.int v7), some (.int v8), some (.int v9), some (.int v10), some (.int v11), some (.int v12), some (.int r4), none, none, none, none, none, none, none] [.int r5] S
        refine V_iload (pc := 63) C dX12_oddsOf_63 rfl ?_
        refine V_iadd (pc := 65) C dX12_oddsOf_65 ?_
        refine V_istore (L' := [some (.ref 0), some (.int v1), some (.int v2), some (.int v3), some (.int v4), some (.int v5), some (.int v6), some (.int v7), some (.int v8), some (.int v9), some (.int v10), some (.int v11), some (.int v12), some (.int r4), some (.int (r5 + v12)), none, none, none, none, none, none]) (pc := 66) C dX12_oddsOf_66 (by decide) rfl ?_
        refine V_iload (pc := 68) C dX12_oddsOf_68 rfl ?_
        refine V_iconst (pc := 70) C dX12_oddsOf_70 kc_i_1 ?_
        refine V_icmp_le (tgt := 79) (pc := 71) C dX12_oddsOf_71 (by decide) (fun hc => ?_) (fun hc => ?_)
        · have h := it_t hc h
          refine V_iconst (pc := 79) C dX12_oddsOf_79 kc_i_5 ?_
          refine V_istore (L' := [some (.ref 0), some (.int v1), some (.int v2), some (.int v3), some (.int v4), some (.int v5), some (.int v6), some (.int v7), some (.int v8), some (.int v9), some (.int v10), some (.int v11), some (.int v12), some (.int r4), some (.int (r5 + v12)), some (.int (5 : Int32)), none, none, none, none, none]) (pc := 80) C dX12_oddsOf_80 (by decide) rfl ?_
          obtain ⟨w18, e82, h⟩ := b1_some h
          refine V_mask [true, true, true, true, true, true, true, true, true, true, true, true, true, true, true, true, false, false, false, false, false] (mX12_oddsOf_L82 C  FU _ _ _ e82 ?_)
          refine V_iinc (L' := [some (.ref 0), some (.int v1), some (.int v2), some (.int v3), some (.int v4), some (.int v5), some (.int v6), some (.int v7), some (.int v8), some (.int v9), some (.int v10), some (.int w18), some (.int (v12 + (1 : Int32))), none, none, none, none, none, none, none, none]) (v := (v12 + (1 : Int32))) (pc := 278) C dX12_oddsOf_278 rfl (congrArg (v12 + ·) kc_i_1) (by decide) rfl ?_
          refine V_goto (tgt := 24) (pc := 281) C dX12_oddsOf_281 (by decide) ?_
          exact V_mask [true, true, true, true, true, true, true, true, true, true, true, true, true, false, false, false, false, false, false, false, false] (ih _ _ _ h hR)
        · have h := it_f hc h
          refine V_bipush (pc := 74) C dX12_oddsOf_74 kc_b_m5 ?_
          refine V_goto (tgt := 80) (pc := 76) C dX12_oddsOf_76 (by decide) ?_
          refine V_istore (L' := [some (.ref 0), some (.int v1), some (.int v2), some (.int v3), some (.int v4), some (.int v5), some (.int v6), some (.int v7), some (.int v8), some (.int v9), some (.int v10), some (.int v11), some (.int v12), some (.int r4), some (.int (r5 + v12)), some (.int (-5 : Int32)), none, none, none, none, none]) (pc := 80) C dX12_oddsOf_80 (by decide) rfl ?_
          obtain ⟨w20, e82, h⟩ := b1_some h
          refine V_mask [true, true, true, true, true, true, true, true, true, true, true, true, true, true, true, true, false, false, false, false, false] (mX12_oddsOf_L82 C  FU _ _ _ e82 ?_)
          refine V_iinc (L' := [some (.ref 0), some (.int v1), some (.int v2), some (.int v3), some (.int v4), some (.int v5), some (.int v6), some (.int v7), some (.int v8), some (.int v9), some (.int v10), some (.int w20), some (.int (v12 + (1 : Int32))), none, none, none, none, none, none, none, none]) (v := (v12 + (1 : Int32))) (pc := 278) C dX12_oddsOf_278 rfl (congrArg (v12 + ·) kc_i_1) (by decide) rfl ?_
          refine V_goto (tgt := 24) (pc := 281) C dX12_oddsOf_281 (by decide) ?_
          exact V_mask [true, true, true, true, true, true, true, true, true, true, true, true, true, false, false, false, false, false, false, false, false] (ih _ _ _ h hR)
      · have h := it_t hc h
        refine V_goto (tgt := 278) (pc := 47) C dX12_oddsOf_47 (by decide) ?_
        refine V_iinc (L' := [some (.ref 0), some (.int v1), some (.int v2), some (.int v3), some (.int v4), some (.int v5), some (.int v6), some (.int v7), some (.int v8), some (.int v9), some (.int v10), some (.int v11), some (.int (v12 + (1 : Int32))), some (.int r4), none, none, none, none, none, none, none]) (v := (v12 + (1 : Int32))) (pc := 278) C dX12_oddsOf_278 rfl (congrArg (v12 + ·) kc_i_1) (by decide) rfl ?_
        refine V_goto (tgt := 24) (pc := 281) C dX12_oddsOf_281 (by decide) ?_
        exact V_mask [true, true, true, true, true, true, true, true, true, true, true, true, true, false, false, false, false, false, false, false, false] (ih _ _ _ h hR)
set_option maxRecDepth 100000 in
theorem mX12_oddsOf (l : Launch) {S : zM} {a1 : Int32} {a2 : Int32} {a3 : Int32} {a4 : Int32} {a5 : Int32} {a6 : Int32} {a7 : Int32} {a8 : Int32} {r : Int32}  (h : gX12_oddsOf S a1 a2 a3 a4 a5 a6 a7 a8 = some r) : zMet l mW zS0 yX12_oddsOf cX12_oddsOf 21 (some .int) 3 77 [.ref 0, .int a1, .int a2, .int a3, .int a4, .int a5, .int a6, .int a7, .int a8] S (some (.int r)) S := by
  refine zmeth (by decide +kernel) (by rfl) (fun K hKl C hR => ?_)
  show V K 0 [some (.ref 0), some (.int a1), some (.int a2), some (.int a3), some (.int a4), some (.int a5), some (.int a6), some (.int a7), some (.int a8), none, none, none, none, none, none, none, none, none, none, none, none] [] S
  unfold gX12_oddsOf at h
  refine V_aload_n (pc := 0) C dX12_oddsOf_0 rfl rfl ?_
  refine V_getF (p1 := 3) (pc := 1) C z1_mW_12 fl_RX12_20 rfl (zf_mW_12_15 z1_mW_12) dX12_oddsOf_1 ?_
  refine V_bipush (pc := 4) C dX12_oddsOf_4 kc_b_120 ?_
  refine V_iload_n (pc := 6) C dX12_oddsOf_6 rfl rfl ?_
  refine V_iadd (pc := 7) C dX12_oddsOf_7 ?_
  obtain ⟨k1, h⟩ := ck_some h
  refine V_iald (pc := 8) C (za_mW_12_15 z1_mW_12) k1 dX12_oddsOf_8 ?_
  obtain ⟨x2, ex2, h⟩ := lt_some h
  refine V_nmI ex2 ?_
  refine V_istore (L' := [some (.ref 0), some (.int a1), some (.int a2), some (.int a3), some (.int a4), some (.int a5), some (.int a6), some (.int a7), some (.int a8), some (.int x2), none, none, none, none, none, none, none, none, none, none, none]) (pc := 9) C dX12_oddsOf_9 (by decide) rfl ?_
  refine V_iload_n (pc := 11) C dX12_oddsOf_11 rfl rfl ?_
  obtain ⟨r3, er3, h⟩ := b1_some h
  refine V_callS (As := [.int a2]) (pc := 12) C (mX12_feelings _ er3) zm_X12_feelings zs_X12_feelings ml_RX12_348 ⟨Nat.le_of_ble_eq_true rfl, Nat.le_of_ble_eq_true rfl⟩ rfl rfl (Nat.le_of_ble_eq_true rfl) dX12_oddsOf_12 ?_
  show V K 15 [some (.ref 0), some (.int a1), some (.int a2), some (.int a3), some (.int a4), some (.int a5), some (.int a6), some (.int a7), some (.int a8), some (.int x2), none, none, none, none, none, none, none, none, none, none, none] [.int r3] S
  refine V_istore (L' := [some (.ref 0), some (.int a1), some (.int a2), some (.int a3), some (.int a4), some (.int a5), some (.int a6), some (.int a7), some (.int a8), some (.int x2), some (.int r3), none, none, none, none, none, none, none, none, none, none]) (pc := 15) C dX12_oddsOf_15 (by decide) rfl ?_
  refine V_iconst (pc := 17) C dX12_oddsOf_17 kc_i_0 ?_
  refine V_istore (L' := [some (.ref 0), some (.int a1), some (.int a2), some (.int a3), some (.int a4), some (.int a5), some (.int a6), some (.int a7), some (.int a8), some (.int x2), some (.int r3), some (.int (0 : Int32)), none, none, none, none, none, none, none, none, none]) (pc := 18) C dX12_oddsOf_18 (by decide) rfl ?_
  refine V_bipush (pc := 20) C dX12_oddsOf_20 kc_b_m5 ?_
  refine V_istore (L' := [some (.ref 0), some (.int a1), some (.int a2), some (.int a3), some (.int a4), some (.int a5), some (.int a6), some (.int a7), some (.int a8), some (.int x2), some (.int r3), some (.int (0 : Int32)), some (.int (-5 : Int32)), none, none, none, none, none, none, none, none]) (pc := 22) C dX12_oddsOf_22 (by decide) rfl ?_
  exact V_mask [true, true, true, true, true, true, true, true, true, true, true, true, true, false, false, false, false, false, false, false, false] (mX12_oddsOf_L24 C  FU _ _ _ h hR)
set_option maxRecDepth 100000 in
theorem mX12_odds (l : Launch) {S : zM} {a1 : Int32} {a2 : Int32} {a3 : Int32} {a4 : Int32} {a5 : Int32} {a6 : Int32} {a7 : Int32} {r : Int32} {S' : zM}  (h : gX12_odds S a1 a2 a3 a4 a5 a6 a7 = some (r, S')) : zMet l mW zS0 yX12_odds cX12_odds 10 (some .int) 4 117 [.ref 0, .int a1, .int a2, .int a3, .int a4, .int a5, .int a6, .int a7] S (some (.int r)) S' := by
  refine zmeth (by decide +kernel) (by rfl) (fun K hKl C hR => ?_)
  show V K 0 [some (.ref 0), some (.int a1), some (.int a2), some (.int a3), some (.int a4), some (.int a5), some (.int a6), some (.int a7), none, none] [] S
  unfold gX12_odds at h
  refine V_aload_n (pc := 0) C dX12_odds_0 rfl rfl ?_
  obtain ⟨S2, euS2, h⟩ := b1_some h
  refine V_callV (As := []) (pc := 1) C (mX12_good _ euS2) zm_X12_good zi_X12_good ml_RX12_211 z1_mW_12 rfl ⟨Nat.le_of_ble_eq_true rfl, Nat.le_of_ble_eq_true rfl⟩ rfl rfl (Nat.le_of_ble_eq_true rfl) dX12_odds_1 ?_
  show V K 4 [some (.ref 0), some (.int a1), some (.int a2), some (.int a3), some (.int a4), some (.int a5), some (.int a6), some (.int a7), none, none] [] S2
  refine V_aload_n (pc := 4) C dX12_odds_4 rfl rfl ?_
  refine V_iload_n (pc := 5) C dX12_odds_5 rfl rfl ?_
  refine V_iload_n (pc := 6) C dX12_odds_6 rfl rfl ?_
  refine V_iload_n (pc := 7) C dX12_odds_7 rfl rfl ?_
  refine V_iload (pc := 8) C dX12_odds_8 rfl ?_
  refine V_iload (pc := 10) C dX12_odds_10 rfl ?_
  obtain ⟨r3, er3, h⟩ := b1_some h
  refine V_callV (As := [.int a1, .int a2, .int a3, .int a4, .int a5]) (pc := 12) C (mX12_bars _ er3) zm_X12_bars zi_X12_bars ml_RX12_359 z1_mW_12 rfl ⟨Nat.le_of_ble_eq_true rfl, Nat.le_of_ble_eq_true rfl⟩ rfl rfl (Nat.le_of_ble_eq_true rfl) dX12_odds_12 ?_
  show V K 15 [some (.ref 0), some (.int a1), some (.int a2), some (.int a3), some (.int a4), some (.int a5), some (.int a6), some (.int a7), none, none] [.int r3] S2
  refine V_istore (L' := [some (.ref 0), some (.int a1), some (.int a2), some (.int a3), some (.int a4), some (.int a5), some (.int a6), some (.int a7), some (.int r3), none]) (pc := 15) C dX12_odds_15 (by decide) rfl ?_
  refine V_iload (pc := 17) C dX12_odds_17 rfl ?_
  refine V_if_eq (tgt := 29) (pc := 19) C dX12_odds_19 (by decide) (fun hc => ?_) (fun hc => ?_)
  · have h := it_t hc h
    refine V_iload (pc := 29) C dX12_odds_29 rfl ?_
    refine V_if_ne (tgt := 58) (pc := 31) C dX12_odds_31 (by decide) (fun hc => ?_) (fun hc => ?_)
    · have h := it_f hc h
      refine V_aload_n (pc := 58) C dX12_odds_58 rfl rfl ?_
      refine V_aload_n (pc := 59) C dX12_odds_59 rfl rfl ?_
      refine V_getF (p1 := 3) (pc := 60) C z1_mW_12 fl_RX12_20 rfl (zf_mW_12_15 z1_mW_12) dX12_odds_60 ?_
      refine V_bipush (pc := 63) C dX12_odds_63 kc_b_120 ?_
      refine V_iload_n (pc := 65) C dX12_odds_65 rfl rfl ?_
      refine V_iadd (pc := 66) C dX12_odds_66 ?_
      obtain ⟨k4, h⟩ := ck_some h
      refine V_iald (pc := 67) C (za_mW_12_15 z1_mW_12) k4 dX12_odds_67 ?_
      refine V_aload_n (pc := 68) C dX12_odds_68 rfl rfl ?_
      refine V_iload_n (pc := 69) C dX12_odds_69 rfl rfl ?_
      obtain ⟨r5, er5, h⟩ := b1_some h
      refine V_callV (As := [.int a1]) (pc := 70) C (mX12_wholesNow _ er5) zm_X12_wholesNow zi_X12_wholesNow ml_RX12_321 z1_mW_12 rfl ⟨Nat.le_of_ble_eq_true rfl, Nat.le_of_ble_eq_true rfl⟩ rfl rfl (Nat.le_of_ble_eq_true rfl) dX12_odds_70 ?_
      show V K 73 [some (.ref 0), some (.int a1), some (.int a2), some (.int a3), some (.int a4), some (.int a5), some (.int a6), some (.int a7), some (.int r3), none] [.int r5, .int (gI S2 3 (ix ((120 : Int32) + a1))), .ref 0] S2
      obtain ⟨r6, er6, h⟩ := b1_some h
      refine V_callV (As := [.int (gI S2 3 (ix ((120 : Int32) + a1))), .int r5]) (pc := 73) C (mX12_all _ er6) zm_X12_all zi_X12_all ml_RX12_324 z1_mW_12 rfl ⟨Nat.le_of_ble_eq_true rfl, Nat.le_of_ble_eq_true rfl⟩ rfl rfl (Nat.le_of_ble_eq_true rfl) dX12_odds_73 ?_
      show V K 76 [some (.ref 0), some (.int a1), some (.int a2), some (.int a3), some (.int a4), some (.int a5), some (.int a6), some (.int a7), some (.int r3), none] [.int r6] S2
      refine V_istore (L' := [some (.ref 0), some (.int a1), some (.int a2), some (.int a3), some (.int a4), some (.int a5), some (.int a6), some (.int a7), some (.int r3), some (.int r6)]) (pc := 76) C dX12_odds_76 (by decide) rfl ?_
      refine V_iload_n (pc := 78) C dX12_odds_78 rfl rfl ?_
      obtain ⟨r7, er7, h⟩ := b1_some h
      refine V_callS (As := [.int a2]) (pc := 79) C (mX12_feelings _ er7) zm_X12_feelings zs_X12_feelings ml_RX12_348 ⟨Nat.le_of_ble_eq_true rfl, Nat.le_of_ble_eq_true rfl⟩ rfl rfl (Nat.le_of_ble_eq_true rfl) dX12_odds_79 ?_
      show V K 82 [some (.ref 0), some (.int a1), some (.int a2), some (.int a3), some (.int a4), some (.int a5), some (.int a6), some (.int a7), some (.int r3), some (.int r6)] [.int r7] S2
      refine V_iconst (pc := 82) C dX12_odds_82 kc_i_3 ?_
      refine V_icmp_ne (tgt := 97) (pc := 83) C dX12_odds_83 (by decide) (fun hc => ?_) (fun hc => ?_)
      · have h := it_f hc h
        refine V_iload_n (pc := 97) C dX12_odds_97 rfl rfl ?_
        obtain ⟨r8, er8, h⟩ := b1_some h
        refine V_callS (As := [.int a2]) (pc := 98) C (mX12_feelings _ er8) zm_X12_feelings zs_X12_feelings ml_RX12_348 ⟨Nat.le_of_ble_eq_true rfl, Nat.le_of_ble_eq_true rfl⟩ rfl rfl (Nat.le_of_ble_eq_true rfl) dX12_odds_98 ?_
        show V K 101 [some (.ref 0), some (.int a1), some (.int a2), some (.int a3), some (.int a4), some (.int a5), some (.int a6), some (.int a7), some (.int r3), some (.int r6)] [.int r8] S2
        refine V_iconst (pc := 101) C dX12_odds_101 kc_i_2 ?_
        refine V_icmp_ne (tgt := 113) (pc := 102) C dX12_odds_102 (by decide) (fun hc => ?_) (fun hc => ?_)
        · have h := it_f hc h
          refine V_iload (pc := 113) C dX12_odds_113 rfl ?_
          cases h
          exact hR 115 _ ⟨_, rfl, rfl⟩ dX12_odds_115
        · have h := it_t hc h
          refine V_iload (pc := 105) C dX12_odds_105 rfl ?_
          refine V_iload (pc := 107) C dX12_odds_107 rfl ?_
          refine V_imul (pc := 109) C dX12_odds_109 ?_
          refine V_goto (tgt := 115) (pc := 110) C dX12_odds_110 (by decide) ?_
          cases h
          exact hR 115 _ ⟨_, rfl, rfl⟩ dX12_odds_115
      · have h := it_t hc h
        refine V_iload (pc := 86) C dX12_odds_86 rfl ?_
        refine V_iload (pc := 88) C dX12_odds_88 rfl ?_
        refine V_imul (pc := 90) C dX12_odds_90 ?_
        refine V_iload (pc := 91) C dX12_odds_91 rfl ?_
        refine V_imul (pc := 93) C dX12_odds_93 ?_
        refine V_goto (tgt := 115) (pc := 94) C dX12_odds_94 (by decide) ?_
        cases h
        exact hR 115 _ ⟨_, rfl, rfl⟩ dX12_odds_115
    · have h := it_t hc h
      refine V_aload_n (pc := 34) C dX12_odds_34 rfl rfl ?_
      refine V_iload_n (pc := 35) C dX12_odds_35 rfl rfl ?_
      refine V_iload_n (pc := 36) C dX12_odds_36 rfl rfl ?_
      refine V_iload_n (pc := 37) C dX12_odds_37 rfl rfl ?_
      refine V_iload (pc := 38) C dX12_odds_38 rfl ?_
      refine V_iload (pc := 40) C dX12_odds_40 rfl ?_
      refine V_iload (pc := 42) C dX12_odds_42 rfl ?_
      refine V_aload_n (pc := 44) C dX12_odds_44 rfl rfl ?_
      refine V_iload_n (pc := 45) C dX12_odds_45 rfl rfl ?_
      obtain ⟨r9, er9, h⟩ := b1_some h
      refine V_callV (As := [.int a1]) (pc := 46) C (mX12_tired _ er9) zm_X12_tired zi_X12_tired ml_RX12_318 z1_mW_12 rfl ⟨Nat.le_of_ble_eq_true rfl, Nat.le_of_ble_eq_true rfl⟩ rfl rfl (Nat.le_of_ble_eq_true rfl) dX12_odds_46 ?_
      show V K 49 [some (.ref 0), some (.int a1), some (.int a2), some (.int a3), some (.int a4), some (.int a5), some (.int a6), some (.int a7), some (.int r3), none] [.int r9, .int a6, .int a5, .int a4, .int a3, .int a2, .int a1, .ref 0] S2
      refine V_aload_n (pc := 49) C dX12_odds_49 rfl rfl ?_
      refine V_iload_n (pc := 50) C dX12_odds_50 rfl rfl ?_
      obtain ⟨r10, er10, h⟩ := b1_some h
      refine V_callV (As := [.int a1]) (pc := 51) C (mX12_wholesNow _ er10) zm_X12_wholesNow zi_X12_wholesNow ml_RX12_321 z1_mW_12 rfl ⟨Nat.le_of_ble_eq_true rfl, Nat.le_of_ble_eq_true rfl⟩ rfl rfl (Nat.le_of_ble_eq_true rfl) dX12_odds_51 ?_
      show V K 54 [some (.ref 0), some (.int a1), some (.int a2), some (.int a3), some (.int a4), some (.int a5), some (.int a6), some (.int a7), some (.int r3), none] [.int r10, .int r9, .int a6, .int a5, .int a4, .int a3, .int a2, .int a1, .ref 0] S2
      obtain ⟨r11, er11, h⟩ := b1_some h
      refine V_callV (As := [.int a1, .int a2, .int a3, .int a4, .int a5, .int a6, .int r9, .int r10]) (pc := 54) C (mX12_oddsOf _ er11) zm_X12_oddsOf zi_X12_oddsOf ml_RX12_363 z1_mW_12 rfl ⟨Nat.le_of_ble_eq_true rfl, Nat.le_of_ble_eq_true rfl⟩ rfl rfl (Nat.le_of_ble_eq_true rfl) dX12_odds_54 ?_
      show V K 57 [some (.ref 0), some (.int a1), some (.int a2), some (.int a3), some (.int a4), some (.int a5), some (.int a6), some (.int a7), some (.int r3), none] [.int r11] S2
      cases h
      exact hR 57 _ ⟨_, rfl, rfl⟩ dX12_odds_57
  · have h := it_f hc h
    refine V_aload_n (pc := 22) C dX12_odds_22 rfl rfl ?_
    refine V_iload (pc := 23) C dX12_odds_23 rfl ?_
    obtain ⟨r12, S13, er12, h⟩ := b2_some h
    refine V_callV (As := [.int r3]) (pc := 25) C (mX12_no _ er12) zm_X12_no zi_X12_no ml_RX12_214 z1_mW_12 rfl ⟨Nat.le_of_ble_eq_true rfl, Nat.le_of_ble_eq_true rfl⟩ rfl rfl (Nat.le_of_ble_eq_true rfl) dX12_odds_25 ?_
    show V K 28 [some (.ref 0), some (.int a1), some (.int a2), some (.int a3), some (.int a4), some (.int a5), some (.int a6), some (.int a7), some (.int r3), none] [.int r12] S13
    cases h
    exact hR 28 _ ⟨_, rfl, rfl⟩ dX12_odds_28
set_option maxRecDepth 100000 in
theorem mX12_seed (l : Launch) {S : zM} {a1 : Int32} {r : Int32} {S' : zM}  (h : gX12_seed S a1 = some (r, S')) : zMet l mW zS0 yX12_seed cX12_seed 2 (some .boolean) 1 22 [.ref 0, .int a1] S (some (.int r)) S' := by
  refine zmeth (by decide +kernel) (by rfl) (fun K hKl C hR => ?_)
  show V K 0 [some (.ref 0), some (.int a1)] [] S
  unfold gX12_seed at h
  refine V_aload_n (pc := 0) C dX12_seed_0 rfl rfl ?_
  obtain ⟨S2, euS2, h⟩ := b1_some h
  refine V_callV (As := []) (pc := 1) C (mX12_good _ euS2) zm_X12_good zi_X12_good ml_RX12_211 z1_mW_12 rfl ⟨Nat.le_of_ble_eq_true rfl, Nat.le_of_ble_eq_true rfl⟩ rfl rfl (Nat.le_of_ble_eq_true rfl) dX12_seed_1 ?_
  show V K 4 [some (.ref 0), some (.int a1)] [] S2
  refine V_iload_n (pc := 4) C dX12_seed_4 rfl rfl ?_
  refine V_iconst (pc := 5) C dX12_seed_5 kc_i_0 ?_
  refine V_ldcw (pc := 6) C dX12_seed_6 ki_RX12_366 ?_
  obtain ⟨r3, er3, h⟩ := b1_some h
  refine V_callS (As := [.int a1, .int (0 : Int32), .int (65536 : Int32)]) (pc := 9) C (mX12_within _ er3) zm_X12_within zs_X12_within ml_RX12_203 ⟨Nat.le_of_ble_eq_true rfl, Nat.le_of_ble_eq_true rfl⟩ rfl rfl (Nat.le_of_ble_eq_true rfl) dX12_seed_9 ?_
  show V K 12 [some (.ref 0), some (.int a1)] [.int r3] S2
  refine V_if_ne (tgt := 21) (pc := 12) C dX12_seed_12 (by decide) (fun hc => ?_) (fun hc => ?_)
  · have h := it_f hc h
    refine V_aload_n (pc := 21) C dX12_seed_21 rfl rfl ?_
    refine V_iload_n (pc := 22) C dX12_seed_22 rfl rfl ?_
    refine V_putI (pc := 23) C z1_mW_12 fp_RX12_223 rfl rfl dX12_seed_23 ?_
    refine V_iconst (pc := 26) C dX12_seed_26 kc_i_1 ?_
    cases h
    exact hR 27 _ ⟨_, rfl, zB1⟩ dX12_seed_27
  · have h := it_t hc h
    refine V_aload_n (pc := 15) C dX12_seed_15 rfl rfl ?_
    refine V_iconst (pc := 16) C dX12_seed_16 kc_i_2 ?_
    obtain ⟨r4, S5, er4, h⟩ := b2_some h
    refine V_callV (As := [.int (2 : Int32)]) (pc := 17) C (mX12_isNot _ er4) zm_X12_isNot zi_X12_isNot ml_RX12_327 z1_mW_12 rfl ⟨Nat.le_of_ble_eq_true rfl, Nat.le_of_ble_eq_true rfl⟩ rfl rfl (Nat.le_of_ble_eq_true rfl) dX12_seed_17 ?_
    show V K 20 [some (.ref 0), some (.int a1)] [.int r4] S5
    obtain ⟨k6, h⟩ := ck_some h
    cases h
    exact hR 20 _ ⟨_, rfl, isB_nar k6⟩ dX12_seed_20
set_option maxRecDepth 100000 in
theorem mX12_drawn (l : Launch) {S : zM} {a1 : Int32} {r : Int32} {S' : zM}  (h : gX12_drawn S a1 = some (r, S')) : zMet l mW zS0 yX12_drawn cX12_drawn 2 (some .int) 0 0 [.ref 0, .int a1] S (some (.int r)) S' := by
  refine zmeth (by decide +kernel) (by rfl) (fun K hKl C hR => ?_)
  show V K 0 [some (.ref 0), some (.int a1)] [] S
  unfold gX12_drawn at h
  refine V_aload_n (pc := 0) C dX12_drawn_0 rfl rfl ?_
  refine V_bipush (pc := 1) C dX12_drawn_1 kc_b_75 ?_
  refine V_aload_n (pc := 3) C dX12_drawn_3 rfl rfl ?_
  refine V_getI (pc := 4) C z1_mW_12 fl_RX12_223 (by decide) dX12_drawn_4 ?_
  refine V_imul (pc := 7) C dX12_drawn_7 ?_
  refine V_bipush (pc := 8) C dX12_drawn_8 kc_b_74 ?_
  refine V_iadd (pc := 10) C dX12_drawn_10 ?_
  refine V_ldcw (pc := 11) C dX12_drawn_11 ki_RX12_367 ?_
  refine V_irem (pc := 14) C dX12_drawn_14 (by decide) ?_
  refine V_putI (pc := 15) C z1_mW_12 fp_RX12_223 rfl rfl dX12_drawn_15 ?_
  obtain ⟨S1, eS1, h⟩ := lt_some h
  refine V_nmS eS1 ?_
  refine V_aload_n (pc := 18) C dX12_drawn_18 rfl rfl ?_
  refine V_getI (pc := 19) C z1_mW_12 fl_RX12_223 (by decide) dX12_drawn_19 ?_
  refine V_iload_n (pc := 22) C dX12_drawn_22 rfl rfl ?_
  obtain ⟨k2, h⟩ := ck_some h
  refine V_irem (pc := 23) C dX12_drawn_23 (of_decide_eq_true k2) ?_
  cases h
  exact hR 24 _ ⟨_, rfl, rfl⟩ dX12_drawn_24
set_option maxRecDepth 100000 in
theorem mX12_drawnNoise_L15 {K : zK} (C : zC K cX12_drawnNoise yX12_drawnNoise.cls 5 2 48 mW) {S : zM} {v1 : Int32} {v2 : Int32}  : ∀ (f : Nat) (v3 : Int32) (v4 : Int32) (r : Int32) (S' : zM), gX12_drawnNoise_L15 S v1 v2 f v3 v4 = some (r, S') → zR K cX12_drawnNoise (some .int) S' (some (.int r)) → V K 15 [some (.ref 0), some (.int v1), some (.int v2), some (.int v3), some (.int v4)] [] S := by
  intro f
  induction f with
  | zero => intro v3 v4 r S' h hR; cases h
  | succ n ih =>
    intro v3 v4 r S' h hR
    unfold gX12_drawnNoise_L15 at h
    refine V_iload_n (pc := 15) C dX12_drawnNoise_15 rfl rfl ?_
    refine V_aload_n (pc := 16) C dX12_drawnNoise_16 rfl rfl ?_
    refine V_iload_n (pc := 17) C dX12_drawnNoise_17 rfl rfl ?_
    refine V_iload (pc := 18) C dX12_drawnNoise_18 rfl ?_
    refine V_iload_n (pc := 20) C dX12_drawnNoise_20 rfl rfl ?_
    obtain ⟨r4, er4, h⟩ := b1_some h
    refine V_callV (As := [.int v1, .int v4, .int v2]) (pc := 21) C (mX12_often _ er4) zm_X12_often zi_X12_often ml_RX12_309 z1_mW_12 rfl ⟨Nat.le_of_ble_eq_true rfl, Nat.le_of_ble_eq_true rfl⟩ rfl rfl (Nat.le_of_ble_eq_true rfl) dX12_drawnNoise_21 ?_
    show V K 24 [some (.ref 0), some (.int v1), some (.int v2), some (.int v3), some (.int v4)] [.int r4, .int v3] S
    refine V_icmp_lt (tgt := 44) (pc := 24) C dX12_drawnNoise_24 (by decide) (fun hc => ?_) (fun hc => ?_)
    · have h := it_t hc h
      refine V_iload (pc := 44) C dX12_drawnNoise_44 rfl ?_
      cases h
      exact hR 46 _ ⟨_, rfl, rfl⟩ dX12_drawnNoise_46
    · have h := it_f hc h
      refine V_iload_n (pc := 27) C dX12_drawnNoise_27 rfl rfl ?_
      refine V_aload_n (pc := 28) C dX12_drawnNoise_28 rfl rfl ?_
      refine V_iload_n (pc := 29) C dX12_drawnNoise_29 rfl rfl ?_
      refine V_iload (pc := 30) C dX12_drawnNoise_30 rfl ?_
      refine V_iload_n (pc := 32) C dX12_drawnNoise_32 rfl rfl ?_
      obtain ⟨r5, er5, h⟩ := b1_some h
      refine V_callV (As := [.int v1, .int v4, .int v2]) (pc := 33) C (mX12_often _ er5) zm_X12_often zi_X12_often ml_RX12_309 z1_mW_12 rfl ⟨Nat.le_of_ble_eq_true rfl, Nat.le_of_ble_eq_true rfl⟩ rfl rfl (Nat.le_of_ble_eq_true rfl) dX12_drawnNoise_33 ?_
      show V K 36 [some (.ref 0), some (.int v1), some (.int v2), some (.int v3), some (.int v4)] [.int r5, .int v3] S
      refine V_isub (pc := 36) C dX12_drawnNoise_36 ?_
      refine V_istore_n (L' := [some (.ref 0), some (.int v1), some (.int v2), some (.int (v3 - r5)), some (.int v4)]) (pc := 37) C dX12_drawnNoise_37 rfl (by decide) rfl ?_
      refine V_iinc (L' := [some (.ref 0), some (.int v1), some (.int v2), some (.int (v3 - r5)), some (.int (v4 + (1 : Int32)))]) (v := (v4 + (1 : Int32))) (pc := 38) C dX12_drawnNoise_38 rfl (congrArg (v4 + ·) kc_i_1) (by decide) rfl ?_
      refine V_goto (tgt := 15) (pc := 41) C dX12_drawnNoise_41 (by decide) ?_
      exact V_mask [true, true, true, true, true] (ih _ _ _ _ h hR)
set_option maxRecDepth 100000 in
theorem mX12_drawnNoise (l : Launch) {S : zM} {a1 : Int32} {a2 : Int32} {r : Int32} {S' : zM}  (h : gX12_drawnNoise S a1 a2 = some (r, S')) : zMet l mW zS0 yX12_drawnNoise cX12_drawnNoise 5 (some .int) 2 48 [.ref 0, .int a1, .int a2] S (some (.int r)) S' := by
  refine zmeth (by decide +kernel) (by rfl) (fun K hKl C hR => ?_)
  show V K 0 [some (.ref 0), some (.int a1), some (.int a2), none, none] [] S
  unfold gX12_drawnNoise at h
  refine V_aload_n (pc := 0) C dX12_drawnNoise_0 rfl rfl ?_
  refine V_aload_n (pc := 1) C dX12_drawnNoise_1 rfl rfl ?_
  refine V_iload_n (pc := 2) C dX12_drawnNoise_2 rfl rfl ?_
  refine V_iload_n (pc := 3) C dX12_drawnNoise_3 rfl rfl ?_
  obtain ⟨r1, er1, h⟩ := b1_some h
  refine V_callV (As := [.int a1, .int a2]) (pc := 4) C (mX12_all _ er1) zm_X12_all zi_X12_all ml_RX12_324 z1_mW_12 rfl ⟨Nat.le_of_ble_eq_true rfl, Nat.le_of_ble_eq_true rfl⟩ rfl rfl (Nat.le_of_ble_eq_true rfl) dX12_drawnNoise_4 ?_
  show V K 7 [some (.ref 0), some (.int a1), some (.int a2), none, none] [.int r1, .ref 0] S
  obtain ⟨r2, S3, er2, h⟩ := b2_some h
  refine V_callV (As := [.int r1]) (pc := 7) C (mX12_drawn _ er2) zm_X12_drawn zi_X12_drawn ml_RX12_368 z1_mW_12 rfl ⟨Nat.le_of_ble_eq_true rfl, Nat.le_of_ble_eq_true rfl⟩ rfl rfl (Nat.le_of_ble_eq_true rfl) dX12_drawnNoise_7 ?_
  show V K 10 [some (.ref 0), some (.int a1), some (.int a2), none, none] [.int r2] S3
  refine V_istore_n (L' := [some (.ref 0), some (.int a1), some (.int a2), some (.int r2), none]) (pc := 10) C dX12_drawnNoise_10 rfl (by decide) rfl ?_
  refine V_bipush (pc := 11) C dX12_drawnNoise_11 kc_b_m5 ?_
  refine V_istore (L' := [some (.ref 0), some (.int a1), some (.int a2), some (.int r2), some (.int (-5 : Int32))]) (pc := 13) C dX12_drawnNoise_13 (by decide) rfl ?_
  exact V_mask [true, true, true, true, true] (mX12_drawnNoise_L15 C  FU _ _ _ _ h hR)
