set_option maxRecDepth 100000 in
theorem mX7_readSense (l : Launch) {S : zM}  {r : Int32} {S' : zM}  (h : gX7_readSense S = some (r, S')) : zMet l cW zS0 yX7_readSense cX7_readSense 2 (some .boolean) 10 259 [.ref 2] S (some (.int r)) S' := by
  refine zmeth (by decide +kernel) (by rfl) (fun K hKl C hR => ?_)
  show V K 0 [some (.ref 2), none] [] S
  unfold gX7_readSense at h
  refine V_aload_n (pc := 0) C dX7_readSense_0 rfl rfl ?_
  obtain ⟨k1, h⟩ := ck_some h
  refine V_getR (pc := 1) C z1_cW_7 fl_RX7_25 rfl dX7_readSense_1 ?_
  refine V_getI (pc := 4) C (zob_of k1) fl_RX7_94 (by decide) dX7_readSense_4 ?_
  refine V_bipush (pc := 7) C dX7_readSense_7 kc_b_6 ?_
  refine V_icmp_lt (tgt := 18) (pc := 9) C dX7_readSense_9 (by decide) (fun hc => ?_) (fun hc => ?_)
  · have h := it_t hc h
    refine V_aload_n (pc := 18) C dX7_readSense_18 rfl rfl ?_
    obtain ⟨S3, euS3, h⟩ := b1_some h
    refine V_callV (As := []) (pc := 19) C (mX7_step _ euS3) zm_X7_step zi_X7_step ml_RX7_88 z1_cW_7 rfl ⟨Nat.le_of_ble_eq_true rfl, Nat.le_of_ble_eq_true rfl⟩ rfl rfl (Nat.le_of_ble_eq_true rfl) dX7_readSense_19 ?_
    show V K 22 [some (.ref 2), none] [] S3
    refine V_aload_n (pc := 22) C dX7_readSense_22 rfl rfl ?_
    obtain ⟨k4, h⟩ := ck_some h
    refine V_getR (pc := 23) C z1_cW_7 fl_RX7_25 rfl dX7_readSense_23 ?_
    refine V_getF (p1 := ((gR S3 2 6) + 1)) (pc := 26) C (zob_of k4) fl_RX7_173 rfl (zf_cW_3_0 (zob_of k4)) dX7_readSense_26 ?_
    refine V_aload_n (pc := 29) C dX7_readSense_29 rfl rfl ?_
    obtain ⟨k5, h⟩ := ck_some h
    refine V_getR (pc := 30) C z1_cW_7 fl_RX7_25 rfl dX7_readSense_30 ?_
    refine V_getI (pc := 33) C (zob_of k5) fl_RX7_94 (by decide) dX7_readSense_33 ?_
    obtain ⟨k6, h⟩ := ck_some h
    refine V_aald (p1 := ((gR S3 2 6) + 7 + 31 * ix (gI S3 (gR S3 2 6) 6))) (pc := 36) C (za_cW_3_0 (zob_of k4)) (fun _ => rfl) k6 (ze_cW_3_0 (zob_of k4) k6) dX7_readSense_36 ?_
    refine V_astore_n (L' := [some (.ref 2), some (.ref ((gR S3 2 6) + 7 + 31 * ix (gI S3 (gR S3 2 6) 6)))]) (pc := 37) C dX7_readSense_37 rfl (by decide) rfl ?_
    refine V_aload_n (pc := 38) C dX7_readSense_38 rfl rfl ?_
    obtain ⟨S8, euS8, h⟩ := b1_some h
    refine V_callV (As := []) (pc := 39) C (mX9_empty _ (zx_cW_3_0 (zob_of k4) k6) euS8) zm_X9_empty zi_X9_empty ml_RX7_177 (zx_cW_3_0 (zob_of k4) k6) rfl ⟨Nat.le_of_ble_eq_true rfl, Nat.le_of_ble_eq_true rfl⟩ rfl rfl (Nat.le_of_ble_eq_true rfl) dX7_readSense_39 ?_
    show V K 42 [some (.ref 2), some (.ref ((gR S3 2 6) + 7 + 31 * ix (gI S3 (gR S3 2 6) 6)))] [] S8
    refine V_aload_n (pc := 42) C dX7_readSense_42 rfl rfl ?_
    refine V_aload_n (pc := 43) C dX7_readSense_43 rfl rfl ?_
    obtain ⟨k9, h⟩ := ck_some h
    refine V_getR (pc := 44) C z1_cW_7 fl_RX7_25 rfl dX7_readSense_44 ?_
    refine V_getI (pc := 47) C (zob_of k9) fl_RX7_94 (by decide) dX7_readSense_47 ?_
    obtain ⟨r10, S11, er10, h⟩ := b2_some h
    refine V_callV (As := [.int (gI S8 (gR S8 2 6) 6)]) (pc := 50) C (mX7_takeNewName _ er10) zm_X7_takeNewName zi_X7_takeNewName ml_RX7_180 z1_cW_7 rfl ⟨Nat.le_of_ble_eq_true rfl, Nat.le_of_ble_eq_true rfl⟩ rfl rfl (Nat.le_of_ble_eq_true rfl) dX7_readSense_50 ?_
    show V K 53 [some (.ref 2), some (.ref ((gR S3 2 6) + 7 + 31 * ix (gI S3 (gR S3 2 6) 6)))] [.int r10] S11
    refine V_if_ne (tgt := 58) (pc := 53) C dX7_readSense_53 (by decide) (fun hc => ?_) (fun hc => ?_)
    · have h := it_f hc h
      refine V_aload_n (pc := 58) C dX7_readSense_58 rfl rfl ?_
      obtain ⟨k12, h⟩ := ck_some h
      refine V_getR (pc := 59) C z1_cW_7 fl_RX7_25 rfl dX7_readSense_59 ?_
      refine V_dup (pc := 62) C dX7_readSense_62 rfl ?_
      refine V_getI (pc := 63) C (zob_of k12) fl_RX7_94 (by decide) dX7_readSense_63 ?_
      refine V_iconst (pc := 66) C dX7_readSense_66 kc_i_1 ?_
      refine V_iadd (pc := 67) C dX7_readSense_67 ?_
      refine V_putI (pc := 68) C (zob_of k12) fp_RX7_94 rfl rfl dX7_readSense_68 ?_
      refine V_aload_n (pc := 71) C dX7_readSense_71 rfl rfl ?_
      refine V_aload_n (pc := 72) C dX7_readSense_72 rfl rfl ?_
      obtain ⟨r13, S14, er13, h⟩ := b2_some h
      refine V_callV (As := [.ref ((gR S3 2 6) + 7 + 31 * ix (gI S3 (gR S3 2 6) 6))]) (pc := 73) C (mX7_readSteps _ (zx_cW_3_0 (zob_of k4) k6) er13) zm_X7_readSteps zi_X7_readSteps ml_RX7_183 z1_cW_7 rfl ⟨Nat.le_of_ble_eq_true rfl, Nat.le_of_ble_eq_true rfl⟩ rfl rfl (Nat.le_of_ble_eq_true rfl) dX7_readSense_73 ?_
      show V K 76 [some (.ref 2), some (.ref ((gR S3 2 6) + 7 + 31 * ix (gI S3 (gR S3 2 6) 6)))] [.int r13] S14
      refine V_if_eq (tgt := 100) (pc := 76) C dX7_readSense_76 (by decide) (fun hc => ?_) (fun hc => ?_)
      · have h := it_t hc h
        refine V_iconst (pc := 100) C dX7_readSense_100 kc_i_0 ?_
        cases h
        exact hR 101 _ ⟨_, rfl, zB0⟩ dX7_readSense_101
      · have h := it_f hc h
        refine V_aload_n (pc := 79) C dX7_readSense_79 rfl rfl ?_
        refine V_ldcS (j := 5) (pc := 80) C dX7_readSense_80 rfl ?_
        obtain ⟨r15, S16, er15, h⟩ := b2_some h
        refine V_callV (As := [.ref 10005]) (pc := 82) C (mX7_takeWord _ zq_5 er15) zm_X7_takeWord zi_X7_takeWord ml_RX7_187 z1_cW_7 rfl ⟨Nat.le_of_ble_eq_true rfl, Nat.le_of_ble_eq_true rfl⟩ rfl rfl (Nat.le_of_ble_eq_true rfl) dX7_readSense_82 ?_
        show V K 85 [some (.ref 2), some (.ref ((gR S3 2 6) + 7 + 31 * ix (gI S3 (gR S3 2 6) 6)))] [.int r15] S16
        refine V_if_eq (tgt := 100) (pc := 85) C dX7_readSense_85 (by decide) (fun hc => ?_) (fun hc => ?_)
        · have h := it_t hc h
          refine V_iconst (pc := 100) C dX7_readSense_100 kc_i_0 ?_
          cases h
          exact hR 101 _ ⟨_, rfl, zB0⟩ dX7_readSense_101
        · have h := it_f hc h
          refine V_aload_n (pc := 88) C dX7_readSense_88 rfl rfl ?_
          refine V_aload_n (pc := 89) C dX7_readSense_89 rfl rfl ?_
          obtain ⟨r17, S18, er17, h⟩ := b2_some h
          refine V_callV (As := [.ref ((gR S3 2 6) + 7 + 31 * ix (gI S3 (gR S3 2 6) 6))]) (pc := 90) C (mX7_readNoise _ (zx_cW_3_0 (zob_of k4) k6) er17) zm_X7_readNoise zi_X7_readNoise ml_RX7_190 z1_cW_7 rfl ⟨Nat.le_of_ble_eq_true rfl, Nat.le_of_ble_eq_true rfl⟩ rfl rfl (Nat.le_of_ble_eq_true rfl) dX7_readSense_90 ?_
          show V K 93 [some (.ref 2), some (.ref ((gR S3 2 6) + 7 + 31 * ix (gI S3 (gR S3 2 6) 6)))] [.int r17] S18
          refine V_if_eq (tgt := 100) (pc := 93) C dX7_readSense_93 (by decide) (fun hc => ?_) (fun hc => ?_)
          · have h := it_t hc h
            refine V_iconst (pc := 100) C dX7_readSense_100 kc_i_0 ?_
            cases h
            exact hR 101 _ ⟨_, rfl, zB0⟩ dX7_readSense_101
          · have h := it_f hc h
            refine V_iconst (pc := 96) C dX7_readSense_96 kc_i_1 ?_
            refine V_goto (tgt := 101) (pc := 97) C dX7_readSense_97 (by decide) ?_
            cases h
            exact hR 101 _ ⟨_, rfl, zB1⟩ dX7_readSense_101
    · have h := it_t hc h
      refine V_iconst (pc := 56) C dX7_readSense_56 kc_i_0 ?_
      cases h
      exact hR 57 _ ⟨_, rfl, zB0⟩ dX7_readSense_57
  · have h := it_f hc h
    refine V_aload_n (pc := 12) C dX7_readSense_12 rfl rfl ?_
    refine V_iconst (pc := 13) C dX7_readSense_13 kc_i_5 ?_
    obtain ⟨r19, S20, er19, h⟩ := b2_some h
    refine V_callV (As := [.int (5 : Int32)]) (pc := 14) C (mX7_wrong _ er19) zm_X7_wrong zi_X7_wrong ml_RX7_80 z1_cW_7 rfl ⟨Nat.le_of_ble_eq_true rfl, Nat.le_of_ble_eq_true rfl⟩ rfl rfl (Nat.le_of_ble_eq_true rfl) dX7_readSense_14 ?_
    show V K 17 [some (.ref 2), none] [.int r19] S20
    obtain ⟨k21, h⟩ := ck_some h
    cases h
    exact hR 17 _ ⟨_, rfl, isB_nar k21⟩ dX7_readSense_17
set_option maxRecDepth 100000 in
theorem mX8_empty (l : Launch) {S : zM} {q : Nat} {S' : zM} (hq : zob cW 8 q) (h : gX8_empty S q = some S') : zMet l cW zS0 yX8_empty cX8_empty 1 (none) 0 0 [.ref q] S none S' := by
  refine zmeth (by decide +kernel) (by rfl) (fun K hKl C hR => ?_)
  show V K 0 [some (.ref q)] [] S
  unfold gX8_empty at h
  refine V_aload_n (pc := 0) C dX8_empty_0 rfl rfl ?_
  refine V_iconst (pc := 1) C dX8_empty_1 kc_i_0 ?_
  refine V_putI (pc := 2) C hq fp_RX8_15 rfl rfl dX8_empty_2 ?_
  refine V_aload_n (pc := 5) C dX8_empty_5 rfl rfl ?_
  refine V_iconst (pc := 6) C dX8_empty_6 kc_i_0 ?_
  refine V_putI (pc := 7) C hq fp_RX8_19 rfl rfl dX8_empty_7 ?_
  refine V_aload_n (pc := 10) C dX8_empty_10 rfl rfl ?_
  refine V_iconst (pc := 11) C dX8_empty_11 kc_i_0 ?_
  refine V_putI (pc := 12) C hq fp_RX8_22 rfl rfl dX8_empty_12 ?_
  refine V_aload_n (pc := 15) C dX8_empty_15 rfl rfl ?_
  refine V_iconst (pc := 16) C dX8_empty_16 kc_i_0 ?_
  refine V_putI (pc := 17) C hq fp_RX8_25 rfl rfl dX8_empty_17 ?_
  refine V_aload_n (pc := 20) C dX8_empty_20 rfl rfl ?_
  refine V_iconst (pc := 21) C dX8_empty_21 kc_i_0 ?_
  refine V_putI (pc := 22) C hq fp_RX8_28 rfl rfl dX8_empty_22 ?_
  obtain ⟨S1, eS1, h⟩ := lt_some h
  refine V_nmS eS1 ?_
  refine V_aload_n (pc := 25) C dX8_empty_25 rfl rfl ?_
  refine V_iconst (pc := 26) C dX8_empty_26 kc_i_0 ?_
  refine V_putZ (pc := 27) C hq fp_RX8_31 rfl rfl (by decide) dX8_empty_27 ?_
  refine V_aload_n (pc := 30) C dX8_empty_30 rfl rfl ?_
  refine V_iconst (pc := 31) C dX8_empty_31 kc_i_0 ?_
  refine V_putI (pc := 32) C hq fp_RX8_35 rfl rfl dX8_empty_32 ?_
  refine V_aload_n (pc := 35) C dX8_empty_35 rfl rfl ?_
  refine V_iconst (pc := 36) C dX8_empty_36 kc_i_0 ?_
  refine V_putI (pc := 37) C hq fp_RX8_38 rfl rfl dX8_empty_37 ?_
  refine V_aload_n (pc := 40) C dX8_empty_40 rfl rfl ?_
  refine V_iconst (pc := 41) C dX8_empty_41 kc_i_0 ?_
  refine V_putI (pc := 42) C hq fp_RX8_41 rfl rfl dX8_empty_42 ?_
  cases h
  exact hR 45 _ rfl dX8_empty_45
set_option maxRecDepth 100000 in
theorem mX7_takeSenseName (l : Launch) {S : zM}  {r : Int32} {S' : zM}  (h : gX7_takeSenseName S = some (r, S')) : zMet l cW zS0 yX7_takeSenseName cX7_takeSenseName 2 (some .boolean) 9 235 [.ref 2] S (some (.int r)) S' := by
  refine zmeth (by decide +kernel) (by rfl) (fun K hKl C hR => ?_)
  show V K 0 [some (.ref 2), none] [] S
  unfold gX7_takeSenseName at h
  refine V_aload_n (pc := 0) C dX7_takeSenseName_0 rfl rfl ?_
  obtain ⟨r1, er1, h⟩ := b1_some h
  refine V_callV (As := []) (pc := 1) C (mX7_isName _ er1) zm_X7_isName zi_X7_isName ml_RX7_162 z1_cW_7 rfl ⟨Nat.le_of_ble_eq_true rfl, Nat.le_of_ble_eq_true rfl⟩ rfl rfl (Nat.le_of_ble_eq_true rfl) dX7_takeSenseName_1 ?_
  show V K 4 [some (.ref 2), none] [.int r1] S
  refine V_if_ne (tgt := 13) (pc := 4) C dX7_takeSenseName_4 (by decide) (fun hc => ?_) (fun hc => ?_)
  · have h := it_f hc h
    refine V_aload_n (pc := 13) C dX7_takeSenseName_13 rfl rfl ?_
    obtain ⟨k2, h⟩ := ck_some h
    refine V_getR (pc := 14) C z1_cW_7 fl_RX7_25 rfl dX7_takeSenseName_14 ?_
    refine V_aload_n (pc := 17) C dX7_takeSenseName_17 rfl rfl ?_
    refine V_getF (p1 := 5) (pc := 18) C z1_cW_7 fl_RX7_18 rfl (zf_cW_7_2 z1_cW_7) dX7_takeSenseName_18 ?_
    refine V_aload_n (pc := 21) C dX7_takeSenseName_21 rfl rfl ?_
    refine V_getI (pc := 22) C z1_cW_7 fl_RX7_91 (by decide) dX7_takeSenseName_22 ?_
    obtain ⟨k3, h⟩ := ck_some h
    refine V_lald (pc := 25) C (za_cW_7_2 z1_cW_7) k3 dX7_takeSenseName_25 ?_
    obtain ⟨r4, er4, h⟩ := b1_some h
    refine V_callV (As := [.long (gL S 5 (ix (gI S 2 4)))]) (pc := 26) C (mX3_namedBy _ (zob_of k2) er4) zm_X3_namedBy zi_X3_namedBy ml_RX7_165 (zob_of k2) rfl ⟨Nat.le_of_ble_eq_true rfl, Nat.le_of_ble_eq_true rfl⟩ rfl rfl (Nat.le_of_ble_eq_true rfl) dX7_takeSenseName_26 ?_
    show V K 29 [some (.ref 2), none] [.int r4] S
    refine V_istore_n (L' := [some (.ref 2), some (.int r4)]) (pc := 29) C dX7_takeSenseName_29 rfl (by decide) rfl ?_
    refine V_iload_n (pc := 30) C dX7_takeSenseName_30 rfl rfl ?_
    refine V_if_ge (tgt := 40) (pc := 31) C dX7_takeSenseName_31 (by decide) (fun hc => ?_) (fun hc => ?_)
    · have h := it_t hc h
      refine V_aload_n (pc := 40) C dX7_takeSenseName_40 rfl rfl ?_
      refine V_iload_n (pc := 41) C dX7_takeSenseName_41 rfl rfl ?_
      refine V_putI (pc := 42) C z1_cW_7 fp_RX7_155 rfl rfl dX7_takeSenseName_42 ?_
      refine V_aload_n (pc := 45) C dX7_takeSenseName_45 rfl rfl ?_
      obtain ⟨S6, euS6, h⟩ := b1_some h
      refine V_callV (As := []) (pc := 46) C (mX7_step _ euS6) zm_X7_step zi_X7_step ml_RX7_88 z1_cW_7 rfl ⟨Nat.le_of_ble_eq_true rfl, Nat.le_of_ble_eq_true rfl⟩ rfl rfl (Nat.le_of_ble_eq_true rfl) dX7_takeSenseName_46 ?_
      show V K 49 [some (.ref 2), some (.int r4)] [] S6
      refine V_iconst (pc := 49) C dX7_takeSenseName_49 kc_i_1 ?_
      cases h
      exact hR 50 _ ⟨_, rfl, zB1⟩ dX7_takeSenseName_50
    · have h := it_f hc h
      refine V_aload_n (pc := 34) C dX7_takeSenseName_34 rfl rfl ?_
      refine V_iconst (pc := 35) C dX7_takeSenseName_35 kc_i_2 ?_
      obtain ⟨r7, S8, er7, h⟩ := b2_some h
      refine V_callV (As := [.int (2 : Int32)]) (pc := 36) C (mX7_wrong _ er7) zm_X7_wrong zi_X7_wrong ml_RX7_80 z1_cW_7 rfl ⟨Nat.le_of_ble_eq_true rfl, Nat.le_of_ble_eq_true rfl⟩ rfl rfl (Nat.le_of_ble_eq_true rfl) dX7_takeSenseName_36 ?_
      show V K 39 [some (.ref 2), some (.int r4)] [.int r7] S8
      obtain ⟨k9, h⟩ := ck_some h
      cases h
      exact hR 39 _ ⟨_, rfl, isB_nar k9⟩ dX7_takeSenseName_39
  · have h := it_t hc h
    refine V_aload_n (pc := 7) C dX7_takeSenseName_7 rfl rfl ?_
    refine V_iconst (pc := 8) C dX7_takeSenseName_8 kc_i_1 ?_
    obtain ⟨r10, S11, er10, h⟩ := b2_some h
    refine V_callV (As := [.int (1 : Int32)]) (pc := 9) C (mX7_wrong _ er10) zm_X7_wrong zi_X7_wrong ml_RX7_80 z1_cW_7 rfl ⟨Nat.le_of_ble_eq_true rfl, Nat.le_of_ble_eq_true rfl⟩ rfl rfl (Nat.le_of_ble_eq_true rfl) dX7_takeSenseName_9 ?_
    show V K 12 [some (.ref 2), none] [.int r10] S11
    obtain ⟨k12, h⟩ := ck_some h
    cases h
    exact hR 12 _ ⟨_, rfl, isB_nar k12⟩ dX7_takeSenseName_12
set_option maxRecDepth 100000 in
theorem mX7_takeSigned_J15 {K : zK} (C : zC K cX7_takeSigned yX7_takeSigned.cls 3 8 215 cW) {S : zM} {v1 : Int32} {v2 : Int32} {r : Int32} {S' : zM}  (hR : zR K cX7_takeSigned (some .boolean) S' (some (.int r))) (h : gX7_takeSigned_J15 S v1 v2 = some (r, S')) : V K 15 [some (.ref 2), some (.int v1), some (.int v2)] [] S := by
  unfold gX7_takeSigned_J15 at h
  refine V_aload_n (pc := 15) C dX7_takeSigned_15 rfl rfl ?_
  refine V_iconst (pc := 16) C dX7_takeSigned_16 kc_i_0 ?_
  refine V_iload_n (pc := 17) C dX7_takeSigned_17 rfl rfl ?_
  obtain ⟨r6, S7, er6, h⟩ := b2_some h
  refine V_callV (As := [.int (0 : Int32), .int v1]) (pc := 18) C (mX7_takeWhole _ er6) zm_X7_takeWhole zi_X7_takeWhole ml_RX7_158 z1_cW_7 rfl ⟨Nat.le_of_ble_eq_true rfl, Nat.le_of_ble_eq_true rfl⟩ rfl rfl (Nat.le_of_ble_eq_true rfl) dX7_takeSigned_18 ?_
  show V K 21 [some (.ref 2), some (.int v1), some (.int v2)] [.int r6] S7
  refine V_if_ne (tgt := 26) (pc := 21) C dX7_takeSigned_21 (by decide) (fun hc => ?_) (fun hc => ?_)
  · have h := it_f hc h
    refine V_aload_n (pc := 26) C dX7_takeSigned_26 rfl rfl ?_
    refine V_iload_n (pc := 27) C dX7_takeSigned_27 rfl rfl ?_
    refine V_if_eq (tgt := 39) (pc := 28) C dX7_takeSigned_28 (by decide) (fun hc => ?_) (fun hc => ?_)
    · have h := it_t hc h
      refine V_aload_n (pc := 39) C dX7_takeSigned_39 rfl rfl ?_
      refine V_getI (pc := 40) C z1_cW_7 fl_RX7_155 (by decide) dX7_takeSigned_40 ?_
      refine V_putI (pc := 43) C z1_cW_7 fp_RX7_155 rfl rfl dX7_takeSigned_43 ?_
      refine V_iconst (pc := 46) C dX7_takeSigned_46 kc_i_1 ?_
      cases h
      exact hR 47 _ ⟨_, rfl, zB1⟩ dX7_takeSigned_47
    · have h := it_f hc h
      refine V_aload_n (pc := 31) C dX7_takeSigned_31 rfl rfl ?_
      refine V_getI (pc := 32) C z1_cW_7 fl_RX7_155 (by decide) dX7_takeSigned_32 ?_
      refine V_ineg (pc := 35) C dX7_takeSigned_35 ?_
      refine V_goto (tgt := 43) (pc := 36) C dX7_takeSigned_36 (by decide) ?_
      refine V_putI (pc := 43) C z1_cW_7 fp_RX7_155 rfl rfl dX7_takeSigned_43 ?_
      refine V_iconst (pc := 46) C dX7_takeSigned_46 kc_i_1 ?_
      cases h
      exact hR 47 _ ⟨_, rfl, zB1⟩ dX7_takeSigned_47
  · have h := it_t hc h
    refine V_iconst (pc := 24) C dX7_takeSigned_24 kc_i_0 ?_
    cases h
    exact hR 25 _ ⟨_, rfl, zB0⟩ dX7_takeSigned_25
set_option maxRecDepth 100000 in
theorem mX7_takeSigned (l : Launch) {S : zM} {a1 : Int32} {r : Int32} {S' : zM}  (h : gX7_takeSigned S a1 = some (r, S')) : zMet l cW zS0 yX7_takeSigned cX7_takeSigned 3 (some .boolean) 8 215 [.ref 2, .int a1] S (some (.int r)) S' := by
  refine zmeth (by decide +kernel) (by rfl) (fun K hKl C hR => ?_)
  show V K 0 [some (.ref 2), some (.int a1), none] [] S
  unfold gX7_takeSigned at h
  refine V_aload_n (pc := 0) C dX7_takeSigned_0 rfl rfl ?_
  refine V_ldcS (j := 7) (pc := 1) C dX7_takeSigned_1 rfl ?_
  obtain ⟨r1, er1, h⟩ := b1_some h
  refine V_callV (As := [.ref 10007]) (pc := 3) C (mX7_isWord _ zq_7 er1) zm_X7_isWord zi_X7_isWord ml_RX7_57 z1_cW_7 rfl ⟨Nat.le_of_ble_eq_true rfl, Nat.le_of_ble_eq_true rfl⟩ rfl rfl (Nat.le_of_ble_eq_true rfl) dX7_takeSigned_3 ?_
  show V K 6 [some (.ref 2), some (.int a1), none] [.int r1] S
  refine V_istore_n (L' := [some (.ref 2), some (.int a1), some (.int r1)]) (pc := 6) C dX7_takeSigned_6 rfl (by decide) rfl ?_
  refine V_iload_n (pc := 7) C dX7_takeSigned_7 rfl rfl ?_
  refine V_if_eq (tgt := 15) (pc := 8) C dX7_takeSigned_8 (by decide) (fun hc => ?_) (fun hc => ?_)
  · have h := it_t hc h
    refine V_aload_n (pc := 15) C dX7_takeSigned_15 rfl rfl ?_
    refine V_iconst (pc := 16) C dX7_takeSigned_16 kc_i_0 ?_
    refine V_iload_n (pc := 17) C dX7_takeSigned_17 rfl rfl ?_
    obtain ⟨r2, S3, er2, h⟩ := b2_some h
    refine V_callV (As := [.int (0 : Int32), .int a1]) (pc := 18) C (mX7_takeWhole _ er2) zm_X7_takeWhole zi_X7_takeWhole ml_RX7_158 z1_cW_7 rfl ⟨Nat.le_of_ble_eq_true rfl, Nat.le_of_ble_eq_true rfl⟩ rfl rfl (Nat.le_of_ble_eq_true rfl) dX7_takeSigned_18 ?_
    show V K 21 [some (.ref 2), some (.int a1), some (.int r1)] [.int r2] S3
    refine V_if_ne (tgt := 26) (pc := 21) C dX7_takeSigned_21 (by decide) (fun hc => ?_) (fun hc => ?_)
    · have h := it_f hc h
      refine V_aload_n (pc := 26) C dX7_takeSigned_26 rfl rfl ?_
      refine V_iload_n (pc := 27) C dX7_takeSigned_27 rfl rfl ?_
      refine V_if_eq (tgt := 39) (pc := 28) C dX7_takeSigned_28 (by decide) (fun hc => ?_) (fun hc => ?_)
      · have h := it_t hc h
        refine V_aload_n (pc := 39) C dX7_takeSigned_39 rfl rfl ?_
        refine V_getI (pc := 40) C z1_cW_7 fl_RX7_155 (by decide) dX7_takeSigned_40 ?_
        refine V_putI (pc := 43) C z1_cW_7 fp_RX7_155 rfl rfl dX7_takeSigned_43 ?_
        refine V_iconst (pc := 46) C dX7_takeSigned_46 kc_i_1 ?_
        cases h
        exact hR 47 _ ⟨_, rfl, zB1⟩ dX7_takeSigned_47
      · have h := it_f hc h
        refine V_aload_n (pc := 31) C dX7_takeSigned_31 rfl rfl ?_
        refine V_getI (pc := 32) C z1_cW_7 fl_RX7_155 (by decide) dX7_takeSigned_32 ?_
        refine V_ineg (pc := 35) C dX7_takeSigned_35 ?_
        refine V_goto (tgt := 43) (pc := 36) C dX7_takeSigned_36 (by decide) ?_
        refine V_putI (pc := 43) C z1_cW_7 fp_RX7_155 rfl rfl dX7_takeSigned_43 ?_
        refine V_iconst (pc := 46) C dX7_takeSigned_46 kc_i_1 ?_
        cases h
        exact hR 47 _ ⟨_, rfl, zB1⟩ dX7_takeSigned_47
    · have h := it_t hc h
      refine V_iconst (pc := 24) C dX7_takeSigned_24 kc_i_0 ?_
      cases h
      exact hR 25 _ ⟨_, rfl, zB0⟩ dX7_takeSigned_25
  · have h := it_f hc h
    refine V_aload_n (pc := 11) C dX7_takeSigned_11 rfl rfl ?_
    obtain ⟨S5, euS5, h⟩ := b1_some h
    refine V_callV (As := []) (pc := 12) C (mX7_step _ euS5) zm_X7_step zi_X7_step ml_RX7_88 z1_cW_7 rfl ⟨Nat.le_of_ble_eq_true rfl, Nat.le_of_ble_eq_true rfl⟩ rfl rfl (Nat.le_of_ble_eq_true rfl) dX7_takeSigned_12 ?_
    show V K 15 [some (.ref 2), some (.int a1), some (.int r1)] [] S5
    exact V_mask [true, true, true] (mX7_takeSigned_J15 C  hR h)
set_option maxRecDepth 100000 in
theorem mX7_readLines_J32 {K : zK} (C : zC K cX7_readLines yX7_readLines.cls 2 9 237 cW) {S : zM} {v1 : Nat} {r : Int32} {S' : zM} (hv1 : zob cW 8 v1) (hR : zR K cX7_readLines (some .boolean) S' (some (.int r))) (h : gX7_readLines_J32 S v1 = some (r, S')) : V K 32 [some (.ref 2), some (.ref v1)] [] S := by
  unfold gX7_readLines_J32 at h
  refine V_aload_n (pc := 32) C dX7_readLines_32 rfl rfl ?_
  refine V_ldcwS (j := 16) (pc := 33) C dX7_readLines_33 rfl ?_
  obtain ⟨r11, er11, h⟩ := b1_some h
  refine V_callV (As := [.ref 10016]) (pc := 36) C (mX7_isWord _ zq_16 er11) zm_X7_isWord zi_X7_isWord ml_RX7_57 z1_cW_7 rfl ⟨Nat.le_of_ble_eq_true rfl, Nat.le_of_ble_eq_true rfl⟩ rfl rfl (Nat.le_of_ble_eq_true rfl) dX7_readLines_36 ?_
  show V K 39 [some (.ref 2), some (.ref v1)] [.int r11] S
  refine V_if_eq (tgt := 65) (pc := 39) C dX7_readLines_39 (by decide) (fun hc => ?_) (fun hc => ?_)
  · have h := it_t hc h
    refine V_iconst (pc := 65) C dX7_readLines_65 kc_i_1 ?_
    cases h
    exact hR 66 _ ⟨_, rfl, zB1⟩ dX7_readLines_66
  · have h := it_f hc h
    refine V_aload_n (pc := 42) C dX7_readLines_42 rfl rfl ?_
    obtain ⟨S13, euS13, h⟩ := b1_some h
    refine V_callV (As := []) (pc := 43) C (mX7_step _ euS13) zm_X7_step zi_X7_step ml_RX7_88 z1_cW_7 rfl ⟨Nat.le_of_ble_eq_true rfl, Nat.le_of_ble_eq_true rfl⟩ rfl rfl (Nat.le_of_ble_eq_true rfl) dX7_readLines_43 ?_
    show V K 46 [some (.ref 2), some (.ref v1)] [] S13
    refine V_aload_n (pc := 46) C dX7_readLines_46 rfl rfl ?_
    refine V_bipush (pc := 47) C dX7_readLines_47 kc_b_50 ?_
    obtain ⟨r14, S15, er14, h⟩ := b2_some h
    refine V_callV (As := [.int (50 : Int32)]) (pc := 49) C (mX7_takeSigned _ er14) zm_X7_takeSigned zi_X7_takeSigned ml_RX7_252 z1_cW_7 rfl ⟨Nat.le_of_ble_eq_true rfl, Nat.le_of_ble_eq_true rfl⟩ rfl rfl (Nat.le_of_ble_eq_true rfl) dX7_readLines_49 ?_
    show V K 52 [some (.ref 2), some (.ref v1)] [.int r14] S15
    refine V_if_ne (tgt := 57) (pc := 52) C dX7_readLines_52 (by decide) (fun hc => ?_) (fun hc => ?_)
    · have h := it_f hc h
      refine V_aload_n (pc := 57) C dX7_readLines_57 rfl rfl ?_
      refine V_aload_n (pc := 58) C dX7_readLines_58 rfl rfl ?_
      refine V_getI (pc := 59) C z1_cW_7 fl_RX7_155 (by decide) dX7_readLines_59 ?_
      refine V_putI (pc := 62) C hv1 fp_RX7_259 rfl rfl dX7_readLines_62 ?_
      refine V_iconst (pc := 65) C dX7_readLines_65 kc_i_1 ?_
      cases h
      exact hR 66 _ ⟨_, rfl, zB1⟩ dX7_readLines_66
    · have h := it_t hc h
      refine V_iconst (pc := 55) C dX7_readLines_55 kc_i_0 ?_
      cases h
      exact hR 56 _ ⟨_, rfl, zB0⟩ dX7_readLines_56
set_option maxRecDepth 100000 in
theorem mX7_readLines (l : Launch) {S : zM} {a1 : Nat} {r : Int32} {S' : zM} (ha1 : zob cW 8 a1) (h : gX7_readLines S a1 = some (r, S')) : zMet l cW zS0 yX7_readLines cX7_readLines 2 (some .boolean) 9 237 [.ref 2, .ref a1] S (some (.int r)) S' := by
  refine zmeth (by decide +kernel) (by rfl) (fun K hKl C hR => ?_)
  show V K 0 [some (.ref 2), some (.ref a1)] [] S
  unfold gX7_readLines at h
  refine V_aload_n (pc := 0) C dX7_readLines_0 rfl rfl ?_
  refine V_ldcS (j := 6) (pc := 1) C dX7_readLines_1 rfl ?_
  obtain ⟨r1, er1, h⟩ := b1_some h
  refine V_callV (As := [.ref 10006]) (pc := 3) C (mX7_isWord _ zq_6 er1) zm_X7_isWord zi_X7_isWord ml_RX7_57 z1_cW_7 rfl ⟨Nat.le_of_ble_eq_true rfl, Nat.le_of_ble_eq_true rfl⟩ rfl rfl (Nat.le_of_ble_eq_true rfl) dX7_readLines_3 ?_
  show V K 6 [some (.ref 2), some (.ref a1)] [.int r1] S
  refine V_if_eq (tgt := 32) (pc := 6) C dX7_readLines_6 (by decide) (fun hc => ?_) (fun hc => ?_)
  · have h := it_t hc h
    refine V_aload_n (pc := 32) C dX7_readLines_32 rfl rfl ?_
    refine V_ldcwS (j := 16) (pc := 33) C dX7_readLines_33 rfl ?_
    obtain ⟨r2, er2, h⟩ := b1_some h
    refine V_callV (As := [.ref 10016]) (pc := 36) C (mX7_isWord _ zq_16 er2) zm_X7_isWord zi_X7_isWord ml_RX7_57 z1_cW_7 rfl ⟨Nat.le_of_ble_eq_true rfl, Nat.le_of_ble_eq_true rfl⟩ rfl rfl (Nat.le_of_ble_eq_true rfl) dX7_readLines_36 ?_
    show V K 39 [some (.ref 2), some (.ref a1)] [.int r2] S
    refine V_if_eq (tgt := 65) (pc := 39) C dX7_readLines_39 (by decide) (fun hc => ?_) (fun hc => ?_)
    · have h := it_t hc h
      refine V_iconst (pc := 65) C dX7_readLines_65 kc_i_1 ?_
      cases h
      exact hR 66 _ ⟨_, rfl, zB1⟩ dX7_readLines_66
    · have h := it_f hc h
      refine V_aload_n (pc := 42) C dX7_readLines_42 rfl rfl ?_
      obtain ⟨S4, euS4, h⟩ := b1_some h
      refine V_callV (As := []) (pc := 43) C (mX7_step _ euS4) zm_X7_step zi_X7_step ml_RX7_88 z1_cW_7 rfl ⟨Nat.le_of_ble_eq_true rfl, Nat.le_of_ble_eq_true rfl⟩ rfl rfl (Nat.le_of_ble_eq_true rfl) dX7_readLines_43 ?_
      show V K 46 [some (.ref 2), some (.ref a1)] [] S4
      refine V_aload_n (pc := 46) C dX7_readLines_46 rfl rfl ?_
      refine V_bipush (pc := 47) C dX7_readLines_47 kc_b_50 ?_
      obtain ⟨r5, S6, er5, h⟩ := b2_some h
      refine V_callV (As := [.int (50 : Int32)]) (pc := 49) C (mX7_takeSigned _ er5) zm_X7_takeSigned zi_X7_takeSigned ml_RX7_252 z1_cW_7 rfl ⟨Nat.le_of_ble_eq_true rfl, Nat.le_of_ble_eq_true rfl⟩ rfl rfl (Nat.le_of_ble_eq_true rfl) dX7_readLines_49 ?_
      show V K 52 [some (.ref 2), some (.ref a1)] [.int r5] S6
      refine V_if_ne (tgt := 57) (pc := 52) C dX7_readLines_52 (by decide) (fun hc => ?_) (fun hc => ?_)
      · have h := it_f hc h
        refine V_aload_n (pc := 57) C dX7_readLines_57 rfl rfl ?_
        refine V_aload_n (pc := 58) C dX7_readLines_58 rfl rfl ?_
        refine V_getI (pc := 59) C z1_cW_7 fl_RX7_155 (by decide) dX7_readLines_59 ?_
        refine V_putI (pc := 62) C ha1 fp_RX7_259 rfl rfl dX7_readLines_62 ?_
        refine V_iconst (pc := 65) C dX7_readLines_65 kc_i_1 ?_
        cases h
        exact hR 66 _ ⟨_, rfl, zB1⟩ dX7_readLines_66
      · have h := it_t hc h
        refine V_iconst (pc := 55) C dX7_readLines_55 kc_i_0 ?_
        cases h
        exact hR 56 _ ⟨_, rfl, zB0⟩ dX7_readLines_56
  · have h := it_f hc h
    refine V_aload_n (pc := 9) C dX7_readLines_9 rfl rfl ?_
    obtain ⟨S8, euS8, h⟩ := b1_some h
    refine V_callV (As := []) (pc := 10) C (mX7_step _ euS8) zm_X7_step zi_X7_step ml_RX7_88 z1_cW_7 rfl ⟨Nat.le_of_ble_eq_true rfl, Nat.le_of_ble_eq_true rfl⟩ rfl rfl (Nat.le_of_ble_eq_true rfl) dX7_readLines_10 ?_
    show V K 13 [some (.ref 2), some (.ref a1)] [] S8
    refine V_aload_n (pc := 13) C dX7_readLines_13 rfl rfl ?_
    refine V_bipush (pc := 14) C dX7_readLines_14 kc_b_50 ?_
    obtain ⟨r9, S10, er9, h⟩ := b2_some h
    refine V_callV (As := [.int (50 : Int32)]) (pc := 16) C (mX7_takeSigned _ er9) zm_X7_takeSigned zi_X7_takeSigned ml_RX7_252 z1_cW_7 rfl ⟨Nat.le_of_ble_eq_true rfl, Nat.le_of_ble_eq_true rfl⟩ rfl rfl (Nat.le_of_ble_eq_true rfl) dX7_readLines_16 ?_
    show V K 19 [some (.ref 2), some (.ref a1)] [.int r9] S10
    refine V_if_ne (tgt := 24) (pc := 19) C dX7_readLines_19 (by decide) (fun hc => ?_) (fun hc => ?_)
    · have h := it_f hc h
      refine V_aload_n (pc := 24) C dX7_readLines_24 rfl rfl ?_
      refine V_aload_n (pc := 25) C dX7_readLines_25 rfl rfl ?_
      refine V_getI (pc := 26) C z1_cW_7 fl_RX7_155 (by decide) dX7_readLines_26 ?_
      refine V_putI (pc := 29) C ha1 fp_RX7_255 rfl rfl dX7_readLines_29 ?_
      exact V_mask [true, true] (mX7_readLines_J32 C ha1 hR h)
    · have h := it_t hc h
      refine V_iconst (pc := 22) C dX7_readLines_22 kc_i_0 ?_
      cases h
      exact hR 23 _ ⟨_, rfl, zB0⟩ dX7_readLines_23
set_option maxRecDepth 100000 in
theorem mX7_readYears_J34 {K : zK} (C : zC K cX7_readYears yX7_readYears.cls 2 8 215 cW) {S : zM} {v1 : Nat} {r : Int32} {S' : zM} (hv1 : zob cW 8 v1) (hR : zR K cX7_readYears (some .boolean) S' (some (.int r))) (h : gX7_readYears_J34 S v1 = some (r, S')) : V K 34 [some (.ref 2), some (.ref v1)] [] S := by
  unfold gX7_readYears_J34 at h
  refine V_aload_n (pc := 34) C dX7_readYears_34 rfl rfl ?_
  refine V_ldcwS (j := 18) (pc := 35) C dX7_readYears_35 rfl ?_
  obtain ⟨r11, er11, h⟩ := b1_some h
  refine V_callV (As := [.ref 10018]) (pc := 38) C (mX7_isWord _ zq_18 er11) zm_X7_isWord zi_X7_isWord ml_RX7_57 z1_cW_7 rfl ⟨Nat.le_of_ble_eq_true rfl, Nat.le_of_ble_eq_true rfl⟩ rfl rfl (Nat.le_of_ble_eq_true rfl) dX7_readYears_38 ?_
  show V K 41 [some (.ref 2), some (.ref v1)] [.int r11] S
  refine V_if_eq (tgt := 68) (pc := 41) C dX7_readYears_41 (by decide) (fun hc => ?_) (fun hc => ?_)
  · have h := it_t hc h
    refine V_iconst (pc := 68) C dX7_readYears_68 kc_i_1 ?_
    cases h
    exact hR 69 _ ⟨_, rfl, zB1⟩ dX7_readYears_69
  · have h := it_f hc h
    refine V_aload_n (pc := 44) C dX7_readYears_44 rfl rfl ?_
    obtain ⟨S13, euS13, h⟩ := b1_some h
    refine V_callV (As := []) (pc := 45) C (mX7_step _ euS13) zm_X7_step zi_X7_step ml_RX7_88 z1_cW_7 rfl ⟨Nat.le_of_ble_eq_true rfl, Nat.le_of_ble_eq_true rfl⟩ rfl rfl (Nat.le_of_ble_eq_true rfl) dX7_readYears_45 ?_
    show V K 48 [some (.ref 2), some (.ref v1)] [] S13
    refine V_aload_n (pc := 48) C dX7_readYears_48 rfl rfl ?_
    refine V_iconst (pc := 49) C dX7_readYears_49 kc_i_1 ?_
    refine V_bipush (pc := 50) C dX7_readYears_50 kc_b_99 ?_
    obtain ⟨r14, S15, er14, h⟩ := b2_some h
    refine V_callV (As := [.int (1 : Int32), .int (99 : Int32)]) (pc := 52) C (mX7_takeWhole _ er14) zm_X7_takeWhole zi_X7_takeWhole ml_RX7_158 z1_cW_7 rfl ⟨Nat.le_of_ble_eq_true rfl, Nat.le_of_ble_eq_true rfl⟩ rfl rfl (Nat.le_of_ble_eq_true rfl) dX7_readYears_52 ?_
    show V K 55 [some (.ref 2), some (.ref v1)] [.int r14] S15
    refine V_if_ne (tgt := 60) (pc := 55) C dX7_readYears_55 (by decide) (fun hc => ?_) (fun hc => ?_)
    · have h := it_f hc h
      refine V_aload_n (pc := 60) C dX7_readYears_60 rfl rfl ?_
      refine V_aload_n (pc := 61) C dX7_readYears_61 rfl rfl ?_
      refine V_getI (pc := 62) C z1_cW_7 fl_RX7_155 (by decide) dX7_readYears_62 ?_
      refine V_putI (pc := 65) C hv1 fp_RX7_267 rfl rfl dX7_readYears_65 ?_
      refine V_iconst (pc := 68) C dX7_readYears_68 kc_i_1 ?_
      cases h
      exact hR 69 _ ⟨_, rfl, zB1⟩ dX7_readYears_69
    · have h := it_t hc h
      refine V_iconst (pc := 58) C dX7_readYears_58 kc_i_0 ?_
      cases h
      exact hR 59 _ ⟨_, rfl, zB0⟩ dX7_readYears_59
set_option maxRecDepth 100000 in
theorem mX7_readYears (l : Launch) {S : zM} {a1 : Nat} {r : Int32} {S' : zM} (ha1 : zob cW 8 a1) (h : gX7_readYears S a1 = some (r, S')) : zMet l cW zS0 yX7_readYears cX7_readYears 2 (some .boolean) 8 215 [.ref 2, .ref a1] S (some (.int r)) S' := by
  refine zmeth (by decide +kernel) (by rfl) (fun K hKl C hR => ?_)
  show V K 0 [some (.ref 2), some (.ref a1)] [] S
  unfold gX7_readYears at h
  refine V_aload_n (pc := 0) C dX7_readYears_0 rfl rfl ?_
  refine V_ldcwS (j := 17) (pc := 1) C dX7_readYears_1 rfl ?_
  obtain ⟨r1, er1, h⟩ := b1_some h
  refine V_callV (As := [.ref 10017]) (pc := 4) C (mX7_isWord _ zq_17 er1) zm_X7_isWord zi_X7_isWord ml_RX7_57 z1_cW_7 rfl ⟨Nat.le_of_ble_eq_true rfl, Nat.le_of_ble_eq_true rfl⟩ rfl rfl (Nat.le_of_ble_eq_true rfl) dX7_readYears_4 ?_
  show V K 7 [some (.ref 2), some (.ref a1)] [.int r1] S
  refine V_if_eq (tgt := 34) (pc := 7) C dX7_readYears_7 (by decide) (fun hc => ?_) (fun hc => ?_)
  · have h := it_t hc h
    refine V_aload_n (pc := 34) C dX7_readYears_34 rfl rfl ?_
    refine V_ldcwS (j := 18) (pc := 35) C dX7_readYears_35 rfl ?_
    obtain ⟨r2, er2, h⟩ := b1_some h
    refine V_callV (As := [.ref 10018]) (pc := 38) C (mX7_isWord _ zq_18 er2) zm_X7_isWord zi_X7_isWord ml_RX7_57 z1_cW_7 rfl ⟨Nat.le_of_ble_eq_true rfl, Nat.le_of_ble_eq_true rfl⟩ rfl rfl (Nat.le_of_ble_eq_true rfl) dX7_readYears_38 ?_
    show V K 41 [some (.ref 2), some (.ref a1)] [.int r2] S
    refine V_if_eq (tgt := 68) (pc := 41) C dX7_readYears_41 (by decide) (fun hc => ?_) (fun hc => ?_)
    · have h := it_t hc h
      refine V_iconst (pc := 68) C dX7_readYears_68 kc_i_1 ?_
      cases h
      exact hR 69 _ ⟨_, rfl, zB1⟩ dX7_readYears_69
    · have h := it_f hc h
      refine V_aload_n (pc := 44) C dX7_readYears_44 rfl rfl ?_
      obtain ⟨S4, euS4, h⟩ := b1_some h
      refine V_callV (As := []) (pc := 45) C (mX7_step _ euS4) zm_X7_step zi_X7_step ml_RX7_88 z1_cW_7 rfl ⟨Nat.le_of_ble_eq_true rfl, Nat.le_of_ble_eq_true rfl⟩ rfl rfl (Nat.le_of_ble_eq_true rfl) dX7_readYears_45 ?_
      show V K 48 [some (.ref 2), some (.ref a1)] [] S4
      refine V_aload_n (pc := 48) C dX7_readYears_48 rfl rfl ?_
      refine V_iconst (pc := 49) C dX7_readYears_49 kc_i_1 ?_
      refine V_bipush (pc := 50) C dX7_readYears_50 kc_b_99 ?_
      obtain ⟨r5, S6, er5, h⟩ := b2_some h
      refine V_callV (As := [.int (1 : Int32), .int (99 : Int32)]) (pc := 52) C (mX7_takeWhole _ er5) zm_X7_takeWhole zi_X7_takeWhole ml_RX7_158 z1_cW_7 rfl ⟨Nat.le_of_ble_eq_true rfl, Nat.le_of_ble_eq_true rfl⟩ rfl rfl (Nat.le_of_ble_eq_true rfl) dX7_readYears_52 ?_
      show V K 55 [some (.ref 2), some (.ref a1)] [.int r5] S6
      refine V_if_ne (tgt := 60) (pc := 55) C dX7_readYears_55 (by decide) (fun hc => ?_) (fun hc => ?_)
      · have h := it_f hc h
        refine V_aload_n (pc := 60) C dX7_readYears_60 rfl rfl ?_
        refine V_aload_n (pc := 61) C dX7_readYears_61 rfl rfl ?_
        refine V_getI (pc := 62) C z1_cW_7 fl_RX7_155 (by decide) dX7_readYears_62 ?_
        refine V_putI (pc := 65) C ha1 fp_RX7_267 rfl rfl dX7_readYears_65 ?_
        refine V_iconst (pc := 68) C dX7_readYears_68 kc_i_1 ?_
        cases h
        exact hR 69 _ ⟨_, rfl, zB1⟩ dX7_readYears_69
      · have h := it_t hc h
        refine V_iconst (pc := 58) C dX7_readYears_58 kc_i_0 ?_
        cases h
        exact hR 59 _ ⟨_, rfl, zB0⟩ dX7_readYears_59
  · have h := it_f hc h
    refine V_aload_n (pc := 10) C dX7_readYears_10 rfl rfl ?_
    obtain ⟨S8, euS8, h⟩ := b1_some h
    refine V_callV (As := []) (pc := 11) C (mX7_step _ euS8) zm_X7_step zi_X7_step ml_RX7_88 z1_cW_7 rfl ⟨Nat.le_of_ble_eq_true rfl, Nat.le_of_ble_eq_true rfl⟩ rfl rfl (Nat.le_of_ble_eq_true rfl) dX7_readYears_11 ?_
    show V K 14 [some (.ref 2), some (.ref a1)] [] S8
    refine V_aload_n (pc := 14) C dX7_readYears_14 rfl rfl ?_
    refine V_iconst (pc := 15) C dX7_readYears_15 kc_i_1 ?_
    refine V_bipush (pc := 16) C dX7_readYears_16 kc_b_99 ?_
    obtain ⟨r9, S10, er9, h⟩ := b2_some h
    refine V_callV (As := [.int (1 : Int32), .int (99 : Int32)]) (pc := 18) C (mX7_takeWhole _ er9) zm_X7_takeWhole zi_X7_takeWhole ml_RX7_158 z1_cW_7 rfl ⟨Nat.le_of_ble_eq_true rfl, Nat.le_of_ble_eq_true rfl⟩ rfl rfl (Nat.le_of_ble_eq_true rfl) dX7_readYears_18 ?_
    show V K 21 [some (.ref 2), some (.ref a1)] [.int r9] S10
    refine V_if_ne (tgt := 26) (pc := 21) C dX7_readYears_21 (by decide) (fun hc => ?_) (fun hc => ?_)
    · have h := it_f hc h
      refine V_aload_n (pc := 26) C dX7_readYears_26 rfl rfl ?_
      refine V_aload_n (pc := 27) C dX7_readYears_27 rfl rfl ?_
      refine V_getI (pc := 28) C z1_cW_7 fl_RX7_155 (by decide) dX7_readYears_28 ?_
      refine V_putI (pc := 31) C ha1 fp_RX7_263 rfl rfl dX7_readYears_31 ?_
      exact V_mask [true, true] (mX7_readYears_J34 C ha1 hR h)
    · have h := it_t hc h
      refine V_iconst (pc := 24) C dX7_readYears_24 kc_i_0 ?_
      cases h
      exact hR 25 _ ⟨_, rfl, zB0⟩ dX7_readYears_25
set_option maxRecDepth 100000 in
theorem mX8_likes_L2 {K : zK} (C : zC K cX8_likes yX8_likes.cls 4 0 0 cW) {S : zM} {v0 : Nat} {v1 : Int64} (hv0 : zob cW 8 v0) : ∀ (f : Nat) (v3 : Int32) (r : Int32), gX8_likes_L2 S v0 v1 f v3 = some r → zR K cX8_likes (some .boolean) S (some (.int r)) → V K 2 [some (.ref v0), some (.long v1), none, some (.int v3)] [] S := by
  intro f
  induction f with
  | zero => intro v3 r h hR; cases h
  | succ n ih =>
    intro v3 r h hR
    unfold gX8_likes_L2 at h
    refine V_iload_n (pc := 2) C dX8_likes_2 rfl rfl ?_
    refine V_aload_n (pc := 3) C dX8_likes_3 rfl rfl ?_
    refine V_getI (pc := 4) C hv0 fl_RX8_35 (by decide) dX8_likes_4 ?_
    refine V_icmp_ge (tgt := 36) (pc := 7) C dX8_likes_7 (by decide) (fun hc => ?_) (fun hc => ?_)
    · have h := it_t hc h
      refine V_iconst (pc := 36) C dX8_likes_36 kc_i_0 ?_
      cases h
      exact hR 37 _ ⟨_, rfl, zB0⟩ dX8_likes_37
    · have h := it_f hc h
      refine V_iload_n (pc := 10) C dX8_likes_10 rfl rfl ?_
      refine V_bipush (pc := 11) C dX8_likes_11 kc_b_6 ?_
      refine V_icmp_ge (tgt := 36) (pc := 13) C dX8_likes_13 (by decide) (fun hc => ?_) (fun hc => ?_)
      · have h := it_t hc h
        refine V_iconst (pc := 36) C dX8_likes_36 kc_i_0 ?_
        cases h
        exact hR 37 _ ⟨_, rfl, zB0⟩ dX8_likes_37
      · have h := it_f hc h
        refine V_aload_n (pc := 16) C dX8_likes_16 rfl rfl ?_
        refine V_getF (p1 := (v0 + 1)) (pc := 17) C hv0 fl_RX8_9 rfl (zf_cW_8_0 hv0) dX8_likes_17 ?_
        refine V_iload_n (pc := 20) C dX8_likes_20 rfl rfl ?_
        obtain ⟨k1, h⟩ := ck_some h
        refine V_iald (pc := 21) C (za_cW_8_0 hv0) k1 dX8_likes_21 ?_
        refine V_i2l (pc := 22) C dX8_likes_22 ?_
        refine V_lload_n (pc := 23) C dX8_likes_23 rfl rfl ?_
        refine V_lcmp_ne (tgt := 30) (pc := 24) C dX8_likes_24 dX8_likes_25 (by decide) (fun hc => ?_) (fun hc => ?_)
        · have h := it_f hc h
          refine V_iinc (L' := [some (.ref v0), some (.long v1), none, some (.int (v3 + (1 : Int32)))]) (v := (v3 + (1 : Int32))) (pc := 30) C dX8_likes_30 rfl (congrArg (v3 + ·) kc_i_1) (by decide) rfl ?_
          refine V_goto (tgt := 2) (pc := 33) C dX8_likes_33 (by decide) ?_
          exact V_mask [true, true, false, true] (ih _ _ h hR)
        · have h := it_t hc h
          refine V_iconst (pc := 28) C dX8_likes_28 kc_i_1 ?_
          cases h
          exact hR 29 _ ⟨_, rfl, zB1⟩ dX8_likes_29
set_option maxRecDepth 100000 in
theorem mX8_likes (l : Launch) {S : zM} {q : Nat} {a1 : Int64} {r : Int32} (hq : zob cW 8 q) (h : gX8_likes S q a1 = some r) : zMet l cW zS0 yX8_likes cX8_likes 4 (some .boolean) 0 0 [.ref q, .long a1] S (some (.int r)) S := by
  refine zmeth (by decide +kernel) (by rfl) (fun K hKl C hR => ?_)
  show V K 0 [some (.ref q), some (.long a1), none, none] [] S
  unfold gX8_likes at h
  refine V_iconst (pc := 0) C dX8_likes_0 kc_i_0 ?_
  refine V_istore_n (L' := [some (.ref q), some (.long a1), none, some (.int (0 : Int32))]) (pc := 1) C dX8_likes_1 rfl (by decide) rfl ?_
  exact V_mask [true, true, false, true] (mX8_likes_L2 C hq FU _ _ h hR)
set_option maxRecDepth 100000 in
theorem mX8_addLiked (l : Launch) {S : zM} {q : Nat} {a1 : Int32} {S' : zM} (hq : zob cW 8 q) (h : gX8_addLiked S q a1 = some S') : zMet l cW zS0 yX8_addLiked cX8_addLiked 2 (none) 0 0 [.ref q, .int a1] S none S' := by
  refine zmeth (by decide +kernel) (by rfl) (fun K hKl C hR => ?_)
  show V K 0 [some (.ref q), some (.int a1)] [] S
  unfold gX8_addLiked at h
  refine V_aload_n (pc := 0) C dX8_addLiked_0 rfl rfl ?_
  refine V_getI (pc := 1) C hq fl_RX8_35 (by decide) dX8_addLiked_1 ?_
  refine V_bipush (pc := 4) C dX8_addLiked_4 kc_b_6 ?_
  refine V_icmp_ge (tgt := 29) (pc := 6) C dX8_addLiked_6 (by decide) (fun hc => ?_) (fun hc => ?_)
  · have h := it_t hc h
    cases h
    exact hR 29 _ rfl dX8_addLiked_29
  · have h := it_f hc h
    refine V_aload_n (pc := 9) C dX8_addLiked_9 rfl rfl ?_
    refine V_getF (p1 := (q + 1)) (pc := 10) C hq fl_RX8_9 rfl (zf_cW_8_0 hq) dX8_addLiked_10 ?_
    refine V_aload_n (pc := 13) C dX8_addLiked_13 rfl rfl ?_
    refine V_getI (pc := 14) C hq fl_RX8_35 (by decide) dX8_addLiked_14 ?_
    refine V_iload_n (pc := 17) C dX8_addLiked_17 rfl rfl ?_
    obtain ⟨k1, h⟩ := ck_some h
    refine V_iast (pc := 18) C (za_cW_8_0 hq) k1 dX8_addLiked_18 ?_
    refine V_aload_n (pc := 19) C dX8_addLiked_19 rfl rfl ?_
    refine V_dup (pc := 20) C dX8_addLiked_20 rfl ?_
    refine V_getI (pc := 21) C hq fl_RX8_35 (by decide) dX8_addLiked_21 ?_
    refine V_iconst (pc := 24) C dX8_addLiked_24 kc_i_1 ?_
    refine V_iadd (pc := 25) C dX8_addLiked_25 ?_
    refine V_putI (pc := 26) C hq fp_RX8_35 rfl rfl dX8_addLiked_26 ?_
    obtain ⟨S2, eS2, h⟩ := lt_some h
    refine V_nmS eS2 ?_
    cases h
    exact hR 29 _ rfl dX8_addLiked_29
set_option maxRecDepth 100000 in
theorem mX7_readLiked_J18 {K : zK} (C : zC K cX7_readLiked yX7_readLiked.cls 3 2 43 cW) {S : zM} {v1 : Nat} {s0 : Int32} {r : Int32} {S' : zM} (hv1 : zob cW 8 v1) (hR : zR K cX7_readLiked (some .boolean) S' (some (.int r))) (h : gX7_readLiked_J18 S v1 s0 = some (r, S')) : V K 18 [some (.ref 2), some (.ref v1), none] [.int s0] S := by
  unfold gX7_readLiked_J18 at h
  refine V_istore_n (L' := [some (.ref 2), some (.ref v1), some (.int s0)]) (pc := 18) C dX7_readLiked_18 rfl (by decide) rfl ?_
  refine V_iload_n (pc := 19) C dX7_readLiked_19 rfl rfl ?_
  refine V_if_eq (tgt := 45) (pc := 20) C dX7_readLiked_20 (by decide) (fun hc => ?_) (fun hc => ?_)
  · have h := it_t hc h
    refine V_iload_n (pc := 45) C dX7_readLiked_45 rfl rfl ?_
    refine V_if_eq (tgt := 64) (pc := 46) C dX7_readLiked_46 (by decide) (fun hc => ?_) (fun hc => ?_)
    · have h := it_t hc h
      refine V_aload_n (pc := 64) C dX7_readLiked_64 rfl rfl ?_
      refine V_iconst (pc := 65) C dX7_readLiked_65 kc_i_0 ?_
      refine V_sipush (pc := 66) C dX7_readLiked_66 kc_s_999 ?_
      obtain ⟨r2, S3, er2, h⟩ := b2_some h
      refine V_callV (As := [.int (0 : Int32), .int (999 : Int32)]) (pc := 69) C (mX7_takeWhole _ er2) zm_X7_takeWhole zi_X7_takeWhole ml_RX7_158 z1_cW_7 rfl ⟨Nat.le_of_ble_eq_true rfl, Nat.le_of_ble_eq_true rfl⟩ rfl rfl (Nat.le_of_ble_eq_true rfl) dX7_readLiked_69 ?_
      show V K 72 [some (.ref 2), some (.ref v1), some (.int s0)] [.int r2] S3
      refine V_if_ne (tgt := 77) (pc := 72) C dX7_readLiked_72 (by decide) (fun hc => ?_) (fun hc => ?_)
      · have h := it_f hc h
        refine V_aload_n (pc := 77) C dX7_readLiked_77 rfl rfl ?_
        refine V_aload_n (pc := 78) C dX7_readLiked_78 rfl rfl ?_
        refine V_getI (pc := 79) C z1_cW_7 fl_RX7_155 (by decide) dX7_readLiked_79 ?_
        obtain ⟨S5, euS5, h⟩ := b1_some h
        refine V_callV (As := [.int (gI S3 2 5)]) (pc := 82) C (mX8_addLiked _ hv1 euS5) zm_X8_addLiked zi_X8_addLiked ml_RX7_281 hv1 rfl ⟨Nat.le_of_ble_eq_true rfl, Nat.le_of_ble_eq_true rfl⟩ rfl rfl (Nat.le_of_ble_eq_true rfl) dX7_readLiked_82 ?_
        show V K 85 [some (.ref 2), some (.ref v1), some (.int s0)] [] S5
        refine V_iconst (pc := 85) C dX7_readLiked_85 kc_i_1 ?_
        cases h
        exact hR 86 _ ⟨_, rfl, zB1⟩ dX7_readLiked_86
      · have h := it_t hc h
        refine V_iconst (pc := 75) C dX7_readLiked_75 kc_i_0 ?_
        cases h
        exact hR 76 _ ⟨_, rfl, zB0⟩ dX7_readLiked_76
    · have h := it_f hc h
      refine V_aload_n (pc := 49) C dX7_readLiked_49 rfl rfl ?_
      refine V_getI (pc := 50) C hv1 fl_RX7_278 (by decide) dX7_readLiked_50 ?_
      refine V_bipush (pc := 53) C dX7_readLiked_53 kc_b_6 ?_
      refine V_icmp_lt (tgt := 64) (pc := 55) C dX7_readLiked_55 (by decide) (fun hc => ?_) (fun hc => ?_)
      · have h := it_t hc h
        refine V_aload_n (pc := 64) C dX7_readLiked_64 rfl rfl ?_
        refine V_iconst (pc := 65) C dX7_readLiked_65 kc_i_0 ?_
        refine V_sipush (pc := 66) C dX7_readLiked_66 kc_s_999 ?_
        obtain ⟨r6, S7, er6, h⟩ := b2_some h
        refine V_callV (As := [.int (0 : Int32), .int (999 : Int32)]) (pc := 69) C (mX7_takeWhole _ er6) zm_X7_takeWhole zi_X7_takeWhole ml_RX7_158 z1_cW_7 rfl ⟨Nat.le_of_ble_eq_true rfl, Nat.le_of_ble_eq_true rfl⟩ rfl rfl (Nat.le_of_ble_eq_true rfl) dX7_readLiked_69 ?_
        show V K 72 [some (.ref 2), some (.ref v1), some (.int s0)] [.int r6] S7
        refine V_if_ne (tgt := 77) (pc := 72) C dX7_readLiked_72 (by decide) (fun hc => ?_) (fun hc => ?_)
        · have h := it_f hc h
          refine V_aload_n (pc := 77) C dX7_readLiked_77 rfl rfl ?_
          refine V_aload_n (pc := 78) C dX7_readLiked_78 rfl rfl ?_
          refine V_getI (pc := 79) C z1_cW_7 fl_RX7_155 (by decide) dX7_readLiked_79 ?_
          obtain ⟨S9, euS9, h⟩ := b1_some h
          refine V_callV (As := [.int (gI S7 2 5)]) (pc := 82) C (mX8_addLiked _ hv1 euS9) zm_X8_addLiked zi_X8_addLiked ml_RX7_281 hv1 rfl ⟨Nat.le_of_ble_eq_true rfl, Nat.le_of_ble_eq_true rfl⟩ rfl rfl (Nat.le_of_ble_eq_true rfl) dX7_readLiked_82 ?_
          show V K 85 [some (.ref 2), some (.ref v1), some (.int s0)] [] S9
          refine V_iconst (pc := 85) C dX7_readLiked_85 kc_i_1 ?_
          cases h
          exact hR 86 _ ⟨_, rfl, zB1⟩ dX7_readLiked_86
        · have h := it_t hc h
          refine V_iconst (pc := 75) C dX7_readLiked_75 kc_i_0 ?_
          cases h
          exact hR 76 _ ⟨_, rfl, zB0⟩ dX7_readLiked_76
      · have h := it_f hc h
        refine V_aload_n (pc := 58) C dX7_readLiked_58 rfl rfl ?_
        refine V_iconst (pc := 59) C dX7_readLiked_59 kc_i_5 ?_
        obtain ⟨r10, S11, er10, h⟩ := b2_some h
        refine V_callV (As := [.int (5 : Int32)]) (pc := 60) C (mX7_wrong _ er10) zm_X7_wrong zi_X7_wrong ml_RX7_80 z1_cW_7 rfl ⟨Nat.le_of_ble_eq_true rfl, Nat.le_of_ble_eq_true rfl⟩ rfl rfl (Nat.le_of_ble_eq_true rfl) dX7_readLiked_60 ?_
        show V K 63 [some (.ref 2), some (.ref v1), some (.int s0)] [.int r10] S11
        obtain ⟨k12, h⟩ := ck_some h
        cases h
        exact hR 63 _ ⟨_, rfl, isB_nar k12⟩ dX7_readLiked_63
  · have h := it_f hc h
    refine V_aload_n (pc := 23) C dX7_readLiked_23 rfl rfl ?_
    refine V_aload_n (pc := 24) C dX7_readLiked_24 rfl rfl ?_
    refine V_getF (p1 := 5) (pc := 25) C z1_cW_7 fl_RX7_18 rfl (zf_cW_7_2 z1_cW_7) dX7_readLiked_25 ?_
    refine V_aload_n (pc := 28) C dX7_readLiked_28 rfl rfl ?_
    refine V_getI (pc := 29) C z1_cW_7 fl_RX7_91 (by decide) dX7_readLiked_29 ?_
    obtain ⟨k13, h⟩ := ck_some h
    refine V_lald (pc := 32) C (za_cW_7_2 z1_cW_7) k13 dX7_readLiked_32 ?_
    obtain ⟨r14, er14, h⟩ := b1_some h
    refine V_callV (As := [.long (gL S 5 (ix (gI S 2 4)))]) (pc := 33) C (mX8_likes _ hv1 er14) zm_X8_likes zi_X8_likes ml_RX7_275 hv1 rfl ⟨Nat.le_of_ble_eq_true rfl, Nat.le_of_ble_eq_true rfl⟩ rfl rfl (Nat.le_of_ble_eq_true rfl) dX7_readLiked_33 ?_
    show V K 36 [some (.ref 2), some (.ref v1), some (.int s0)] [.int r14] S
    refine V_if_eq (tgt := 45) (pc := 36) C dX7_readLiked_36 (by decide) (fun hc => ?_) (fun hc => ?_)
    · have h := it_t hc h
      refine V_iload_n (pc := 45) C dX7_readLiked_45 rfl rfl ?_
      refine V_if_eq (tgt := 64) (pc := 46) C dX7_readLiked_46 (by decide) (fun hc => ?_) (fun hc => ?_)
      · have h := it_t hc h
        refine V_aload_n (pc := 64) C dX7_readLiked_64 rfl rfl ?_
        refine V_iconst (pc := 65) C dX7_readLiked_65 kc_i_0 ?_
        refine V_sipush (pc := 66) C dX7_readLiked_66 kc_s_999 ?_
        obtain ⟨r15, S16, er15, h⟩ := b2_some h
        refine V_callV (As := [.int (0 : Int32), .int (999 : Int32)]) (pc := 69) C (mX7_takeWhole _ er15) zm_X7_takeWhole zi_X7_takeWhole ml_RX7_158 z1_cW_7 rfl ⟨Nat.le_of_ble_eq_true rfl, Nat.le_of_ble_eq_true rfl⟩ rfl rfl (Nat.le_of_ble_eq_true rfl) dX7_readLiked_69 ?_
        show V K 72 [some (.ref 2), some (.ref v1), some (.int s0)] [.int r15] S16
        refine V_if_ne (tgt := 77) (pc := 72) C dX7_readLiked_72 (by decide) (fun hc => ?_) (fun hc => ?_)
        · have h := it_f hc h
          refine V_aload_n (pc := 77) C dX7_readLiked_77 rfl rfl ?_
          refine V_aload_n (pc := 78) C dX7_readLiked_78 rfl rfl ?_
          refine V_getI (pc := 79) C z1_cW_7 fl_RX7_155 (by decide) dX7_readLiked_79 ?_
          obtain ⟨S18, euS18, h⟩ := b1_some h
          refine V_callV (As := [.int (gI S16 2 5)]) (pc := 82) C (mX8_addLiked _ hv1 euS18) zm_X8_addLiked zi_X8_addLiked ml_RX7_281 hv1 rfl ⟨Nat.le_of_ble_eq_true rfl, Nat.le_of_ble_eq_true rfl⟩ rfl rfl (Nat.le_of_ble_eq_true rfl) dX7_readLiked_82 ?_
          show V K 85 [some (.ref 2), some (.ref v1), some (.int s0)] [] S18
          refine V_iconst (pc := 85) C dX7_readLiked_85 kc_i_1 ?_
          cases h
          exact hR 86 _ ⟨_, rfl, zB1⟩ dX7_readLiked_86
        · have h := it_t hc h
          refine V_iconst (pc := 75) C dX7_readLiked_75 kc_i_0 ?_
          cases h
          exact hR 76 _ ⟨_, rfl, zB0⟩ dX7_readLiked_76
      · have h := it_f hc h
        refine V_aload_n (pc := 49) C dX7_readLiked_49 rfl rfl ?_
        refine V_getI (pc := 50) C hv1 fl_RX7_278 (by decide) dX7_readLiked_50 ?_
        refine V_bipush (pc := 53) C dX7_readLiked_53 kc_b_6 ?_
        refine V_icmp_lt (tgt := 64) (pc := 55) C dX7_readLiked_55 (by decide) (fun hc => ?_) (fun hc => ?_)
        · have h := it_t hc h
          refine V_aload_n (pc := 64) C dX7_readLiked_64 rfl rfl ?_
          refine V_iconst (pc := 65) C dX7_readLiked_65 kc_i_0 ?_
          refine V_sipush (pc := 66) C dX7_readLiked_66 kc_s_999 ?_
          obtain ⟨r19, S20, er19, h⟩ := b2_some h
          refine V_callV (As := [.int (0 : Int32), .int (999 : Int32)]) (pc := 69) C (mX7_takeWhole _ er19) zm_X7_takeWhole zi_X7_takeWhole ml_RX7_158 z1_cW_7 rfl ⟨Nat.le_of_ble_eq_true rfl, Nat.le_of_ble_eq_true rfl⟩ rfl rfl (Nat.le_of_ble_eq_true rfl) dX7_readLiked_69 ?_
          show V K 72 [some (.ref 2), some (.ref v1), some (.int s0)] [.int r19] S20
          refine V_if_ne (tgt := 77) (pc := 72) C dX7_readLiked_72 (by decide) (fun hc => ?_) (fun hc => ?_)
          · have h := it_f hc h
            refine V_aload_n (pc := 77) C dX7_readLiked_77 rfl rfl ?_
            refine V_aload_n (pc := 78) C dX7_readLiked_78 rfl rfl ?_
            refine V_getI (pc := 79) C z1_cW_7 fl_RX7_155 (by decide) dX7_readLiked_79 ?_
            obtain ⟨S22, euS22, h⟩ := b1_some h
            refine V_callV (As := [.int (gI S20 2 5)]) (pc := 82) C (mX8_addLiked _ hv1 euS22) zm_X8_addLiked zi_X8_addLiked ml_RX7_281 hv1 rfl ⟨Nat.le_of_ble_eq_true rfl, Nat.le_of_ble_eq_true rfl⟩ rfl rfl (Nat.le_of_ble_eq_true rfl) dX7_readLiked_82 ?_
            show V K 85 [some (.ref 2), some (.ref v1), some (.int s0)] [] S22
            refine V_iconst (pc := 85) C dX7_readLiked_85 kc_i_1 ?_
            cases h
            exact hR 86 _ ⟨_, rfl, zB1⟩ dX7_readLiked_86
          · have h := it_t hc h
            refine V_iconst (pc := 75) C dX7_readLiked_75 kc_i_0 ?_
            cases h
            exact hR 76 _ ⟨_, rfl, zB0⟩ dX7_readLiked_76
        · have h := it_f hc h
          refine V_aload_n (pc := 58) C dX7_readLiked_58 rfl rfl ?_
          refine V_iconst (pc := 59) C dX7_readLiked_59 kc_i_5 ?_
          obtain ⟨r23, S24, er23, h⟩ := b2_some h
          refine V_callV (As := [.int (5 : Int32)]) (pc := 60) C (mX7_wrong _ er23) zm_X7_wrong zi_X7_wrong ml_RX7_80 z1_cW_7 rfl ⟨Nat.le_of_ble_eq_true rfl, Nat.le_of_ble_eq_true rfl⟩ rfl rfl (Nat.le_of_ble_eq_true rfl) dX7_readLiked_60 ?_
          show V K 63 [some (.ref 2), some (.ref v1), some (.int s0)] [.int r23] S24
          obtain ⟨k25, h⟩ := ck_some h
          cases h
          exact hR 63 _ ⟨_, rfl, isB_nar k25⟩ dX7_readLiked_63
    · have h := it_f hc h
      refine V_aload_n (pc := 39) C dX7_readLiked_39 rfl rfl ?_
      refine V_iconst (pc := 40) C dX7_readLiked_40 kc_i_3 ?_
      obtain ⟨r26, S27, er26, h⟩ := b2_some h
      refine V_callV (As := [.int (3 : Int32)]) (pc := 41) C (mX7_wrong _ er26) zm_X7_wrong zi_X7_wrong ml_RX7_80 z1_cW_7 rfl ⟨Nat.le_of_ble_eq_true rfl, Nat.le_of_ble_eq_true rfl⟩ rfl rfl (Nat.le_of_ble_eq_true rfl) dX7_readLiked_41 ?_
      show V K 44 [some (.ref 2), some (.ref v1), some (.int s0)] [.int r26] S27
      obtain ⟨k28, h⟩ := ck_some h
      cases h
      exact hR 44 _ ⟨_, rfl, isB_nar k28⟩ dX7_readLiked_44
set_option maxRecDepth 100000 in
theorem mX7_readLiked (l : Launch) {S : zM} {a1 : Nat} {r : Int32} {S' : zM} (ha1 : zob cW 8 a1) (h : gX7_readLiked S a1 = some (r, S')) : zMet l cW zS0 yX7_readLiked cX7_readLiked 3 (some .boolean) 2 43 [.ref 2, .ref a1] S (some (.int r)) S' := by
  refine zmeth (by decide +kernel) (by rfl) (fun K hKl C hR => ?_)
  show V K 0 [some (.ref 2), some (.ref a1), none] [] S
  unfold gX7_readLiked at h
  refine V_aload_n (pc := 0) C dX7_readLiked_0 rfl rfl ?_
  refine V_getF (p1 := 3) (pc := 1) C z1_cW_7 fl_RX7_9 rfl (zf_cW_7_0 z1_cW_7) dX7_readLiked_1 ?_
  refine V_aload_n (pc := 4) C dX7_readLiked_4 rfl rfl ?_
  refine V_getI (pc := 5) C z1_cW_7 fl_RX7_91 (by decide) dX7_readLiked_5 ?_
  obtain ⟨k1, h⟩ := ck_some h
  refine V_iald (pc := 8) C (za_cW_7_0 z1_cW_7) k1 dX7_readLiked_8 ?_
  refine V_iconst (pc := 9) C dX7_readLiked_9 kc_i_2 ?_
  refine V_icmp_ne (tgt := 17) (pc := 10) C dX7_readLiked_10 (by decide) (fun hc => ?_) (fun hc => ?_)
  · have h := it_f hc h
    refine V_iconst (pc := 17) C dX7_readLiked_17 kc_i_0 ?_
    exact V_mask [true, true, false] (mX7_readLiked_J18 C ha1 hR h)
  · have h := it_t hc h
    refine V_iconst (pc := 13) C dX7_readLiked_13 kc_i_1 ?_
    refine V_goto (tgt := 18) (pc := 14) C dX7_readLiked_14 (by decide) ?_
    exact V_mask [true, true, false] (mX7_readLiked_J18 C ha1 hR h)
set_option maxRecDepth 100000 in
theorem mX7_readLikes_L41 {K : zK} (C : zC K cX7_readLikes yX7_readLikes.cls 4 8 215 cW) {v1 : Nat} (hv1 : zob cW 8 v1) : ∀ (f : Nat) (S : zM) (v2 : Int32) (v3 : Int32) (r : Int32) (S' : zM), gX7_readLikes_L41 v1 f S v2 v3 = some (r, S') → zR K cX7_readLikes (some .boolean) S' (some (.int r)) → V K 41 [some (.ref 2), some (.ref v1), some (.int v2), some (.int v3)] [] S := by
  intro f
  induction f with
  | zero => intro S v2 v3 r S' h hR; cases h
  | succ n ih =>
    intro S v2 v3 r S' h hR
    unfold gX7_readLikes_L41 at h
    refine V_iload_n (pc := 41) C dX7_readLikes_41 rfl rfl ?_
    refine V_aload_n (pc := 42) C dX7_readLikes_42 rfl rfl ?_
    refine V_getI (pc := 43) C z1_cW_7 fl_RX7_52 (by decide) dX7_readLikes_43 ?_
    refine V_icmp_ge (tgt := 78) (pc := 46) C dX7_readLikes_46 (by decide) (fun hc => ?_) (fun hc => ?_)
    · have h := it_t hc h
      refine V_iload_n (pc := 78) C dX7_readLikes_78 rfl rfl ?_
      obtain ⟨k7, h⟩ := ck_some h
      cases h
      exact hR 79 _ ⟨_, rfl, isB_nar k7⟩ dX7_readLikes_79
    · have h := it_f hc h
      refine V_iload_n (pc := 49) C dX7_readLikes_49 rfl rfl ?_
      refine V_if_eq (tgt := 78) (pc := 50) C dX7_readLikes_50 (by decide) (fun hc => ?_) (fun hc => ?_)
      · have h := it_t hc h
        refine V_iload_n (pc := 78) C dX7_readLikes_78 rfl rfl ?_
        obtain ⟨k8, h⟩ := ck_some h
        cases h
        exact hR 79 _ ⟨_, rfl, isB_nar k8⟩ dX7_readLikes_79
      · have h := it_f hc h
        refine V_aload_n (pc := 53) C dX7_readLikes_53 rfl rfl ?_
        refine V_bipush (pc := 54) C dX7_readLikes_54 kc_b_44 ?_
        obtain ⟨r9, er9, h⟩ := b1_some h
        refine V_callV (As := [.int (44 : Int32)]) (pc := 56) C (mX7_isMark _ er9) zm_X7_isMark zi_X7_isMark ml_RX7_84 z1_cW_7 rfl ⟨Nat.le_of_ble_eq_true rfl, Nat.le_of_ble_eq_true rfl⟩ rfl rfl (Nat.le_of_ble_eq_true rfl) dX7_readLikes_56 ?_
        show V K 59 [some (.ref 2), some (.ref v1), some (.int v2), some (.int v3)] [.int r9] S
        refine V_if_eq (tgt := 78) (pc := 59) C dX7_readLikes_59 (by decide) (fun hc => ?_) (fun hc => ?_)
        · have h := it_t hc h
          refine V_iload_n (pc := 78) C dX7_readLikes_78 rfl rfl ?_
          obtain ⟨k10, h⟩ := ck_some h
          cases h
          exact hR 79 _ ⟨_, rfl, isB_nar k10⟩ dX7_readLikes_79
        · have h := it_f hc h
          refine V_aload_n (pc := 62) C dX7_readLikes_62 rfl rfl ?_
          obtain ⟨S12, euS12, h⟩ := b1_some h
          refine V_callV (As := []) (pc := 63) C (mX7_step _ euS12) zm_X7_step zi_X7_step ml_RX7_88 z1_cW_7 rfl ⟨Nat.le_of_ble_eq_true rfl, Nat.le_of_ble_eq_true rfl⟩ rfl rfl (Nat.le_of_ble_eq_true rfl) dX7_readLikes_63 ?_
          show V K 66 [some (.ref 2), some (.ref v1), some (.int v2), some (.int v3)] [] S12
          refine V_aload_n (pc := 66) C dX7_readLikes_66 rfl rfl ?_
          refine V_aload_n (pc := 67) C dX7_readLikes_67 rfl rfl ?_
          obtain ⟨r13, S14, er13, h⟩ := b2_some h
          refine V_callV (As := [.ref v1]) (pc := 68) C (mX7_readLiked _ hv1 er13) zm_X7_readLiked zi_X7_readLiked ml_RX7_272 z1_cW_7 rfl ⟨Nat.le_of_ble_eq_true rfl, Nat.le_of_ble_eq_true rfl⟩ rfl rfl (Nat.le_of_ble_eq_true rfl) dX7_readLikes_68 ?_
          show V K 71 [some (.ref 2), some (.ref v1), some (.int v2), some (.int v3)] [.int r13] S14
          refine V_istore_n (L' := [some (.ref 2), some (.ref v1), some (.int r13), some (.int v3)]) (pc := 71) C dX7_readLikes_71 rfl (by decide) rfl ?_
          refine V_iinc (L' := [some (.ref 2), some (.ref v1), some (.int r13), some (.int (v3 + (1 : Int32)))]) (v := (v3 + (1 : Int32))) (pc := 72) C dX7_readLikes_72 rfl (congrArg (v3 + ·) kc_i_1) (by decide) rfl ?_
          refine V_goto (tgt := 41) (pc := 75) C dX7_readLikes_75 (by decide) ?_
          exact V_mask [true, true, true, true] (ih _ _ _ _ _ h hR)
set_option maxRecDepth 100000 in
theorem mX7_readLikes_J18 {K : zK} (C : zC K cX7_readLikes yX7_readLikes.cls 4 8 215 cW) {S : zM} {v1 : Nat} {r : Int32} {S' : zM} (hv1 : zob cW 8 v1) (hR : zR K cX7_readLikes (some .boolean) S' (some (.int r))) (h : gX7_readLikes_J18 S v1 = some (r, S')) : V K 18 [some (.ref 2), some (.ref v1), none, none] [] S := by
  unfold gX7_readLikes_J18 at h
  refine V_aload_n (pc := 18) C dX7_readLikes_18 rfl rfl ?_
  refine V_ldcS (j := 10) (pc := 19) C dX7_readLikes_19 rfl ?_
  obtain ⟨r17, er17, h⟩ := b1_some h
  refine V_callV (As := [.ref 10010]) (pc := 21) C (mX7_isWord _ zq_10 er17) zm_X7_isWord zi_X7_isWord ml_RX7_57 z1_cW_7 rfl ⟨Nat.le_of_ble_eq_true rfl, Nat.le_of_ble_eq_true rfl⟩ rfl rfl (Nat.le_of_ble_eq_true rfl) dX7_readLikes_21 ?_
  show V K 24 [some (.ref 2), some (.ref v1), none, none] [.int r17] S
  refine V_if_ne (tgt := 29) (pc := 24) C dX7_readLikes_24 (by decide) (fun hc => ?_) (fun hc => ?_)
  · have h := it_f hc h
    refine V_aload_n (pc := 29) C dX7_readLikes_29 rfl rfl ?_
    obtain ⟨S19, euS19, h⟩ := b1_some h
    refine V_callV (As := []) (pc := 30) C (mX7_step _ euS19) zm_X7_step zi_X7_step ml_RX7_88 z1_cW_7 rfl ⟨Nat.le_of_ble_eq_true rfl, Nat.le_of_ble_eq_true rfl⟩ rfl rfl (Nat.le_of_ble_eq_true rfl) dX7_readLikes_30 ?_
    show V K 33 [some (.ref 2), some (.ref v1), none, none] [] S19
    refine V_aload_n (pc := 33) C dX7_readLikes_33 rfl rfl ?_
    refine V_aload_n (pc := 34) C dX7_readLikes_34 rfl rfl ?_
    obtain ⟨r20, S21, er20, h⟩ := b2_some h
    refine V_callV (As := [.ref v1]) (pc := 35) C (mX7_readLiked _ hv1 er20) zm_X7_readLiked zi_X7_readLiked ml_RX7_272 z1_cW_7 rfl ⟨Nat.le_of_ble_eq_true rfl, Nat.le_of_ble_eq_true rfl⟩ rfl rfl (Nat.le_of_ble_eq_true rfl) dX7_readLikes_35 ?_
    show V K 38 [some (.ref 2), some (.ref v1), none, none] [.int r20] S21
    refine V_istore_n (L' := [some (.ref 2), some (.ref v1), some (.int r20), none]) (pc := 38) C dX7_readLikes_38 rfl (by decide) rfl ?_
    refine V_iconst (pc := 39) C dX7_readLikes_39 kc_i_0 ?_
    refine V_istore_n (L' := [some (.ref 2), some (.ref v1), some (.int r20), some (.int (0 : Int32))]) (pc := 40) C dX7_readLikes_40 rfl (by decide) rfl ?_
    exact V_mask [true, true, true, true] (mX7_readLikes_L41 C hv1 FU _ _ _ _ _ h hR)
  · have h := it_t hc h
    refine V_iconst (pc := 27) C dX7_readLikes_27 kc_i_1 ?_
    cases h
    exact hR 28 _ ⟨_, rfl, zB1⟩ dX7_readLikes_28
set_option maxRecDepth 100000 in
theorem mX7_readLikes (l : Launch) {S : zM} {a1 : Nat} {r : Int32} {S' : zM} (ha1 : zob cW 8 a1) (h : gX7_readLikes S a1 = some (r, S')) : zMet l cW zS0 yX7_readLikes cX7_readLikes 4 (some .boolean) 8 215 [.ref 2, .ref a1] S (some (.int r)) S' := by
  refine zmeth (by decide +kernel) (by rfl) (fun K hKl C hR => ?_)
  show V K 0 [some (.ref 2), some (.ref a1), none, none] [] S
  unfold gX7_readLikes at h
  refine V_aload_n (pc := 0) C dX7_readLikes_0 rfl rfl ?_
  refine V_ldcS (j := 11) (pc := 1) C dX7_readLikes_1 rfl ?_
  obtain ⟨r1, er1, h⟩ := b1_some h
  refine V_callV (As := [.ref 10011]) (pc := 3) C (mX7_isWord _ zq_11 er1) zm_X7_isWord zi_X7_isWord ml_RX7_57 z1_cW_7 rfl ⟨Nat.le_of_ble_eq_true rfl, Nat.le_of_ble_eq_true rfl⟩ rfl rfl (Nat.le_of_ble_eq_true rfl) dX7_readLikes_3 ?_
  show V K 6 [some (.ref 2), some (.ref a1), none, none] [.int r1] S
  refine V_if_eq (tgt := 18) (pc := 6) C dX7_readLikes_6 (by decide) (fun hc => ?_) (fun hc => ?_)
  · have h := it_t hc h
    refine V_aload_n (pc := 18) C dX7_readLikes_18 rfl rfl ?_
    refine V_ldcS (j := 10) (pc := 19) C dX7_readLikes_19 rfl ?_
    obtain ⟨r2, er2, h⟩ := b1_some h
    refine V_callV (As := [.ref 10010]) (pc := 21) C (mX7_isWord _ zq_10 er2) zm_X7_isWord zi_X7_isWord ml_RX7_57 z1_cW_7 rfl ⟨Nat.le_of_ble_eq_true rfl, Nat.le_of_ble_eq_true rfl⟩ rfl rfl (Nat.le_of_ble_eq_true rfl) dX7_readLikes_21 ?_
    show V K 24 [some (.ref 2), some (.ref a1), none, none] [.int r2] S
    refine V_if_ne (tgt := 29) (pc := 24) C dX7_readLikes_24 (by decide) (fun hc => ?_) (fun hc => ?_)
    · have h := it_f hc h
      refine V_aload_n (pc := 29) C dX7_readLikes_29 rfl rfl ?_
      obtain ⟨S4, euS4, h⟩ := b1_some h
      refine V_callV (As := []) (pc := 30) C (mX7_step _ euS4) zm_X7_step zi_X7_step ml_RX7_88 z1_cW_7 rfl ⟨Nat.le_of_ble_eq_true rfl, Nat.le_of_ble_eq_true rfl⟩ rfl rfl (Nat.le_of_ble_eq_true rfl) dX7_readLikes_30 ?_
      show V K 33 [some (.ref 2), some (.ref a1), none, none] [] S4
      refine V_aload_n (pc := 33) C dX7_readLikes_33 rfl rfl ?_
      refine V_aload_n (pc := 34) C dX7_readLikes_34 rfl rfl ?_
      obtain ⟨r5, S6, er5, h⟩ := b2_some h
      refine V_callV (As := [.ref a1]) (pc := 35) C (mX7_readLiked _ ha1 er5) zm_X7_readLiked zi_X7_readLiked ml_RX7_272 z1_cW_7 rfl ⟨Nat.le_of_ble_eq_true rfl, Nat.le_of_ble_eq_true rfl⟩ rfl rfl (Nat.le_of_ble_eq_true rfl) dX7_readLikes_35 ?_
      show V K 38 [some (.ref 2), some (.ref a1), none, none] [.int r5] S6
      refine V_istore_n (L' := [some (.ref 2), some (.ref a1), some (.int r5), none]) (pc := 38) C dX7_readLikes_38 rfl (by decide) rfl ?_
      refine V_iconst (pc := 39) C dX7_readLikes_39 kc_i_0 ?_
      refine V_istore_n (L' := [some (.ref 2), some (.ref a1), some (.int r5), some (.int (0 : Int32))]) (pc := 40) C dX7_readLikes_40 rfl (by decide) rfl ?_
      exact V_mask [true, true, true, true] (mX7_readLikes_L41 C ha1 FU _ _ _ _ _ h hR)
    · have h := it_t hc h
      refine V_iconst (pc := 27) C dX7_readLikes_27 kc_i_1 ?_
      cases h
      exact hR 28 _ ⟨_, rfl, zB1⟩ dX7_readLikes_28
  · have h := it_f hc h
    refine V_aload_n (pc := 9) C dX7_readLikes_9 rfl rfl ?_
    obtain ⟨S16, euS16, h⟩ := b1_some h
    refine V_callV (As := []) (pc := 10) C (mX7_step _ euS16) zm_X7_step zi_X7_step ml_RX7_88 z1_cW_7 rfl ⟨Nat.le_of_ble_eq_true rfl, Nat.le_of_ble_eq_true rfl⟩ rfl rfl (Nat.le_of_ble_eq_true rfl) dX7_readLikes_10 ?_
    show V K 13 [some (.ref 2), some (.ref a1), none, none] [] S16
    refine V_aload_n (pc := 13) C dX7_readLikes_13 rfl rfl ?_
    refine V_iconst (pc := 14) C dX7_readLikes_14 kc_i_1 ?_
    refine V_putZ (pc := 15) C ha1 fp_RX7_269 rfl rfl (by decide) dX7_readLikes_15 ?_
    exact V_mask [true, true, false, false] (mX7_readLikes_J18 C ha1 hR h)
set_option maxRecDepth 100000 in
theorem mX7_readSayer (l : Launch) {S : zM}  {r : Int32} {S' : zM}  (h : gX7_readSayer S = some (r, S')) : zMet l cW zS0 yX7_readSayer cX7_readSayer 2 (some .boolean) 10 258 [.ref 2] S (some (.int r)) S' := by
  refine zmeth (by decide +kernel) (by rfl) (fun K hKl C hR => ?_)
  show V K 0 [some (.ref 2), none] [] S
  unfold gX7_readSayer at h
  refine V_aload_n (pc := 0) C dX7_readSayer_0 rfl rfl ?_
  obtain ⟨k1, h⟩ := ck_some h
  refine V_getR (pc := 1) C z1_cW_7 fl_RX7_25 rfl dX7_readSayer_1 ?_
  refine V_getI (pc := 4) C (zob_of k1) fl_RX7_225 (by decide) dX7_readSayer_4 ?_
  refine V_bipush (pc := 7) C dX7_readSayer_7 kc_b_6 ?_
  refine V_icmp_lt (tgt := 18) (pc := 9) C dX7_readSayer_9 (by decide) (fun hc => ?_) (fun hc => ?_)
  · have h := it_t hc h
    refine V_aload_n (pc := 18) C dX7_readSayer_18 rfl rfl ?_
    obtain ⟨S3, euS3, h⟩ := b1_some h
    refine V_callV (As := []) (pc := 19) C (mX7_step _ euS3) zm_X7_step zi_X7_step ml_RX7_88 z1_cW_7 rfl ⟨Nat.le_of_ble_eq_true rfl, Nat.le_of_ble_eq_true rfl⟩ rfl rfl (Nat.le_of_ble_eq_true rfl) dX7_readSayer_19 ?_
    show V K 22 [some (.ref 2), none] [] S3
    refine V_aload_n (pc := 22) C dX7_readSayer_22 rfl rfl ?_
    obtain ⟨k4, h⟩ := ck_some h
    refine V_getR (pc := 23) C z1_cW_7 fl_RX7_25 rfl dX7_readSayer_23 ?_
    refine V_getF (p1 := ((gR S3 2 6) + 2)) (pc := 26) C (zob_of k4) fl_RX7_228 rfl (zf_cW_3_1 (zob_of k4)) dX7_readSayer_26 ?_
    refine V_aload_n (pc := 29) C dX7_readSayer_29 rfl rfl ?_
    obtain ⟨k5, h⟩ := ck_some h
    refine V_getR (pc := 30) C z1_cW_7 fl_RX7_25 rfl dX7_readSayer_30 ?_
    refine V_getI (pc := 33) C (zob_of k5) fl_RX7_225 (by decide) dX7_readSayer_33 ?_
    obtain ⟨k6, h⟩ := ck_some h
    refine V_aald (p1 := ((gR S3 2 6) + 193 + 2 * ix (gI S3 (gR S3 2 6) 7))) (pc := 36) C (za_cW_3_1 (zob_of k4)) (fun _ => rfl) k6 (ze_cW_3_1 (zob_of k4) k6) dX7_readSayer_36 ?_
    refine V_astore_n (L' := [some (.ref 2), some (.ref ((gR S3 2 6) + 193 + 2 * ix (gI S3 (gR S3 2 6) 7)))]) (pc := 37) C dX7_readSayer_37 rfl (by decide) rfl ?_
    refine V_aload_n (pc := 38) C dX7_readSayer_38 rfl rfl ?_
    obtain ⟨S8, euS8, h⟩ := b1_some h
    refine V_callV (As := []) (pc := 39) C (mX8_empty _ (zx_cW_3_1 (zob_of k4) k6) euS8) zm_X8_empty zi_X8_empty ml_RX7_232 (zx_cW_3_1 (zob_of k4) k6) rfl ⟨Nat.le_of_ble_eq_true rfl, Nat.le_of_ble_eq_true rfl⟩ rfl rfl (Nat.le_of_ble_eq_true rfl) dX7_readSayer_39 ?_
    show V K 42 [some (.ref 2), some (.ref ((gR S3 2 6) + 193 + 2 * ix (gI S3 (gR S3 2 6) 7)))] [] S8
    refine V_aload_n (pc := 42) C dX7_readSayer_42 rfl rfl ?_
    obtain ⟨k9, h⟩ := ck_some h
    refine V_getR (pc := 43) C z1_cW_7 fl_RX7_25 rfl dX7_readSayer_43 ?_
    refine V_dup (pc := 46) C dX7_readSayer_46 rfl ?_
    refine V_getI (pc := 47) C (zob_of k9) fl_RX7_225 (by decide) dX7_readSayer_47 ?_
    refine V_iconst (pc := 50) C dX7_readSayer_50 kc_i_1 ?_
    refine V_iadd (pc := 51) C dX7_readSayer_51 ?_
    refine V_putI (pc := 52) C (zob_of k9) fp_RX7_225 rfl rfl dX7_readSayer_52 ?_
    refine V_aload_n (pc := 55) C dX7_readSayer_55 rfl rfl ?_
    refine V_iconst (pc := 56) C dX7_readSayer_56 kc_i_m1 ?_
    obtain ⟨r10, S11, er10, h⟩ := b2_some h
    refine V_callV (As := [.int (-1 : Int32)]) (pc := 57) C (mX7_takeNewName _ er10) zm_X7_takeNewName zi_X7_takeNewName ml_RX7_180 z1_cW_7 rfl ⟨Nat.le_of_ble_eq_true rfl, Nat.le_of_ble_eq_true rfl⟩ rfl rfl (Nat.le_of_ble_eq_true rfl) dX7_readSayer_57 ?_
    show V K 60 [some (.ref 2), some (.ref ((gR S3 2 6) + 193 + 2 * ix (gI S3 (gR S3 2 6) 7)))] [.int r10] S11
    refine V_if_eq (tgt := 79) (pc := 60) C dX7_readSayer_60 (by decide) (fun hc => ?_) (fun hc => ?_)
    · have h := it_t hc h
      refine V_iconst (pc := 79) C dX7_readSayer_79 kc_i_0 ?_
      cases h
      exact hR 80 _ ⟨_, rfl, zB0⟩ dX7_readSayer_80
    · have h := it_f hc h
      refine V_aload_n (pc := 63) C dX7_readSayer_63 rfl rfl ?_
      refine V_ldcS (j := 15) (pc := 64) C dX7_readSayer_64 rfl ?_
      obtain ⟨r12, S13, er12, h⟩ := b2_some h
      refine V_callV (As := [.ref 10015]) (pc := 66) C (mX7_takeWord _ zq_15 er12) zm_X7_takeWord zi_X7_takeWord ml_RX7_187 z1_cW_7 rfl ⟨Nat.le_of_ble_eq_true rfl, Nat.le_of_ble_eq_true rfl⟩ rfl rfl (Nat.le_of_ble_eq_true rfl) dX7_readSayer_66 ?_
      show V K 69 [some (.ref 2), some (.ref ((gR S3 2 6) + 193 + 2 * ix (gI S3 (gR S3 2 6) 7)))] [.int r12] S13
      refine V_if_eq (tgt := 79) (pc := 69) C dX7_readSayer_69 (by decide) (fun hc => ?_) (fun hc => ?_)
      · have h := it_t hc h
        refine V_iconst (pc := 79) C dX7_readSayer_79 kc_i_0 ?_
        cases h
        exact hR 80 _ ⟨_, rfl, zB0⟩ dX7_readSayer_80
      · have h := it_f hc h
        refine V_aload_n (pc := 72) C dX7_readSayer_72 rfl rfl ?_
        obtain ⟨r14, S15, er14, h⟩ := b2_some h
        refine V_callV (As := []) (pc := 73) C (mX7_takeSenseName _ er14) zm_X7_takeSenseName zi_X7_takeSenseName ml_RX7_237 z1_cW_7 rfl ⟨Nat.le_of_ble_eq_true rfl, Nat.le_of_ble_eq_true rfl⟩ rfl rfl (Nat.le_of_ble_eq_true rfl) dX7_readSayer_73 ?_
        show V K 76 [some (.ref 2), some (.ref ((gR S3 2 6) + 193 + 2 * ix (gI S3 (gR S3 2 6) 7)))] [.int r14] S15
        refine V_if_ne (tgt := 81) (pc := 76) C dX7_readSayer_76 (by decide) (fun hc => ?_) (fun hc => ?_)
        · have h := it_f hc h
          refine V_aload_n (pc := 81) C dX7_readSayer_81 rfl rfl ?_
          refine V_aload_n (pc := 82) C dX7_readSayer_82 rfl rfl ?_
          refine V_getI (pc := 83) C z1_cW_7 fl_RX7_155 (by decide) dX7_readSayer_83 ?_
          refine V_putI (pc := 86) C (zx_cW_3_1 (zob_of k4) k6) fp_RX7_240 rfl rfl dX7_readSayer_86 ?_
          refine V_aload_n (pc := 89) C dX7_readSayer_89 rfl rfl ?_
          refine V_aload_n (pc := 90) C dX7_readSayer_90 rfl rfl ?_
          obtain ⟨r16, S17, er16, h⟩ := b2_some h
          refine V_callV (As := [.ref ((gR S3 2 6) + 193 + 2 * ix (gI S3 (gR S3 2 6) 7))]) (pc := 91) C (mX7_readLines _ (zx_cW_3_1 (zob_of k4) k6) er16) zm_X7_readLines zi_X7_readLines ml_RX7_242 z1_cW_7 rfl ⟨Nat.le_of_ble_eq_true rfl, Nat.le_of_ble_eq_true rfl⟩ rfl rfl (Nat.le_of_ble_eq_true rfl) dX7_readSayer_91 ?_
          show V K 94 [some (.ref 2), some (.ref ((gR S3 2 6) + 193 + 2 * ix (gI S3 (gR S3 2 6) 7)))] [.int r16] S17
          refine V_if_eq (tgt := 117) (pc := 94) C dX7_readSayer_94 (by decide) (fun hc => ?_) (fun hc => ?_)
          · have h := it_t hc h
            refine V_iconst (pc := 117) C dX7_readSayer_117 kc_i_0 ?_
            cases h
            exact hR 118 _ ⟨_, rfl, zB0⟩ dX7_readSayer_118
          · have h := it_f hc h
            refine V_aload_n (pc := 97) C dX7_readSayer_97 rfl rfl ?_
            refine V_aload_n (pc := 98) C dX7_readSayer_98 rfl rfl ?_
            obtain ⟨r18, S19, er18, h⟩ := b2_some h
            refine V_callV (As := [.ref ((gR S3 2 6) + 193 + 2 * ix (gI S3 (gR S3 2 6) 7))]) (pc := 99) C (mX7_readYears _ (zx_cW_3_1 (zob_of k4) k6) er18) zm_X7_readYears zi_X7_readYears ml_RX7_246 z1_cW_7 rfl ⟨Nat.le_of_ble_eq_true rfl, Nat.le_of_ble_eq_true rfl⟩ rfl rfl (Nat.le_of_ble_eq_true rfl) dX7_readSayer_99 ?_
            show V K 102 [some (.ref 2), some (.ref ((gR S3 2 6) + 193 + 2 * ix (gI S3 (gR S3 2 6) 7)))] [.int r18] S19
            refine V_if_eq (tgt := 117) (pc := 102) C dX7_readSayer_102 (by decide) (fun hc => ?_) (fun hc => ?_)
            · have h := it_t hc h
              refine V_iconst (pc := 117) C dX7_readSayer_117 kc_i_0 ?_
              cases h
              exact hR 118 _ ⟨_, rfl, zB0⟩ dX7_readSayer_118
            · have h := it_f hc h
              refine V_aload_n (pc := 105) C dX7_readSayer_105 rfl rfl ?_
              refine V_aload_n (pc := 106) C dX7_readSayer_106 rfl rfl ?_
              obtain ⟨r20, S21, er20, h⟩ := b2_some h
              refine V_callV (As := [.ref ((gR S3 2 6) + 193 + 2 * ix (gI S3 (gR S3 2 6) 7))]) (pc := 107) C (mX7_readLikes _ (zx_cW_3_1 (zob_of k4) k6) er20) zm_X7_readLikes zi_X7_readLikes ml_RX7_249 z1_cW_7 rfl ⟨Nat.le_of_ble_eq_true rfl, Nat.le_of_ble_eq_true rfl⟩ rfl rfl (Nat.le_of_ble_eq_true rfl) dX7_readSayer_107 ?_
              show V K 110 [some (.ref 2), some (.ref ((gR S3 2 6) + 193 + 2 * ix (gI S3 (gR S3 2 6) 7)))] [.int r20] S21
              refine V_if_eq (tgt := 117) (pc := 110) C dX7_readSayer_110 (by decide) (fun hc => ?_) (fun hc => ?_)
              · have h := it_t hc h
                refine V_iconst (pc := 117) C dX7_readSayer_117 kc_i_0 ?_
                cases h
                exact hR 118 _ ⟨_, rfl, zB0⟩ dX7_readSayer_118
              · have h := it_f hc h
                refine V_iconst (pc := 113) C dX7_readSayer_113 kc_i_1 ?_
                refine V_goto (tgt := 118) (pc := 114) C dX7_readSayer_114 (by decide) ?_
                cases h
                exact hR 118 _ ⟨_, rfl, zB1⟩ dX7_readSayer_118
        · have h := it_t hc h
          refine V_iconst (pc := 79) C dX7_readSayer_79 kc_i_0 ?_
          cases h
          exact hR 80 _ ⟨_, rfl, zB0⟩ dX7_readSayer_80
  · have h := it_f hc h
    refine V_aload_n (pc := 12) C dX7_readSayer_12 rfl rfl ?_
    refine V_iconst (pc := 13) C dX7_readSayer_13 kc_i_5 ?_
    obtain ⟨r22, S23, er22, h⟩ := b2_some h
    refine V_callV (As := [.int (5 : Int32)]) (pc := 14) C (mX7_wrong _ er22) zm_X7_wrong zi_X7_wrong ml_RX7_80 z1_cW_7 rfl ⟨Nat.le_of_ble_eq_true rfl, Nat.le_of_ble_eq_true rfl⟩ rfl rfl (Nat.le_of_ble_eq_true rfl) dX7_readSayer_14 ?_
    show V K 17 [some (.ref 2), none] [.int r22] S23
    obtain ⟨k24, h⟩ := ck_some h
    cases h
    exact hR 17 _ ⟨_, rfl, isB_nar k24⟩ dX7_readSayer_17
set_option maxRecDepth 100000 in
theorem mX7_readSizes (l : Launch) {S : zM} {a1 : Nat} {r : Int32} {S' : zM} (ha1 : zob cW 6 a1) (h : gX7_readSizes S a1 = some (r, S')) : zMet l cW zS0 yX7_readSizes cX7_readSizes 3 (some .boolean) 9 236 [.ref 2, .ref a1] S (some (.int r)) S' := by
  refine zmeth (by decide +kernel) (by rfl) (fun K hKl C hR => ?_)
  show V K 0 [some (.ref 2), some (.ref a1), none] [] S
  unfold gX7_readSizes at h
  refine V_aload_n (pc := 0) C dX7_readSizes_0 rfl rfl ?_
  refine V_iconst (pc := 1) C dX7_readSizes_1 kc_i_1 ?_
  refine V_sipush (pc := 2) C dX7_readSizes_2 kc_s_400 ?_
  obtain ⟨r1, S2, er1, h⟩ := b2_some h
  refine V_callV (As := [.int (1 : Int32), .int (400 : Int32)]) (pc := 5) C (mX7_takeWhole _ er1) zm_X7_takeWhole zi_X7_takeWhole ml_RX7_158 z1_cW_7 rfl ⟨Nat.le_of_ble_eq_true rfl, Nat.le_of_ble_eq_true rfl⟩ rfl rfl (Nat.le_of_ble_eq_true rfl) dX7_readSizes_5 ?_
  show V K 8 [some (.ref 2), some (.ref a1), none] [.int r1] S2
  refine V_if_ne (tgt := 13) (pc := 8) C dX7_readSizes_8 (by decide) (fun hc => ?_) (fun hc => ?_)
  · have h := it_f hc h
    refine V_aload_n (pc := 13) C dX7_readSizes_13 rfl rfl ?_
    refine V_aload_n (pc := 14) C dX7_readSizes_14 rfl rfl ?_
    refine V_getI (pc := 15) C z1_cW_7 fl_RX7_155 (by decide) dX7_readSizes_15 ?_
    refine V_putI (pc := 18) C ha1 fp_RX7_306 rfl rfl dX7_readSizes_18 ?_
    refine V_aload_n (pc := 21) C dX7_readSizes_21 rfl rfl ?_
    refine V_ldcS (j := 8) (pc := 22) C dX7_readSizes_22 rfl ?_
    obtain ⟨r3, S4, er3, h⟩ := b2_some h
    refine V_callV (As := [.ref 10008]) (pc := 24) C (mX7_takeWord _ zq_8 er3) zm_X7_takeWord zi_X7_takeWord ml_RX7_187 z1_cW_7 rfl ⟨Nat.le_of_ble_eq_true rfl, Nat.le_of_ble_eq_true rfl⟩ rfl rfl (Nat.le_of_ble_eq_true rfl) dX7_readSizes_24 ?_
    show V K 27 [some (.ref 2), some (.ref a1), none] [.int r3] S4
    refine V_if_eq (tgt := 44) (pc := 27) C dX7_readSizes_27 (by decide) (fun hc => ?_) (fun hc => ?_)
    · have h := it_t hc h
      refine V_iconst (pc := 44) C dX7_readSizes_44 kc_i_0 ?_
      cases h
      exact hR 45 _ ⟨_, rfl, zB0⟩ dX7_readSizes_45
    · have h := it_f hc h
      refine V_aload_n (pc := 30) C dX7_readSizes_30 rfl rfl ?_
      refine V_aload_n (pc := 31) C dX7_readSizes_31 rfl rfl ?_
      refine V_getI (pc := 32) C ha1 fl_RX7_306 (by decide) dX7_readSizes_32 ?_
      refine V_sipush (pc := 35) C dX7_readSizes_35 kc_s_400 ?_
      obtain ⟨r5, S6, er5, h⟩ := b2_some h
      refine V_callV (As := [.int (gI S4 a1 1), .int (400 : Int32)]) (pc := 38) C (mX7_takeWhole _ er5) zm_X7_takeWhole zi_X7_takeWhole ml_RX7_158 z1_cW_7 rfl ⟨Nat.le_of_ble_eq_true rfl, Nat.le_of_ble_eq_true rfl⟩ rfl rfl (Nat.le_of_ble_eq_true rfl) dX7_readSizes_38 ?_
      show V K 41 [some (.ref 2), some (.ref a1), none] [.int r5] S6
      refine V_if_ne (tgt := 46) (pc := 41) C dX7_readSizes_41 (by decide) (fun hc => ?_) (fun hc => ?_)
      · have h := it_f hc h
        refine V_aload_n (pc := 46) C dX7_readSizes_46 rfl rfl ?_
        refine V_aload_n (pc := 47) C dX7_readSizes_47 rfl rfl ?_
        refine V_getI (pc := 48) C z1_cW_7 fl_RX7_155 (by decide) dX7_readSizes_48 ?_
        refine V_putI (pc := 51) C ha1 fp_RX7_309 rfl rfl dX7_readSizes_51 ?_
        refine V_aload_n (pc := 54) C dX7_readSizes_54 rfl rfl ?_
        refine V_ldcS (j := 9) (pc := 55) C dX7_readSizes_55 rfl ?_
        obtain ⟨r7, S8, er7, h⟩ := b2_some h
        refine V_callV (As := [.ref 10009]) (pc := 57) C (mX7_takeWord _ zq_9 er7) zm_X7_takeWord zi_X7_takeWord ml_RX7_187 z1_cW_7 rfl ⟨Nat.le_of_ble_eq_true rfl, Nat.le_of_ble_eq_true rfl⟩ rfl rfl (Nat.le_of_ble_eq_true rfl) dX7_readSizes_57 ?_
        show V K 60 [some (.ref 2), some (.ref a1), none] [.int r7] S8
        refine V_if_eq (tgt := 74) (pc := 60) C dX7_readSizes_60 (by decide) (fun hc => ?_) (fun hc => ?_)
        · have h := it_t hc h
          refine V_iconst (pc := 74) C dX7_readSizes_74 kc_i_0 ?_
          cases h
          exact hR 75 _ ⟨_, rfl, zB0⟩ dX7_readSizes_75
        · have h := it_f hc h
          refine V_aload_n (pc := 63) C dX7_readSizes_63 rfl rfl ?_
          refine V_iconst (pc := 64) C dX7_readSizes_64 kc_i_1 ?_
          refine V_sipush (pc := 65) C dX7_readSizes_65 kc_s_400 ?_
          obtain ⟨r9, S10, er9, h⟩ := b2_some h
          refine V_callV (As := [.int (1 : Int32), .int (400 : Int32)]) (pc := 68) C (mX7_takeWhole _ er9) zm_X7_takeWhole zi_X7_takeWhole ml_RX7_158 z1_cW_7 rfl ⟨Nat.le_of_ble_eq_true rfl, Nat.le_of_ble_eq_true rfl⟩ rfl rfl (Nat.le_of_ble_eq_true rfl) dX7_readSizes_68 ?_
          show V K 71 [some (.ref 2), some (.ref a1), none] [.int r9] S10
          refine V_if_ne (tgt := 76) (pc := 71) C dX7_readSizes_71 (by decide) (fun hc => ?_) (fun hc => ?_)
          · have h := it_f hc h
            refine V_aload_n (pc := 76) C dX7_readSizes_76 rfl rfl ?_
            refine V_aload_n (pc := 77) C dX7_readSizes_77 rfl rfl ?_
            refine V_getI (pc := 78) C z1_cW_7 fl_RX7_155 (by decide) dX7_readSizes_78 ?_
            refine V_putI (pc := 81) C ha1 fp_RX7_311 rfl rfl dX7_readSizes_81 ?_
            refine V_bipush (pc := 84) C dX7_readSizes_84 kc_b_20 ?_
            refine V_sipush (pc := 86) C dX7_readSizes_86 kc_s_200 ?_
            refine V_iconst (pc := 89) C dX7_readSizes_89 kc_i_1 ?_
            refine V_aload_n (pc := 90) C dX7_readSizes_90 rfl rfl ?_
            obtain ⟨r11, er11, h⟩ := b1_some h
            refine V_callV (As := []) (pc := 91) C (mX6_sizes _ ha1 er11) zm_X6_sizes zi_X6_sizes ml_RX7_313 ha1 rfl ⟨Nat.le_of_ble_eq_true rfl, Nat.le_of_ble_eq_true rfl⟩ rfl rfl (Nat.le_of_ble_eq_true rfl) dX7_readSizes_91 ?_
            show V K 94 [some (.ref 2), some (.ref a1), none] [.int r11, .int (1 : Int32), .int (200 : Int32), .int (20 : Int32)] (pI S10 a1 3 (gI S10 2 5))
            refine V_max (pc := 94) C ml_RX7_45 mt_max.1 mt_max.2.1 mt_max.2.2 ⟨Nat.le_of_ble_eq_true rfl, Nat.le_of_ble_eq_true rfl⟩ dX7_readSizes_94 ?_
            obtain ⟨k12, h⟩ := ck_some h
            refine V_idiv (pc := 97) C dX7_readSizes_97 (of_decide_eq_true k12) ?_
            refine V_min (pc := 98) C ml_RX7_39 mt_min.1 mt_min.2.1 mt_min.2.2 ⟨Nat.le_of_ble_eq_true rfl, Nat.le_of_ble_eq_true rfl⟩ dX7_readSizes_98 ?_
            obtain ⟨x13, ex13, h⟩ := lt_some h
            refine V_nmI ex13 ?_
            refine V_istore_n (L' := [some (.ref 2), some (.ref a1), some (.int x13)]) (pc := 101) C dX7_readSizes_101 rfl (by decide) rfl ?_
            refine V_aload_n (pc := 102) C dX7_readSizes_102 rfl rfl ?_
            refine V_ldcwS (j := 22) (pc := 103) C dX7_readSizes_103 rfl ?_
            obtain ⟨r14, S15, er14, h⟩ := b2_some h
            refine V_callV (As := [.ref 10022]) (pc := 106) C (mX7_takeWord _ zq_22 er14) zm_X7_takeWord zi_X7_takeWord ml_RX7_187 z1_cW_7 rfl ⟨Nat.le_of_ble_eq_true rfl, Nat.le_of_ble_eq_true rfl⟩ rfl rfl (Nat.le_of_ble_eq_true rfl) dX7_readSizes_106 ?_
            show V K 109 [some (.ref 2), some (.ref a1), some (.int x13)] [.int r14] S15
            refine V_if_eq (tgt := 121) (pc := 109) C dX7_readSizes_109 (by decide) (fun hc => ?_) (fun hc => ?_)
            · have h := it_t hc h
              refine V_iconst (pc := 121) C dX7_readSizes_121 kc_i_0 ?_
              cases h
              exact hR 122 _ ⟨_, rfl, zB0⟩ dX7_readSizes_122
            · have h := it_f hc h
              refine V_aload_n (pc := 112) C dX7_readSizes_112 rfl rfl ?_
              refine V_iconst (pc := 113) C dX7_readSizes_113 kc_i_1 ?_
              refine V_iload_n (pc := 114) C dX7_readSizes_114 rfl rfl ?_
              obtain ⟨r16, S17, er16, h⟩ := b2_some h
              refine V_callV (As := [.int (1 : Int32), .int x13]) (pc := 115) C (mX7_takeWhole _ er16) zm_X7_takeWhole zi_X7_takeWhole ml_RX7_158 z1_cW_7 rfl ⟨Nat.le_of_ble_eq_true rfl, Nat.le_of_ble_eq_true rfl⟩ rfl rfl (Nat.le_of_ble_eq_true rfl) dX7_readSizes_115 ?_
              show V K 118 [some (.ref 2), some (.ref a1), some (.int x13)] [.int r16] S17
              refine V_if_ne (tgt := 123) (pc := 118) C dX7_readSizes_118 (by decide) (fun hc => ?_) (fun hc => ?_)
              · have h := it_f hc h
                refine V_aload_n (pc := 123) C dX7_readSizes_123 rfl rfl ?_
                refine V_aload_n (pc := 124) C dX7_readSizes_124 rfl rfl ?_
                refine V_getI (pc := 125) C z1_cW_7 fl_RX7_155 (by decide) dX7_readSizes_125 ?_
                refine V_putI (pc := 128) C ha1 fp_RX7_318 rfl rfl dX7_readSizes_128 ?_
                refine V_iconst (pc := 131) C dX7_readSizes_131 kc_i_1 ?_
                cases h
                exact hR 132 _ ⟨_, rfl, zB1⟩ dX7_readSizes_132
              · have h := it_t hc h
                refine V_iconst (pc := 121) C dX7_readSizes_121 kc_i_0 ?_
                cases h
                exact hR 122 _ ⟨_, rfl, zB0⟩ dX7_readSizes_122
          · have h := it_t hc h
            refine V_iconst (pc := 74) C dX7_readSizes_74 kc_i_0 ?_
            cases h
            exact hR 75 _ ⟨_, rfl, zB0⟩ dX7_readSizes_75
      · have h := it_t hc h
        refine V_iconst (pc := 44) C dX7_readSizes_44 kc_i_0 ?_
        cases h
        exact hR 45 _ ⟨_, rfl, zB0⟩ dX7_readSizes_45
  · have h := it_t hc h
    refine V_iconst (pc := 11) C dX7_readSizes_11 kc_i_0 ?_
    cases h
    exact hR 12 _ ⟨_, rfl, zB0⟩ dX7_readSizes_12
set_option maxRecDepth 100000 in
theorem mX7_readPlan_J104 {K : zK} (C : zC K cX7_readPlan yX7_readPlan.cls 2 10 258 cW) {S : zM} {v1 : Nat} {s0 : Int32} {r : Int32} {S' : zM} (hv1 : zob cW 6 v1) (hR : zR K cX7_readPlan (some .boolean) S' (some (.int r))) (h : gX7_readPlan_J104 S v1 s0 = some (r, S')) : V K 104 [some (.ref 2), some (.ref v1)] [.int s0, .ref v1] S := by
  unfold gX7_readPlan_J104 at h
  refine V_putI (pc := 104) C hv1 fp_RX7_299 rfl rfl dX7_readPlan_104 ?_
  refine V_aload_n (pc := 107) C dX7_readPlan_107 rfl rfl ?_
  refine V_getI (pc := 108) C hv1 fl_RX7_299 (by decide) dX7_readPlan_108 ?_
  refine V_iconst (pc := 111) C dX7_readPlan_111 kc_i_m1 ?_
  refine V_icmp_ne (tgt := 121) (pc := 112) C dX7_readPlan_112 (by decide) (fun hc => ?_) (fun hc => ?_)
  · have h := it_f hc h
    refine V_aload_n (pc := 121) C dX7_readPlan_121 rfl rfl ?_
    obtain ⟨S14, euS14, h⟩ := b1_some h
    refine V_callV (As := []) (pc := 122) C (mX7_step _ euS14) zm_X7_step zi_X7_step ml_RX7_88 z1_cW_7 rfl ⟨Nat.le_of_ble_eq_true rfl, Nat.le_of_ble_eq_true rfl⟩ rfl rfl (Nat.le_of_ble_eq_true rfl) dX7_readPlan_122 ?_
    show V K 125 [some (.ref 2), some (.ref v1)] [] S14
    refine V_aload_n (pc := 125) C dX7_readPlan_125 rfl rfl ?_
    refine V_aload_n (pc := 126) C dX7_readPlan_126 rfl rfl ?_
    obtain ⟨r15, S16, er15, h⟩ := b2_some h
    refine V_callV (As := [.ref v1]) (pc := 127) C (mX7_readSizes _ hv1 er15) zm_X7_readSizes zi_X7_readSizes ml_RX7_302 z1_cW_7 rfl ⟨Nat.le_of_ble_eq_true rfl, Nat.le_of_ble_eq_true rfl⟩ rfl rfl (Nat.le_of_ble_eq_true rfl) dX7_readPlan_127 ?_
    show V K 130 [some (.ref 2), some (.ref v1)] [.int r15] S16
    obtain ⟨k17, h⟩ := ck_some h
    cases h
    exact hR 130 _ ⟨_, rfl, isB_nar k17⟩ dX7_readPlan_130
  · have h := it_t hc h
    refine V_aload_n (pc := 115) C dX7_readPlan_115 rfl rfl ?_
    refine V_iconst (pc := 116) C dX7_readPlan_116 kc_i_1 ?_
    obtain ⟨r18, S19, er18, h⟩ := b2_some h
    refine V_callV (As := [.int (1 : Int32)]) (pc := 117) C (mX7_wrong _ er18) zm_X7_wrong zi_X7_wrong ml_RX7_80 z1_cW_7 rfl ⟨Nat.le_of_ble_eq_true rfl, Nat.le_of_ble_eq_true rfl⟩ rfl rfl (Nat.le_of_ble_eq_true rfl) dX7_readPlan_117 ?_
    show V K 120 [some (.ref 2), some (.ref v1)] [.int r18] S19
    obtain ⟨k20, h⟩ := ck_some h
    cases h
    exact hR 120 _ ⟨_, rfl, isB_nar k20⟩ dX7_readPlan_120
set_option maxRecDepth 100000 in
theorem mX7_readPlan (l : Launch) {S : zM}  {r : Int32} {S' : zM}  (h : gX7_readPlan S = some (r, S')) : zMet l cW zS0 yX7_readPlan cX7_readPlan 2 (some .boolean) 10 258 [.ref 2] S (some (.int r)) S' := by
  refine zmeth (by decide +kernel) (by rfl) (fun K hKl C hR => ?_)
  show V K 0 [some (.ref 2), none] [] S
  unfold gX7_readPlan at h
  refine V_aload_n (pc := 0) C dX7_readPlan_0 rfl rfl ?_
  obtain ⟨k1, h⟩ := ck_some h
  refine V_getR (pc := 1) C z1_cW_7 fl_RX7_25 rfl dX7_readPlan_1 ?_
  refine V_getI (pc := 4) C (zob_of k1) fl_RX7_284 (by decide) dX7_readPlan_4 ?_
  refine V_iconst (pc := 7) C dX7_readPlan_7 kc_i_4 ?_
  refine V_icmp_lt (tgt := 17) (pc := 8) C dX7_readPlan_8 (by decide) (fun hc => ?_) (fun hc => ?_)
  · have h := it_t hc h
    refine V_aload_n (pc := 17) C dX7_readPlan_17 rfl rfl ?_
    obtain ⟨S3, euS3, h⟩ := b1_some h
    refine V_callV (As := []) (pc := 18) C (mX7_step _ euS3) zm_X7_step zi_X7_step ml_RX7_88 z1_cW_7 rfl ⟨Nat.le_of_ble_eq_true rfl, Nat.le_of_ble_eq_true rfl⟩ rfl rfl (Nat.le_of_ble_eq_true rfl) dX7_readPlan_18 ?_
    show V K 21 [some (.ref 2), none] [] S3
    refine V_aload_n (pc := 21) C dX7_readPlan_21 rfl rfl ?_
    obtain ⟨k4, h⟩ := ck_some h
    refine V_getR (pc := 22) C z1_cW_7 fl_RX7_25 rfl dX7_readPlan_22 ?_
    refine V_getF (p1 := ((gR S3 2 6) + 3)) (pc := 25) C (zob_of k4) fl_RX7_287 rfl (zf_cW_3_2 (zob_of k4)) dX7_readPlan_25 ?_
    refine V_aload_n (pc := 28) C dX7_readPlan_28 rfl rfl ?_
    obtain ⟨k5, h⟩ := ck_some h
    refine V_getR (pc := 29) C z1_cW_7 fl_RX7_25 rfl dX7_readPlan_29 ?_
    refine V_getI (pc := 32) C (zob_of k5) fl_RX7_284 (by decide) dX7_readPlan_32 ?_
    obtain ⟨k6, h⟩ := ck_some h
    refine V_aald (p1 := ((gR S3 2 6) + 205 + 1 * ix (gI S3 (gR S3 2 6) 8))) (pc := 35) C (za_cW_3_2 (zob_of k4)) (fun _ => rfl) k6 (ze_cW_3_2 (zob_of k4) k6) dX7_readPlan_35 ?_
    refine V_astore_n (L' := [some (.ref 2), some (.ref ((gR S3 2 6) + 205 + 1 * ix (gI S3 (gR S3 2 6) 8)))]) (pc := 36) C dX7_readPlan_36 rfl (by decide) rfl ?_
    refine V_aload_n (pc := 37) C dX7_readPlan_37 rfl rfl ?_
    obtain ⟨k7, h⟩ := ck_some h
    refine V_getR (pc := 38) C z1_cW_7 fl_RX7_25 rfl dX7_readPlan_38 ?_
    refine V_dup (pc := 41) C dX7_readPlan_41 rfl ?_
    refine V_getI (pc := 42) C (zob_of k7) fl_RX7_284 (by decide) dX7_readPlan_42 ?_
    refine V_iconst (pc := 45) C dX7_readPlan_45 kc_i_1 ?_
    refine V_iadd (pc := 46) C dX7_readPlan_46 ?_
    refine V_putI (pc := 47) C (zob_of k7) fp_RX7_284 rfl rfl dX7_readPlan_47 ?_
    refine V_aload_n (pc := 50) C dX7_readPlan_50 rfl rfl ?_
    refine V_iconst (pc := 51) C dX7_readPlan_51 kc_i_m1 ?_
    obtain ⟨r8, S9, er8, h⟩ := b2_some h
    refine V_callV (As := [.int (-1 : Int32)]) (pc := 52) C (mX7_takeNewName _ er8) zm_X7_takeNewName zi_X7_takeNewName ml_RX7_180 z1_cW_7 rfl ⟨Nat.le_of_ble_eq_true rfl, Nat.le_of_ble_eq_true rfl⟩ rfl rfl (Nat.le_of_ble_eq_true rfl) dX7_readPlan_52 ?_
    show V K 55 [some (.ref 2), some (.ref ((gR S3 2 6) + 205 + 1 * ix (gI S3 (gR S3 2 6) 8)))] [.int r8] S9
    refine V_if_ne (tgt := 60) (pc := 55) C dX7_readPlan_55 (by decide) (fun hc => ?_) (fun hc => ?_)
    · have h := it_f hc h
      refine V_aload_n (pc := 60) C dX7_readPlan_60 rfl rfl ?_
      refine V_aload_n (pc := 61) C dX7_readPlan_61 rfl rfl ?_
      refine V_ldcwS (j := 19) (pc := 62) C dX7_readPlan_62 rfl ?_
      obtain ⟨r10, er10, h⟩ := b1_some h
      refine V_callV (As := [.ref 10019]) (pc := 65) C (mX7_isWord _ zq_19 er10) zm_X7_isWord zi_X7_isWord ml_RX7_57 z1_cW_7 rfl ⟨Nat.le_of_ble_eq_true rfl, Nat.le_of_ble_eq_true rfl⟩ rfl rfl (Nat.le_of_ble_eq_true rfl) dX7_readPlan_65 ?_
      show V K 68 [some (.ref 2), some (.ref ((gR S3 2 6) + 205 + 1 * ix (gI S3 (gR S3 2 6) 8)))] [.int r10, .ref ((gR S3 2 6) + 205 + 1 * ix (gI S3 (gR S3 2 6) 8))] S9
      refine V_if_eq (tgt := 75) (pc := 68) C dX7_readPlan_68 (by decide) (fun hc => ?_) (fun hc => ?_)
      · have h := it_t hc h
        refine V_aload_n (pc := 75) C dX7_readPlan_75 rfl rfl ?_
        refine V_ldcwS (j := 20) (pc := 76) C dX7_readPlan_76 rfl ?_
        obtain ⟨r11, er11, h⟩ := b1_some h
        refine V_callV (As := [.ref 10020]) (pc := 79) C (mX7_isWord _ zq_20 er11) zm_X7_isWord zi_X7_isWord ml_RX7_57 z1_cW_7 rfl ⟨Nat.le_of_ble_eq_true rfl, Nat.le_of_ble_eq_true rfl⟩ rfl rfl (Nat.le_of_ble_eq_true rfl) dX7_readPlan_79 ?_
        show V K 82 [some (.ref 2), some (.ref ((gR S3 2 6) + 205 + 1 * ix (gI S3 (gR S3 2 6) 8)))] [.int r11, .ref ((gR S3 2 6) + 205 + 1 * ix (gI S3 (gR S3 2 6) 8))] S9
        refine V_if_eq (tgt := 89) (pc := 82) C dX7_readPlan_82 (by decide) (fun hc => ?_) (fun hc => ?_)
        · have h := it_t hc h
          refine V_aload_n (pc := 89) C dX7_readPlan_89 rfl rfl ?_
          refine V_ldcwS (j := 21) (pc := 90) C dX7_readPlan_90 rfl ?_
          obtain ⟨r12, er12, h⟩ := b1_some h
          refine V_callV (As := [.ref 10021]) (pc := 93) C (mX7_isWord _ zq_21 er12) zm_X7_isWord zi_X7_isWord ml_RX7_57 z1_cW_7 rfl ⟨Nat.le_of_ble_eq_true rfl, Nat.le_of_ble_eq_true rfl⟩ rfl rfl (Nat.le_of_ble_eq_true rfl) dX7_readPlan_93 ?_
          show V K 96 [some (.ref 2), some (.ref ((gR S3 2 6) + 205 + 1 * ix (gI S3 (gR S3 2 6) 8)))] [.int r12, .ref ((gR S3 2 6) + 205 + 1 * ix (gI S3 (gR S3 2 6) 8))] S9
          refine V_if_eq (tgt := 103) (pc := 96) C dX7_readPlan_96 (by decide) (fun hc => ?_) (fun hc => ?_)
          · have h := it_t hc h
            refine V_iconst (pc := 103) C dX7_readPlan_103 kc_i_m1 ?_
            exact V_mask [true, true] (mX7_readPlan_J104 C (zx_cW_3_2 (zob_of k4) k6) hR h)
          · have h := it_f hc h
            refine V_iconst (pc := 99) C dX7_readPlan_99 kc_i_2 ?_
            refine V_goto (tgt := 104) (pc := 100) C dX7_readPlan_100 (by decide) ?_
            exact V_mask [true, true] (mX7_readPlan_J104 C (zx_cW_3_2 (zob_of k4) k6) hR h)
        · have h := it_f hc h
          refine V_iconst (pc := 85) C dX7_readPlan_85 kc_i_1 ?_
          refine V_goto (tgt := 104) (pc := 86) C dX7_readPlan_86 (by decide) ?_
          exact V_mask [true, true] (mX7_readPlan_J104 C (zx_cW_3_2 (zob_of k4) k6) hR h)
      · have h := it_f hc h
        refine V_iconst (pc := 71) C dX7_readPlan_71 kc_i_0 ?_
        refine V_goto (tgt := 104) (pc := 72) C dX7_readPlan_72 (by decide) ?_
        exact V_mask [true, true] (mX7_readPlan_J104 C (zx_cW_3_2 (zob_of k4) k6) hR h)
    · have h := it_t hc h
      refine V_iconst (pc := 58) C dX7_readPlan_58 kc_i_0 ?_
      cases h
      exact hR 59 _ ⟨_, rfl, zB0⟩ dX7_readPlan_59
  · have h := it_f hc h
    refine V_aload_n (pc := 11) C dX7_readPlan_11 rfl rfl ?_
    refine V_iconst (pc := 12) C dX7_readPlan_12 kc_i_5 ?_
    obtain ⟨r21, S22, er21, h⟩ := b2_some h
    refine V_callV (As := [.int (5 : Int32)]) (pc := 13) C (mX7_wrong _ er21) zm_X7_wrong zi_X7_wrong ml_RX7_80 z1_cW_7 rfl ⟨Nat.le_of_ble_eq_true rfl, Nat.le_of_ble_eq_true rfl⟩ rfl rfl (Nat.le_of_ble_eq_true rfl) dX7_readPlan_13 ?_
    show V K 16 [some (.ref 2), none] [.int r21] S22
    obtain ⟨k23, h⟩ := ck_some h
    cases h
    exact hR 16 _ ⟨_, rfl, isB_nar k23⟩ dX7_readPlan_16
set_option maxRecDepth 100000 in
theorem mX7_takeAmount (l : Launch) {S : zM} {a1 : Nat} {r : Int32} {S' : zM} (ha1 : zstr a1) (h : gX7_takeAmount S a1 = some (r, S')) : zMet l cW zS0 yX7_takeAmount cX7_takeAmount 2 (some .boolean) 9 237 [.ref 2, .ref a1] S (some (.int r)) S' := by
  refine zmeth (by decide +kernel) (by rfl) (fun K hKl C hR => ?_)
  show V K 0 [some (.ref 2), some (.ref a1)] [] S
  unfold gX7_takeAmount at h
  refine V_aload_n (pc := 0) C dX7_takeAmount_0 rfl rfl ?_
  refine V_aload_n (pc := 1) C dX7_takeAmount_1 rfl rfl ?_
  obtain ⟨r1, S2, er1, h⟩ := b2_some h
  refine V_callV (As := [.ref a1]) (pc := 2) C (mX7_takeWord _ ha1 er1) zm_X7_takeWord zi_X7_takeWord ml_RX7_187 z1_cW_7 rfl ⟨Nat.le_of_ble_eq_true rfl, Nat.le_of_ble_eq_true rfl⟩ rfl rfl (Nat.le_of_ble_eq_true rfl) dX7_takeAmount_2 ?_
  show V K 5 [some (.ref 2), some (.ref a1)] [.int r1] S2
  refine V_if_eq (tgt := 21) (pc := 5) C dX7_takeAmount_5 (by decide) (fun hc => ?_) (fun hc => ?_)
  · have h := it_t hc h
    refine V_iconst (pc := 21) C dX7_takeAmount_21 kc_i_0 ?_
    cases h
    exact hR 22 _ ⟨_, rfl, zB0⟩ dX7_takeAmount_22
  · have h := it_f hc h
    refine V_aload_n (pc := 8) C dX7_takeAmount_8 rfl rfl ?_
    refine V_bipush (pc := 9) C dX7_takeAmount_9 kc_b_99 ?_
    obtain ⟨r3, S4, er3, h⟩ := b2_some h
    refine V_callV (As := [.int (99 : Int32)]) (pc := 11) C (mX7_takeSigned _ er3) zm_X7_takeSigned zi_X7_takeSigned ml_RX7_252 z1_cW_7 rfl ⟨Nat.le_of_ble_eq_true rfl, Nat.le_of_ble_eq_true rfl⟩ rfl rfl (Nat.le_of_ble_eq_true rfl) dX7_takeAmount_11 ?_
    show V K 14 [some (.ref 2), some (.ref a1)] [.int r3] S4
    refine V_if_eq (tgt := 21) (pc := 14) C dX7_takeAmount_14 (by decide) (fun hc => ?_) (fun hc => ?_)
    · have h := it_t hc h
      refine V_iconst (pc := 21) C dX7_takeAmount_21 kc_i_0 ?_
      cases h
      exact hR 22 _ ⟨_, rfl, zB0⟩ dX7_takeAmount_22
    · have h := it_f hc h
      refine V_iconst (pc := 17) C dX7_takeAmount_17 kc_i_1 ?_
      refine V_goto (tgt := 22) (pc := 18) C dX7_takeAmount_18 (by decide) ?_
      cases h
      exact hR 22 _ ⟨_, rfl, zB1⟩ dX7_takeAmount_22
set_option maxRecDepth 100000 in
theorem mX7_readPay (l : Launch) {S : zM}  {r : Int32} {S' : zM}  (h : gX7_readPay S = some (r, S')) : zMet l cW zS0 yX7_readPay cX7_readPay 2 (some .boolean) 10 258 [.ref 2] S (some (.int r)) S' := by
  refine zmeth (by decide +kernel) (by rfl) (fun K hKl C hR => ?_)
  show V K 0 [some (.ref 2), none] [] S
  unfold gX7_readPay at h
  refine V_aload_n (pc := 0) C dX7_readPay_0 rfl rfl ?_
  obtain ⟨k1, h⟩ := ck_some h
  refine V_getR (pc := 1) C z1_cW_7 fl_RX7_25 rfl dX7_readPay_1 ?_
  refine V_getI (pc := 4) C (zob_of k1) fl_RX7_320 (by decide) dX7_readPay_4 ?_
  refine V_iconst (pc := 7) C dX7_readPay_7 kc_i_4 ?_
  refine V_icmp_lt (tgt := 17) (pc := 8) C dX7_readPay_8 (by decide) (fun hc => ?_) (fun hc => ?_)
  · have h := it_t hc h
    refine V_aload_n (pc := 17) C dX7_readPay_17 rfl rfl ?_
    obtain ⟨S3, euS3, h⟩ := b1_some h
    refine V_callV (As := []) (pc := 18) C (mX7_step _ euS3) zm_X7_step zi_X7_step ml_RX7_88 z1_cW_7 rfl ⟨Nat.le_of_ble_eq_true rfl, Nat.le_of_ble_eq_true rfl⟩ rfl rfl (Nat.le_of_ble_eq_true rfl) dX7_readPay_18 ?_
    show V K 21 [some (.ref 2), none] [] S3
    refine V_aload_n (pc := 21) C dX7_readPay_21 rfl rfl ?_
    obtain ⟨k4, h⟩ := ck_some h
    refine V_getR (pc := 22) C z1_cW_7 fl_RX7_25 rfl dX7_readPay_22 ?_
    refine V_getF (p1 := ((gR S3 2 6) + 4)) (pc := 25) C (zob_of k4) fl_RX7_323 rfl (zf_cW_3_3 (zob_of k4)) dX7_readPay_25 ?_
    refine V_aload_n (pc := 28) C dX7_readPay_28 rfl rfl ?_
    obtain ⟨k5, h⟩ := ck_some h
    refine V_getR (pc := 29) C z1_cW_7 fl_RX7_25 rfl dX7_readPay_29 ?_
    refine V_getI (pc := 32) C (zob_of k5) fl_RX7_320 (by decide) dX7_readPay_32 ?_
    obtain ⟨k6, h⟩ := ck_some h
    refine V_aald (p1 := ((gR S3 2 6) + 209 + 1 * ix (gI S3 (gR S3 2 6) 9))) (pc := 35) C (za_cW_3_3 (zob_of k4)) (fun _ => rfl) k6 (ze_cW_3_3 (zob_of k4) k6) dX7_readPay_35 ?_
    refine V_astore_n (L' := [some (.ref 2), some (.ref ((gR S3 2 6) + 209 + 1 * ix (gI S3 (gR S3 2 6) 9)))]) (pc := 36) C dX7_readPay_36 rfl (by decide) rfl ?_
    refine V_aload_n (pc := 37) C dX7_readPay_37 rfl rfl ?_
    obtain ⟨k7, h⟩ := ck_some h
    refine V_getR (pc := 38) C z1_cW_7 fl_RX7_25 rfl dX7_readPay_38 ?_
    refine V_dup (pc := 41) C dX7_readPay_41 rfl ?_
    refine V_getI (pc := 42) C (zob_of k7) fl_RX7_320 (by decide) dX7_readPay_42 ?_
    refine V_iconst (pc := 45) C dX7_readPay_45 kc_i_1 ?_
    refine V_iadd (pc := 46) C dX7_readPay_46 ?_
    refine V_putI (pc := 47) C (zob_of k7) fp_RX7_320 rfl rfl dX7_readPay_47 ?_
    refine V_aload_n (pc := 50) C dX7_readPay_50 rfl rfl ?_
    refine V_iconst (pc := 51) C dX7_readPay_51 kc_i_m1 ?_
    obtain ⟨r8, S9, er8, h⟩ := b2_some h
    refine V_callV (As := [.int (-1 : Int32)]) (pc := 52) C (mX7_takeNewName _ er8) zm_X7_takeNewName zi_X7_takeNewName ml_RX7_180 z1_cW_7 rfl ⟨Nat.le_of_ble_eq_true rfl, Nat.le_of_ble_eq_true rfl⟩ rfl rfl (Nat.le_of_ble_eq_true rfl) dX7_readPay_52 ?_
    show V K 55 [some (.ref 2), some (.ref ((gR S3 2 6) + 209 + 1 * ix (gI S3 (gR S3 2 6) 9)))] [.int r8] S9
    refine V_if_eq (tgt := 68) (pc := 55) C dX7_readPay_55 (by decide) (fun hc => ?_) (fun hc => ?_)
    · have h := it_t hc h
      refine V_iconst (pc := 68) C dX7_readPay_68 kc_i_0 ?_
      cases h
      exact hR 69 _ ⟨_, rfl, zB0⟩ dX7_readPay_69
    · have h := it_f hc h
      refine V_aload_n (pc := 58) C dX7_readPay_58 rfl rfl ?_
      refine V_ldcwS (j := 23) (pc := 59) C dX7_readPay_59 rfl ?_
      obtain ⟨r10, S11, er10, h⟩ := b2_some h
      refine V_callV (As := [.ref 10023]) (pc := 62) C (mX7_takeAmount _ zq_23 er10) zm_X7_takeAmount zi_X7_takeAmount ml_RX7_329 z1_cW_7 rfl ⟨Nat.le_of_ble_eq_true rfl, Nat.le_of_ble_eq_true rfl⟩ rfl rfl (Nat.le_of_ble_eq_true rfl) dX7_readPay_62 ?_
      show V K 65 [some (.ref 2), some (.ref ((gR S3 2 6) + 209 + 1 * ix (gI S3 (gR S3 2 6) 9)))] [.int r10] S11
      refine V_if_ne (tgt := 70) (pc := 65) C dX7_readPay_65 (by decide) (fun hc => ?_) (fun hc => ?_)
      · have h := it_f hc h
        refine V_aload_n (pc := 70) C dX7_readPay_70 rfl rfl ?_
        refine V_aload_n (pc := 71) C dX7_readPay_71 rfl rfl ?_
        refine V_getI (pc := 72) C z1_cW_7 fl_RX7_155 (by decide) dX7_readPay_72 ?_
        refine V_putI (pc := 75) C (zx_cW_3_3 (zob_of k4) k6) fp_RX7_332 rfl rfl dX7_readPay_75 ?_
        refine V_aload_n (pc := 78) C dX7_readPay_78 rfl rfl ?_
        refine V_ldcwS (j := 24) (pc := 79) C dX7_readPay_79 rfl ?_
        obtain ⟨r12, S13, er12, h⟩ := b2_some h
        refine V_callV (As := [.ref 10024]) (pc := 82) C (mX7_takeAmount _ zq_24 er12) zm_X7_takeAmount zi_X7_takeAmount ml_RX7_329 z1_cW_7 rfl ⟨Nat.le_of_ble_eq_true rfl, Nat.le_of_ble_eq_true rfl⟩ rfl rfl (Nat.le_of_ble_eq_true rfl) dX7_readPay_82 ?_
        show V K 85 [some (.ref 2), some (.ref ((gR S3 2 6) + 209 + 1 * ix (gI S3 (gR S3 2 6) 9)))] [.int r12] S13
        refine V_if_ne (tgt := 90) (pc := 85) C dX7_readPay_85 (by decide) (fun hc => ?_) (fun hc => ?_)
        · have h := it_f hc h
          refine V_aload_n (pc := 90) C dX7_readPay_90 rfl rfl ?_
          refine V_aload_n (pc := 91) C dX7_readPay_91 rfl rfl ?_
          refine V_getI (pc := 92) C z1_cW_7 fl_RX7_155 (by decide) dX7_readPay_92 ?_
          refine V_putI (pc := 95) C (zx_cW_3_3 (zob_of k4) k6) fp_RX7_338 rfl rfl dX7_readPay_95 ?_
          refine V_aload_n (pc := 98) C dX7_readPay_98 rfl rfl ?_
          refine V_ldcwS (j := 25) (pc := 99) C dX7_readPay_99 rfl ?_
          obtain ⟨r14, S15, er14, h⟩ := b2_some h
          refine V_callV (As := [.ref 10025]) (pc := 102) C (mX7_takeAmount _ zq_25 er14) zm_X7_takeAmount zi_X7_takeAmount ml_RX7_329 z1_cW_7 rfl ⟨Nat.le_of_ble_eq_true rfl, Nat.le_of_ble_eq_true rfl⟩ rfl rfl (Nat.le_of_ble_eq_true rfl) dX7_readPay_102 ?_
          show V K 105 [some (.ref 2), some (.ref ((gR S3 2 6) + 209 + 1 * ix (gI S3 (gR S3 2 6) 9)))] [.int r14] S15
          refine V_if_ne (tgt := 110) (pc := 105) C dX7_readPay_105 (by decide) (fun hc => ?_) (fun hc => ?_)
          · have h := it_f hc h
            refine V_aload_n (pc := 110) C dX7_readPay_110 rfl rfl ?_
            refine V_aload_n (pc := 111) C dX7_readPay_111 rfl rfl ?_
            refine V_getI (pc := 112) C z1_cW_7 fl_RX7_155 (by decide) dX7_readPay_112 ?_
            refine V_putI (pc := 115) C (zx_cW_3_3 (zob_of k4) k6) fp_RX7_342 rfl rfl dX7_readPay_115 ?_
            refine V_aload_n (pc := 118) C dX7_readPay_118 rfl rfl ?_
            refine V_ldcwS (j := 26) (pc := 119) C dX7_readPay_119 rfl ?_
            obtain ⟨r16, S17, er16, h⟩ := b2_some h
            refine V_callV (As := [.ref 10026]) (pc := 122) C (mX7_takeAmount _ zq_26 er16) zm_X7_takeAmount zi_X7_takeAmount ml_RX7_329 z1_cW_7 rfl ⟨Nat.le_of_ble_eq_true rfl, Nat.le_of_ble_eq_true rfl⟩ rfl rfl (Nat.le_of_ble_eq_true rfl) dX7_readPay_122 ?_
            show V K 125 [some (.ref 2), some (.ref ((gR S3 2 6) + 209 + 1 * ix (gI S3 (gR S3 2 6) 9)))] [.int r16] S17
            refine V_if_ne (tgt := 130) (pc := 125) C dX7_readPay_125 (by decide) (fun hc => ?_) (fun hc => ?_)
            · have h := it_f hc h
              refine V_aload_n (pc := 130) C dX7_readPay_130 rfl rfl ?_
              refine V_aload_n (pc := 131) C dX7_readPay_131 rfl rfl ?_
              refine V_getI (pc := 132) C z1_cW_7 fl_RX7_155 (by decide) dX7_readPay_132 ?_
              refine V_putI (pc := 135) C (zx_cW_3_3 (zob_of k4) k6) fp_RX7_347 rfl rfl dX7_readPay_135 ?_
              refine V_aload_n (pc := 138) C dX7_readPay_138 rfl rfl ?_
              refine V_ldcwS (j := 27) (pc := 139) C dX7_readPay_139 rfl ?_
              obtain ⟨r18, S19, er18, h⟩ := b2_some h
              refine V_callV (As := [.ref 10027]) (pc := 142) C (mX7_takeWord _ zq_27 er18) zm_X7_takeWord zi_X7_takeWord ml_RX7_187 z1_cW_7 rfl ⟨Nat.le_of_ble_eq_true rfl, Nat.le_of_ble_eq_true rfl⟩ rfl rfl (Nat.le_of_ble_eq_true rfl) dX7_readPay_142 ?_
              show V K 145 [some (.ref 2), some (.ref ((gR S3 2 6) + 209 + 1 * ix (gI S3 (gR S3 2 6) 9)))] [.int r18] S19
              refine V_if_eq (tgt := 158) (pc := 145) C dX7_readPay_145 (by decide) (fun hc => ?_) (fun hc => ?_)
              · have h := it_t hc h
                refine V_iconst (pc := 158) C dX7_readPay_158 kc_i_0 ?_
                cases h
                exact hR 159 _ ⟨_, rfl, zB0⟩ dX7_readPay_159
              · have h := it_f hc h
                refine V_aload_n (pc := 148) C dX7_readPay_148 rfl rfl ?_
                refine V_iconst (pc := 149) C dX7_readPay_149 kc_i_0 ?_
                refine V_bipush (pc := 150) C dX7_readPay_150 kc_b_100 ?_
                obtain ⟨r20, S21, er20, h⟩ := b2_some h
                refine V_callV (As := [.int (0 : Int32), .int (100 : Int32)]) (pc := 152) C (mX7_takeWhole _ er20) zm_X7_takeWhole zi_X7_takeWhole ml_RX7_158 z1_cW_7 rfl ⟨Nat.le_of_ble_eq_true rfl, Nat.le_of_ble_eq_true rfl⟩ rfl rfl (Nat.le_of_ble_eq_true rfl) dX7_readPay_152 ?_
                show V K 155 [some (.ref 2), some (.ref ((gR S3 2 6) + 209 + 1 * ix (gI S3 (gR S3 2 6) 9)))] [.int r20] S21
                refine V_if_ne (tgt := 160) (pc := 155) C dX7_readPay_155 (by decide) (fun hc => ?_) (fun hc => ?_)
                · have h := it_f hc h
                  refine V_aload_n (pc := 160) C dX7_readPay_160 rfl rfl ?_
                  refine V_aload_n (pc := 161) C dX7_readPay_161 rfl rfl ?_
                  refine V_getI (pc := 162) C z1_cW_7 fl_RX7_155 (by decide) dX7_readPay_162 ?_
                  refine V_putI (pc := 165) C (zx_cW_3_3 (zob_of k4) k6) fp_RX7_351 rfl rfl dX7_readPay_165 ?_
                  refine V_iconst (pc := 168) C dX7_readPay_168 kc_i_1 ?_
                  cases h
                  exact hR 169 _ ⟨_, rfl, zB1⟩ dX7_readPay_169
                · have h := it_t hc h
                  refine V_iconst (pc := 158) C dX7_readPay_158 kc_i_0 ?_
                  cases h
                  exact hR 159 _ ⟨_, rfl, zB0⟩ dX7_readPay_159
            · have h := it_t hc h
              refine V_iconst (pc := 128) C dX7_readPay_128 kc_i_0 ?_
              cases h
              exact hR 129 _ ⟨_, rfl, zB0⟩ dX7_readPay_129
          · have h := it_t hc h
            refine V_iconst (pc := 108) C dX7_readPay_108 kc_i_0 ?_
            cases h
            exact hR 109 _ ⟨_, rfl, zB0⟩ dX7_readPay_109
        · have h := it_t hc h
          refine V_iconst (pc := 88) C dX7_readPay_88 kc_i_0 ?_
          cases h
          exact hR 89 _ ⟨_, rfl, zB0⟩ dX7_readPay_89
      · have h := it_t hc h
        refine V_iconst (pc := 68) C dX7_readPay_68 kc_i_0 ?_
        cases h
        exact hR 69 _ ⟨_, rfl, zB0⟩ dX7_readPay_69
  · have h := it_f hc h
    refine V_aload_n (pc := 11) C dX7_readPay_11 rfl rfl ?_
    refine V_iconst (pc := 12) C dX7_readPay_12 kc_i_5 ?_
    obtain ⟨r22, S23, er22, h⟩ := b2_some h
    refine V_callV (As := [.int (5 : Int32)]) (pc := 13) C (mX7_wrong _ er22) zm_X7_wrong zi_X7_wrong ml_RX7_80 z1_cW_7 rfl ⟨Nat.le_of_ble_eq_true rfl, Nat.le_of_ble_eq_true rfl⟩ rfl rfl (Nat.le_of_ble_eq_true rfl) dX7_readPay_13 ?_
    show V K 16 [some (.ref 2), none] [.int r22] S23
    obtain ⟨k24, h⟩ := ck_some h
    cases h
    exact hR 16 _ ⟨_, rfl, isB_nar k24⟩ dX7_readPay_16
set_option maxRecDepth 100000 in
theorem mX7_reads_J119 {K : zK} (C : zC K cX7_reads yX7_reads.cls 6 11 280 cW) {S : zM} {v4 : Int32} {s0 : Int32} {out : ((Int32 × zM) ⊕ zM) ⊕ (Int32 × Int32 × zM)}  (h : gX7_reads_J119 S v4 s0 = some out) (hb : ∀ (b3 : Int32) (b4 : Int32) (S' : zM), out = .inr (b3, b4, S') → V K 37 [some (.ref 2), none, none, some (.int b3), some (.int b4), none] [] S') (hret : ∀ r' : (Int32 × zM), out = .inl (.inl r') → zR K cX7_reads (some .boolean) r'.2 (some (.int (r'.1)))) : V K 119 [some (.ref 2), none, none, none, some (.int v4), none] [.int s0] S := by
  unfold gX7_reads_J119 at h
  refine V_istore (L' := [some (.ref 2), none, none, none, some (.int v4), some (.int s0)]) (pc := 119) C dX7_reads_119 (by decide) rfl ?_
  refine V_iload (pc := 121) C dX7_reads_121 rfl ?_
  refine V_if_ne (tgt := 128) (pc := 123) C dX7_reads_123 (by decide) (fun hc => ?_) (fun hc => ?_)
  · have h := it_f hc h
    refine V_aload_n (pc := 128) C dX7_reads_128 rfl rfl ?_
    refine V_bipush (pc := 129) C dX7_reads_129 kc_b_59 ?_
    obtain ⟨r12, er12, h⟩ := b1_some h
    refine V_callV (As := [.int (59 : Int32)]) (pc := 131) C (mX7_isMark _ er12) zm_X7_isMark zi_X7_isMark ml_RX7_84 z1_cW_7 rfl ⟨Nat.le_of_ble_eq_true rfl, Nat.le_of_ble_eq_true rfl⟩ rfl rfl (Nat.le_of_ble_eq_true rfl) dX7_reads_131 ?_
    show V K 134 [some (.ref 2), none, none, none, some (.int v4), some (.int s0)] [.int r12] S
    refine V_istore_n (L' := [some (.ref 2), none, none, some (.int r12), some (.int v4), some (.int s0)]) (pc := 134) C dX7_reads_134 rfl (by decide) rfl ?_
    refine V_iload_n (pc := 135) C dX7_reads_135 rfl rfl ?_
    refine V_if_eq (tgt := 143) (pc := 136) C dX7_reads_136 (by decide) (fun hc => ?_) (fun hc => ?_)
    · have h := it_t hc h
      refine V_iinc (L' := [some (.ref 2), none, none, some (.int r12), some (.int (v4 + (1 : Int32))), some (.int s0)]) (v := (v4 + (1 : Int32))) (pc := 143) C dX7_reads_143 rfl (congrArg (v4 + ·) kc_i_1) (by decide) rfl ?_
      refine V_goto (tgt := 37) (pc := 146) C dX7_reads_146 (by decide) ?_
      cases h
      exact V_mask [true, false, false, true, true, false] (hb _ _ _ rfl)
    · have h := it_f hc h
      refine V_aload_n (pc := 139) C dX7_reads_139 rfl rfl ?_
      obtain ⟨S14, euS14, h⟩ := b1_some h
      refine V_callV (As := []) (pc := 140) C (mX7_step _ euS14) zm_X7_step zi_X7_step ml_RX7_88 z1_cW_7 rfl ⟨Nat.le_of_ble_eq_true rfl, Nat.le_of_ble_eq_true rfl⟩ rfl rfl (Nat.le_of_ble_eq_true rfl) dX7_reads_140 ?_
      show V K 143 [some (.ref 2), none, none, some (.int r12), some (.int v4), some (.int s0)] [] S14
      refine V_iinc (L' := [some (.ref 2), none, none, some (.int r12), some (.int (v4 + (1 : Int32))), some (.int s0)]) (v := (v4 + (1 : Int32))) (pc := 143) C dX7_reads_143 rfl (congrArg (v4 + ·) kc_i_1) (by decide) rfl ?_
      refine V_goto (tgt := 37) (pc := 146) C dX7_reads_146 (by decide) ?_
      cases h
      exact V_mask [true, false, false, true, true, false] (hb _ _ _ rfl)
  · have h := it_t hc h
    refine V_iconst (pc := 126) C dX7_reads_126 kc_i_0 ?_
    cases h
    exact (hret _ rfl) 127 _ ⟨_, rfl, zB0⟩ dX7_reads_127
set_option maxRecDepth 100000 in
theorem mX7_reads_L37 {K : zK} (C : zC K cX7_reads yX7_reads.cls 6 11 280 cW)   : ∀ (f : Nat) (S : zM) (v3 : Int32) (v4 : Int32) (out : ((Int32 × zM) ⊕ zM)), gX7_reads_L37 f S v3 v4 = some out → (∀ (S' : zM), out = .inr S' → V K 149 [some (.ref 2), none, none, none, none, none] [] S') → (∀ r' : (Int32 × zM), out = .inl r' → zR K cX7_reads (some .boolean) r'.2 (some (.int (r'.1)))) → V K 37 [some (.ref 2), none, none, some (.int v3), some (.int v4), none] [] S := by
  intro f
  induction f with
  | zero => intro S v3 v4 out h hx hret; cases h
  | succ n ih =>
    intro S v3 v4 out h hx hret
    unfold gX7_reads_L37 at h
    refine V_iload (pc := 37) C dX7_reads_37 rfl ?_
    refine V_aload_n (pc := 39) C dX7_reads_39 rfl rfl ?_
    refine V_getI (pc := 40) C z1_cW_7 fl_RX7_52 (by decide) dX7_reads_40 ?_
    refine V_icmp_ge (tgt := 149) (pc := 43) C dX7_reads_43 (by decide) (fun hc => ?_) (fun hc => ?_)
    · have h := it_t hc h
      cases h
      exact V_mask [true, false, false, false, false, false] (hx _ rfl)
    · have h := it_f hc h
      refine V_iload_n (pc := 46) C dX7_reads_46 rfl rfl ?_
      refine V_if_eq (tgt := 149) (pc := 47) C dX7_reads_47 (by decide) (fun hc => ?_) (fun hc => ?_)
      · have h := it_t hc h
        cases h
        exact V_mask [true, false, false, false, false, false] (hx _ rfl)
      · have h := it_f hc h
        refine V_aload_n (pc := 50) C dX7_reads_50 rfl rfl ?_
        refine V_ldcS (j := 0) (pc := 51) C dX7_reads_51 rfl ?_
        obtain ⟨r6, er6, h⟩ := b1_some h
        refine V_callV (As := [.ref 10000]) (pc := 53) C (mX7_isWord _ zq_0 er6) zm_X7_isWord zi_X7_isWord ml_RX7_57 z1_cW_7 rfl ⟨Nat.le_of_ble_eq_true rfl, Nat.le_of_ble_eq_true rfl⟩ rfl rfl (Nat.le_of_ble_eq_true rfl) dX7_reads_53 ?_
        show V K 56 [some (.ref 2), none, none, some (.int v3), some (.int v4), none] [.int r6] S
        refine V_if_eq (tgt := 66) (pc := 56) C dX7_reads_56 (by decide) (fun hc => ?_) (fun hc => ?_)
        · have h := it_t hc h
          refine V_aload_n (pc := 66) C dX7_reads_66 rfl rfl ?_
          refine V_ldcS (j := 1) (pc := 67) C dX7_reads_67 rfl ?_
          obtain ⟨r7, er7, h⟩ := b1_some h
          refine V_callV (As := [.ref 10001]) (pc := 69) C (mX7_isWord _ zq_1 er7) zm_X7_isWord zi_X7_isWord ml_RX7_57 z1_cW_7 rfl ⟨Nat.le_of_ble_eq_true rfl, Nat.le_of_ble_eq_true rfl⟩ rfl rfl (Nat.le_of_ble_eq_true rfl) dX7_reads_69 ?_
          show V K 72 [some (.ref 2), none, none, some (.int v3), some (.int v4), none] [.int r7] S
          refine V_if_eq (tgt := 82) (pc := 72) C dX7_reads_72 (by decide) (fun hc => ?_) (fun hc => ?_)
          · have h := it_t hc h
            refine V_aload_n (pc := 82) C dX7_reads_82 rfl rfl ?_
            refine V_ldcS (j := 2) (pc := 83) C dX7_reads_83 rfl ?_
            obtain ⟨r8, er8, h⟩ := b1_some h
            refine V_callV (As := [.ref 10002]) (pc := 85) C (mX7_isWord _ zq_2 er8) zm_X7_isWord zi_X7_isWord ml_RX7_57 z1_cW_7 rfl ⟨Nat.le_of_ble_eq_true rfl, Nat.le_of_ble_eq_true rfl⟩ rfl rfl (Nat.le_of_ble_eq_true rfl) dX7_reads_85 ?_
            show V K 88 [some (.ref 2), none, none, some (.int v3), some (.int v4), none] [.int r8] S
            refine V_if_eq (tgt := 98) (pc := 88) C dX7_reads_88 (by decide) (fun hc => ?_) (fun hc => ?_)
            · have h := it_t hc h
              refine V_aload_n (pc := 98) C dX7_reads_98 rfl rfl ?_
              refine V_ldcS (j := 3) (pc := 99) C dX7_reads_99 rfl ?_
              obtain ⟨r9, er9, h⟩ := b1_some h
              refine V_callV (As := [.ref 10003]) (pc := 101) C (mX7_isWord _ zq_3 er9) zm_X7_isWord zi_X7_isWord ml_RX7_57 z1_cW_7 rfl ⟨Nat.le_of_ble_eq_true rfl, Nat.le_of_ble_eq_true rfl⟩ rfl rfl (Nat.le_of_ble_eq_true rfl) dX7_reads_101 ?_
              show V K 104 [some (.ref 2), none, none, some (.int v3), some (.int v4), none] [.int r9] S
              refine V_if_eq (tgt := 114) (pc := 104) C dX7_reads_104 (by decide) (fun hc => ?_) (fun hc => ?_)
              · have h := it_t hc h
                refine V_aload_n (pc := 114) C dX7_reads_114 rfl rfl ?_
                refine V_iconst (pc := 115) C dX7_reads_115 kc_i_1 ?_
                obtain ⟨r10, S11, er10, h⟩ := b2_some h
                refine V_callV (As := [.int (1 : Int32)]) (pc := 116) C (mX7_wrong _ er10) zm_X7_wrong zi_X7_wrong ml_RX7_80 z1_cW_7 rfl ⟨Nat.le_of_ble_eq_true rfl, Nat.le_of_ble_eq_true rfl⟩ rfl rfl (Nat.le_of_ble_eq_true rfl) dX7_reads_116 ?_
                show V K 119 [some (.ref 2), none, none, some (.int v3), some (.int v4), none] [.int r10] S11
                obtain ⟨out', e119, hi, hb⟩ := lm_some h
                refine V_mask [true, false, false, false, true, false] (mX7_reads_J119 C  e119 ?_ ?_)
                · intro v3 v4 S eo
                  have h := hb _ eo
                  exact ih _ _ _ _ h hx hret
                · intro r' eo
                  exact hret _ (hi _ eo).symm
              · have h := it_f hc h
                refine V_aload_n (pc := 107) C dX7_reads_107 rfl rfl ?_
                obtain ⟨r15, S16, er15, h⟩ := b2_some h
                refine V_callV (As := []) (pc := 108) C (mX7_readPay _ er15) zm_X7_readPay zi_X7_readPay ml_RX7_77 z1_cW_7 rfl ⟨Nat.le_of_ble_eq_true rfl, Nat.le_of_ble_eq_true rfl⟩ rfl rfl (Nat.le_of_ble_eq_true rfl) dX7_reads_108 ?_
                show V K 111 [some (.ref 2), none, none, some (.int v3), some (.int v4), none] [.int r15] S16
                refine V_goto (tgt := 119) (pc := 111) C dX7_reads_111 (by decide) ?_
                obtain ⟨out', e119, hi, hb⟩ := lm_some h
                refine V_mask [true, false, false, false, true, false] (mX7_reads_J119 C  e119 ?_ ?_)
                · intro v3 v4 S eo
                  have h := hb _ eo
                  exact ih _ _ _ _ h hx hret
                · intro r' eo
                  exact hret _ (hi _ eo).symm
            · have h := it_f hc h
              refine V_aload_n (pc := 91) C dX7_reads_91 rfl rfl ?_
              obtain ⟨r17, S18, er17, h⟩ := b2_some h
              refine V_callV (As := []) (pc := 92) C (mX7_readPlan _ er17) zm_X7_readPlan zi_X7_readPlan ml_RX7_72 z1_cW_7 rfl ⟨Nat.le_of_ble_eq_true rfl, Nat.le_of_ble_eq_true rfl⟩ rfl rfl (Nat.le_of_ble_eq_true rfl) dX7_reads_92 ?_
              show V K 95 [some (.ref 2), none, none, some (.int v3), some (.int v4), none] [.int r17] S18
              refine V_goto (tgt := 119) (pc := 95) C dX7_reads_95 (by decide) ?_
              obtain ⟨out', e119, hi, hb⟩ := lm_some h
              refine V_mask [true, false, false, false, true, false] (mX7_reads_J119 C  e119 ?_ ?_)
              · intro v3 v4 S eo
                have h := hb _ eo
                exact ih _ _ _ _ h hx hret
              · intro r' eo
                exact hret _ (hi _ eo).symm
          · have h := it_f hc h
            refine V_aload_n (pc := 75) C dX7_reads_75 rfl rfl ?_
            obtain ⟨r19, S20, er19, h⟩ := b2_some h
            refine V_callV (As := []) (pc := 76) C (mX7_readSayer _ er19) zm_X7_readSayer zi_X7_readSayer ml_RX7_67 z1_cW_7 rfl ⟨Nat.le_of_ble_eq_true rfl, Nat.le_of_ble_eq_true rfl⟩ rfl rfl (Nat.le_of_ble_eq_true rfl) dX7_reads_76 ?_
            show V K 79 [some (.ref 2), none, none, some (.int v3), some (.int v4), none] [.int r19] S20
            refine V_goto (tgt := 119) (pc := 79) C dX7_reads_79 (by decide) ?_
            obtain ⟨out', e119, hi, hb⟩ := lm_some h
            refine V_mask [true, false, false, false, true, false] (mX7_reads_J119 C  e119 ?_ ?_)
            · intro v3 v4 S eo
              have h := hb _ eo
              exact ih _ _ _ _ h hx hret
            · intro r' eo
              exact hret _ (hi _ eo).symm
        · have h := it_f hc h
          refine V_aload_n (pc := 59) C dX7_reads_59 rfl rfl ?_
          obtain ⟨r21, S22, er21, h⟩ := b2_some h
          refine V_callV (As := []) (pc := 60) C (mX7_readSense _ er21) zm_X7_readSense zi_X7_readSense ml_RX7_61 z1_cW_7 rfl ⟨Nat.le_of_ble_eq_true rfl, Nat.le_of_ble_eq_true rfl⟩ rfl rfl (Nat.le_of_ble_eq_true rfl) dX7_reads_60 ?_
          show V K 63 [some (.ref 2), none, none, some (.int v3), some (.int v4), none] [.int r21] S22
          refine V_goto (tgt := 119) (pc := 63) C dX7_reads_63 (by decide) ?_
          obtain ⟨out', e119, hi, hb⟩ := lm_some h
          refine V_mask [true, false, false, false, true, false] (mX7_reads_J119 C  e119 ?_ ?_)
          · intro v3 v4 S eo
            have h := hb _ eo
            exact ih _ _ _ _ h hx hret
          · intro r' eo
            exact hret _ (hi _ eo).symm
set_option maxRecDepth 100000 in
theorem mX7_reads (l : Launch) {S : zM} {a2 : Int32} {r : Int32} {S' : zM}  (h : gX7_reads S a2 = some (r, S')) : zMet l cW zS0 yX7_reads cX7_reads 6 (some .boolean) 11 280 [.ref 2, .ref 1, .int a2] S (some (.int r)) S' := by
  refine zmeth (by decide +kernel) (by rfl) (fun K hKl C hR => ?_)
  show V K 0 [some (.ref 2), some (.ref 1), some (.int a2), none, none, none] [] S
  unfold gX7_reads at h
  refine V_aload_n (pc := 0) C dX7_reads_0 rfl rfl ?_
  obtain ⟨k1, h⟩ := ck_some h
  refine V_getR (pc := 1) C z1_cW_7 fl_RX7_25 rfl dX7_reads_1 ?_
  obtain ⟨S3, euS3, h⟩ := b1_some h
  refine V_callV (As := []) (pc := 4) C (mX3_empty _ (zob_of k1) euS3) zm_X3_empty zi_X3_empty ml_RX7_29 (zob_of k1) rfl ⟨Nat.le_of_ble_eq_true rfl, Nat.le_of_ble_eq_true rfl⟩ rfl rfl (Nat.le_of_ble_eq_true rfl) dX7_reads_4 ?_
  show V K 7 [some (.ref 2), some (.ref 1), some (.int a2), none, none, none] [] S3
  refine V_aload_n (pc := 7) C dX7_reads_7 rfl rfl ?_
  refine V_iconst (pc := 8) C dX7_reads_8 kc_i_0 ?_
  refine V_putI (pc := 9) C z1_cW_7 fp_RX7_32 rfl rfl dX7_reads_9 ?_
  refine V_aload_n (pc := 12) C dX7_reads_12 rfl rfl ?_
  refine V_iconst (pc := 13) C dX7_reads_13 kc_i_0 ?_
  refine V_putI (pc := 14) C z1_cW_7 fp_RX7_36 rfl rfl dX7_reads_14 ?_
  refine V_aload_n (pc := 17) C dX7_reads_17 rfl rfl ?_
  refine V_aload_n (pc := 18) C dX7_reads_18 rfl rfl ?_
  refine V_iconst (pc := 19) C dX7_reads_19 kc_i_0 ?_
  refine V_iload_n (pc := 20) C dX7_reads_20 rfl rfl ?_
  refine V_aload_n (pc := 21) C dX7_reads_21 rfl rfl ?_
  refine V_alen (v := (700 : Int32)) (pc := 22) C (za_cW_11_0 z1_cW_11) (by decide) (fun _ => rfl) (by decide) dX7_reads_22 ?_
  refine V_min (pc := 23) C ml_RX7_39 mt_min.1 mt_min.2.1 mt_min.2.2 ⟨Nat.le_of_ble_eq_true rfl, Nat.le_of_ble_eq_true rfl⟩ dX7_reads_23 ?_
  refine V_max (pc := 26) C ml_RX7_45 mt_max.1 mt_max.2.1 mt_max.2.2 ⟨Nat.le_of_ble_eq_true rfl, Nat.le_of_ble_eq_true rfl⟩ dX7_reads_26 ?_
  obtain ⟨S5, euS5, h⟩ := b1_some h
  refine V_callV (As := [.ref 1, .int (jmax (0 : Int32) (jmin a2 (700 : Int32)))]) (pc := 29) C (mX7_scan _ euS5) zm_X7_scan zi_X7_scan ml_RX7_48 z1_cW_7 rfl ⟨Nat.le_of_ble_eq_true rfl, Nat.le_of_ble_eq_true rfl⟩ rfl rfl (Nat.le_of_ble_eq_true rfl) dX7_reads_29 ?_
  show V K 32 [some (.ref 2), some (.ref 1), some (.int a2), none, none, none] [] S5
  refine V_iconst (pc := 32) C dX7_reads_32 kc_i_1 ?_
  refine V_istore_n (L' := [some (.ref 2), some (.ref 1), some (.int a2), some (.int (1 : Int32)), none, none]) (pc := 33) C dX7_reads_33 rfl (by decide) rfl ?_
  refine V_iconst (pc := 34) C dX7_reads_34 kc_i_0 ?_
  refine V_istore (L' := [some (.ref 2), some (.ref 1), some (.int a2), some (.int (1 : Int32)), some (.int (0 : Int32)), none]) (pc := 35) C dX7_reads_35 (by decide) rfl ?_
  obtain ⟨out37, e37, hr37, hx37⟩ := lm_some h
  refine V_mask [true, false, false, true, true, false] (mX7_reads_L37 C  FU _ _ _ _ e37 ?_ ?_)
  · intro S23 eo
    have h := hx37 _ eo
    refine V_aload_n (pc := 149) C dX7_reads_149 rfl rfl ?_
    refine V_getF (p1 := 3) (pc := 150) C z1_cW_7 fl_RX7_9 rfl (zf_cW_7_0 z1_cW_7) dX7_reads_150 ?_
    refine V_aload_n (pc := 153) C dX7_reads_153 rfl rfl ?_
    refine V_getI (pc := 154) C z1_cW_7 fl_RX7_91 (by decide) dX7_reads_154 ?_
    obtain ⟨k24, h⟩ := ck_some h
    refine V_iald (pc := 157) C (za_cW_7_0 z1_cW_7) k24 dX7_reads_157 ?_
    refine V_if_eq (tgt := 167) (pc := 158) C dX7_reads_158 (by decide) (fun hc => ?_) (fun hc => ?_)
    · have h := it_t hc h
      refine V_aload_n (pc := 167) C dX7_reads_167 rfl rfl ?_
      obtain ⟨k25, h⟩ := ck_some h
      refine V_getR (pc := 168) C z1_cW_7 fl_RX7_25 rfl dX7_reads_168 ?_
      refine V_getI (pc := 171) C (zob_of k25) fl_RX7_94 (by decide) dX7_reads_171 ?_
      refine V_if_gt (tgt := 186) (pc := 174) C dX7_reads_174 (by decide) (fun hc => ?_) (fun hc => ?_)
      · have h := it_t hc h
        refine V_iconst (pc := 186) C dX7_reads_186 kc_i_1 ?_
        refine V_goto (tgt := 191) (pc := 187) C dX7_reads_187 (by decide) ?_
        cases h
        exact hR 191 _ ⟨_, rfl, zB1⟩ dX7_reads_191
      · have h := it_f hc h
        refine V_aload_n (pc := 177) C dX7_reads_177 rfl rfl ?_
        refine V_bipush (pc := 178) C dX7_reads_178 kc_b_6 ?_
        obtain ⟨r26, S27, er26, h⟩ := b2_some h
        refine V_callV (As := [.int (6 : Int32)]) (pc := 180) C (mX7_wrong _ er26) zm_X7_wrong zi_X7_wrong ml_RX7_80 z1_cW_7 rfl ⟨Nat.le_of_ble_eq_true rfl, Nat.le_of_ble_eq_true rfl⟩ rfl rfl (Nat.le_of_ble_eq_true rfl) dX7_reads_180 ?_
        show V K 183 [some (.ref 2), none, none, none, none, none] [.int r26] S27
        refine V_if_eq (tgt := 190) (pc := 183) C dX7_reads_183 (by decide) (fun hc => ?_) (fun hc => ?_)
        · have h := it_t hc h
          refine V_iconst (pc := 190) C dX7_reads_190 kc_i_0 ?_
          cases h
          exact hR 191 _ ⟨_, rfl, zB0⟩ dX7_reads_191
        · have h := it_f hc h
          refine V_iconst (pc := 186) C dX7_reads_186 kc_i_1 ?_
          refine V_goto (tgt := 191) (pc := 187) C dX7_reads_187 (by decide) ?_
          cases h
          exact hR 191 _ ⟨_, rfl, zB1⟩ dX7_reads_191
    · have h := it_f hc h
      refine V_aload_n (pc := 161) C dX7_reads_161 rfl rfl ?_
      refine V_iconst (pc := 162) C dX7_reads_162 kc_i_1 ?_
      obtain ⟨r28, S29, er28, h⟩ := b2_some h
      refine V_callV (As := [.int (1 : Int32)]) (pc := 163) C (mX7_wrong _ er28) zm_X7_wrong zi_X7_wrong ml_RX7_80 z1_cW_7 rfl ⟨Nat.le_of_ble_eq_true rfl, Nat.le_of_ble_eq_true rfl⟩ rfl rfl (Nat.le_of_ble_eq_true rfl) dX7_reads_163 ?_
      show V K 166 [some (.ref 2), none, none, none, none, none] [.int r28] S29
      obtain ⟨k30, h⟩ := ck_some h
      cases h
      exact hR 166 _ ⟨_, rfl, isB_nar k30⟩ dX7_reads_166
  · intro r' eo
    cases hr37 _ eo
    exact hR
set_option maxRecDepth 100000 in
theorem mX8_learned (l : Launch) {S : zM} {q : Nat} {a1 : Int32} {r : Int32} (hq : zob cW 8 q) (h : gX8_learned S q a1 = some r) : zMet l cW zS0 yX8_learned cX8_learned 2 (some .int) 1 21 [.ref q, .int a1] S (some (.int r)) S := by
  refine zmeth (by decide +kernel) (by rfl) (fun K hKl C hR => ?_)
  show V K 0 [some (.ref q), some (.int a1)] [] S
  unfold gX8_learned at h
  refine V_aload_n (pc := 0) C dX8_learned_0 rfl rfl ?_
  refine V_getI (pc := 1) C hq fl_RX8_28 (by decide) dX8_learned_1 ?_
  refine V_iconst (pc := 4) C dX8_learned_4 kc_i_1 ?_
  refine V_icmp_ge (tgt := 12) (pc := 5) C dX8_learned_5 (by decide) (fun hc => ?_) (fun hc => ?_)
  · have h := it_t hc h
    refine V_iload_n (pc := 12) C dX8_learned_12 rfl rfl ?_
    refine V_aload_n (pc := 13) C dX8_learned_13 rfl rfl ?_
    refine V_getI (pc := 14) C hq fl_RX8_38 (by decide) dX8_learned_14 ?_
    refine V_aload_n (pc := 17) C dX8_learned_17 rfl rfl ?_
    refine V_getI (pc := 18) C hq fl_RX8_28 (by decide) dX8_learned_18 ?_
    obtain ⟨k1, h⟩ := ck_some h
    refine V_idiv (pc := 21) C dX8_learned_21 (of_decide_eq_true k1) ?_
    refine V_min (pc := 22) C ml_RX8_44 mt_min.1 mt_min.2.1 mt_min.2.2 ⟨Nat.le_of_ble_eq_true rfl, Nat.le_of_ble_eq_true rfl⟩ dX8_learned_22 ?_
    cases h
    exact hR 25 _ ⟨_, rfl, rfl⟩ dX8_learned_25
  · have h := it_f hc h
    refine V_iconst (pc := 8) C dX8_learned_8 kc_i_0 ?_
    refine V_goto (tgt := 25) (pc := 9) C dX8_learned_9 (by decide) ?_
    cases h
    exact hR 25 _ ⟨_, rfl, rfl⟩ dX8_learned_25
set_option maxRecDepth 100000 in
theorem mX10_least (l : Launch) {S : zM} {a1 : Int32} {a2 : Int32} {a3 : Int32} {r : Int32} {S' : zM}  (h : gX10_least S a1 a2 a3 = some (r, S')) : zMet l cW zS0 yX10_least cX10_least 4 (some .int) 3 77 [.ref 233, .int a1, .int a2, .int a3] S (some (.int r)) S' := by
  refine zmeth (by decide +kernel) (by rfl) (fun K hKl C hR => ?_)
  show V K 0 [some (.ref 233), some (.int a1), some (.int a2), some (.int a3)] [] S
  unfold gX10_least at h
  refine V_iload_n (pc := 0) C dX10_least_0 rfl rfl ?_
  refine V_aload_n (pc := 1) C dX10_least_1 rfl rfl ?_
  refine V_iload_n (pc := 2) C dX10_least_2 rfl rfl ?_
  refine V_iload_n (pc := 3) C dX10_least_3 rfl rfl ?_
  refine V_iload_n (pc := 4) C dX10_least_4 rfl rfl ?_
  refine V_isub (pc := 5) C dX10_least_5 ?_
  refine V_iload_n (pc := 6) C dX10_least_6 rfl rfl ?_
  obtain ⟨r1, S2, er1, h⟩ := b2_some h
  refine V_callV (As := [.int a1, .int (a3 - a2), .int a3]) (pc := 7) C (mX10_greatest _ er1) zm_X10_greatest zi_X10_greatest ml_RX10_28 z1_cW_10 rfl ⟨Nat.le_of_ble_eq_true rfl, Nat.le_of_ble_eq_true rfl⟩ rfl rfl (Nat.le_of_ble_eq_true rfl) dX10_least_7 ?_
  show V K 10 [some (.ref 233), some (.int a1), some (.int a2), some (.int a3)] [.int r1, .int a1] S2
  refine V_isub (pc := 10) C dX10_least_10 ?_
  cases h
  exact hR 11 _ ⟨_, rfl, rfl⟩ dX10_least_11
set_option maxRecDepth 100000 in
theorem mX11_putBytes_L3 {K : zK} (C : zC K cX11_putBytes yX11_putBytes.cls 3 0 0 cW) {v1 : Int32}  : ∀ (f : Nat) (S : zM) (v2 : Int32) (S' : zM), gX11_putBytes_L3 v1 f S v2 = some S' → zR K cX11_putBytes (none) S' none → V K 3 [some (.ref 0), some (.int v1), some (.int v2)] [] S := by
  intro f
  induction f with
  | zero => intro S v2 S' h hR; cases h
  | succ n ih =>
    intro S v2 S' h hR
    unfold gX11_putBytes_L3 at h
    refine V_iload_n (pc := 3) C dX11_putBytes_3 rfl rfl ?_
    refine V_if_lt (tgt := 48) (pc := 4) C dX11_putBytes_4 (by decide) (fun hc => ?_) (fun hc => ?_)
    · have h := it_t hc h
      cases h
      exact hR 48 _ rfl dX11_putBytes_48
    · have h := it_f hc h
      refine V_aload_n (pc := 7) C dX11_putBytes_7 rfl rfl ?_
      refine V_getI (pc := 8) C z1_cW_11 fl_RX11_63 (by decide) dX11_putBytes_8 ?_
      refine V_aload_n (pc := 11) C dX11_putBytes_11 rfl rfl ?_
      refine V_getF (p1 := 1) (pc := 12) C z1_cW_11 fl_RX11_9 rfl (zf_cW_11_0 z1_cW_11) dX11_putBytes_12 ?_
      refine V_alen (v := (700 : Int32)) (pc := 15) C (za_cW_11_0 z1_cW_11) (by decide) (fun _ => rfl) (by decide) dX11_putBytes_15 ?_
      refine V_icmp_ge (tgt := 48) (pc := 16) C dX11_putBytes_16 (by decide) (fun hc => ?_) (fun hc => ?_)
      · have h := it_t hc h
        cases h
        exact hR 48 _ rfl dX11_putBytes_48
      · have h := it_f hc h
        refine V_aload_n (pc := 19) C dX11_putBytes_19 rfl rfl ?_
        refine V_getF (p1 := 1) (pc := 20) C z1_cW_11 fl_RX11_9 rfl (zf_cW_11_0 z1_cW_11) dX11_putBytes_20 ?_
        refine V_aload_n (pc := 23) C dX11_putBytes_23 rfl rfl ?_
        refine V_getI (pc := 24) C z1_cW_11 fl_RX11_63 (by decide) dX11_putBytes_24 ?_
        refine V_iload_n (pc := 27) C dX11_putBytes_27 rfl rfl ?_
        refine V_iload_n (pc := 28) C dX11_putBytes_28 rfl rfl ?_
        refine V_ishr (pc := 29) C dX11_putBytes_29 ?_
        refine V_i2b (pc := 30) C dX11_putBytes_30 ?_
        obtain ⟨k1, h⟩ := ck_some h
        refine V_bast (pc := 31) C (za_cW_11_0 z1_cW_11) k1 dX11_putBytes_31 ?_
        refine V_aload_n (pc := 32) C dX11_putBytes_32 rfl rfl ?_
        refine V_dup (pc := 33) C dX11_putBytes_33 rfl ?_
        refine V_getI (pc := 34) C z1_cW_11 fl_RX11_63 (by decide) dX11_putBytes_34 ?_
        refine V_iconst (pc := 37) C dX11_putBytes_37 kc_i_1 ?_
        refine V_iadd (pc := 38) C dX11_putBytes_38 ?_
        refine V_putI (pc := 39) C z1_cW_11 fp_RX11_63 rfl rfl dX11_putBytes_39 ?_
        obtain ⟨S2, eS2, h⟩ := lt_some h
        refine V_nmS eS2 ?_
        refine V_iinc (L' := [some (.ref 0), some (.int v1), some (.int (v2 + (-8 : Int32)))]) (v := (v2 + (-8 : Int32))) (pc := 42) C dX11_putBytes_42 rfl (congrArg (v2 + ·) kc_i_m8) (by decide) rfl ?_
        refine V_goto (tgt := 3) (pc := 45) C dX11_putBytes_45 (by decide) ?_
        exact V_mask [true, true, true] (ih _ _ _ h hR)
set_option maxRecDepth 100000 in
theorem mX11_putBytes (l : Launch) {S : zM} {a1 : Int32} {S' : zM}  (h : gX11_putBytes S a1 = some S') : zMet l cW zS0 yX11_putBytes cX11_putBytes 3 (none) 0 0 [.ref 0, .int a1] S none S' := by
  refine zmeth (by decide +kernel) (by rfl) (fun K hKl C hR => ?_)
  show V K 0 [some (.ref 0), some (.int a1), none] [] S
  unfold gX11_putBytes at h
  refine V_bipush (pc := 0) C dX11_putBytes_0 kc_b_24 ?_
  refine V_istore_n (L' := [some (.ref 0), some (.int a1), some (.int (24 : Int32))]) (pc := 2) C dX11_putBytes_2 rfl (by decide) rfl ?_
  exact V_mask [true, true, true] (mX11_putBytes_L3 C  FU _ _ _ h hR)
set_option maxRecDepth 100000 in
theorem mX11_feed (l : Launch) {S : zM} {a1 : Int32} {a2 : Int32} {a3 : Int32} {a4 : Int32} {a5 : Int32} {r : Int32} {S' : zM}  (h : gX11_feed S a1 a2 a3 a4 a5 = some (r, S')) : zMet l cW zS0 yX11_feed cX11_feed 6 (some .int) 1 22 [.ref 0, .int a1, .int a2, .int a3, .int a4, .int a5] S (some (.int r)) S' := by
  refine zmeth (by decide +kernel) (by rfl) (fun K hKl C hR => ?_)
  show V K 0 [some (.ref 0), some (.int a1), some (.int a2), some (.int a3), some (.int a4), some (.int a5)] [] S
  unfold gX11_feed at h
  refine V_aload_n (pc := 0) C dX11_feed_0 rfl rfl ?_
  refine V_getI (pc := 1) C z1_cW_11 fl_RX11_63 (by decide) dX11_feed_1 ?_
  refine V_bipush (pc := 4) C dX11_feed_4 kc_b_20 ?_
  refine V_iadd (pc := 6) C dX11_feed_6 ?_
  refine V_sipush (pc := 7) C dX11_feed_7 kc_s_700 ?_
  refine V_icmp_le (tgt := 15) (pc := 10) C dX11_feed_10 (by decide) (fun hc => ?_) (fun hc => ?_)
  · have h := it_t hc h
    refine V_aload_n (pc := 15) C dX11_feed_15 rfl rfl ?_
    refine V_iload_n (pc := 16) C dX11_feed_16 rfl rfl ?_
    obtain ⟨S2, euS2, h⟩ := b1_some h
    refine V_callV (As := [.int a1]) (pc := 17) C (mX11_putBytes _ euS2) zm_X11_putBytes zi_X11_putBytes ml_RX11_67 z1_cW_11 rfl ⟨Nat.le_of_ble_eq_true rfl, Nat.le_of_ble_eq_true rfl⟩ rfl rfl (Nat.le_of_ble_eq_true rfl) dX11_feed_17 ?_
    show V K 20 [some (.ref 0), some (.int a1), some (.int a2), some (.int a3), some (.int a4), some (.int a5)] [] S2
    refine V_aload_n (pc := 20) C dX11_feed_20 rfl rfl ?_
    refine V_iload_n (pc := 21) C dX11_feed_21 rfl rfl ?_
    obtain ⟨S4, euS4, h⟩ := b1_some h
    refine V_callV (As := [.int a2]) (pc := 22) C (mX11_putBytes _ euS4) zm_X11_putBytes zi_X11_putBytes ml_RX11_67 z1_cW_11 rfl ⟨Nat.le_of_ble_eq_true rfl, Nat.le_of_ble_eq_true rfl⟩ rfl rfl (Nat.le_of_ble_eq_true rfl) dX11_feed_22 ?_
    show V K 25 [some (.ref 0), some (.int a1), some (.int a2), some (.int a3), some (.int a4), some (.int a5)] [] S4
    refine V_aload_n (pc := 25) C dX11_feed_25 rfl rfl ?_
    refine V_iload_n (pc := 26) C dX11_feed_26 rfl rfl ?_
    obtain ⟨S6, euS6, h⟩ := b1_some h
    refine V_callV (As := [.int a3]) (pc := 27) C (mX11_putBytes _ euS6) zm_X11_putBytes zi_X11_putBytes ml_RX11_67 z1_cW_11 rfl ⟨Nat.le_of_ble_eq_true rfl, Nat.le_of_ble_eq_true rfl⟩ rfl rfl (Nat.le_of_ble_eq_true rfl) dX11_feed_27 ?_
    show V K 30 [some (.ref 0), some (.int a1), some (.int a2), some (.int a3), some (.int a4), some (.int a5)] [] S6
    refine V_aload_n (pc := 30) C dX11_feed_30 rfl rfl ?_
    refine V_iload (pc := 31) C dX11_feed_31 rfl ?_
    obtain ⟨S8, euS8, h⟩ := b1_some h
    refine V_callV (As := [.int a4]) (pc := 33) C (mX11_putBytes _ euS8) zm_X11_putBytes zi_X11_putBytes ml_RX11_67 z1_cW_11 rfl ⟨Nat.le_of_ble_eq_true rfl, Nat.le_of_ble_eq_true rfl⟩ rfl rfl (Nat.le_of_ble_eq_true rfl) dX11_feed_33 ?_
    show V K 36 [some (.ref 0), some (.int a1), some (.int a2), some (.int a3), some (.int a4), some (.int a5)] [] S8
    refine V_aload_n (pc := 36) C dX11_feed_36 rfl rfl ?_
    refine V_iload (pc := 37) C dX11_feed_37 rfl ?_
    obtain ⟨S10, euS10, h⟩ := b1_some h
    refine V_callV (As := [.int a5]) (pc := 39) C (mX11_putBytes _ euS10) zm_X11_putBytes zi_X11_putBytes ml_RX11_67 z1_cW_11 rfl ⟨Nat.le_of_ble_eq_true rfl, Nat.le_of_ble_eq_true rfl⟩ rfl rfl (Nat.le_of_ble_eq_true rfl) dX11_feed_39 ?_
    show V K 42 [some (.ref 0), some (.int a1), some (.int a2), some (.int a3), some (.int a4), some (.int a5)] [] S10
    refine V_aload_n (pc := 42) C dX11_feed_42 rfl rfl ?_
    refine V_getI (pc := 43) C z1_cW_11 fl_RX11_63 (by decide) dX11_feed_43 ?_
    cases h
    exact hR 46 _ ⟨_, rfl, rfl⟩ dX11_feed_46
  · have h := it_f hc h
    refine V_iconst (pc := 13) C dX11_feed_13 kc_i_m1 ?_
    cases h
    exact hR 14 _ ⟨_, rfl, rfl⟩ dX11_feed_14
set_option maxRecDepth 100000 in
theorem mX11_passes (l : Launch) {S : zM} {a1 : Int32} {r : Int32} {S' : zM}  (h : gX11_passes S a1 = some (r, S')) : zMet l cW zS0 yX11_passes cX11_passes 2 (some .boolean) 0 0 [.ref 0, .int a1] S (some (.int r)) S' := by
  refine zmeth (by decide +kernel) (by rfl) (fun K hKl C hR => ?_)
  show V K 0 [some (.ref 0), some (.int a1)] [] S
  unfold gX11_passes at h
  refine V_aload_n (pc := 0) C dX11_passes_0 rfl rfl ?_
  refine V_iload_n (pc := 1) C dX11_passes_1 rfl rfl ?_
  refine V_putI (pc := 2) C z1_cW_11 fp_RX11_104 rfl rfl dX11_passes_2 ?_
  refine V_iload_n (pc := 5) C dX11_passes_5 rfl rfl ?_
  refine V_if_ne (tgt := 13) (pc := 6) C dX11_passes_6 (by decide) (fun hc => ?_) (fun hc => ?_)
  · have h := it_f hc h
    refine V_iconst (pc := 13) C dX11_passes_13 kc_i_0 ?_
    cases h
    exact hR 14 _ ⟨_, rfl, zB0⟩ dX11_passes_14
  · have h := it_t hc h
    refine V_iconst (pc := 9) C dX11_passes_9 kc_i_1 ?_
    refine V_goto (tgt := 14) (pc := 10) C dX11_passes_10 (by decide) ?_
    cases h
    exact hR 14 _ ⟨_, rfl, zB1⟩ dX11_passes_14
set_option maxRecDepth 100000 in
theorem mX11_room_J76 {K : zK} (C : zC K cX11_room yX11_room.cls 4 12 305 cW) {S : zM} {s0 : Int32} {r : Int32} {S' : zM}  (hR : zR K cX11_room (some .int) S' (some (.int r))) (h : gX11_room_J76 S s0 = some (r, S')) : V K 76 [some (.ref 0), none, none, none] [.int s0, .ref 0] S := by
  unfold gX11_room_J76 at h
  obtain ⟨r5, S6, er5, h⟩ := b2_some h
  refine V_callV (As := [.int s0]) (pc := 76) C (mX11_passes _ er5) zm_X11_passes zi_X11_passes ml_RX11_71 z1_cW_11 rfl ⟨Nat.le_of_ble_eq_true rfl, Nat.le_of_ble_eq_true rfl⟩ rfl rfl (Nat.le_of_ble_eq_true rfl) dX11_room_76 ?_
  show V K 79 [some (.ref 0), none, none, none] [.int r5] S6
  refine V_if_ne (tgt := 84) (pc := 79) C dX11_room_79 (by decide) (fun hc => ?_) (fun hc => ?_)
  · have h := it_f hc h
    refine V_aload_n (pc := 84) C dX11_room_84 rfl rfl ?_
    obtain ⟨k7, h⟩ := ck_some h
    refine V_getR (pc := 85) C z1_cW_11 fl_RX11_52 rfl dX11_room_85 ?_
    refine V_astore_n (L' := [some (.ref 0), none, none, some (.ref (gR S6 0 8))]) (pc := 88) C dX11_room_88 rfl (by decide) rfl ?_
    refine V_aload_n (pc := 89) C dX11_room_89 rfl rfl ?_
    refine V_aload_n (pc := 90) C dX11_room_90 rfl rfl ?_
    refine V_getF (p1 := 2) (pc := 91) C z1_cW_11 fl_RX11_16 rfl (zf_cW_11_1 z1_cW_11) dX11_room_91 ?_
    obtain ⟨k8, h⟩ := ck_some h
    refine V_getR (pc := 94) C z1_cW_7 fl_RX11_91 rfl dX11_room_94 ?_
    refine V_putR (pc := 97) C z1_cW_11 fp_RX11_52 rfl rfl dX11_room_97 ?_
    refine V_aload_n (pc := 100) C dX11_room_100 rfl rfl ?_
    refine V_getF (p1 := 2) (pc := 101) C z1_cW_11 fl_RX11_16 rfl (zf_cW_11_1 z1_cW_11) dX11_room_101 ?_
    refine V_aload_n (pc := 104) C dX11_room_104 rfl rfl ?_
    refine V_putR (pc := 105) C z1_cW_7 fp_RX11_91 rfl rfl dX11_room_105 ?_
    refine V_aload_n (pc := 108) C dX11_room_108 rfl rfl ?_
    obtain ⟨k9, h⟩ := ck_some h
    refine V_getR (pc := 109) C z1_cW_11 fl_RX11_52 rfl dX11_room_109 ?_
    obtain ⟨S11, euS11, h⟩ := b1_some h
    refine V_callV (As := []) (pc := 112) C (mX3_settle _ (zob_of k9) euS11) zm_X3_settle zi_X3_settle ml_RX11_92 (zob_of k9) rfl ⟨Nat.le_of_ble_eq_true rfl, Nat.le_of_ble_eq_true rfl⟩ rfl rfl (Nat.le_of_ble_eq_true rfl) dX11_room_112 ?_
    show V K 115 [some (.ref 0), none, none, some (.ref (gR S6 0 8))] [] S11
    refine V_aload_n (pc := 115) C dX11_room_115 rfl rfl ?_
    refine V_getF (p1 := 219) (pc := 116) C z1_cW_11 fl_RX11_23 rfl (zf_cW_11_2 z1_cW_11) dX11_room_116 ?_
    obtain ⟨S13, euS13, h⟩ := b1_some h
    refine V_callV (As := []) (pc := 119) C (mX1_empty _ euS13) zm_X1_empty zi_X1_empty ml_RX11_95 z1_cW_1 rfl ⟨Nat.le_of_ble_eq_true rfl, Nat.le_of_ble_eq_true rfl⟩ rfl rfl (Nat.le_of_ble_eq_true rfl) dX11_room_119 ?_
    show V K 122 [some (.ref 0), none, none, some (.ref (gR S6 0 8))] [] S13
    refine V_aload_n (pc := 122) C dX11_room_122 rfl rfl ?_
    refine V_iconst (pc := 123) C dX11_room_123 kc_i_0 ?_
    refine V_putI (pc := 124) C z1_cW_11 fp_RX11_98 rfl rfl dX11_room_124 ?_
    refine V_aload_n (pc := 127) C dX11_room_127 rfl rfl ?_
    obtain ⟨k14, h⟩ := ck_some h
    refine V_getR (pc := 128) C z1_cW_11 fl_RX11_52 rfl dX11_room_128 ?_
    refine V_getI (pc := 131) C (zob_of k14) fl_RX11_101 (by decide) dX11_room_131 ?_
    cases h
    exact hR 134 _ ⟨_, rfl, rfl⟩ dX11_room_134
  · have h := it_t hc h
    refine V_iconst (pc := 82) C dX11_room_82 kc_i_m1 ?_
    cases h
    exact hR 83 _ ⟨_, rfl, rfl⟩ dX11_room_83
set_option maxRecDepth 100000 in
theorem mX11_room_J18 {K : zK} (C : zC K cX11_room yX11_room.cls 4 12 305 cW) {S : zM} {v1 : Int32} {s0 : Int32} {r : Int32} {S' : zM}  (hR : zR K cX11_room (some .int) S' (some (.int r))) (h : gX11_room_J18 S v1 s0 = some (r, S')) : V K 18 [some (.ref 0), some (.int v1), none, none] [.int s0, .ref 0] S := by
  unfold gX11_room_J18 at h
  obtain ⟨r1, S2, er1, h⟩ := b2_some h
  refine V_callV (As := [.int s0]) (pc := 18) C (mX11_passes _ er1) zm_X11_passes zi_X11_passes ml_RX11_71 z1_cW_11 rfl ⟨Nat.le_of_ble_eq_true rfl, Nat.le_of_ble_eq_true rfl⟩ rfl rfl (Nat.le_of_ble_eq_true rfl) dX11_room_18 ?_
  show V K 21 [some (.ref 0), some (.int v1), none, none] [.int r1] S2
  refine V_if_ne (tgt := 26) (pc := 21) C dX11_room_21 (by decide) (fun hc => ?_) (fun hc => ?_)
  · have h := it_f hc h
    refine V_aload_n (pc := 26) C dX11_room_26 rfl rfl ?_
    refine V_iconst (pc := 27) C dX11_room_27 kc_i_0 ?_
    refine V_putI (pc := 28) C z1_cW_11 fp_RX11_63 rfl rfl dX11_room_28 ?_
    refine V_aload_n (pc := 31) C dX11_room_31 rfl rfl ?_
    refine V_getF (p1 := 2) (pc := 32) C z1_cW_11 fl_RX11_16 rfl (zf_cW_11_1 z1_cW_11) dX11_room_32 ?_
    refine V_aload_n (pc := 35) C dX11_room_35 rfl rfl ?_
    refine V_getF (p1 := 1) (pc := 36) C z1_cW_11 fl_RX11_9 rfl (zf_cW_11_0 z1_cW_11) dX11_room_36 ?_
    refine V_iload_n (pc := 39) C dX11_room_39 rfl rfl ?_
    obtain ⟨r3, S4, er3, h⟩ := b2_some h
    refine V_callV (As := [.ref 1, .int v1]) (pc := 40) C (mX7_reads _ er3) zm_X7_reads zi_X7_reads ml_RX11_75 z1_cW_7 rfl ⟨Nat.le_of_ble_eq_true rfl, Nat.le_of_ble_eq_true rfl⟩ rfl rfl (Nat.le_of_ble_eq_true rfl) dX11_room_40 ?_
    show V K 43 [some (.ref 0), some (.int v1), none, none] [.int r3] S4
    refine V_istore_n (L' := [some (.ref 0), some (.int v1), some (.int r3), none]) (pc := 43) C dX11_room_43 rfl (by decide) rfl ?_
    refine V_aload_n (pc := 44) C dX11_room_44 rfl rfl ?_
    refine V_aload_n (pc := 45) C dX11_room_45 rfl rfl ?_
    refine V_getF (p1 := 2) (pc := 46) C z1_cW_11 fl_RX11_16 rfl (zf_cW_11_1 z1_cW_11) dX11_room_46 ?_
    refine V_getI (pc := 49) C z1_cW_7 fl_RX11_79 (by decide) dX11_room_49 ?_
    refine V_putI (pc := 52) C z1_cW_11 fp_RX11_82 rfl rfl dX11_room_52 ?_
    refine V_aload_n (pc := 55) C dX11_room_55 rfl rfl ?_
    refine V_aload_n (pc := 56) C dX11_room_56 rfl rfl ?_
    refine V_getF (p1 := 2) (pc := 57) C z1_cW_11 fl_RX11_16 rfl (zf_cW_11_1 z1_cW_11) dX11_room_57 ?_
    refine V_getI (pc := 60) C z1_cW_7 fl_RX11_85 (by decide) dX11_room_60 ?_
    refine V_putI (pc := 63) C z1_cW_11 fp_RX11_88 rfl rfl dX11_room_63 ?_
    refine V_aload_n (pc := 66) C dX11_room_66 rfl rfl ?_
    refine V_iload_n (pc := 67) C dX11_room_67 rfl rfl ?_
    refine V_if_eq (tgt := 75) (pc := 68) C dX11_room_68 (by decide) (fun hc => ?_) (fun hc => ?_)
    · have h := it_t hc h
      refine V_iconst (pc := 75) C dX11_room_75 kc_i_4 ?_
      exact V_mask [true, false, false, false] (mX11_room_J76 C  hR h)
    · have h := it_f hc h
      refine V_iconst (pc := 71) C dX11_room_71 kc_i_0 ?_
      refine V_goto (tgt := 76) (pc := 72) C dX11_room_72 (by decide) ?_
      exact V_mask [true, false, false, false] (mX11_room_J76 C  hR h)
  · have h := it_t hc h
    refine V_iconst (pc := 24) C dX11_room_24 kc_i_m1 ?_
    cases h
    exact hR 25 _ ⟨_, rfl, rfl⟩ dX11_room_25
set_option maxRecDepth 100000 in
theorem mX11_room (l : Launch) {S : zM} {a1 : Int32} {r : Int32} {S' : zM}  (h : gX11_room S a1 = some (r, S')) : zMet l cW zS0 yX11_room cX11_room 4 (some .int) 12 305 [.ref 0, .int a1] S (some (.int r)) S' := by
  refine zmeth (by decide +kernel) (by rfl) (fun K hKl C hR => ?_)
  show V K 0 [some (.ref 0), some (.int a1), none, none] [] S
  unfold gX11_room at h
  refine V_aload_n (pc := 0) C dX11_room_0 rfl rfl ?_
  refine V_iload_n (pc := 1) C dX11_room_1 rfl rfl ?_
  refine V_if_lt (tgt := 13) (pc := 2) C dX11_room_2 (by decide) (fun hc => ?_) (fun hc => ?_)
  · have h := it_t hc h
    refine V_iconst (pc := 13) C dX11_room_13 kc_i_2 ?_
    refine V_goto (tgt := 18) (pc := 14) C dX11_room_14 (by decide) ?_
    exact V_mask [true, true, false, false] (mX11_room_J18 C  hR h)
  · have h := it_f hc h
    refine V_iload_n (pc := 5) C dX11_room_5 rfl rfl ?_
    refine V_aload_n (pc := 6) C dX11_room_6 rfl rfl ?_
    refine V_getI (pc := 7) C z1_cW_11 fl_RX11_63 (by decide) dX11_room_7 ?_
    refine V_icmp_le (tgt := 17) (pc := 10) C dX11_room_10 (by decide) (fun hc => ?_) (fun hc => ?_)
    · have h := it_t hc h
      refine V_iconst (pc := 17) C dX11_room_17 kc_i_0 ?_
      exact V_mask [true, true, false, false] (mX11_room_J18 C  hR h)
    · have h := it_f hc h
      refine V_iconst (pc := 13) C dX11_room_13 kc_i_2 ?_
      refine V_goto (tgt := 18) (pc := 14) C dX11_room_14 (by decide) ?_
      exact V_mask [true, true, false, false] (mX11_room_J18 C  hR h)
set_option maxRecDepth 100000 in
theorem mX11_fault (l : Launch) {S : zM}  {r : Int32}  (h : gX11_fault S = some r) : zMet l cW zS0 yX11_fault cX11_fault 1 (some .int) 0 0 [.ref 0] S (some (.int r)) S := by
  refine zmeth (by decide +kernel) (by rfl) (fun K hKl C hR => ?_)
  show V K 0 [some (.ref 0)] [] S
  unfold gX11_fault at h
  refine V_aload_n (pc := 0) C dX11_fault_0 rfl rfl ?_
  refine V_getI (pc := 1) C z1_cW_11 fl_RX11_82 (by decide) dX11_fault_1 ?_
  cases h
  exact hR 4 _ ⟨_, rfl, rfl⟩ dX11_fault_4
set_option maxRecDepth 100000 in
theorem mX11_where (l : Launch) {S : zM}  {r : Int32}  (h : gX11_where S = some r) : zMet l cW zS0 yX11_where cX11_where 1 (some .int) 0 0 [.ref 0] S (some (.int r)) S := by
  refine zmeth (by decide +kernel) (by rfl) (fun K hKl C hR => ?_)
  show V K 0 [some (.ref 0)] [] S
  unfold gX11_where at h
  refine V_aload_n (pc := 0) C dX11_where_0 rfl rfl ?_
  refine V_getI (pc := 1) C z1_cW_11 fl_RX11_104 (by decide) dX11_where_1 ?_
  refine V_iconst (pc := 4) C dX11_where_4 kc_i_4 ?_
  refine V_icmp_ne (tgt := 15) (pc := 5) C dX11_where_5 (by decide) (fun hc => ?_) (fun hc => ?_)
  · have h := it_f hc h
    refine V_iconst (pc := 15) C dX11_where_15 kc_i_m1 ?_
    cases h
    exact hR 16 _ ⟨_, rfl, rfl⟩ dX11_where_16
  · have h := it_t hc h
    refine V_aload_n (pc := 8) C dX11_where_8 rfl rfl ?_
    refine V_getI (pc := 9) C z1_cW_11 fl_RX11_88 (by decide) dX11_where_9 ?_
    refine V_goto (tgt := 16) (pc := 12) C dX11_where_12 (by decide) ?_
    cases h
    exact hR 16 _ ⟨_, rfl, rfl⟩ dX11_where_16
set_option maxRecDepth 100000 in
theorem mX11_isSense (l : Launch) {S : zM} {a1 : Int32} {r : Int32}  (h : gX11_isSense S a1 = some r) : zMet l cW zS0 yX11_isSense cX11_isSense 2 (some .boolean) 0 0 [.ref 0, .int a1] S (some (.int r)) S := by
  refine zmeth (by decide +kernel) (by rfl) (fun K hKl C hR => ?_)
  show V K 0 [some (.ref 0), some (.int a1)] [] S
  unfold gX11_isSense at h
  refine V_iload_n (pc := 0) C dX11_isSense_0 rfl rfl ?_
  refine V_if_lt (tgt := 19) (pc := 1) C dX11_isSense_1 (by decide) (fun hc => ?_) (fun hc => ?_)
  · have h := it_t hc h
    refine V_iconst (pc := 19) C dX11_isSense_19 kc_i_0 ?_
    cases h
    exact hR 20 _ ⟨_, rfl, zB0⟩ dX11_isSense_20
  · have h := it_f hc h
    refine V_iload_n (pc := 4) C dX11_isSense_4 rfl rfl ?_
    refine V_aload_n (pc := 5) C dX11_isSense_5 rfl rfl ?_
    obtain ⟨k1, h⟩ := ck_some h
    refine V_getR (pc := 6) C z1_cW_11 fl_RX11_52 rfl dX11_isSense_6 ?_
    refine V_getI (pc := 9) C (zob_of k1) fl_RX11_101 (by decide) dX11_isSense_9 ?_
    refine V_icmp_ge (tgt := 19) (pc := 12) C dX11_isSense_12 (by decide) (fun hc => ?_) (fun hc => ?_)
    · have h := it_t hc h
      refine V_iconst (pc := 19) C dX11_isSense_19 kc_i_0 ?_
      cases h
      exact hR 20 _ ⟨_, rfl, zB0⟩ dX11_isSense_20
    · have h := it_f hc h
      refine V_iconst (pc := 15) C dX11_isSense_15 kc_i_1 ?_
      refine V_goto (tgt := 20) (pc := 16) C dX11_isSense_16 (by decide) ?_
      cases h
      exact hR 20 _ ⟨_, rfl, zB1⟩ dX11_isSense_20
set_option maxRecDepth 100000 in
theorem mX11_level (l : Launch) {S : zM} {a1 : Int32} {a2 : Int32} {r : Int32}  (h : gX11_level S a1 a2 = some r) : zMet l cW zS0 yX11_level cX11_level 3 (some .int) 1 21 [.ref 0, .int a1, .int a2] S (some (.int r)) S := by
  refine zmeth (by decide +kernel) (by rfl) (fun K hKl C hR => ?_)
  show V K 0 [some (.ref 0), some (.int a1), some (.int a2)] [] S
  unfold gX11_level at h
  refine V_aload_n (pc := 0) C dX11_level_0 rfl rfl ?_
  refine V_iload_n (pc := 1) C dX11_level_1 rfl rfl ?_
  obtain ⟨r1, er1, h⟩ := b1_some h
  refine V_callV (As := [.int a1]) (pc := 2) C (mX11_isSense _ er1) zm_X11_isSense zi_X11_isSense ml_RX11_107 z1_cW_11 rfl ⟨Nat.le_of_ble_eq_true rfl, Nat.le_of_ble_eq_true rfl⟩ rfl rfl (Nat.le_of_ble_eq_true rfl) dX11_level_2 ?_
  show V K 5 [some (.ref 0), some (.int a1), some (.int a2)] [.int r1] S
  refine V_if_eq (tgt := 19) (pc := 5) C dX11_level_5 (by decide) (fun hc => ?_) (fun hc => ?_)
  · have h := it_t hc h
    refine V_iconst (pc := 19) C dX11_level_19 kc_i_m1 ?_
    cases h
    exact hR 20 _ ⟨_, rfl, rfl⟩ dX11_level_20
  · have h := it_f hc h
    refine V_iload_n (pc := 8) C dX11_level_8 rfl rfl ?_
    refine V_if_lt (tgt := 19) (pc := 9) C dX11_level_9 (by decide) (fun hc => ?_) (fun hc => ?_)
    · have h := it_t hc h
      refine V_iconst (pc := 19) C dX11_level_19 kc_i_m1 ?_
      cases h
      exact hR 20 _ ⟨_, rfl, rfl⟩ dX11_level_20
    · have h := it_f hc h
      refine V_iload_n (pc := 12) C dX11_level_12 rfl rfl ?_
      refine V_sipush (pc := 13) C dX11_level_13 kc_s_400 ?_
      refine V_icmp_le (tgt := 21) (pc := 16) C dX11_level_16 (by decide) (fun hc => ?_) (fun hc => ?_)
      · have h := it_t hc h
        refine V_aload_n (pc := 21) C dX11_level_21 rfl rfl ?_
        obtain ⟨k2, h⟩ := ck_some h
        refine V_getR (pc := 22) C z1_cW_11 fl_RX11_52 rfl dX11_level_22 ?_
        refine V_getF (p1 := ((gR S 0 8) + 1)) (pc := 25) C (zob_of k2) fl_RX11_110 rfl (zf_cW_3_0 (zob_of k2)) dX11_level_25 ?_
        refine V_iload_n (pc := 28) C dX11_level_28 rfl rfl ?_
        obtain ⟨k3, h⟩ := ck_some h
        refine V_aald (p1 := ((gR S 0 8) + 7 + 31 * ix a1)) (pc := 29) C (za_cW_3_0 (zob_of k2)) (fun _ => rfl) k3 (ze_cW_3_0 (zob_of k2) k3) dX11_level_29 ?_
        refine V_iload_n (pc := 30) C dX11_level_30 rfl rfl ?_
        obtain ⟨r4, er4, h⟩ := b1_some h
        refine V_callV (As := [.int a2]) (pc := 31) C (mX9_levelAt _ (zx_cW_3_0 (zob_of k2) k3) er4) zm_X9_levelAt zi_X9_levelAt ml_RX11_114 (zx_cW_3_0 (zob_of k2) k3) rfl ⟨Nat.le_of_ble_eq_true rfl, Nat.le_of_ble_eq_true rfl⟩ rfl rfl (Nat.le_of_ble_eq_true rfl) dX11_level_31 ?_
        show V K 34 [some (.ref 0), some (.int a1), some (.int a2)] [.int r4] S
        cases h
        exact hR 34 _ ⟨_, rfl, rfl⟩ dX11_level_34
      · have h := it_f hc h
        refine V_iconst (pc := 19) C dX11_level_19 kc_i_m1 ?_
        cases h
        exact hR 20 _ ⟨_, rfl, rfl⟩ dX11_level_20
