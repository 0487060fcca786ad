set_option maxRecDepth 100000 in
theorem mX11_noise (l : Launch) {S : zM} {a1 : Int32} {a2 : Int32} {r : Int32}  (h : gX11_noise S a1 a2 = some r) : zMet l cW zS0 yX11_noise cX11_noise 3 (some .int) 3 62 [.ref 0, .int a1, .int a2] S (some (.int r)) S := by
  refine zmeth (by decide +kernel) (by rfl) (fun K hKl C hR => ?_)
  show V K 0 [some (.ref 0), some (.int a1), some (.int a2)] [] S
  unfold gX11_noise at h
  refine V_aload_n (pc := 0) C dX11_noise_0 rfl rfl ?_
  refine V_iload_n (pc := 1) C dX11_noise_1 rfl rfl ?_
  obtain ⟨r1, er1, h⟩ := b1_some h
  refine V_callV (As := [.int a1]) (pc := 2) C (mX11_isSense _ er1) zm_X11_isSense zi_X11_isSense ml_RX11_107 z1_cW_11 rfl ⟨Nat.le_of_ble_eq_true rfl, Nat.le_of_ble_eq_true rfl⟩ rfl rfl (Nat.le_of_ble_eq_true rfl) dX11_noise_2 ?_
  show V K 5 [some (.ref 0), some (.int a1), some (.int a2)] [.int r1] S
  refine V_if_ne (tgt := 10) (pc := 5) C dX11_noise_5 (by decide) (fun hc => ?_) (fun hc => ?_)
  · have h := it_f hc h
    refine V_aload_n (pc := 10) C dX11_noise_10 rfl rfl ?_
    obtain ⟨k2, h⟩ := ck_some h
    refine V_getR (pc := 11) C z1_cW_11 fl_RX11_52 rfl dX11_noise_11 ?_
    refine V_getF (p1 := ((gR S 0 8) + 1)) (pc := 14) C (zob_of k2) fl_RX11_110 rfl (zf_cW_3_0 (zob_of k2)) dX11_noise_14 ?_
    refine V_iload_n (pc := 17) C dX11_noise_17 rfl rfl ?_
    obtain ⟨k3, h⟩ := ck_some h
    refine V_aald (p1 := ((gR S 0 8) + 7 + 31 * ix a1)) (pc := 18) C (za_cW_3_0 (zob_of k2)) (fun _ => rfl) k3 (ze_cW_3_0 (zob_of k2) k3) dX11_noise_18 ?_
    obtain ⟨r4, er4, h⟩ := b1_some h
    refine V_callV (As := []) (pc := 19) C (mX9_fresh _ (zx_cW_3_0 (zob_of k2) k3) er4) zm_X9_fresh zi_X9_fresh ml_RX11_120 (zx_cW_3_0 (zob_of k2) k3) rfl ⟨Nat.le_of_ble_eq_true rfl, Nat.le_of_ble_eq_true rfl⟩ rfl rfl (Nat.le_of_ble_eq_true rfl) dX11_noise_19 ?_
    show V K 22 [some (.ref 0), some (.int a1), some (.int a2)] [.ref r4] S
    refine V_iload_n (pc := 22) C dX11_noise_22 rfl rfl ?_
    obtain ⟨r5, er5, h⟩ := b1_some h
    refine V_callV (As := [.int a2]) (pc := 23) C (mX4_oftenAt _ (mX9_fresh_f (zx_cW_3_0 (zob_of k2) k3) er4) er5) zm_X4_oftenAt zi_X4_oftenAt ml_RX11_124 (mX9_fresh_f (zx_cW_3_0 (zob_of k2) k3) er4) rfl ⟨Nat.le_of_ble_eq_true rfl, Nat.le_of_ble_eq_true rfl⟩ rfl rfl (Nat.le_of_ble_eq_true rfl) dX11_noise_23 ?_
    show V K 26 [some (.ref 0), some (.int a1), some (.int a2)] [.int r5] S
    cases h
    exact hR 26 _ ⟨_, rfl, rfl⟩ dX11_noise_26
  · have h := it_t hc h
    refine V_iconst (pc := 8) C dX11_noise_8 kc_i_m1 ?_
    cases h
    exact hR 9 _ ⟨_, rfl, rfl⟩ dX11_noise_9
set_option maxRecDepth 100000 in
theorem mX11_isSayer (l : Launch) {S : zM} {a1 : Int32} {r : Int32}  (h : gX11_isSayer S a1 = some r) : zMet l cW zS0 yX11_isSayer cX11_isSayer 2 (some .boolean) 0 0 [.ref 0, .int a1] S (some (.int r)) S := by
  refine zmeth (by decide +kernel) (by rfl) (fun K hKl C hR => ?_)
  show V K 0 [some (.ref 0), some (.int a1)] [] S
  unfold gX11_isSayer at h
  refine V_iload_n (pc := 0) C dX11_isSayer_0 rfl rfl ?_
  refine V_if_lt (tgt := 19) (pc := 1) C dX11_isSayer_1 (by decide) (fun hc => ?_) (fun hc => ?_)
  · have h := it_t hc h
    refine V_iconst (pc := 19) C dX11_isSayer_19 kc_i_0 ?_
    cases h
    exact hR 20 _ ⟨_, rfl, zB0⟩ dX11_isSayer_20
  · have h := it_f hc h
    refine V_iload_n (pc := 4) C dX11_isSayer_4 rfl rfl ?_
    refine V_aload_n (pc := 5) C dX11_isSayer_5 rfl rfl ?_
    obtain ⟨k1, h⟩ := ck_some h
    refine V_getR (pc := 6) C z1_cW_11 fl_RX11_52 rfl dX11_isSayer_6 ?_
    refine V_getI (pc := 9) C (zob_of k1) fl_RX11_454 (by decide) dX11_isSayer_9 ?_
    refine V_icmp_ge (tgt := 19) (pc := 12) C dX11_isSayer_12 (by decide) (fun hc => ?_) (fun hc => ?_)
    · have h := it_t hc h
      refine V_iconst (pc := 19) C dX11_isSayer_19 kc_i_0 ?_
      cases h
      exact hR 20 _ ⟨_, rfl, zB0⟩ dX11_isSayer_20
    · have h := it_f hc h
      refine V_iconst (pc := 15) C dX11_isSayer_15 kc_i_1 ?_
      refine V_goto (tgt := 20) (pc := 16) C dX11_isSayer_16 (by decide) ?_
      cases h
      exact hR 20 _ ⟨_, rfl, zB1⟩ dX11_isSayer_20
set_option maxRecDepth 100000 in
theorem mX11_senseOf (l : Launch) {S : zM} {a1 : Nat} {r : Nat} (ha1 : zob cW 8 a1) (h : gX11_senseOf S a1 = some r) : zMet l cW zS0 yX11_senseOf cX11_senseOf 2 (some (.object "LittleMore$Sense")) 1 21 [.ref 0, .ref a1] S (some (.ref r)) S := by
  refine zmeth (by decide +kernel) (by rfl) (fun K hKl C hR => ?_)
  show V K 0 [some (.ref 0), some (.ref a1)] [] S
  unfold gX11_senseOf at h
  refine V_aload_n (pc := 0) C dX11_senseOf_0 rfl rfl ?_
  refine V_aload_n (pc := 1) C dX11_senseOf_1 rfl rfl ?_
  refine V_getI (pc := 2) C ha1 fl_RX11_136 (by decide) dX11_senseOf_2 ?_
  obtain ⟨r1, er1, h⟩ := b1_some h
  refine V_callV (As := [.int (gI S a1 1)]) (pc := 5) C (mX11_isSense _ er1) zm_X11_isSense zi_X11_isSense ml_RX11_107 z1_cW_11 rfl ⟨Nat.le_of_ble_eq_true rfl, Nat.le_of_ble_eq_true rfl⟩ rfl rfl (Nat.le_of_ble_eq_true rfl) dX11_senseOf_5 ?_
  show V K 8 [some (.ref 0), some (.ref a1)] [.int r1] S
  refine V_if_eq (tgt := 26) (pc := 8) C dX11_senseOf_8 (by decide) (fun hc => ?_) (fun hc => ?_)
  · have h := it_t hc h
    refine V_aload_n (pc := 26) C dX11_senseOf_26 rfl rfl ?_
    obtain ⟨k2, h⟩ := ck_some h
    refine V_getR (pc := 27) C z1_cW_11 fl_RX11_52 rfl dX11_senseOf_27 ?_
    refine V_getF (p1 := ((gR S 0 8) + 1)) (pc := 30) C (zob_of k2) fl_RX11_110 rfl (zf_cW_3_0 (zob_of k2)) dX11_senseOf_30 ?_
    refine V_iconst (pc := 33) C dX11_senseOf_33 kc_i_0 ?_
    obtain ⟨k3, h⟩ := ck_some h
    refine V_aald (p1 := ((gR S 0 8) + 7 + 31 * ix (0 : Int32))) (pc := 34) C (za_cW_3_0 (zob_of k2)) (fun _ => rfl) k3 (ze_cW_3_0 (zob_of k2) k3) dX11_senseOf_34 ?_
    cases h
    exact hR 35 _ ⟨_, rfl⟩ dX11_senseOf_35
  · have h := it_f hc h
    refine V_aload_n (pc := 11) C dX11_senseOf_11 rfl rfl ?_
    obtain ⟨k4, h⟩ := ck_some h
    refine V_getR (pc := 12) C z1_cW_11 fl_RX11_52 rfl dX11_senseOf_12 ?_
    refine V_getF (p1 := ((gR S 0 8) + 1)) (pc := 15) C (zob_of k4) fl_RX11_110 rfl (zf_cW_3_0 (zob_of k4)) dX11_senseOf_15 ?_
    refine V_aload_n (pc := 18) C dX11_senseOf_18 rfl rfl ?_
    refine V_getI (pc := 19) C ha1 fl_RX11_136 (by decide) dX11_senseOf_19 ?_
    obtain ⟨k5, h⟩ := ck_some h
    refine V_aald (p1 := ((gR S 0 8) + 7 + 31 * ix (gI S a1 1))) (pc := 22) C (za_cW_3_0 (zob_of k4)) (fun _ => rfl) k5 (ze_cW_3_0 (zob_of k4) k5) dX11_senseOf_22 ?_
    refine V_goto (tgt := 35) (pc := 23) C dX11_senseOf_23 (by decide) ?_
    cases h
    exact hR 35 _ ⟨_, rfl⟩ dX11_senseOf_35
theorem mX11_senseOf_f {S : zM} {a1 r : Nat} (ha1 : zob cW 8 a1) (h : gX11_senseOf S a1 = some r) : zob cW 9 r := by
  unfold gX11_senseOf at h
  obtain ⟨r1, er1, h⟩ := b1_some h
  by_cases hc : r1 = 0
  · have h := it_t hc h
    obtain ⟨k1, h⟩ := ck_some h
    obtain ⟨k2, h⟩ := ck_some h
    cases h
    exact zx_cW_3_0 (zob_of k1) k2
  · have h := it_f hc h
    obtain ⟨k1, h⟩ := ck_some h
    obtain ⟨k2, h⟩ := ck_some h
    cases h
    exact zx_cW_3_0 (zob_of k1) k2
set_option maxRecDepth 100000 in
theorem mX11_leftOut (l : Launch) {S : zM} {a1 : Nat} {r : Int32} (ha1 : zob cW 8 a1) (h : gX11_leftOut S a1 = some r) : zMet l cW zS0 yX11_leftOut cX11_leftOut 2 (some .int) 2 42 [.ref 0, .ref a1] S (some (.int r)) S := by
  refine zmeth (by decide +kernel) (by rfl) (fun K hKl C hR => ?_)
  show V K 0 [some (.ref 0), some (.ref a1)] [] S
  unfold gX11_leftOut at h
  refine V_aload_n (pc := 0) C dX11_leftOut_0 rfl rfl ?_
  refine V_aload_n (pc := 1) C dX11_leftOut_1 rfl rfl ?_
  refine V_aload_n (pc := 2) C dX11_leftOut_2 rfl rfl ?_
  obtain ⟨r1, er1, h⟩ := b1_some h
  refine V_callV (As := [.ref a1]) (pc := 3) C (mX11_senseOf _ ha1 er1) zm_X11_senseOf zi_X11_senseOf ml_RX11_337 z1_cW_11 rfl ⟨Nat.le_of_ble_eq_true rfl, Nat.le_of_ble_eq_true rfl⟩ rfl rfl (Nat.le_of_ble_eq_true rfl) dX11_leftOut_3 ?_
  show V K 6 [some (.ref 0), some (.ref a1)] [.ref r1, .ref a1] S
  refine V_getI (pc := 6) C (mX11_senseOf_f ha1 er1) fl_RX11_482 (by decide) dX11_leftOut_6 ?_
  refine V_iconst (pc := 9) C dX11_leftOut_9 kc_i_1 ?_
  refine V_isub (pc := 10) C dX11_leftOut_10 ?_
  obtain ⟨r2, er2, h⟩ := b1_some h
  refine V_callV (As := [.int ((gI S r1 7) - (1 : Int32))]) (pc := 11) C (mX8_learned _ ha1 er2) zm_X8_learned zi_X8_learned ml_RX11_485 ha1 rfl ⟨Nat.le_of_ble_eq_true rfl, Nat.le_of_ble_eq_true rfl⟩ rfl rfl (Nat.le_of_ble_eq_true rfl) dX11_leftOut_11 ?_
  show V K 14 [some (.ref 0), some (.ref a1)] [.int r2] S
  cases h
  exact hR 14 _ ⟨_, rfl, rfl⟩ dX11_leftOut_14
set_option maxRecDepth 100000 in
theorem mX11_noiseOf (l : Launch) {S : zM} {a1 : Nat} {r : Nat} (ha1 : zob cW 8 a1) (h : gX11_noiseOf S a1 = some r) : zMet l cW zS0 yX11_noiseOf cX11_noiseOf 2 (some (.object "LittleMore$Noise")) 3 63 [.ref 0, .ref a1] S (some (.ref r)) S := by
  refine zmeth (by decide +kernel) (by rfl) (fun K hKl C hR => ?_)
  show V K 0 [some (.ref 0), some (.ref a1)] [] S
  unfold gX11_noiseOf at h
  refine V_aload_n (pc := 0) C dX11_noiseOf_0 rfl rfl ?_
  refine V_aload_n (pc := 1) C dX11_noiseOf_1 rfl rfl ?_
  obtain ⟨r1, er1, h⟩ := b1_some h
  refine V_callV (As := [.ref a1]) (pc := 2) C (mX11_senseOf _ ha1 er1) zm_X11_senseOf zi_X11_senseOf ml_RX11_337 z1_cW_11 rfl ⟨Nat.le_of_ble_eq_true rfl, Nat.le_of_ble_eq_true rfl⟩ rfl rfl (Nat.le_of_ble_eq_true rfl) dX11_noiseOf_2 ?_
  show V K 5 [some (.ref 0), some (.ref a1)] [.ref r1] S
  refine V_aload_n (pc := 5) C dX11_noiseOf_5 rfl rfl ?_
  refine V_aload_n (pc := 6) C dX11_noiseOf_6 rfl rfl ?_
  obtain ⟨r2, er2, h⟩ := b1_some h
  refine V_callV (As := [.ref a1]) (pc := 7) C (mX11_leftOut _ ha1 er2) zm_X11_leftOut zi_X11_leftOut ml_RX11_151 z1_cW_11 rfl ⟨Nat.le_of_ble_eq_true rfl, Nat.le_of_ble_eq_true rfl⟩ rfl rfl (Nat.le_of_ble_eq_true rfl) dX11_noiseOf_7 ?_
  show V K 10 [some (.ref 0), some (.ref a1)] [.int r2, .ref r1] S
  obtain ⟨r3, er3, h⟩ := b1_some h
  refine V_callV (As := [.int r2]) (pc := 10) C (mX9_noiseWithout _ (mX11_senseOf_f ha1 er1) er3) zm_X9_noiseWithout zi_X9_noiseWithout ml_RX11_488 (mX11_senseOf_f ha1 er1) rfl ⟨Nat.le_of_ble_eq_true rfl, Nat.le_of_ble_eq_true rfl⟩ rfl rfl (Nat.le_of_ble_eq_true rfl) dX11_noiseOf_10 ?_
  show V K 13 [some (.ref 0), some (.ref a1)] [.ref r3] S
  cases h
  exact hR 13 _ ⟨_, rfl⟩ dX11_noiseOf_13
theorem mX11_noiseOf_f {S : zM} {a1 r : Nat} (ha1 : zob cW 8 a1) (h : gX11_noiseOf S a1 = some r) : zob cW 4 r := by
  unfold gX11_noiseOf at h
  obtain ⟨r1, er1, h⟩ := b1_some h
  obtain ⟨r2, er2, h⟩ := b1_some h
  obtain ⟨r3, er3, h⟩ := b1_some h
  cases h
  exact mX9_noiseWithout_f (mX11_senseOf_f ha1 er1) er3
set_option maxRecDepth 100000 in
theorem mX11_sayer (l : Launch) {S : zM} {a1 : Int32} {a2 : Int32} {r : Int32}  (h : gX11_sayer S a1 a2 = some r) : zMet l cW zS0 yX11_sayer cX11_sayer 4 (some .int) 4 84 [.ref 0, .int a1, .int a2] S (some (.int r)) S := by
  refine zmeth (by decide +kernel) (by rfl) (fun K hKl C hR => ?_)
  show V K 0 [some (.ref 0), some (.int a1), some (.int a2), none] [] S
  unfold gX11_sayer at h
  refine V_aload_n (pc := 0) C dX11_sayer_0 rfl rfl ?_
  refine V_iload_n (pc := 1) C dX11_sayer_1 rfl rfl ?_
  obtain ⟨r1, er1, h⟩ := b1_some h
  refine V_callV (As := [.int a1]) (pc := 2) C (mX11_isSayer _ er1) zm_X11_isSayer zi_X11_isSayer ml_RX11_129 z1_cW_11 rfl ⟨Nat.le_of_ble_eq_true rfl, Nat.le_of_ble_eq_true rfl⟩ rfl rfl (Nat.le_of_ble_eq_true rfl) dX11_sayer_2 ?_
  show V K 5 [some (.ref 0), some (.int a1), some (.int a2), none] [.int r1] S
  refine V_if_ne (tgt := 12) (pc := 5) C dX11_sayer_5 (by decide) (fun hc => ?_) (fun hc => ?_)
  · have h := it_f hc h
    refine V_aload_n (pc := 12) C dX11_sayer_12 rfl rfl ?_
    obtain ⟨k2, h⟩ := ck_some h
    refine V_getR (pc := 13) C z1_cW_11 fl_RX11_52 rfl dX11_sayer_13 ?_
    refine V_getF (p1 := ((gR S 0 8) + 2)) (pc := 16) C (zob_of k2) fl_RX11_132 rfl (zf_cW_3_1 (zob_of k2)) dX11_sayer_16 ?_
    refine V_iload_n (pc := 19) C dX11_sayer_19 rfl rfl ?_
    obtain ⟨k3, h⟩ := ck_some h
    refine V_aald (p1 := ((gR S 0 8) + 193 + 2 * ix a1)) (pc := 20) C (za_cW_3_1 (zob_of k2)) (fun _ => rfl) k3 (ze_cW_3_1 (zob_of k2) k3) dX11_sayer_20 ?_
    refine V_astore_n (L' := [some (.ref 0), some (.int a1), some (.int a2), some (.ref ((gR S 0 8) + 193 + 2 * ix a1))]) (pc := 21) C dX11_sayer_21 rfl (by decide) rfl ?_
    refine V_iload_n (pc := 22) C dX11_sayer_22 rfl rfl ?_
    by_cases c23_0 : a2 = (0 : Int32)
    · have h := it_t c23_0 h
      refine V_case (tgt := 76) (off := (53)) (pc := 23) C dX11_sayer_23 c23_0 (by decide +kernel) (by decide) ?_
      refine V_aload_n (pc := 76) C dX11_sayer_76 rfl rfl ?_
      refine V_getI (pc := 77) C (zx_cW_3_1 (zob_of k2) k3) fl_RX11_136 (by decide) dX11_sayer_77 ?_
      cases h
      exact hR 80 _ ⟨_, rfl, rfl⟩ dX11_sayer_80
    · have h := it_f c23_0 h
      by_cases c23_1 : a2 = (1 : Int32)
      · have h := it_t c23_1 h
        refine V_case (tgt := 81) (off := (58)) (pc := 23) C dX11_sayer_23 c23_1 (by decide +kernel) (by decide) ?_
        refine V_aload_n (pc := 81) C dX11_sayer_81 rfl rfl ?_
        refine V_getI (pc := 82) C (zx_cW_3_1 (zob_of k2) k3) fl_RX11_141 (by decide) dX11_sayer_82 ?_
        cases h
        exact hR 85 _ ⟨_, rfl, rfl⟩ dX11_sayer_85
      · have h := it_f c23_1 h
        by_cases c23_2 : a2 = (2 : Int32)
        · have h := it_t c23_2 h
          refine V_case (tgt := 86) (off := (63)) (pc := 23) C dX11_sayer_23 c23_2 (by decide +kernel) (by decide) ?_
          refine V_aload_n (pc := 86) C dX11_sayer_86 rfl rfl ?_
          refine V_getI (pc := 87) C (zx_cW_3_1 (zob_of k2) k3) fl_RX11_144 (by decide) dX11_sayer_87 ?_
          cases h
          exact hR 90 _ ⟨_, rfl, rfl⟩ dX11_sayer_90
        · have h := it_f c23_2 h
          by_cases c23_3 : a2 = (3 : Int32)
          · have h := it_t c23_3 h
            refine V_case (tgt := 91) (off := (68)) (pc := 23) C dX11_sayer_23 c23_3 (by decide +kernel) (by decide) ?_
            refine V_aload_n (pc := 91) C dX11_sayer_91 rfl rfl ?_
            obtain ⟨r4, er4, h⟩ := b1_some h
            refine V_callV (As := []) (pc := 92) C (mX8_tired _ (zx_cW_3_1 (zob_of k2) k3) er4) zm_X8_tired zi_X8_tired ml_RX11_147 (zx_cW_3_1 (zob_of k2) k3) rfl ⟨Nat.le_of_ble_eq_true rfl, Nat.le_of_ble_eq_true rfl⟩ rfl rfl (Nat.le_of_ble_eq_true rfl) dX11_sayer_92 ?_
            show V K 95 [some (.ref 0), some (.int a1), some (.int a2), some (.ref ((gR S 0 8) + 193 + 2 * ix a1))] [.int r4] S
            cases h
            exact hR 95 _ ⟨_, rfl, rfl⟩ dX11_sayer_95
          · have h := it_f c23_3 h
            by_cases c23_4 : a2 = (4 : Int32)
            · have h := it_t c23_4 h
              refine V_case (tgt := 96) (off := (73)) (pc := 23) C dX11_sayer_23 c23_4 (by decide +kernel) (by decide) ?_
              refine V_aload_n (pc := 96) C dX11_sayer_96 rfl rfl ?_
              refine V_aload_n (pc := 97) C dX11_sayer_97 rfl rfl ?_
              obtain ⟨r5, er5, h⟩ := b1_some h
              refine V_callV (As := [.ref ((gR S 0 8) + 193 + 2 * ix a1)]) (pc := 98) C (mX11_leftOut _ (zx_cW_3_1 (zob_of k2) k3) er5) zm_X11_leftOut zi_X11_leftOut ml_RX11_151 z1_cW_11 rfl ⟨Nat.le_of_ble_eq_true rfl, Nat.le_of_ble_eq_true rfl⟩ rfl rfl (Nat.le_of_ble_eq_true rfl) dX11_sayer_98 ?_
              show V K 101 [some (.ref 0), some (.int a1), some (.int a2), some (.ref ((gR S 0 8) + 193 + 2 * ix a1))] [.int r5] S
              cases h
              exact hR 101 _ ⟨_, rfl, rfl⟩ dX11_sayer_101
            · have h := it_f c23_4 h
              by_cases c23_5 : a2 = (5 : Int32)
              · have h := it_t c23_5 h
                refine V_case (tgt := 102) (off := (79)) (pc := 23) C dX11_sayer_23 c23_5 (by decide +kernel) (by decide) ?_
                refine V_aload_n (pc := 102) C dX11_sayer_102 rfl rfl ?_
                refine V_getI (pc := 103) C (zx_cW_3_1 (zob_of k2) k3) fl_RX11_155 (by decide) dX11_sayer_103 ?_
                cases h
                exact hR 106 _ ⟨_, rfl, rfl⟩ dX11_sayer_106
              · have h := it_f c23_5 h
                by_cases c23_6 : a2 = (6 : Int32)
                · have h := it_t c23_6 h
                  refine V_case (tgt := 107) (off := (84)) (pc := 23) C dX11_sayer_23 c23_6 (by decide +kernel) (by decide) ?_
                  refine V_aload_n (pc := 107) C dX11_sayer_107 rfl rfl ?_
                  refine V_getI (pc := 108) C (zx_cW_3_1 (zob_of k2) k3) fl_RX11_158 (by decide) dX11_sayer_108 ?_
                  cases h
                  exact hR 111 _ ⟨_, rfl, rfl⟩ dX11_sayer_111
                · have h := it_f c23_6 h
                  by_cases c23_7 : a2 = (7 : Int32)
                  · have h := it_t c23_7 h
                    refine V_case (tgt := 112) (off := (89)) (pc := 23) C dX11_sayer_23 c23_7 (by decide +kernel) (by decide) ?_
                    refine V_aload_n (pc := 112) C dX11_sayer_112 rfl rfl ?_
                    refine V_aload_n (pc := 113) C dX11_sayer_113 rfl rfl ?_
                    obtain ⟨r6, er6, h⟩ := b1_some h
                    refine V_callV (As := [.ref ((gR S 0 8) + 193 + 2 * ix a1)]) (pc := 114) C (mX11_noiseOf _ (zx_cW_3_1 (zob_of k2) k3) er6) zm_X11_noiseOf zi_X11_noiseOf ml_RX11_161 z1_cW_11 rfl ⟨Nat.le_of_ble_eq_true rfl, Nat.le_of_ble_eq_true rfl⟩ rfl rfl (Nat.le_of_ble_eq_true rfl) dX11_sayer_114 ?_
                    show V K 117 [some (.ref 0), some (.int a1), some (.int a2), some (.ref ((gR S 0 8) + 193 + 2 * ix a1))] [.ref r6] S
                    refine V_getI (pc := 117) C (mX11_noiseOf_f (zx_cW_3_1 (zob_of k2) k3) er6) fl_RX11_165 (by decide) dX11_sayer_117 ?_
                    cases h
                    exact hR 120 _ ⟨_, rfl, rfl⟩ dX11_sayer_120
                  · have h := it_f c23_7 h
                    by_cases c23_8 : a2 = (8 : Int32)
                    · have h := it_t c23_8 h
                      refine V_case (tgt := 121) (off := (98)) (pc := 23) C dX11_sayer_23 c23_8 (by decide +kernel) (by decide) ?_
                      refine V_aload_n (pc := 121) C dX11_sayer_121 rfl rfl ?_
                      refine V_getI (pc := 122) C (zx_cW_3_1 (zob_of k2) k3) fl_RX11_168 (by decide) dX11_sayer_122 ?_
                      refine V_if_eq (tgt := 132) (pc := 125) C dX11_sayer_125 (by decide) (fun hc => ?_) (fun hc => ?_)
                      · have h := it_t hc h
                        refine V_iconst (pc := 132) C dX11_sayer_132 kc_i_0 ?_
                        cases h
                        exact hR 133 _ ⟨_, rfl, rfl⟩ dX11_sayer_133
                      · have h := it_f hc h
                        refine V_iconst (pc := 128) C dX11_sayer_128 kc_i_1 ?_
                        refine V_goto (tgt := 133) (pc := 129) C dX11_sayer_129 (by decide) ?_
                        cases h
                        exact hR 133 _ ⟨_, rfl, rfl⟩ dX11_sayer_133
                    · have h := it_f c23_8 h
                      by_cases c23_9 : a2 = (9 : Int32)
                      · have h := it_t c23_9 h
                        refine V_case (tgt := 134) (off := (111)) (pc := 23) C dX11_sayer_23 c23_9 (by decide +kernel) (by decide) ?_
                        refine V_aload_n (pc := 134) C dX11_sayer_134 rfl rfl ?_
                        refine V_getI (pc := 135) C (zx_cW_3_1 (zob_of k2) k3) fl_RX11_172 (by decide) dX11_sayer_135 ?_
                        cases h
                        exact hR 138 _ ⟨_, rfl, rfl⟩ dX11_sayer_138
                      · have h := it_f c23_9 h
                        refine V_dflt (tgt := 139) (m := 10) (pc := 23) C dX11_sayer_23 (by decide) (fun i hi => match i, hi with | 0, _ => c23_0 | 1, _ => c23_1 | 2, _ => c23_2 | 3, _ => c23_3 | 4, _ => c23_4 | 5, _ => c23_5 | 6, _ => c23_6 | 7, _ => c23_7 | 8, _ => c23_8 | 9, _ => c23_9 | k + 10, hi => absurd hi (by omega)) (by decide) ?_
                        refine V_sipush (pc := 139) C dX11_sayer_139 kc_s_m1000 ?_
                        cases h
                        exact hR 142 _ ⟨_, rfl, rfl⟩ dX11_sayer_142
  · have h := it_t hc h
    refine V_sipush (pc := 8) C dX11_sayer_8 kc_s_m1000 ?_
    cases h
    exact hR 11 _ ⟨_, rfl, rfl⟩ dX11_sayer_11
set_option maxRecDepth 100000 in
theorem mX11_rest_J14 {K : zK} (C : zC K cX11_rest yX11_rest.cls 2 1 21 cW) {S : zM} {v1 : Int32} {s0 : Int32} {r : Int32} {S' : zM}  (hR : zR K cX11_rest (some .boolean) S' (some (.int r))) (h : gX11_rest_J14 S v1 s0 = some (r, S')) : V K 14 [some (.ref 0), some (.int v1)] [.int s0, .ref 0] S := by
  unfold gX11_rest_J14 at h
  obtain ⟨r2, S3, er2, h⟩ := b2_some h
  refine V_callV (As := [.int s0]) (pc := 14) C (mX11_passes _ er2) zm_X11_passes zi_X11_passes ml_RX11_71 z1_cW_11 rfl ⟨Nat.le_of_ble_eq_true rfl, Nat.le_of_ble_eq_true rfl⟩ rfl rfl (Nat.le_of_ble_eq_true rfl) dX11_rest_14 ?_
  show V K 17 [some (.ref 0), some (.int v1)] [.int r2] S3
  refine V_if_ne (tgt := 22) (pc := 17) C dX11_rest_17 (by decide) (fun hc => ?_) (fun hc => ?_)
  · have h := it_f hc h
    refine V_aload_n (pc := 22) C dX11_rest_22 rfl rfl ?_
    obtain ⟨k4, h⟩ := ck_some h
    refine V_getR (pc := 23) C z1_cW_11 fl_RX11_52 rfl dX11_rest_23 ?_
    refine V_getF (p1 := ((gR S3 0 8) + 2)) (pc := 26) C (zob_of k4) fl_RX11_132 rfl (zf_cW_3_1 (zob_of k4)) dX11_rest_26 ?_
    refine V_iload_n (pc := 29) C dX11_rest_29 rfl rfl ?_
    obtain ⟨k5, h⟩ := ck_some h
    refine V_aald (p1 := ((gR S3 0 8) + 193 + 2 * ix v1)) (pc := 30) C (za_cW_3_1 (zob_of k4)) (fun _ => rfl) k5 (ze_cW_3_1 (zob_of k4) k5) dX11_rest_30 ?_
    refine V_iconst (pc := 31) C dX11_rest_31 kc_i_0 ?_
    refine V_putI (pc := 32) C (zx_cW_3_1 (zob_of k4) k5) fp_RX11_158 rfl rfl dX11_rest_32 ?_
    refine V_iconst (pc := 35) C dX11_rest_35 kc_i_1 ?_
    cases h
    exact hR 36 _ ⟨_, rfl, zB1⟩ dX11_rest_36
  · have h := it_t hc h
    refine V_iconst (pc := 20) C dX11_rest_20 kc_i_0 ?_
    cases h
    exact hR 21 _ ⟨_, rfl, zB0⟩ dX11_rest_21
set_option maxRecDepth 100000 in
theorem mX11_rest (l : Launch) {S : zM} {a1 : Int32} {r : Int32} {S' : zM}  (h : gX11_rest S a1 = some (r, S')) : zMet l cW zS0 yX11_rest cX11_rest 2 (some .boolean) 1 21 [.ref 0, .int a1] S (some (.int r)) S' := by
  refine zmeth (by decide +kernel) (by rfl) (fun K hKl C hR => ?_)
  show V K 0 [some (.ref 0), some (.int a1)] [] S
  unfold gX11_rest at h
  refine V_aload_n (pc := 0) C dX11_rest_0 rfl rfl ?_
  refine V_aload_n (pc := 1) C dX11_rest_1 rfl rfl ?_
  refine V_iload_n (pc := 2) C dX11_rest_2 rfl rfl ?_
  obtain ⟨r1, er1, h⟩ := b1_some h
  refine V_callV (As := [.int a1]) (pc := 3) C (mX11_isSayer _ er1) zm_X11_isSayer zi_X11_isSayer ml_RX11_129 z1_cW_11 rfl ⟨Nat.le_of_ble_eq_true rfl, Nat.le_of_ble_eq_true rfl⟩ rfl rfl (Nat.le_of_ble_eq_true rfl) dX11_rest_3 ?_
  show V K 6 [some (.ref 0), some (.int a1)] [.int r1, .ref 0] S
  refine V_if_eq (tgt := 13) (pc := 6) C dX11_rest_6 (by decide) (fun hc => ?_) (fun hc => ?_)
  · have h := it_t hc h
    refine V_iconst (pc := 13) C dX11_rest_13 kc_i_1 ?_
    exact V_mask [true, true] (mX11_rest_J14 C  hR h)
  · have h := it_f hc h
    refine V_iconst (pc := 9) C dX11_rest_9 kc_i_0 ?_
    refine V_goto (tgt := 14) (pc := 10) C dX11_rest_10 (by decide) ?_
    exact V_mask [true, true] (mX11_rest_J14 C  hR h)
set_option maxRecDepth 100000 in
theorem mX11_askOf (l : Launch) {S : zM} {a1 : Nat} {S' : zM} (ha1 : zob cW 8 a1) (h : gX11_askOf S a1 = some S') : zMet l cW zS0 yX11_askOf cX11_askOf 2 (none) 2 42 [.ref 0, .ref a1] S none S' := by
  refine zmeth (by decide +kernel) (by rfl) (fun K hKl C hR => ?_)
  show V K 0 [some (.ref 0), some (.ref a1)] [] S
  unfold gX11_askOf at h
  refine V_aload_n (pc := 0) C dX11_askOf_0 rfl rfl ?_
  refine V_getF (p1 := 456) (pc := 1) C z1_cW_11 fl_RX11_59 rfl (zf_cW_11_9 z1_cW_11) dX11_askOf_1 ?_
  refine V_aload_n (pc := 4) C dX11_askOf_4 rfl rfl ?_
  refine V_putR (pc := 5) C z1_cW_0 fp_RX11_179 rfl rfl dX11_askOf_5 ?_
  refine V_aload_n (pc := 8) C dX11_askOf_8 rfl rfl ?_
  refine V_getF (p1 := 456) (pc := 9) C z1_cW_11 fl_RX11_59 rfl (zf_cW_11_9 z1_cW_11) dX11_askOf_9 ?_
  refine V_aload_n (pc := 12) C dX11_askOf_12 rfl rfl ?_
  refine V_aload_n (pc := 13) C dX11_askOf_13 rfl rfl ?_
  obtain ⟨r1, er1, h⟩ := b1_some h
  refine V_callV (As := [.ref a1]) (pc := 14) C (mX11_senseOf _ ha1 er1) zm_X11_senseOf zi_X11_senseOf ml_RX11_337 z1_cW_11 rfl ⟨Nat.le_of_ble_eq_true rfl, Nat.le_of_ble_eq_true rfl⟩ rfl rfl (Nat.le_of_ble_eq_true rfl) dX11_askOf_14 ?_
  show V K 17 [some (.ref 0), some (.ref a1)] [.ref r1, .ref 456] (pR S 456 0 a1)
  refine V_putR (pc := 17) C z1_cW_0 fp_RX11_473 rfl rfl dX11_askOf_17 ?_
  refine V_aload_n (pc := 20) C dX11_askOf_20 rfl rfl ?_
  refine V_getF (p1 := 456) (pc := 21) C z1_cW_11 fl_RX11_59 rfl (zf_cW_11_9 z1_cW_11) dX11_askOf_21 ?_
  refine V_aload_n (pc := 24) C dX11_askOf_24 rfl rfl ?_
  refine V_aload_n (pc := 25) C dX11_askOf_25 rfl rfl ?_
  refine V_getF (p1 := 456) (pc := 26) C z1_cW_11 fl_RX11_59 rfl (zf_cW_11_9 z1_cW_11) dX11_askOf_26 ?_
  refine V_getI (pc := 29) C z1_cW_0 fl_RX11_476 (by decide) dX11_askOf_29 ?_
  obtain ⟨r2, er2, h⟩ := b1_some h
  refine V_callV (As := [.int (gI (pR (pR S 456 0 a1) 456 1 r1) 456 6)]) (pc := 32) C (mX11_isSense _ er2) zm_X11_isSense zi_X11_isSense ml_RX11_107 z1_cW_11 rfl ⟨Nat.le_of_ble_eq_true rfl, Nat.le_of_ble_eq_true rfl⟩ rfl rfl (Nat.le_of_ble_eq_true rfl) dX11_askOf_32 ?_
  show V K 35 [some (.ref 0), some (.ref a1)] [.int r2, .ref 456] (pR (pR S 456 0 a1) 456 1 r1)
  refine V_if_eq (tgt := 56) (pc := 35) C dX11_askOf_35 (by decide) (fun hc => ?_) (fun hc => ?_)
  · have h := it_t hc h
    refine V_aload_n (pc := 56) C dX11_askOf_56 rfl rfl ?_
    refine V_getF (p1 := 456) (pc := 57) C z1_cW_11 fl_RX11_59 rfl (zf_cW_11_9 z1_cW_11) dX11_askOf_57 ?_
    obtain ⟨k3, h⟩ := ck_some h
    refine V_getR (pc := 60) C z1_cW_0 fl_RX11_473 rfl dX11_askOf_60 ?_
    refine V_putR (pc := 63) C z1_cW_0 fp_RX11_479 rfl rfl dX11_askOf_63 ?_
    cases h
    exact hR 66 _ rfl dX11_askOf_66
  · have h := it_f hc h
    refine V_aload_n (pc := 38) C dX11_askOf_38 rfl rfl ?_
    obtain ⟨k4, h⟩ := ck_some h
    refine V_getR (pc := 39) C z1_cW_11 fl_RX11_52 rfl dX11_askOf_39 ?_
    refine V_getF (p1 := ((gR (pR (pR S 456 0 a1) 456 1 r1) 0 8) + 1)) (pc := 42) C (zob_of k4) fl_RX11_110 rfl (zf_cW_3_0 (zob_of k4)) dX11_askOf_42 ?_
    refine V_aload_n (pc := 45) C dX11_askOf_45 rfl rfl ?_
    refine V_getF (p1 := 456) (pc := 46) C z1_cW_11 fl_RX11_59 rfl (zf_cW_11_9 z1_cW_11) dX11_askOf_46 ?_
    refine V_getI (pc := 49) C z1_cW_0 fl_RX11_476 (by decide) dX11_askOf_49 ?_
    obtain ⟨k5, h⟩ := ck_some h
    refine V_aald (p1 := ((gR (pR (pR S 456 0 a1) 456 1 r1) 0 8) + 7 + 31 * ix (gI (pR (pR S 456 0 a1) 456 1 r1) 456 6))) (pc := 52) C (za_cW_3_0 (zob_of k4)) (fun _ => rfl) k5 (ze_cW_3_0 (zob_of k4) k5) dX11_askOf_52 ?_
    refine V_goto (tgt := 63) (pc := 53) C dX11_askOf_53 (by decide) ?_
    refine V_putR (pc := 63) C z1_cW_0 fp_RX11_479 rfl rfl dX11_askOf_63 ?_
    obtain ⟨S6, eS6, h⟩ := lt_some h
    refine V_nmS eS6 ?_
    cases h
    exact hR 66 _ rfl dX11_askOf_66
set_option maxRecDepth 100000 in
theorem mX11_asks_J49 {K : zK} (C : zC K cX11_asks yX11_asks.cls 7 3 63 cW) {S : zM} {v1 : Int32} {v2 : Int32} {v3 : Int32} {v4 : Int32} {v5 : Int32} {s0 : Int32} {r : Int32} {S' : zM}  (hR : zR K cX11_asks (some .boolean) S' (some (.int r))) (h : gX11_asks_J49 S v1 v2 v3 v4 v5 s0 = some (r, S')) : V K 49 [some (.ref 0), some (.int v1), some (.int v2), some (.int v3), some (.int v4), some (.int v5), none] [.int s0, .ref 0] S := by
  unfold gX11_asks_J49 at h
  obtain ⟨r2, S3, er2, h⟩ := b2_some h
  refine V_callV (As := [.int s0]) (pc := 49) C (mX11_passes _ er2) zm_X11_passes zi_X11_passes ml_RX11_71 z1_cW_11 rfl ⟨Nat.le_of_ble_eq_true rfl, Nat.le_of_ble_eq_true rfl⟩ rfl rfl (Nat.le_of_ble_eq_true rfl) dX11_asks_49 ?_
  show V K 52 [some (.ref 0), some (.int v1), some (.int v2), some (.int v3), some (.int v4), some (.int v5), none] [.int r2] S3
  refine V_if_ne (tgt := 57) (pc := 52) C dX11_asks_52 (by decide) (fun hc => ?_) (fun hc => ?_)
  · have h := it_f hc h
    refine V_aload_n (pc := 57) C dX11_asks_57 rfl rfl ?_
    refine V_getF (p1 := 456) (pc := 58) C z1_cW_11 fl_RX11_59 rfl (zf_cW_11_9 z1_cW_11) dX11_asks_58 ?_
    refine V_iload_n (pc := 61) C dX11_asks_61 rfl rfl ?_
    refine V_iload_n (pc := 62) C dX11_asks_62 rfl rfl ?_
    refine V_iload_n (pc := 63) C dX11_asks_63 rfl rfl ?_
    refine V_iload (pc := 64) C dX11_asks_64 rfl ?_
    refine V_iload (pc := 66) C dX11_asks_66 rfl ?_
    obtain ⟨S5, euS5, h⟩ := b1_some h
    refine V_callV (As := [.int v1, .int v2, .int v3, .int v4, .int v5]) (pc := 68) C (mX0_put _ euS5) zm_X0_put zi_X0_put ml_RX11_271 z1_cW_0 rfl ⟨Nat.le_of_ble_eq_true rfl, Nat.le_of_ble_eq_true rfl⟩ rfl rfl (Nat.le_of_ble_eq_true rfl) dX11_asks_68 ?_
    show V K 71 [some (.ref 0), some (.int v1), some (.int v2), some (.int v3), some (.int v4), some (.int v5), none] [] S5
    refine V_aload_n (pc := 71) C dX11_asks_71 rfl rfl ?_
    refine V_aload_n (pc := 72) C dX11_asks_72 rfl rfl ?_
    obtain ⟨k6, h⟩ := ck_some h
    refine V_getR (pc := 73) C z1_cW_11 fl_RX11_52 rfl dX11_asks_73 ?_
    refine V_getF (p1 := ((gR S5 0 8) + 2)) (pc := 76) C (zob_of k6) fl_RX11_132 rfl (zf_cW_3_1 (zob_of k6)) dX11_asks_76 ?_
    refine V_iload_n (pc := 79) C dX11_asks_79 rfl rfl ?_
    obtain ⟨k7, h⟩ := ck_some h
    refine V_aald (p1 := ((gR S5 0 8) + 193 + 2 * ix v1)) (pc := 80) C (za_cW_3_1 (zob_of k6)) (fun _ => rfl) k7 (ze_cW_3_1 (zob_of k6) k7) dX11_asks_80 ?_
    obtain ⟨S9, euS9, h⟩ := b1_some h
    refine V_callV (As := [.ref ((gR S5 0 8) + 193 + 2 * ix v1)]) (pc := 81) C (mX11_askOf _ (zx_cW_3_1 (zob_of k6) k7) euS9) zm_X11_askOf zi_X11_askOf ml_RX11_275 z1_cW_11 rfl ⟨Nat.le_of_ble_eq_true rfl, Nat.le_of_ble_eq_true rfl⟩ rfl rfl (Nat.le_of_ble_eq_true rfl) dX11_asks_81 ?_
    show V K 84 [some (.ref 0), some (.int v1), some (.int v2), some (.int v3), some (.int v4), some (.int v5), none] [] S9
    refine V_aload_n (pc := 84) C dX11_asks_84 rfl rfl ?_
    refine V_aload_n (pc := 85) C dX11_asks_85 rfl rfl ?_
    refine V_getF (p1 := 456) (pc := 86) C z1_cW_11 fl_RX11_59 rfl (zf_cW_11_9 z1_cW_11) dX11_asks_86 ?_
    obtain ⟨r10, er10, h⟩ := b1_some h
    refine V_callV (As := []) (pc := 89) C (mX0_isInBounds _ er10) zm_X0_isInBounds zi_X0_isInBounds ml_RX11_469 z1_cW_0 rfl ⟨Nat.le_of_ble_eq_true rfl, Nat.le_of_ble_eq_true rfl⟩ rfl rfl (Nat.le_of_ble_eq_true rfl) dX11_asks_89 ?_
    show V K 92 [some (.ref 0), some (.int v1), some (.int v2), some (.int v3), some (.int v4), some (.int v5), none] [.int r10, .ref 0] S9
    refine V_if_eq (tgt := 99) (pc := 92) C dX11_asks_92 (by decide) (fun hc => ?_) (fun hc => ?_)
    · have h := it_t hc h
      refine V_iconst (pc := 99) C dX11_asks_99 kc_i_2 ?_
      obtain ⟨r11, S12, er11, h⟩ := b2_some h
      refine V_callV (As := [.int (2 : Int32)]) (pc := 100) C (mX11_passes _ er11) zm_X11_passes zi_X11_passes ml_RX11_71 z1_cW_11 rfl ⟨Nat.le_of_ble_eq_true rfl, Nat.le_of_ble_eq_true rfl⟩ rfl rfl (Nat.le_of_ble_eq_true rfl) dX11_asks_100 ?_
      show V K 103 [some (.ref 0), some (.int v1), some (.int v2), some (.int v3), some (.int v4), some (.int v5), none] [.int r11] S12
      obtain ⟨k13, h⟩ := ck_some h
      cases h
      exact hR 103 _ ⟨_, rfl, isB_nar k13⟩ dX11_asks_103
    · have h := it_f hc h
      refine V_iconst (pc := 95) C dX11_asks_95 kc_i_0 ?_
      refine V_goto (tgt := 100) (pc := 96) C dX11_asks_96 (by decide) ?_
      obtain ⟨r14, S15, er14, h⟩ := b2_some h
      refine V_callV (As := [.int (0 : Int32)]) (pc := 100) C (mX11_passes _ er14) zm_X11_passes zi_X11_passes ml_RX11_71 z1_cW_11 rfl ⟨Nat.le_of_ble_eq_true rfl, Nat.le_of_ble_eq_true rfl⟩ rfl rfl (Nat.le_of_ble_eq_true rfl) dX11_asks_100 ?_
      show V K 103 [some (.ref 0), some (.int v1), some (.int v2), some (.int v3), some (.int v4), some (.int v5), none] [.int r14] S15
      obtain ⟨k16, h⟩ := ck_some h
      cases h
      exact hR 103 _ ⟨_, rfl, isB_nar k16⟩ dX11_asks_103
  · have h := it_t hc h
    refine V_iconst (pc := 55) C dX11_asks_55 kc_i_0 ?_
    cases h
    exact hR 56 _ ⟨_, rfl, zB0⟩ dX11_asks_56
set_option maxRecDepth 100000 in
theorem mX11_asks_J36 {K : zK} (C : zC K cX11_asks yX11_asks.cls 7 3 63 cW) {S : zM} {v1 : Int32} {v2 : Int32} {v3 : Int32} {v4 : Int32} {v5 : Int32} {s0 : Int32} {r : Int32} {S' : zM}  (hR : zR K cX11_asks (some .boolean) S' (some (.int r))) (h : gX11_asks_J36 S v1 v2 v3 v4 v5 s0 = some (r, S')) : V K 36 [some (.ref 0), some (.int v1), some (.int v2), some (.int v3), some (.int v4), some (.int v5), none] [.int s0] S := by
  unfold gX11_asks_J36 at h
  refine V_istore (L' := [some (.ref 0), some (.int v1), some (.int v2), some (.int v3), some (.int v4), some (.int v5), some (.int s0)]) (pc := 36) C dX11_asks_36 (by decide) rfl ?_
  refine V_aload_n (pc := 38) C dX11_asks_38 rfl rfl ?_
  refine V_iload (pc := 39) C dX11_asks_39 rfl ?_
  refine V_if_eq (tgt := 48) (pc := 41) C dX11_asks_41 (by decide) (fun hc => ?_) (fun hc => ?_)
  · have h := it_t hc h
    refine V_iconst (pc := 48) C dX11_asks_48 kc_i_1 ?_
    exact V_mask [true, true, true, true, true, true, false] (mX11_asks_J49 C  hR h)
  · have h := it_f hc h
    refine V_iconst (pc := 44) C dX11_asks_44 kc_i_0 ?_
    refine V_goto (tgt := 49) (pc := 45) C dX11_asks_45 (by decide) ?_
    exact V_mask [true, true, true, true, true, true, false] (mX11_asks_J49 C  hR h)
set_option maxRecDepth 100000 in
theorem mX11_asks (l : Launch) {S : zM} {a1 : Int32} {a2 : Int32} {a3 : Int32} {a4 : Int32} {a5 : Int32} {r : Int32} {S' : zM}  (h : gX11_asks S a1 a2 a3 a4 a5 = some (r, S')) : zMet l cW zS0 yX11_asks cX11_asks 7 (some .boolean) 3 63 [.ref 0, .int a1, .int a2, .int a3, .int a4, .int a5] S (some (.int r)) S' := by
  refine zmeth (by decide +kernel) (by rfl) (fun K hKl C hR => ?_)
  show V K 0 [some (.ref 0), some (.int a1), some (.int a2), some (.int a3), some (.int a4), some (.int a5), none] [] S
  unfold gX11_asks at h
  refine V_aload_n (pc := 0) C dX11_asks_0 rfl rfl ?_
  refine V_iload_n (pc := 1) C dX11_asks_1 rfl rfl ?_
  obtain ⟨r1, er1, h⟩ := b1_some h
  refine V_callV (As := [.int a1]) (pc := 2) C (mX11_isSayer _ er1) zm_X11_isSayer zi_X11_isSayer ml_RX11_129 z1_cW_11 rfl ⟨Nat.le_of_ble_eq_true rfl, Nat.le_of_ble_eq_true rfl⟩ rfl rfl (Nat.le_of_ble_eq_true rfl) dX11_asks_2 ?_
  show V K 5 [some (.ref 0), some (.int a1), some (.int a2), some (.int a3), some (.int a4), some (.int a5), none] [.int r1] S
  refine V_if_eq (tgt := 35) (pc := 5) C dX11_asks_5 (by decide) (fun hc => ?_) (fun hc => ?_)
  · have h := it_t hc h
    refine V_iconst (pc := 35) C dX11_asks_35 kc_i_0 ?_
    exact V_mask [true, true, true, true, true, true, false] (mX11_asks_J36 C  hR h)
  · have h := it_f hc h
    refine V_iload_n (pc := 8) C dX11_asks_8 rfl rfl ?_
    refine V_if_lt (tgt := 35) (pc := 9) C dX11_asks_9 (by decide) (fun hc => ?_) (fun hc => ?_)
    · have h := it_t hc h
      refine V_iconst (pc := 35) C dX11_asks_35 kc_i_0 ?_
      exact V_mask [true, true, true, true, true, true, false] (mX11_asks_J36 C  hR h)
    · have h := it_f hc h
      refine V_iload_n (pc := 12) C dX11_asks_12 rfl rfl ?_
      refine V_iconst (pc := 13) C dX11_asks_13 kc_i_5 ?_
      refine V_icmp_gt (tgt := 35) (pc := 14) C dX11_asks_14 (by decide) (fun hc => ?_) (fun hc => ?_)
      · have h := it_t hc h
        refine V_iconst (pc := 35) C dX11_asks_35 kc_i_0 ?_
        exact V_mask [true, true, true, true, true, true, false] (mX11_asks_J36 C  hR h)
      · have h := it_f hc h
        refine V_iload_n (pc := 17) C dX11_asks_17 rfl rfl ?_
        refine V_iconst (pc := 18) C dX11_asks_18 kc_i_4 ?_
        refine V_icmp_ne (tgt := 31) (pc := 19) C dX11_asks_19 (by decide) (fun hc => ?_) (fun hc => ?_)
        · have h := it_f hc h
          refine V_iconst (pc := 31) C dX11_asks_31 kc_i_1 ?_
          refine V_goto (tgt := 36) (pc := 32) C dX11_asks_32 (by decide) ?_
          exact V_mask [true, true, true, true, true, true, false] (mX11_asks_J36 C  hR h)
        · have h := it_t hc h
          refine V_aload_n (pc := 22) C dX11_asks_22 rfl rfl ?_
          refine V_iload (pc := 23) C dX11_asks_23 rfl ?_
          obtain ⟨r17, er17, h⟩ := b1_some h
          refine V_callV (As := [.int a4]) (pc := 25) C (mX11_isSense _ er17) zm_X11_isSense zi_X11_isSense ml_RX11_107 z1_cW_11 rfl ⟨Nat.le_of_ble_eq_true rfl, Nat.le_of_ble_eq_true rfl⟩ rfl rfl (Nat.le_of_ble_eq_true rfl) dX11_asks_25 ?_
          show V K 28 [some (.ref 0), some (.int a1), some (.int a2), some (.int a3), some (.int a4), some (.int a5), none] [.int r17] S
          refine V_if_eq (tgt := 35) (pc := 28) C dX11_asks_28 (by decide) (fun hc => ?_) (fun hc => ?_)
          · have h := it_t hc h
            refine V_iconst (pc := 35) C dX11_asks_35 kc_i_0 ?_
            exact V_mask [true, true, true, true, true, true, false] (mX11_asks_J36 C  hR h)
          · have h := it_f hc h
            refine V_iconst (pc := 31) C dX11_asks_31 kc_i_1 ?_
            refine V_goto (tgt := 36) (pc := 32) C dX11_asks_32 (by decide) ?_
            exact V_mask [true, true, true, true, true, true, false] (mX11_asks_J36 C  hR h)
set_option maxRecDepth 100000 in
theorem mX11_odds (l : Launch) {S : zM} {a1 : Int32} {a2 : Int32} {a3 : Int32} {a4 : Int32} {a5 : Int32} {a6 : Int32} {a7 : Int32} {r : Int32} {S' : zM}  (h : gX11_odds S a1 a2 a3 a4 a5 a6 a7 = some (r, S')) : zMet l cW zS0 yX11_odds cX11_odds 9 (some .int) 5 125 [.ref 0, .int a1, .int a2, .int a3, .int a4, .int a5, .int a6, .int a7] S (some (.int r)) S' := by
  refine zmeth (by decide +kernel) (by rfl) (fun K hKl C hR => ?_)
  show V K 0 [some (.ref 0), some (.int a1), some (.int a2), some (.int a3), some (.int a4), some (.int a5), some (.int a6), some (.int a7), none] [] S
  unfold gX11_odds at h
  refine V_aload_n (pc := 0) C dX11_odds_0 rfl rfl ?_
  refine V_iload_n (pc := 1) C dX11_odds_1 rfl rfl ?_
  refine V_iload_n (pc := 2) C dX11_odds_2 rfl rfl ?_
  refine V_iload_n (pc := 3) C dX11_odds_3 rfl rfl ?_
  refine V_iload (pc := 4) C dX11_odds_4 rfl ?_
  refine V_iload (pc := 6) C dX11_odds_6 rfl ?_
  obtain ⟨r1, S2, er1, h⟩ := b2_some h
  refine V_callV (As := [.int a1, .int a2, .int a3, .int a4, .int a5]) (pc := 8) C (mX11_asks _ er1) zm_X11_asks zi_X11_asks ml_RX11_175 z1_cW_11 rfl ⟨Nat.le_of_ble_eq_true rfl, Nat.le_of_ble_eq_true rfl⟩ rfl rfl (Nat.le_of_ble_eq_true rfl) dX11_odds_8 ?_
  show V K 11 [some (.ref 0), some (.int a1), some (.int a2), some (.int a3), some (.int a4), some (.int a5), some (.int a6), some (.int a7), none] [.int r1] S2
  refine V_if_ne (tgt := 16) (pc := 11) C dX11_odds_11 (by decide) (fun hc => ?_) (fun hc => ?_)
  · have h := it_f hc h
    refine V_aload_n (pc := 16) C dX11_odds_16 rfl rfl ?_
    refine V_aload_n (pc := 17) C dX11_odds_17 rfl rfl ?_
    refine V_getF (p1 := 456) (pc := 18) C z1_cW_11 fl_RX11_59 rfl (zf_cW_11_9 z1_cW_11) dX11_odds_18 ?_
    obtain ⟨k3, h⟩ := ck_some h
    refine V_getR (pc := 21) C z1_cW_0 fl_RX11_179 rfl dX11_odds_21 ?_
    obtain ⟨r4, er4, h⟩ := b1_some h
    refine V_callV (As := [.ref (gR S2 456 0)]) (pc := 24) C (mX11_noiseOf _ (zob_of k3) er4) zm_X11_noiseOf zi_X11_noiseOf ml_RX11_161 z1_cW_11 rfl ⟨Nat.le_of_ble_eq_true rfl, Nat.le_of_ble_eq_true rfl⟩ rfl rfl (Nat.le_of_ble_eq_true rfl) dX11_odds_24 ?_
    show V K 27 [some (.ref 0), some (.int a1), some (.int a2), some (.int a3), some (.int a4), some (.int a5), some (.int a6), some (.int a7), none] [.ref r4] S2
    refine V_astore (L' := [some (.ref 0), some (.int a1), some (.int a2), some (.int a3), some (.int a4), some (.int a5), some (.int a6), some (.int a7), some (.ref r4)]) (pc := 27) C dX11_odds_27 (by decide) rfl ?_
    refine V_iload (pc := 29) C dX11_odds_29 rfl ?_
    refine V_if_eq (tgt := 46) (pc := 31) C dX11_odds_31 (by decide) (fun hc => ?_) (fun hc => ?_)
    · have h := it_t hc h
      refine V_aload_n (pc := 46) C dX11_odds_46 rfl rfl ?_
      refine V_getF (p1 := 456) (pc := 47) C z1_cW_11 fl_RX11_59 rfl (zf_cW_11_9 z1_cW_11) dX11_odds_47 ?_
      refine V_aload (pc := 50) C dX11_odds_50 rfl ?_
      refine V_iload (pc := 52) C dX11_odds_52 rfl ?_
      obtain ⟨r5, er5, h⟩ := b1_some h
      refine V_callV (As := [.ref r4, .int a6]) (pc := 54) C (mX0_oddsOf _ (mX11_noiseOf_f (zob_of k3) er4) er5) zm_X0_oddsOf zi_X0_oddsOf ml_RX11_187 z1_cW_0 rfl ⟨Nat.le_of_ble_eq_true rfl, Nat.le_of_ble_eq_true rfl⟩ rfl rfl (Nat.le_of_ble_eq_true rfl) dX11_odds_54 ?_
      show V K 57 [some (.ref 0), some (.int a1), some (.int a2), some (.int a3), some (.int a4), some (.int a5), some (.int a6), some (.int a7), some (.ref r4)] [.int r5] S2
      cases h
      exact hR 57 _ ⟨_, rfl, rfl⟩ dX11_odds_57
    · have h := it_f hc h
      refine V_aload_n (pc := 34) C dX11_odds_34 rfl rfl ?_
      refine V_getF (p1 := 456) (pc := 35) C z1_cW_11 fl_RX11_59 rfl (zf_cW_11_9 z1_cW_11) dX11_odds_35 ?_
      refine V_aload (pc := 38) C dX11_odds_38 rfl ?_
      obtain ⟨r6, er6, h⟩ := b1_some h
      refine V_callV (As := [.ref r4]) (pc := 40) C (mX0_wholeOdds _ (mX11_noiseOf_f (zob_of k3) er4) er6) zm_X0_wholeOdds zi_X0_wholeOdds ml_RX11_183 z1_cW_0 rfl ⟨Nat.le_of_ble_eq_true rfl, Nat.le_of_ble_eq_true rfl⟩ rfl rfl (Nat.le_of_ble_eq_true rfl) dX11_odds_40 ?_
      show V K 43 [some (.ref 0), some (.int a1), some (.int a2), some (.int a3), some (.int a4), some (.int a5), some (.int a6), some (.int a7), some (.ref r4)] [.int r6] S2
      refine V_goto (tgt := 57) (pc := 43) C dX11_odds_43 (by decide) ?_
      cases h
      exact hR 57 _ ⟨_, rfl, rfl⟩ dX11_odds_57
  · have h := it_t hc h
    refine V_iconst (pc := 14) C dX11_odds_14 kc_i_m1 ?_
    cases h
    exact hR 15 _ ⟨_, rfl, rfl⟩ dX11_odds_15
set_option maxRecDepth 100000 in
theorem mX11_seed (l : Launch) {S : zM} {a1 : Int32} {r : Int32} {S' : zM}  (h : gX11_seed S a1 = some (r, S')) : zMet l cW zS0 yX11_seed cX11_seed 2 (some .boolean) 1 21 [.ref 0, .int a1] S (some (.int r)) S' := by
  refine zmeth (by decide +kernel) (by rfl) (fun K hKl C hR => ?_)
  show V K 0 [some (.ref 0), some (.int a1)] [] S
  unfold gX11_seed at h
  refine V_aload_n (pc := 0) C dX11_seed_0 rfl rfl ?_
  refine V_iload_n (pc := 1) C dX11_seed_1 rfl rfl ?_
  refine V_if_lt (tgt := 11) (pc := 2) C dX11_seed_2 (by decide) (fun hc => ?_) (fun hc => ?_)
  · have h := it_t hc h
    refine V_iconst (pc := 11) C dX11_seed_11 kc_i_2 ?_
    refine V_goto (tgt := 16) (pc := 12) C dX11_seed_12 (by decide) ?_
    obtain ⟨r1, S2, er1, h⟩ := b2_some h
    refine V_callV (As := [.int (2 : Int32)]) (pc := 16) C (mX11_passes _ er1) zm_X11_passes zi_X11_passes ml_RX11_71 z1_cW_11 rfl ⟨Nat.le_of_ble_eq_true rfl, Nat.le_of_ble_eq_true rfl⟩ rfl rfl (Nat.le_of_ble_eq_true rfl) dX11_seed_16 ?_
    show V K 19 [some (.ref 0), some (.int a1)] [.int r1] S2
    refine V_if_ne (tgt := 24) (pc := 19) C dX11_seed_19 (by decide) (fun hc => ?_) (fun hc => ?_)
    · have h := it_f hc h
      refine V_aload_n (pc := 24) C dX11_seed_24 rfl rfl ?_
      refine V_iload_n (pc := 25) C dX11_seed_25 rfl rfl ?_
      refine V_putI (pc := 26) C z1_cW_11 fp_RX11_98 rfl rfl dX11_seed_26 ?_
      refine V_iconst (pc := 29) C dX11_seed_29 kc_i_1 ?_
      cases h
      exact hR 30 _ ⟨_, rfl, zB1⟩ dX11_seed_30
    · have h := it_t hc h
      refine V_iconst (pc := 22) C dX11_seed_22 kc_i_0 ?_
      cases h
      exact hR 23 _ ⟨_, rfl, zB0⟩ dX11_seed_23
  · have h := it_f hc h
    refine V_iload_n (pc := 5) C dX11_seed_5 rfl rfl ?_
    refine V_ldc (pc := 6) C dX11_seed_6 ki_RX11_191 ?_
    refine V_icmp_lt (tgt := 15) (pc := 8) C dX11_seed_8 (by decide) (fun hc => ?_) (fun hc => ?_)
    · have h := it_t hc h
      refine V_iconst (pc := 15) C dX11_seed_15 kc_i_0 ?_
      obtain ⟨r3, S4, er3, h⟩ := b2_some h
      refine V_callV (As := [.int (0 : Int32)]) (pc := 16) C (mX11_passes _ er3) zm_X11_passes zi_X11_passes ml_RX11_71 z1_cW_11 rfl ⟨Nat.le_of_ble_eq_true rfl, Nat.le_of_ble_eq_true rfl⟩ rfl rfl (Nat.le_of_ble_eq_true rfl) dX11_seed_16 ?_
      show V K 19 [some (.ref 0), some (.int a1)] [.int r3] S4
      refine V_if_ne (tgt := 24) (pc := 19) C dX11_seed_19 (by decide) (fun hc => ?_) (fun hc => ?_)
      · have h := it_f hc h
        refine V_aload_n (pc := 24) C dX11_seed_24 rfl rfl ?_
        refine V_iload_n (pc := 25) C dX11_seed_25 rfl rfl ?_
        refine V_putI (pc := 26) C z1_cW_11 fp_RX11_98 rfl rfl dX11_seed_26 ?_
        refine V_iconst (pc := 29) C dX11_seed_29 kc_i_1 ?_
        cases h
        exact hR 30 _ ⟨_, rfl, zB1⟩ dX11_seed_30
      · have h := it_t hc h
        refine V_iconst (pc := 22) C dX11_seed_22 kc_i_0 ?_
        cases h
        exact hR 23 _ ⟨_, rfl, zB0⟩ dX11_seed_23
    · have h := it_f hc h
      refine V_iconst (pc := 11) C dX11_seed_11 kc_i_2 ?_
      refine V_goto (tgt := 16) (pc := 12) C dX11_seed_12 (by decide) ?_
      obtain ⟨r5, S6, er5, h⟩ := b2_some h
      refine V_callV (As := [.int (2 : Int32)]) (pc := 16) C (mX11_passes _ er5) zm_X11_passes zi_X11_passes ml_RX11_71 z1_cW_11 rfl ⟨Nat.le_of_ble_eq_true rfl, Nat.le_of_ble_eq_true rfl⟩ rfl rfl (Nat.le_of_ble_eq_true rfl) dX11_seed_16 ?_
      show V K 19 [some (.ref 0), some (.int a1)] [.int r5] S6
      refine V_if_ne (tgt := 24) (pc := 19) C dX11_seed_19 (by decide) (fun hc => ?_) (fun hc => ?_)
      · have h := it_f hc h
        refine V_aload_n (pc := 24) C dX11_seed_24 rfl rfl ?_
        refine V_iload_n (pc := 25) C dX11_seed_25 rfl rfl ?_
        refine V_putI (pc := 26) C z1_cW_11 fp_RX11_98 rfl rfl dX11_seed_26 ?_
        refine V_iconst (pc := 29) C dX11_seed_29 kc_i_1 ?_
        cases h
        exact hR 30 _ ⟨_, rfl, zB1⟩ dX11_seed_30
      · have h := it_t hc h
        refine V_iconst (pc := 22) C dX11_seed_22 kc_i_0 ?_
        cases h
        exact hR 23 _ ⟨_, rfl, zB0⟩ dX11_seed_23
set_option maxRecDepth 100000 in
theorem mX11_whyNoRoom (l : Launch) {S : zM} {a1 : Int32} {r : Int32}  (h : gX11_whyNoRoom S a1 = some r) : zMet l cW zS0 yX11_whyNoRoom cX11_whyNoRoom 2 (some .int) 1 21 [.ref 0, .int a1] S (some (.int r)) S := by
  refine zmeth (by decide +kernel) (by rfl) (fun K hKl C hR => ?_)
  show V K 0 [some (.ref 0), some (.int a1)] [] S
  unfold gX11_whyNoRoom at h
  refine V_aload_n (pc := 0) C dX11_whyNoRoom_0 rfl rfl ?_
  refine V_getF (p1 := 219) (pc := 1) C z1_cW_11 fl_RX11_23 rfl (zf_cW_11_2 z1_cW_11) dX11_whyNoRoom_1 ?_
  refine V_iload_n (pc := 4) C dX11_whyNoRoom_4 rfl rfl ?_
  obtain ⟨r1, er1, h⟩ := b1_some h
  refine V_callV (As := [.int a1]) (pc := 5) C (mX1_holds _ er1) zm_X1_holds zi_X1_holds ml_RX11_463 z1_cW_1 rfl ⟨Nat.le_of_ble_eq_true rfl, Nat.le_of_ble_eq_true rfl⟩ rfl rfl (Nat.le_of_ble_eq_true rfl) dX11_whyNoRoom_5 ?_
  show V K 8 [some (.ref 0), some (.int a1)] [.int r1] S
  refine V_if_eq (tgt := 15) (pc := 8) C dX11_whyNoRoom_8 (by decide) (fun hc => ?_) (fun hc => ?_)
  · have h := it_t hc h
    refine V_iconst (pc := 15) C dX11_whyNoRoom_15 kc_i_3 ?_
    cases h
    exact hR 16 _ ⟨_, rfl, rfl⟩ dX11_whyNoRoom_16
  · have h := it_f hc h
    refine V_iconst (pc := 11) C dX11_whyNoRoom_11 kc_i_0 ?_
    refine V_goto (tgt := 16) (pc := 12) C dX11_whyNoRoom_12 (by decide) ?_
    cases h
    exact hR 16 _ ⟨_, rfl, rfl⟩ dX11_whyNoRoom_16
set_option maxRecDepth 100000 in
theorem mX11_drawn (l : Launch) {S : zM} {a1 : Int32} {r : Int32} {S' : zM}  (h : gX11_drawn S a1 = some (r, S')) : zMet l cW zS0 yX11_drawn cX11_drawn 2 (some .int) 0 0 [.ref 0, .int a1] S (some (.int r)) S' := by
  refine zmeth (by decide +kernel) (by rfl) (fun K hKl C hR => ?_)
  show V K 0 [some (.ref 0), some (.int a1)] [] S
  unfold gX11_drawn at h
  refine V_aload_n (pc := 0) C dX11_drawn_0 rfl rfl ?_
  refine V_bipush (pc := 1) C dX11_drawn_1 kc_b_75 ?_
  refine V_aload_n (pc := 3) C dX11_drawn_3 rfl rfl ?_
  refine V_getI (pc := 4) C z1_cW_11 fl_RX11_98 (by decide) dX11_drawn_4 ?_
  refine V_imul (pc := 7) C dX11_drawn_7 ?_
  refine V_bipush (pc := 8) C dX11_drawn_8 kc_b_74 ?_
  refine V_iadd (pc := 10) C dX11_drawn_10 ?_
  refine V_ldc (pc := 11) C dX11_drawn_11 ki_RX11_191 ?_
  refine V_irem (pc := 13) C dX11_drawn_13 (by decide) ?_
  refine V_putI (pc := 14) C z1_cW_11 fp_RX11_98 rfl rfl dX11_drawn_14 ?_
  obtain ⟨S1, eS1, h⟩ := lt_some h
  refine V_nmS eS1 ?_
  refine V_iload_n (pc := 17) C dX11_drawn_17 rfl rfl ?_
  refine V_iconst (pc := 18) C dX11_drawn_18 kc_i_1 ?_
  refine V_icmp_ge (tgt := 26) (pc := 19) C dX11_drawn_19 (by decide) (fun hc => ?_) (fun hc => ?_)
  · have h := it_t hc h
    refine V_aload_n (pc := 26) C dX11_drawn_26 rfl rfl ?_
    refine V_getI (pc := 27) C z1_cW_11 fl_RX11_98 (by decide) dX11_drawn_27 ?_
    refine V_iload_n (pc := 30) C dX11_drawn_30 rfl rfl ?_
    obtain ⟨k2, h⟩ := ck_some h
    refine V_irem (pc := 31) C dX11_drawn_31 (of_decide_eq_true k2) ?_
    cases h
    exact hR 32 _ ⟨_, rfl, rfl⟩ dX11_drawn_32
  · have h := it_f hc h
    refine V_iconst (pc := 22) C dX11_drawn_22 kc_i_0 ?_
    refine V_goto (tgt := 32) (pc := 23) C dX11_drawn_23 (by decide) ?_
    cases h
    exact hR 32 _ ⟨_, rfl, rfl⟩ dX11_drawn_32
set_option maxRecDepth 100000 in
theorem mX11_feelingDrawn (l : Launch) {S : zM} {a1 : Nat} {a2 : Int32} {r : Int32} {S' : zM} (ha1 : zob cW 4 a1) (h : gX11_feelingDrawn S a1 a2 = some (r, S')) : zMet l cW zS0 yX11_feelingDrawn cX11_feelingDrawn 3 (some .int) 2 43 [.ref 0, .ref a1, .int a2] S (some (.int r)) S' := by
  refine zmeth (by decide +kernel) (by rfl) (fun K hKl C hR => ?_)
  show V K 0 [some (.ref 0), some (.ref a1), some (.int a2)] [] S
  unfold gX11_feelingDrawn at h
  refine V_iload_n (pc := 0) C dX11_feelingDrawn_0 rfl rfl ?_
  refine V_aload_n (pc := 1) C dX11_feelingDrawn_1 rfl rfl ?_
  refine V_getF (p1 := 456) (pc := 2) C z1_cW_11 fl_RX11_59 rfl (zf_cW_11_9 z1_cW_11) dX11_feelingDrawn_2 ?_
  obtain ⟨r1, er1, h⟩ := b1_some h
  refine V_callV (As := []) (pc := 5) C (mX0_feelings _ er1) zm_X0_feelings zi_X0_feelings ml_RX11_256 z1_cW_0 rfl ⟨Nat.le_of_ble_eq_true rfl, Nat.le_of_ble_eq_true rfl⟩ rfl rfl (Nat.le_of_ble_eq_true rfl) dX11_feelingDrawn_5 ?_
  show V K 8 [some (.ref 0), some (.ref a1), some (.int a2)] [.int r1, .int a2] S
  refine V_icmp_ge (tgt := 35) (pc := 8) C dX11_feelingDrawn_8 (by decide) (fun hc => ?_) (fun hc => ?_)
  · have h := it_t hc h
    refine V_iconst (pc := 35) C dX11_feelingDrawn_35 kc_i_0 ?_
    cases h
    exact hR 36 _ ⟨_, rfl, rfl⟩ dX11_feelingDrawn_36
  · have h := it_f hc h
    refine V_aload_n (pc := 11) C dX11_feelingDrawn_11 rfl rfl ?_
    refine V_getF (p1 := 456) (pc := 12) C z1_cW_11 fl_RX11_59 rfl (zf_cW_11_9 z1_cW_11) dX11_feelingDrawn_12 ?_
    refine V_iload_n (pc := 15) C dX11_feelingDrawn_15 rfl rfl ?_
    obtain ⟨r2, er2, h⟩ := b1_some h
    refine V_callV (As := [.int a2]) (pc := 16) C (mX0_levelOf _ er2) zm_X0_levelOf zi_X0_levelOf ml_RX11_259 z1_cW_0 rfl ⟨Nat.le_of_ble_eq_true rfl, Nat.le_of_ble_eq_true rfl⟩ rfl rfl (Nat.le_of_ble_eq_true rfl) dX11_feelingDrawn_16 ?_
    show V K 19 [some (.ref 0), some (.ref a1), some (.int a2)] [.int r2] S
    refine V_aload_n (pc := 19) C dX11_feelingDrawn_19 rfl rfl ?_
    refine V_aload_n (pc := 20) C dX11_feelingDrawn_20 rfl rfl ?_
    refine V_aload_n (pc := 21) C dX11_feelingDrawn_21 rfl rfl ?_
    refine V_getI (pc := 22) C ha1 fl_RX11_165 (by decide) dX11_feelingDrawn_22 ?_
    obtain ⟨r3, S4, er3, h⟩ := b2_some h
    refine V_callV (As := [.int (gI S a1 3)]) (pc := 25) C (mX11_drawn _ er3) zm_X11_drawn zi_X11_drawn ml_RX11_232 z1_cW_11 rfl ⟨Nat.le_of_ble_eq_true rfl, Nat.le_of_ble_eq_true rfl⟩ rfl rfl (Nat.le_of_ble_eq_true rfl) dX11_feelingDrawn_25 ?_
    show V K 28 [some (.ref 0), some (.ref a1), some (.int a2)] [.int r3, .ref a1, .int r2] S4
    obtain ⟨r5, er5, h⟩ := b1_some h
    refine V_callV (As := [.int r3]) (pc := 28) C (mX4_countedOff _ ha1 er5) zm_X4_countedOff zi_X4_countedOff ml_RX11_262 ha1 rfl ⟨Nat.le_of_ble_eq_true rfl, Nat.le_of_ble_eq_true rfl⟩ rfl rfl (Nat.le_of_ble_eq_true rfl) dX11_feelingDrawn_28 ?_
    show V K 31 [some (.ref 0), some (.ref a1), some (.int a2)] [.int r5, .int r2] S4
    refine V_iadd (pc := 31) C dX11_feelingDrawn_31 ?_
    refine V_goto (tgt := 36) (pc := 32) C dX11_feelingDrawn_32 (by decide) ?_
    cases h
    exact hR 36 _ ⟨_, rfl, rfl⟩ dX11_feelingDrawn_36
set_option maxRecDepth 100000 in
theorem mX11_write (l : Launch) {S : zM} {a1 : Int32} {S' : zM}  (h : gX11_write S a1 = some S') : zMet l cW zS0 yX11_write cX11_write 2 (none) 4 93 [.ref 0, .int a1] S none S' := by
  refine zmeth (by decide +kernel) (by rfl) (fun K hKl C hR => ?_)
  show V K 0 [some (.ref 0), some (.int a1)] [] S
  unfold gX11_write at h
  refine V_aload_n (pc := 0) C dX11_write_0 rfl rfl ?_
  refine V_getF (p1 := 219) (pc := 1) C z1_cW_11 fl_RX11_23 rfl (zf_cW_11_2 z1_cW_11) dX11_write_1 ?_
  refine V_aload_n (pc := 4) C dX11_write_4 rfl rfl ?_
  refine V_getF (p1 := 456) (pc := 5) C z1_cW_11 fl_RX11_59 rfl (zf_cW_11_9 z1_cW_11) dX11_write_5 ?_
  refine V_iload_n (pc := 8) C dX11_write_8 rfl rfl ?_
  obtain ⟨S2, euS2, h⟩ := b1_some h
  refine V_callV (As := [.ref 456, .int a1]) (pc := 9) C (mX1_put _ euS2) zm_X1_put zi_X1_put ml_RX11_279 z1_cW_1 rfl ⟨Nat.le_of_ble_eq_true rfl, Nat.le_of_ble_eq_true rfl⟩ rfl rfl (Nat.le_of_ble_eq_true rfl) dX11_write_9 ?_
  show V K 12 [some (.ref 0), some (.int a1)] [] S2
  refine V_aload_n (pc := 12) C dX11_write_12 rfl rfl ?_
  refine V_getF (p1 := 456) (pc := 13) C z1_cW_11 fl_RX11_59 rfl (zf_cW_11_9 z1_cW_11) dX11_write_13 ?_
  obtain ⟨k3, h⟩ := ck_some h
  refine V_getR (pc := 16) C z1_cW_0 fl_RX11_179 rfl dX11_write_16 ?_
  refine V_dup (pc := 19) C dX11_write_19 rfl ?_
  refine V_getI (pc := 20) C (zob_of k3) fl_RX11_155 (by decide) dX11_write_20 ?_
  refine V_iconst (pc := 23) C dX11_write_23 kc_i_1 ?_
  refine V_iadd (pc := 24) C dX11_write_24 ?_
  refine V_putI (pc := 25) C (zob_of k3) fp_RX11_155 rfl rfl dX11_write_25 ?_
  refine V_aload_n (pc := 28) C dX11_write_28 rfl rfl ?_
  refine V_getF (p1 := 456) (pc := 29) C z1_cW_11 fl_RX11_59 rfl (zf_cW_11_9 z1_cW_11) dX11_write_29 ?_
  obtain ⟨k4, h⟩ := ck_some h
  refine V_getR (pc := 32) C z1_cW_0 fl_RX11_179 rfl dX11_write_32 ?_
  refine V_dup (pc := 35) C dX11_write_35 rfl ?_
  refine V_getI (pc := 36) C (zob_of k4) fl_RX11_158 (by decide) dX11_write_36 ?_
  refine V_iconst (pc := 39) C dX11_write_39 kc_i_1 ?_
  refine V_iadd (pc := 40) C dX11_write_40 ?_
  refine V_putI (pc := 41) C (zob_of k4) fp_RX11_158 rfl rfl dX11_write_41 ?_
  obtain ⟨S5, eS5, h⟩ := lt_some h
  refine V_nmS eS5 ?_
  cases h
  exact hR 44 _ rfl dX11_write_44
set_option maxRecDepth 100000 in
theorem mX11_sayDrawn (l : Launch) {S : zM}  {r : Int32} {S' : zM}  (h : gX11_sayDrawn S = some (r, S')) : zMet l cW zS0 yX11_sayDrawn cX11_sayDrawn 6 (some .int) 5 114 [.ref 0] S (some (.int r)) S' := by
  refine zmeth (by decide +kernel) (by rfl) (fun K hKl C hR => ?_)
  show V K 0 [some (.ref 0), none, none, none, none, none] [] S
  unfold gX11_sayDrawn at h
  refine V_aload_n (pc := 0) C dX11_sayDrawn_0 rfl rfl ?_
  refine V_aload_n (pc := 1) C dX11_sayDrawn_1 rfl rfl ?_
  refine V_getF (p1 := 456) (pc := 2) C z1_cW_11 fl_RX11_59 rfl (zf_cW_11_9 z1_cW_11) dX11_sayDrawn_2 ?_
  obtain ⟨k1, h⟩ := ck_some h
  refine V_getR (pc := 5) C z1_cW_0 fl_RX11_179 rfl dX11_sayDrawn_5 ?_
  obtain ⟨r2, er2, h⟩ := b1_some h
  refine V_callV (As := [.ref (gR S 456 0)]) (pc := 8) C (mX11_noiseOf _ (zob_of k1) er2) zm_X11_noiseOf zi_X11_noiseOf ml_RX11_161 z1_cW_11 rfl ⟨Nat.le_of_ble_eq_true rfl, Nat.le_of_ble_eq_true rfl⟩ rfl rfl (Nat.le_of_ble_eq_true rfl) dX11_sayDrawn_8 ?_
  show V K 11 [some (.ref 0), none, none, none, none, none] [.ref r2] S
  refine V_astore_n (L' := [some (.ref 0), some (.ref r2), none, none, none, none]) (pc := 11) C dX11_sayDrawn_11 rfl (by decide) rfl ?_
  refine V_aload_n (pc := 12) C dX11_sayDrawn_12 rfl rfl ?_
  refine V_aload_n (pc := 13) C dX11_sayDrawn_13 rfl rfl ?_
  refine V_iconst (pc := 14) C dX11_sayDrawn_14 kc_i_0 ?_
  obtain ⟨r3, S4, er3, h⟩ := b2_some h
  refine V_callV (As := [.ref r2, .int (0 : Int32)]) (pc := 15) C (mX11_feelingDrawn _ (mX11_noiseOf_f (zob_of k1) er2) er3) zm_X11_feelingDrawn zi_X11_feelingDrawn ml_RX11_265 z1_cW_11 rfl ⟨Nat.le_of_ble_eq_true rfl, Nat.le_of_ble_eq_true rfl⟩ rfl rfl (Nat.le_of_ble_eq_true rfl) dX11_sayDrawn_15 ?_
  show V K 18 [some (.ref 0), some (.ref r2), none, none, none, none] [.int r3] S4
  refine V_istore_n (L' := [some (.ref 0), some (.ref r2), some (.int r3), none, none, none]) (pc := 18) C dX11_sayDrawn_18 rfl (by decide) rfl ?_
  refine V_aload_n (pc := 19) C dX11_sayDrawn_19 rfl rfl ?_
  refine V_aload_n (pc := 20) C dX11_sayDrawn_20 rfl rfl ?_
  refine V_iconst (pc := 21) C dX11_sayDrawn_21 kc_i_1 ?_
  obtain ⟨r5, S6, er5, h⟩ := b2_some h
  refine V_callV (As := [.ref r2, .int (1 : Int32)]) (pc := 22) C (mX11_feelingDrawn _ (mX11_noiseOf_f (zob_of k1) er2) er5) zm_X11_feelingDrawn zi_X11_feelingDrawn ml_RX11_265 z1_cW_11 rfl ⟨Nat.le_of_ble_eq_true rfl, Nat.le_of_ble_eq_true rfl⟩ rfl rfl (Nat.le_of_ble_eq_true rfl) dX11_sayDrawn_22 ?_
  show V K 25 [some (.ref 0), some (.ref r2), some (.int r3), none, none, none] [.int r5] S6
  refine V_istore_n (L' := [some (.ref 0), some (.ref r2), some (.int r3), some (.int r5), none, none]) (pc := 25) C dX11_sayDrawn_25 rfl (by decide) rfl ?_
  refine V_aload_n (pc := 26) C dX11_sayDrawn_26 rfl rfl ?_
  refine V_aload_n (pc := 27) C dX11_sayDrawn_27 rfl rfl ?_
  refine V_iconst (pc := 28) C dX11_sayDrawn_28 kc_i_2 ?_
  obtain ⟨r7, S8, er7, h⟩ := b2_some h
  refine V_callV (As := [.ref r2, .int (2 : Int32)]) (pc := 29) C (mX11_feelingDrawn _ (mX11_noiseOf_f (zob_of k1) er2) er7) zm_X11_feelingDrawn zi_X11_feelingDrawn ml_RX11_265 z1_cW_11 rfl ⟨Nat.le_of_ble_eq_true rfl, Nat.le_of_ble_eq_true rfl⟩ rfl rfl (Nat.le_of_ble_eq_true rfl) dX11_sayDrawn_29 ?_
  show V K 32 [some (.ref 0), some (.ref r2), some (.int r3), some (.int r5), none, none] [.int r7] S8
  refine V_istore (L' := [some (.ref 0), some (.ref r2), some (.int r3), some (.int r5), some (.int r7), none]) (pc := 32) C dX11_sayDrawn_32 (by decide) rfl ?_
  refine V_aload_n (pc := 34) C dX11_sayDrawn_34 rfl rfl ?_
  refine V_getF (p1 := 456) (pc := 35) C z1_cW_11 fl_RX11_59 rfl (zf_cW_11_9 z1_cW_11) dX11_sayDrawn_35 ?_
  refine V_iload_n (pc := 38) C dX11_sayDrawn_38 rfl rfl ?_
  refine V_iload_n (pc := 39) C dX11_sayDrawn_39 rfl rfl ?_
  refine V_iload (pc := 40) C dX11_sayDrawn_40 rfl ?_
  obtain ⟨r9, er9, h⟩ := b1_some h
  refine V_callV (As := [.int r3, .int r5, .int r7]) (pc := 42) C (mX0_said _ er9) zm_X0_said zi_X0_said ml_RX11_268 z1_cW_0 rfl ⟨Nat.le_of_ble_eq_true rfl, Nat.le_of_ble_eq_true rfl⟩ rfl rfl (Nat.le_of_ble_eq_true rfl) dX11_sayDrawn_42 ?_
  show V K 45 [some (.ref 0), some (.ref r2), some (.int r3), some (.int r5), some (.int r7), none] [.int r9] S8
  refine V_istore (L' := [some (.ref 0), some (.ref r2), some (.int r3), some (.int r5), some (.int r7), some (.int r9)]) (pc := 45) C dX11_sayDrawn_45 (by decide) rfl ?_
  refine V_aload_n (pc := 47) C dX11_sayDrawn_47 rfl rfl ?_
  refine V_iload (pc := 48) C dX11_sayDrawn_48 rfl ?_
  obtain ⟨S11, euS11, h⟩ := b1_some h
  refine V_callV (As := [.int r9]) (pc := 50) C (mX11_write _ euS11) zm_X11_write zi_X11_write ml_RX11_201 z1_cW_11 rfl ⟨Nat.le_of_ble_eq_true rfl, Nat.le_of_ble_eq_true rfl⟩ rfl rfl (Nat.le_of_ble_eq_true rfl) dX11_sayDrawn_50 ?_
  show V K 53 [some (.ref 0), some (.ref r2), some (.int r3), some (.int r5), some (.int r7), some (.int r9)] [] S11
  refine V_iload (pc := 53) C dX11_sayDrawn_53 rfl ?_
  cases h
  exact hR 55 _ ⟨_, rfl, rfl⟩ dX11_sayDrawn_55
set_option maxRecDepth 100000 in
theorem mX11_trial (l : Launch) {S : zM} {a1 : Int32} {a2 : Int32} {a3 : Int32} {a4 : Int32} {a5 : Int32} {r : Int32} {S' : zM}  (h : gX11_trial S a1 a2 a3 a4 a5 = some (r, S')) : zMet l cW zS0 yX11_trial cX11_trial 6 (some .int) 6 139 [.ref 0, .int a1, .int a2, .int a3, .int a4, .int a5] S (some (.int r)) S' := by
  refine zmeth (by decide +kernel) (by rfl) (fun K hKl C hR => ?_)
  show V K 0 [some (.ref 0), some (.int a1), some (.int a2), some (.int a3), some (.int a4), some (.int a5)] [] S
  unfold gX11_trial at h
  refine V_aload_n (pc := 0) C dX11_trial_0 rfl rfl ?_
  refine V_iload_n (pc := 1) C dX11_trial_1 rfl rfl ?_
  refine V_iload_n (pc := 2) C dX11_trial_2 rfl rfl ?_
  refine V_iload_n (pc := 3) C dX11_trial_3 rfl rfl ?_
  refine V_iload (pc := 4) C dX11_trial_4 rfl ?_
  refine V_iload (pc := 6) C dX11_trial_6 rfl ?_
  obtain ⟨r1, S2, er1, h⟩ := b2_some h
  refine V_callV (As := [.int a1, .int a2, .int a3, .int a4, .int a5]) (pc := 8) C (mX11_asks _ er1) zm_X11_asks zi_X11_asks ml_RX11_175 z1_cW_11 rfl ⟨Nat.le_of_ble_eq_true rfl, Nat.le_of_ble_eq_true rfl⟩ rfl rfl (Nat.le_of_ble_eq_true rfl) dX11_trial_8 ?_
  show V K 11 [some (.ref 0), some (.int a1), some (.int a2), some (.int a3), some (.int a4), some (.int a5)] [.int r1] S2
  refine V_if_eq (tgt := 26) (pc := 11) C dX11_trial_11 (by decide) (fun hc => ?_) (fun hc => ?_)
  · have h := it_t hc h
    refine V_iconst (pc := 26) C dX11_trial_26 kc_i_m1 ?_
    cases h
    exact hR 27 _ ⟨_, rfl, rfl⟩ dX11_trial_27
  · have h := it_f hc h
    refine V_aload_n (pc := 14) C dX11_trial_14 rfl rfl ?_
    refine V_aload_n (pc := 15) C dX11_trial_15 rfl rfl ?_
    refine V_iconst (pc := 16) C dX11_trial_16 kc_i_1 ?_
    obtain ⟨r3, er3, h⟩ := b1_some h
    refine V_callV (As := [.int (1 : Int32)]) (pc := 17) C (mX11_whyNoRoom _ er3) zm_X11_whyNoRoom zi_X11_whyNoRoom ml_RX11_192 z1_cW_11 rfl ⟨Nat.le_of_ble_eq_true rfl, Nat.le_of_ble_eq_true rfl⟩ rfl rfl (Nat.le_of_ble_eq_true rfl) dX11_trial_17 ?_
    show V K 20 [some (.ref 0), some (.int a1), some (.int a2), some (.int a3), some (.int a4), some (.int a5)] [.int r3, .ref 0] S2
    obtain ⟨r4, S5, er4, h⟩ := b2_some h
    refine V_callV (As := [.int r3]) (pc := 20) C (mX11_passes _ er4) zm_X11_passes zi_X11_passes ml_RX11_71 z1_cW_11 rfl ⟨Nat.le_of_ble_eq_true rfl, Nat.le_of_ble_eq_true rfl⟩ rfl rfl (Nat.le_of_ble_eq_true rfl) dX11_trial_20 ?_
    show V K 23 [some (.ref 0), some (.int a1), some (.int a2), some (.int a3), some (.int a4), some (.int a5)] [.int r4] S5
    refine V_if_ne (tgt := 28) (pc := 23) C dX11_trial_23 (by decide) (fun hc => ?_) (fun hc => ?_)
    · have h := it_f hc h
      refine V_aload_n (pc := 28) C dX11_trial_28 rfl rfl ?_
      obtain ⟨r6, S7, er6, h⟩ := b2_some h
      refine V_callV (As := []) (pc := 29) C (mX11_sayDrawn _ er6) zm_X11_sayDrawn zi_X11_sayDrawn ml_RX11_195 z1_cW_11 rfl ⟨Nat.le_of_ble_eq_true rfl, Nat.le_of_ble_eq_true rfl⟩ rfl rfl (Nat.le_of_ble_eq_true rfl) dX11_trial_29 ?_
      show V K 32 [some (.ref 0), some (.int a1), some (.int a2), some (.int a3), some (.int a4), some (.int a5)] [.int r6] S7
      cases h
      exact hR 32 _ ⟨_, rfl, rfl⟩ dX11_trial_32
    · have h := it_t hc h
      refine V_iconst (pc := 26) C dX11_trial_26 kc_i_m1 ?_
      cases h
      exact hR 27 _ ⟨_, rfl, rfl⟩ dX11_trial_27
set_option maxRecDepth 100000 in
theorem mX11_tell_J36 {K : zK} (C : zC K cX11_tell yX11_tell.cls 7 5 114 cW) {S : zM} {v6 : Int32} {s0 : Int32} {r : Int32} {S' : zM}  (hR : zR K cX11_tell (some .int) S' (some (.int r))) (h : gX11_tell_J36 S v6 s0 = some (r, S')) : V K 36 [some (.ref 0), none, none, none, none, none, some (.int v6)] [.int s0, .ref 0] S := by
  unfold gX11_tell_J36 at h
  obtain ⟨r4, S5, er4, h⟩ := b2_some h
  refine V_callV (As := [.int s0]) (pc := 36) C (mX11_passes _ er4) zm_X11_passes zi_X11_passes ml_RX11_71 z1_cW_11 rfl ⟨Nat.le_of_ble_eq_true rfl, Nat.le_of_ble_eq_true rfl⟩ rfl rfl (Nat.le_of_ble_eq_true rfl) dX11_tell_36 ?_
  show V K 39 [some (.ref 0), none, none, none, none, none, some (.int v6)] [.int r4] S5
  refine V_if_ne (tgt := 44) (pc := 39) C dX11_tell_39 (by decide) (fun hc => ?_) (fun hc => ?_)
  · have h := it_f hc h
    refine V_aload_n (pc := 44) C dX11_tell_44 rfl rfl ?_
    refine V_iload (pc := 45) C dX11_tell_45 rfl ?_
    obtain ⟨S7, euS7, h⟩ := b1_some h
    refine V_callV (As := [.int v6]) (pc := 47) C (mX11_write _ euS7) zm_X11_write zi_X11_write ml_RX11_201 z1_cW_11 rfl ⟨Nat.le_of_ble_eq_true rfl, Nat.le_of_ble_eq_true rfl⟩ rfl rfl (Nat.le_of_ble_eq_true rfl) dX11_tell_47 ?_
    show V K 50 [some (.ref 0), none, none, none, none, none, some (.int v6)] [] S7
    refine V_aload_n (pc := 50) C dX11_tell_50 rfl rfl ?_
    refine V_getF (p1 := 219) (pc := 51) C z1_cW_11 fl_RX11_23 rfl (zf_cW_11_2 z1_cW_11) dX11_tell_51 ?_
    refine V_getI (pc := 54) C z1_cW_1 fl_RX11_204 (by decide) dX11_tell_54 ?_
    cases h
    exact hR 57 _ ⟨_, rfl, rfl⟩ dX11_tell_57
  · have h := it_t hc h
    refine V_iconst (pc := 42) C dX11_tell_42 kc_i_m1 ?_
    cases h
    exact hR 43 _ ⟨_, rfl, rfl⟩ dX11_tell_43
set_option maxRecDepth 100000 in
theorem mX11_tell (l : Launch) {S : zM} {a1 : Int32} {a2 : Int32} {a3 : Int32} {a4 : Int32} {a5 : Int32} {a6 : Int32} {r : Int32} {S' : zM}  (h : gX11_tell S a1 a2 a3 a4 a5 a6 = some (r, S')) : zMet l cW zS0 yX11_tell cX11_tell 7 (some .int) 5 114 [.ref 0, .int a1, .int a2, .int a3, .int a4, .int a5, .int a6] S (some (.int r)) S' := by
  refine zmeth (by decide +kernel) (by rfl) (fun K hKl C hR => ?_)
  show V K 0 [some (.ref 0), some (.int a1), some (.int a2), some (.int a3), some (.int a4), some (.int a5), some (.int a6)] [] S
  unfold gX11_tell at h
  refine V_aload_n (pc := 0) C dX11_tell_0 rfl rfl ?_
  refine V_iload_n (pc := 1) C dX11_tell_1 rfl rfl ?_
  refine V_iload_n (pc := 2) C dX11_tell_2 rfl rfl ?_
  refine V_iload_n (pc := 3) C dX11_tell_3 rfl rfl ?_
  refine V_iload (pc := 4) C dX11_tell_4 rfl ?_
  refine V_iload (pc := 6) C dX11_tell_6 rfl ?_
  obtain ⟨r1, S2, er1, h⟩ := b2_some h
  refine V_callV (As := [.int a1, .int a2, .int a3, .int a4, .int a5]) (pc := 8) C (mX11_asks _ er1) zm_X11_asks zi_X11_asks ml_RX11_175 z1_cW_11 rfl ⟨Nat.le_of_ble_eq_true rfl, Nat.le_of_ble_eq_true rfl⟩ rfl rfl (Nat.le_of_ble_eq_true rfl) dX11_tell_8 ?_
  show V K 11 [some (.ref 0), some (.int a1), some (.int a2), some (.int a3), some (.int a4), some (.int a5), some (.int a6)] [.int r1] S2
  refine V_if_eq (tgt := 42) (pc := 11) C dX11_tell_11 (by decide) (fun hc => ?_) (fun hc => ?_)
  · have h := it_t hc h
    refine V_iconst (pc := 42) C dX11_tell_42 kc_i_m1 ?_
    cases h
    exact hR 43 _ ⟨_, rfl, rfl⟩ dX11_tell_43
  · have h := it_f hc h
    refine V_aload_n (pc := 14) C dX11_tell_14 rfl rfl ?_
    refine V_aload_n (pc := 15) C dX11_tell_15 rfl rfl ?_
    refine V_getF (p1 := 456) (pc := 16) C z1_cW_11 fl_RX11_59 rfl (zf_cW_11_9 z1_cW_11) dX11_tell_16 ?_
    refine V_iload (pc := 19) C dX11_tell_19 rfl ?_
    obtain ⟨r3, er3, h⟩ := b1_some h
    refine V_callV (As := [.int a6]) (pc := 21) C (mX0_canBe _ er3) zm_X0_canBe zi_X0_canBe ml_RX11_198 z1_cW_0 rfl ⟨Nat.le_of_ble_eq_true rfl, Nat.le_of_ble_eq_true rfl⟩ rfl rfl (Nat.le_of_ble_eq_true rfl) dX11_tell_21 ?_
    show V K 24 [some (.ref 0), some (.int a1), some (.int a2), some (.int a3), some (.int a4), some (.int a5), some (.int a6)] [.int r3, .ref 0] S2
    refine V_if_eq (tgt := 35) (pc := 24) C dX11_tell_24 (by decide) (fun hc => ?_) (fun hc => ?_)
    · have h := it_t hc h
      refine V_iconst (pc := 35) C dX11_tell_35 kc_i_2 ?_
      exact V_mask [true, false, false, false, false, false, true] (mX11_tell_J36 C  hR h)
    · have h := it_f hc h
      refine V_aload_n (pc := 27) C dX11_tell_27 rfl rfl ?_
      refine V_iconst (pc := 28) C dX11_tell_28 kc_i_1 ?_
      obtain ⟨r8, er8, h⟩ := b1_some h
      refine V_callV (As := [.int (1 : Int32)]) (pc := 29) C (mX11_whyNoRoom _ er8) zm_X11_whyNoRoom zi_X11_whyNoRoom ml_RX11_192 z1_cW_11 rfl ⟨Nat.le_of_ble_eq_true rfl, Nat.le_of_ble_eq_true rfl⟩ rfl rfl (Nat.le_of_ble_eq_true rfl) dX11_tell_29 ?_
      show V K 32 [some (.ref 0), some (.int a1), some (.int a2), some (.int a3), some (.int a4), some (.int a5), some (.int a6)] [.int r8, .ref 0] S2
      refine V_goto (tgt := 36) (pc := 32) C dX11_tell_32 (by decide) ?_
      exact V_mask [true, false, false, false, false, false, true] (mX11_tell_J36 C  hR h)
set_option maxRecDepth 100000 in
theorem mX11_isPlan (l : Launch) {S : zM} {a1 : Int32} {r : Int32}  (h : gX11_isPlan S a1 = some r) : zMet l cW zS0 yX11_isPlan cX11_isPlan 2 (some .boolean) 0 0 [.ref 0, .int a1] S (some (.int r)) S := by
  refine zmeth (by decide +kernel) (by rfl) (fun K hKl C hR => ?_)
  show V K 0 [some (.ref 0), some (.int a1)] [] S
  unfold gX11_isPlan at h
  refine V_iload_n (pc := 0) C dX11_isPlan_0 rfl rfl ?_
  refine V_if_lt (tgt := 19) (pc := 1) C dX11_isPlan_1 (by decide) (fun hc => ?_) (fun hc => ?_)
  · have h := it_t hc h
    refine V_iconst (pc := 19) C dX11_isPlan_19 kc_i_0 ?_
    cases h
    exact hR 20 _ ⟨_, rfl, zB0⟩ dX11_isPlan_20
  · have h := it_f hc h
    refine V_iload_n (pc := 4) C dX11_isPlan_4 rfl rfl ?_
    refine V_aload_n (pc := 5) C dX11_isPlan_5 rfl rfl ?_
    obtain ⟨k1, h⟩ := ck_some h
    refine V_getR (pc := 6) C z1_cW_11 fl_RX11_52 rfl dX11_isPlan_6 ?_
    refine V_getI (pc := 9) C (zob_of k1) fl_RX11_457 (by decide) dX11_isPlan_9 ?_
    refine V_icmp_ge (tgt := 19) (pc := 12) C dX11_isPlan_12 (by decide) (fun hc => ?_) (fun hc => ?_)
    · have h := it_t hc h
      refine V_iconst (pc := 19) C dX11_isPlan_19 kc_i_0 ?_
      cases h
      exact hR 20 _ ⟨_, rfl, zB0⟩ dX11_isPlan_20
    · have h := it_f hc h
      refine V_iconst (pc := 15) C dX11_isPlan_15 kc_i_1 ?_
      refine V_goto (tgt := 20) (pc := 16) C dX11_isPlan_16 (by decide) ?_
      cases h
      exact hR 20 _ ⟨_, rfl, zB1⟩ dX11_isPlan_20
set_option maxRecDepth 100000 in
theorem mX11_bringToFront_L29 {K : zK} (C : zC K cX11_bringToFront yX11_bringToFront.cls 5 0 0 cW) {v1 : Int32} {v3 : Int32}  : ∀ (f : Nat) (S : zM) (v4 : Int32) (S' : zM), gX11_bringToFront_L29 v1 v3 f S v4 = some S' → zR K cX11_bringToFront (none) S' none → V K 29 [some (.ref 0), some (.int v1), none, some (.int v3), some (.int v4)] [] S := by
  intro f
  induction f with
  | zero => intro S v4 S' h hR; cases h
  | succ n ih =>
    intro S v4 S' h hR
    unfold gX11_bringToFront_L29 at h
    refine V_iload (pc := 29) C dX11_bringToFront_29 rfl ?_
    refine V_iload_n (pc := 31) C dX11_bringToFront_31 rfl rfl ?_
    refine V_icmp_le (tgt := 57) (pc := 32) C dX11_bringToFront_32 (by decide) (fun hc => ?_) (fun hc => ?_)
    · have h := it_t hc h
      refine V_aload_n (pc := 57) C dX11_bringToFront_57 rfl rfl ?_
      refine V_getF (p1 := 239) (pc := 58) C z1_cW_11 fl_RX11_34 rfl (zf_cW_11_4 z1_cW_11) dX11_bringToFront_58 ?_
      refine V_iload_n (pc := 61) C dX11_bringToFront_61 rfl rfl ?_
      refine V_iload_n (pc := 62) C dX11_bringToFront_62 rfl rfl ?_
      obtain ⟨k2, h⟩ := ck_some h
      refine V_iast (pc := 63) C (za_cW_11_4 z1_cW_11) k2 dX11_bringToFront_63 ?_
      cases h
      exact hR 64 _ rfl dX11_bringToFront_64
    · have h := it_f hc h
      refine V_aload_n (pc := 35) C dX11_bringToFront_35 rfl rfl ?_
      refine V_getF (p1 := 239) (pc := 36) C z1_cW_11 fl_RX11_34 rfl (zf_cW_11_4 z1_cW_11) dX11_bringToFront_36 ?_
      refine V_iload (pc := 39) C dX11_bringToFront_39 rfl ?_
      refine V_aload_n (pc := 41) C dX11_bringToFront_41 rfl rfl ?_
      refine V_getF (p1 := 239) (pc := 42) C z1_cW_11 fl_RX11_34 rfl (zf_cW_11_4 z1_cW_11) dX11_bringToFront_42 ?_
      refine V_iload (pc := 45) C dX11_bringToFront_45 rfl ?_
      refine V_iconst (pc := 47) C dX11_bringToFront_47 kc_i_1 ?_
      refine V_isub (pc := 48) C dX11_bringToFront_48 ?_
      obtain ⟨k3, h⟩ := ck_some h
      refine V_iald (pc := 49) C (za_cW_11_4 z1_cW_11) k3 dX11_bringToFront_49 ?_
      obtain ⟨k4, h⟩ := ck_some h
      refine V_iast (pc := 50) C (za_cW_11_4 z1_cW_11) k4 dX11_bringToFront_50 ?_
      refine V_iinc (L' := [some (.ref 0), some (.int v1), none, some (.int v3), some (.int (v4 + (-1 : Int32)))]) (v := (v4 + (-1 : Int32))) (pc := 51) C dX11_bringToFront_51 rfl (congrArg (v4 + ·) kc_i_m1) (by decide) rfl ?_
      refine V_goto (tgt := 29) (pc := 54) C dX11_bringToFront_54 (by decide) ?_
      exact V_mask [true, true, false, true, true] (ih _ _ _ h hR)
set_option maxRecDepth 100000 in
theorem mX11_bringToFront (l : Launch) {S : zM} {a1 : Int32} {a2 : Int32} {S' : zM}  (h : gX11_bringToFront S a1 a2 = some S') : zMet l cW zS0 yX11_bringToFront cX11_bringToFront 5 (none) 0 0 [.ref 0, .int a1, .int a2] S none S' := by
  refine zmeth (by decide +kernel) (by rfl) (fun K hKl C hR => ?_)
  show V K 0 [some (.ref 0), some (.int a1), some (.int a2), none, none] [] S
  unfold gX11_bringToFront at h
  refine V_iload_n (pc := 0) C dX11_bringToFront_0 rfl rfl ?_
  refine V_if_lt (tgt := 18) (pc := 1) C dX11_bringToFront_1 (by decide) (fun hc => ?_) (fun hc => ?_)
  · have h := it_t hc h
    cases h
    exact hR 18 _ rfl dX11_bringToFront_18
  · have h := it_f hc h
    refine V_iload_n (pc := 4) C dX11_bringToFront_4 rfl rfl ?_
    refine V_iload_n (pc := 5) C dX11_bringToFront_5 rfl rfl ?_
    refine V_icmp_lt (tgt := 18) (pc := 6) C dX11_bringToFront_6 (by decide) (fun hc => ?_) (fun hc => ?_)
    · have h := it_t hc h
      cases h
      exact hR 18 _ rfl dX11_bringToFront_18
    · have h := it_f hc h
      refine V_iload_n (pc := 9) C dX11_bringToFront_9 rfl rfl ?_
      refine V_aload_n (pc := 10) C dX11_bringToFront_10 rfl rfl ?_
      refine V_getF (p1 := 239) (pc := 11) C z1_cW_11 fl_RX11_34 rfl (zf_cW_11_4 z1_cW_11) dX11_bringToFront_11 ?_
      refine V_alen (v := (200 : Int32)) (pc := 14) C (za_cW_11_4 z1_cW_11) (by decide) (fun _ => rfl) (by decide) dX11_bringToFront_14 ?_
      refine V_icmp_lt (tgt := 19) (pc := 15) C dX11_bringToFront_15 (by decide) (fun hc => ?_) (fun hc => ?_)
      · have h := it_t hc h
        refine V_aload_n (pc := 19) C dX11_bringToFront_19 rfl rfl ?_
        refine V_getF (p1 := 239) (pc := 20) C z1_cW_11 fl_RX11_34 rfl (zf_cW_11_4 z1_cW_11) dX11_bringToFront_20 ?_
        refine V_iload_n (pc := 23) C dX11_bringToFront_23 rfl rfl ?_
        obtain ⟨k1, h⟩ := ck_some h
        refine V_iald (pc := 24) C (za_cW_11_4 z1_cW_11) k1 dX11_bringToFront_24 ?_
        refine V_istore_n (L' := [some (.ref 0), some (.int a1), some (.int a2), some (.int (gI S 239 (ix a2))), none]) (pc := 25) C dX11_bringToFront_25 rfl (by decide) rfl ?_
        refine V_iload_n (pc := 26) C dX11_bringToFront_26 rfl rfl ?_
        refine V_istore (L' := [some (.ref 0), some (.int a1), some (.int a2), some (.int (gI S 239 (ix a2))), some (.int a2)]) (pc := 27) C dX11_bringToFront_27 (by decide) rfl ?_
        exact V_mask [true, true, false, true, true] (mX11_bringToFront_L29 C  FU _ _ _ h hR)
      · have h := it_f hc h
        cases h
        exact hR 18 _ rfl dX11_bringToFront_18
set_option maxRecDepth 100000 in
theorem mX11_sayAlone (l : Launch) {S : zM} {a1 : Int32} {a2 : Int32} {r : Int32} {S' : zM}  (h : gX11_sayAlone S a1 a2 = some (r, S')) : zMet l cW zS0 yX11_sayAlone cX11_sayAlone 3 (some .int) 6 139 [.ref 0, .int a1, .int a2] S (some (.int r)) S' := by
  refine zmeth (by decide +kernel) (by rfl) (fun K hKl C hR => ?_)
  show V K 0 [some (.ref 0), some (.int a1), some (.int a2)] [] S
  unfold gX11_sayAlone at h
  refine V_aload_n (pc := 0) C dX11_sayAlone_0 rfl rfl ?_
  refine V_getF (p1 := 456) (pc := 1) C z1_cW_11 fl_RX11_59 rfl (zf_cW_11_9 z1_cW_11) dX11_sayAlone_1 ?_
  refine V_iload_n (pc := 4) C dX11_sayAlone_4 rfl rfl ?_
  refine V_iconst (pc := 5) C dX11_sayAlone_5 kc_i_1 ?_
  refine V_iload_n (pc := 6) C dX11_sayAlone_6 rfl rfl ?_
  refine V_iconst (pc := 7) C dX11_sayAlone_7 kc_i_0 ?_
  refine V_iconst (pc := 8) C dX11_sayAlone_8 kc_i_0 ?_
  obtain ⟨S2, euS2, h⟩ := b1_some h
  refine V_callV (As := [.int a1, .int (1 : Int32), .int a2, .int (0 : Int32), .int (0 : Int32)]) (pc := 9) C (mX0_put _ euS2) zm_X0_put zi_X0_put ml_RX11_271 z1_cW_0 rfl ⟨Nat.le_of_ble_eq_true rfl, Nat.le_of_ble_eq_true rfl⟩ rfl rfl (Nat.le_of_ble_eq_true rfl) dX11_sayAlone_9 ?_
  show V K 12 [some (.ref 0), some (.int a1), some (.int a2)] [] S2
  refine V_aload_n (pc := 12) C dX11_sayAlone_12 rfl rfl ?_
  refine V_aload_n (pc := 13) C dX11_sayAlone_13 rfl rfl ?_
  obtain ⟨k3, h⟩ := ck_some h
  refine V_getR (pc := 14) C z1_cW_11 fl_RX11_52 rfl dX11_sayAlone_14 ?_
  refine V_getF (p1 := ((gR S2 0 8) + 2)) (pc := 17) C (zob_of k3) fl_RX11_132 rfl (zf_cW_3_1 (zob_of k3)) dX11_sayAlone_17 ?_
  refine V_iload_n (pc := 20) C dX11_sayAlone_20 rfl rfl ?_
  obtain ⟨k4, h⟩ := ck_some h
  refine V_aald (p1 := ((gR S2 0 8) + 193 + 2 * ix a1)) (pc := 21) C (za_cW_3_1 (zob_of k3)) (fun _ => rfl) k4 (ze_cW_3_1 (zob_of k3) k4) dX11_sayAlone_21 ?_
  obtain ⟨S6, euS6, h⟩ := b1_some h
  refine V_callV (As := [.ref ((gR S2 0 8) + 193 + 2 * ix a1)]) (pc := 22) C (mX11_askOf _ (zx_cW_3_1 (zob_of k3) k4) euS6) zm_X11_askOf zi_X11_askOf ml_RX11_275 z1_cW_11 rfl ⟨Nat.le_of_ble_eq_true rfl, Nat.le_of_ble_eq_true rfl⟩ rfl rfl (Nat.le_of_ble_eq_true rfl) dX11_sayAlone_22 ?_
  show V K 25 [some (.ref 0), some (.int a1), some (.int a2)] [] S6
  refine V_aload_n (pc := 25) C dX11_sayAlone_25 rfl rfl ?_
  obtain ⟨r7, S8, er7, h⟩ := b2_some h
  refine V_callV (As := []) (pc := 26) C (mX11_sayDrawn _ er7) zm_X11_sayDrawn zi_X11_sayDrawn ml_RX11_195 z1_cW_11 rfl ⟨Nat.le_of_ble_eq_true rfl, Nat.le_of_ble_eq_true rfl⟩ rfl rfl (Nat.le_of_ble_eq_true rfl) dX11_sayAlone_26 ?_
  show V K 29 [some (.ref 0), some (.int a1), some (.int a2)] [.int r7] S8
  cases h
  exact hR 29 _ ⟨_, rfl, rfl⟩ dX11_sayAlone_29
set_option maxRecDepth 100000 in
theorem mX11_run_J116 {K : zK} (C : zC K cX11_run yX11_run.cls 7 7 161 cW) {S : zM} {v2 : Int32} {v3 : Nat} {v4 : Int32} {v5 : Int32} {v6 : Int32} {out : (Int32 × zM) ⊕ (Int32 × Int32 × zM)} (hv3 : zob cW 6 v3) (h : gX11_run_J116 S v2 v3 v4 v5 v6 = some out) (hb : ∀ (b5 : Int32) (b6 : Int32) (S' : zM), out = .inr (b5, b6, S') → V K 83 [some (.ref 0), none, some (.int v2), some (.ref v3), some (.int v4), some (.int b5), some (.int b6)] [] S') : V K 116 [some (.ref 0), none, some (.int v2), some (.ref v3), some (.int v4), some (.int v5), some (.int v6)] [] S := by
  unfold gX11_run_J116 at h
  refine V_iload (pc := 116) C dX11_run_116 rfl ?_
  refine V_aload_n (pc := 118) C dX11_run_118 rfl rfl ?_
  refine V_iload_n (pc := 119) C dX11_run_119 rfl rfl ?_
  refine V_aload_n (pc := 120) C dX11_run_120 rfl rfl ?_
  refine V_getF (p1 := 239) (pc := 121) C z1_cW_11 fl_RX11_34 rfl (zf_cW_11_4 z1_cW_11) dX11_run_121 ?_
  refine V_iload (pc := 124) C dX11_run_124 rfl ?_
  obtain ⟨k19, h⟩ := ck_some h
  refine V_iald (pc := 126) C (za_cW_11_4 z1_cW_11) k19 dX11_run_126 ?_
  obtain ⟨r20, S21, er20, h⟩ := b2_some h
  refine V_callV (As := [.int v2, .int (gI S 239 (ix v6))]) (pc := 127) C (mX11_sayAlone _ er20) zm_X11_sayAlone zi_X11_sayAlone ml_RX11_239 z1_cW_11 rfl ⟨Nat.le_of_ble_eq_true rfl, Nat.le_of_ble_eq_true rfl⟩ rfl rfl (Nat.le_of_ble_eq_true rfl) dX11_run_127 ?_
  show V K 130 [some (.ref 0), none, some (.int v2), some (.ref v3), some (.int v4), some (.int v5), some (.int v6)] [.int r20, .int v5] S21
  refine V_iadd (pc := 130) C dX11_run_130 ?_
  refine V_istore (L' := [some (.ref 0), none, some (.int v2), some (.ref v3), some (.int v4), some (.int (v5 + r20)), some (.int v6)]) (pc := 131) C dX11_run_131 (by decide) rfl ?_
  refine V_iinc (L' := [some (.ref 0), none, some (.int v2), some (.ref v3), some (.int v4), some (.int (v5 + r20)), some (.int (v6 + (1 : Int32)))]) (v := (v6 + (1 : Int32))) (pc := 133) C dX11_run_133 rfl (congrArg (v6 + ·) kc_i_1) (by decide) rfl ?_
  refine V_goto (tgt := 83) (pc := 136) C dX11_run_136 (by decide) ?_
  cases h
  exact V_mask [true, false, true, true, true, true, true] (hb _ _ _ rfl)
set_option maxRecDepth 100000 in
theorem mX11_run_L83 {K : zK} (C : zC K cX11_run yX11_run.cls 7 7 161 cW) {v2 : Int32} {v3 : Nat} {v4 : Int32} (hv3 : zob cW 6 v3) : ∀ (f : Nat) (S : zM) (v5 : Int32) (v6 : Int32) (r : Int32) (S' : zM), gX11_run_L83 v2 v3 v4 f S v5 v6 = some (r, S') → zR K cX11_run (some .int) S' (some (.int r)) → V K 83 [some (.ref 0), none, some (.int v2), some (.ref v3), some (.int v4), some (.int v5), some (.int v6)] [] S := by
  intro f
  induction f with
  | zero => intro S v5 v6 r S' h hR; cases h
  | succ n ih =>
    intro S v5 v6 r S' h hR
    unfold gX11_run_L83 at h
    refine V_iload (pc := 83) C dX11_run_83 rfl ?_
    refine V_iload (pc := 85) C dX11_run_85 rfl ?_
    refine V_icmp_ge (tgt := 139) (pc := 87) C dX11_run_87 (by decide) (fun hc => ?_) (fun hc => ?_)
    · have h := it_t hc h
      refine V_iload (pc := 139) C dX11_run_139 rfl ?_
      cases h
      exact hR 141 _ ⟨_, rfl, rfl⟩ dX11_run_141
    · have h := it_f hc h
      refine V_aload_n (pc := 90) C dX11_run_90 rfl rfl ?_
      refine V_getI (pc := 91) C hv3 fl_RX11_229 (by decide) dX11_run_91 ?_
      refine V_iconst (pc := 94) C dX11_run_94 kc_i_2 ?_
      refine V_icmp_ne (tgt := 116) (pc := 95) C dX11_run_95 (by decide) (fun hc => ?_) (fun hc => ?_)
      · have h := it_f hc h
        refine V_iload (pc := 116) C dX11_run_116 rfl ?_
        refine V_aload_n (pc := 118) C dX11_run_118 rfl rfl ?_
        refine V_iload_n (pc := 119) C dX11_run_119 rfl rfl ?_
        refine V_aload_n (pc := 120) C dX11_run_120 rfl rfl ?_
        refine V_getF (p1 := 239) (pc := 121) C z1_cW_11 fl_RX11_34 rfl (zf_cW_11_4 z1_cW_11) dX11_run_121 ?_
        refine V_iload (pc := 124) C dX11_run_124 rfl ?_
        obtain ⟨k12, h⟩ := ck_some h
        refine V_iald (pc := 126) C (za_cW_11_4 z1_cW_11) k12 dX11_run_126 ?_
        obtain ⟨r13, S14, er13, h⟩ := b2_some h
        refine V_callV (As := [.int v2, .int (gI S 239 (ix v6))]) (pc := 127) C (mX11_sayAlone _ er13) zm_X11_sayAlone zi_X11_sayAlone ml_RX11_239 z1_cW_11 rfl ⟨Nat.le_of_ble_eq_true rfl, Nat.le_of_ble_eq_true rfl⟩ rfl rfl (Nat.le_of_ble_eq_true rfl) dX11_run_127 ?_
        show V K 130 [some (.ref 0), none, some (.int v2), some (.ref v3), some (.int v4), some (.int v5), some (.int v6)] [.int r13, .int v5] S14
        refine V_iadd (pc := 130) C dX11_run_130 ?_
        refine V_istore (L' := [some (.ref 0), none, some (.int v2), some (.ref v3), some (.int v4), some (.int (v5 + r13)), some (.int v6)]) (pc := 131) C dX11_run_131 (by decide) rfl ?_
        refine V_iinc (L' := [some (.ref 0), none, some (.int v2), some (.ref v3), some (.int v4), some (.int (v5 + r13)), some (.int (v6 + (1 : Int32)))]) (v := (v6 + (1 : Int32))) (pc := 133) C dX11_run_133 rfl (congrArg (v6 + ·) kc_i_1) (by decide) rfl ?_
        refine V_goto (tgt := 83) (pc := 136) C dX11_run_136 (by decide) ?_
        exact V_mask [true, false, true, true, true, true, true] (ih _ _ _ _ _ h hR)
      · have h := it_t hc h
        refine V_aload_n (pc := 98) C dX11_run_98 rfl rfl ?_
        refine V_iload (pc := 99) C dX11_run_99 rfl ?_
        refine V_iload (pc := 101) C dX11_run_101 rfl ?_
        refine V_aload_n (pc := 103) C dX11_run_103 rfl rfl ?_
        refine V_iload (pc := 104) C dX11_run_104 rfl ?_
        refine V_iload (pc := 106) C dX11_run_106 rfl ?_
        refine V_isub (pc := 108) C dX11_run_108 ?_
        obtain ⟨r15, S16, er15, h⟩ := b2_some h
        refine V_callV (As := [.int (v4 - v6)]) (pc := 109) C (mX11_drawn _ er15) zm_X11_drawn zi_X11_drawn ml_RX11_232 z1_cW_11 rfl ⟨Nat.le_of_ble_eq_true rfl, Nat.le_of_ble_eq_true rfl⟩ rfl rfl (Nat.le_of_ble_eq_true rfl) dX11_run_109 ?_
        show V K 112 [some (.ref 0), none, some (.int v2), some (.ref v3), some (.int v4), some (.int v5), some (.int v6)] [.int r15, .int v6, .int v6, .ref 0] S16
        refine V_iadd (pc := 112) C dX11_run_112 ?_
        obtain ⟨S18, euS18, h⟩ := b1_some h
        refine V_callV (As := [.int v6, .int (v6 + r15)]) (pc := 113) C (mX11_bringToFront _ euS18) zm_X11_bringToFront zi_X11_bringToFront ml_RX11_235 z1_cW_11 rfl ⟨Nat.le_of_ble_eq_true rfl, Nat.le_of_ble_eq_true rfl⟩ rfl rfl (Nat.le_of_ble_eq_true rfl) dX11_run_113 ?_
        show V K 116 [some (.ref 0), none, some (.int v2), some (.ref v3), some (.int v4), some (.int v5), some (.int v6)] [] S18
        obtain ⟨out', e116, hi, hb⟩ := lm_some h
        refine V_mask [true, false, true, true, true, true, true] (mX11_run_J116 C hv3 e116 ?_)
        · intro v5 v6 S eo
          have h := hb _ eo
          exact ih _ _ _ _ _ h hR
set_option maxRecDepth 100000 in
theorem mX11_run_J22 {K : zK} (C : zC K cX11_run yX11_run.cls 7 7 161 cW) {S : zM} {v1 : Int32} {v2 : Int32} {s0 : Int32} {r : Int32} {S' : zM}  (hR : zR K cX11_run (some .int) S' (some (.int r))) (h : gX11_run_J22 S v1 v2 s0 = some (r, S')) : V K 22 [some (.ref 0), some (.int v1), some (.int v2), none, none, none, none] [.int s0, .ref 0] S := by
  unfold gX11_run_J22 at h
  obtain ⟨r2, S3, er2, h⟩ := b2_some h
  refine V_callV (As := [.int s0]) (pc := 22) C (mX11_passes _ er2) zm_X11_passes zi_X11_passes ml_RX11_71 z1_cW_11 rfl ⟨Nat.le_of_ble_eq_true rfl, Nat.le_of_ble_eq_true rfl⟩ rfl rfl (Nat.le_of_ble_eq_true rfl) dX11_run_22 ?_
  show V K 25 [some (.ref 0), some (.int v1), some (.int v2), none, none, none, none] [.int r2] S3
  refine V_if_ne (tgt := 30) (pc := 25) C dX11_run_25 (by decide) (fun hc => ?_) (fun hc => ?_)
  · have h := it_f hc h
    refine V_aload_n (pc := 30) C dX11_run_30 rfl rfl ?_
    obtain ⟨k4, h⟩ := ck_some h
    refine V_getR (pc := 31) C z1_cW_11 fl_RX11_52 rfl dX11_run_31 ?_
    refine V_getF (p1 := ((gR S3 0 8) + 3)) (pc := 34) C (zob_of k4) fl_RX11_210 rfl (zf_cW_3_2 (zob_of k4)) dX11_run_34 ?_
    refine V_iload_n (pc := 37) C dX11_run_37 rfl rfl ?_
    obtain ⟨k5, h⟩ := ck_some h
    refine V_aald (p1 := ((gR S3 0 8) + 205 + 1 * ix v1)) (pc := 38) C (za_cW_3_2 (zob_of k4)) (fun _ => rfl) k5 (ze_cW_3_2 (zob_of k4) k5) dX11_run_38 ?_
    refine V_astore_n (L' := [some (.ref 0), some (.int v1), some (.int v2), some (.ref ((gR S3 0 8) + 205 + 1 * ix v1)), none, none, none]) (pc := 39) C dX11_run_39 rfl (by decide) rfl ?_
    refine V_aload_n (pc := 40) C dX11_run_40 rfl rfl ?_
    obtain ⟨r6, er6, h⟩ := b1_some h
    refine V_callV (As := []) (pc := 41) C (mX6_trials _ (zx_cW_3_2 (zob_of k4) k5) er6) zm_X6_trials zi_X6_trials ml_RX11_214 (zx_cW_3_2 (zob_of k4) k5) rfl ⟨Nat.le_of_ble_eq_true rfl, Nat.le_of_ble_eq_true rfl⟩ rfl rfl (Nat.le_of_ble_eq_true rfl) dX11_run_41 ?_
    show V K 44 [some (.ref 0), some (.int v1), some (.int v2), some (.ref ((gR S3 0 8) + 205 + 1 * ix v1)), none, none, none] [.int r6] S3
    refine V_aload_n (pc := 44) C dX11_run_44 rfl rfl ?_
    refine V_getF (p1 := 239) (pc := 45) C z1_cW_11 fl_RX11_34 rfl (zf_cW_11_4 z1_cW_11) dX11_run_45 ?_
    refine V_alen (v := (200 : Int32)) (pc := 48) C (za_cW_11_4 z1_cW_11) (by decide) (fun _ => rfl) (by decide) dX11_run_48 ?_
    refine V_min (pc := 49) C ml_RX11_219 mt_min.1 mt_min.2.1 mt_min.2.2 ⟨Nat.le_of_ble_eq_true rfl, Nat.le_of_ble_eq_true rfl⟩ dX11_run_49 ?_
    refine V_istore (L' := [some (.ref 0), some (.int v1), some (.int v2), some (.ref ((gR S3 0 8) + 205 + 1 * ix v1)), some (.int (jmin r6 (200 : Int32))), none, none]) (pc := 52) C dX11_run_52 (by decide) rfl ?_
    refine V_aload_n (pc := 54) C dX11_run_54 rfl rfl ?_
    refine V_aload_n (pc := 55) C dX11_run_55 rfl rfl ?_
    refine V_iload (pc := 56) C dX11_run_56 rfl ?_
    obtain ⟨r7, er7, h⟩ := b1_some h
    refine V_callV (As := [.int (jmin r6 (200 : Int32))]) (pc := 58) C (mX11_whyNoRoom _ er7) zm_X11_whyNoRoom zi_X11_whyNoRoom ml_RX11_192 z1_cW_11 rfl ⟨Nat.le_of_ble_eq_true rfl, Nat.le_of_ble_eq_true rfl⟩ rfl rfl (Nat.le_of_ble_eq_true rfl) dX11_run_58 ?_
    show V K 61 [some (.ref 0), some (.int v1), some (.int v2), some (.ref ((gR S3 0 8) + 205 + 1 * ix v1)), some (.int (jmin r6 (200 : Int32))), none, none] [.int r7, .ref 0] S3
    obtain ⟨r8, S9, er8, h⟩ := b2_some h
    refine V_callV (As := [.int r7]) (pc := 61) C (mX11_passes _ er8) zm_X11_passes zi_X11_passes ml_RX11_71 z1_cW_11 rfl ⟨Nat.le_of_ble_eq_true rfl, Nat.le_of_ble_eq_true rfl⟩ rfl rfl (Nat.le_of_ble_eq_true rfl) dX11_run_61 ?_
    show V K 64 [some (.ref 0), some (.int v1), some (.int v2), some (.ref ((gR S3 0 8) + 205 + 1 * ix v1)), some (.int (jmin r6 (200 : Int32))), none, none] [.int r8] S9
    refine V_if_ne (tgt := 69) (pc := 64) C dX11_run_64 (by decide) (fun hc => ?_) (fun hc => ?_)
    · have h := it_f hc h
      refine V_aload_n (pc := 69) C dX11_run_69 rfl rfl ?_
      refine V_aload_n (pc := 70) C dX11_run_70 rfl rfl ?_
      refine V_getF (p1 := 239) (pc := 71) C z1_cW_11 fl_RX11_34 rfl (zf_cW_11_4 z1_cW_11) dX11_run_71 ?_
      obtain ⟨S11, euS11, h⟩ := b1_some h
      refine V_callV (As := [.ref 239]) (pc := 74) C (mX6_layOut _ (zx_cW_3_2 (zob_of k4) k5) euS11) zm_X6_layOut zi_X6_layOut ml_RX11_225 (zx_cW_3_2 (zob_of k4) k5) rfl ⟨Nat.le_of_ble_eq_true rfl, Nat.le_of_ble_eq_true rfl⟩ rfl rfl (Nat.le_of_ble_eq_true rfl) dX11_run_74 ?_
      show V K 77 [some (.ref 0), some (.int v1), some (.int v2), some (.ref ((gR S3 0 8) + 205 + 1 * ix v1)), some (.int (jmin r6 (200 : Int32))), none, none] [] S11
      refine V_iconst (pc := 77) C dX11_run_77 kc_i_0 ?_
      refine V_istore (L' := [some (.ref 0), some (.int v1), some (.int v2), some (.ref ((gR S3 0 8) + 205 + 1 * ix v1)), some (.int (jmin r6 (200 : Int32))), some (.int (0 : Int32)), none]) (pc := 78) C dX11_run_78 (by decide) rfl ?_
      refine V_iconst (pc := 80) C dX11_run_80 kc_i_0 ?_
      refine V_istore (L' := [some (.ref 0), some (.int v1), some (.int v2), some (.ref ((gR S3 0 8) + 205 + 1 * ix v1)), some (.int (jmin r6 (200 : Int32))), some (.int (0 : Int32)), some (.int (0 : Int32))]) (pc := 81) C dX11_run_81 (by decide) rfl ?_
      exact V_mask [true, false, true, true, true, true, true] (mX11_run_L83 C (zx_cW_3_2 (zob_of k4) k5) FU _ _ _ _ _ h hR)
    · have h := it_t hc h
      refine V_iconst (pc := 67) C dX11_run_67 kc_i_m1 ?_
      cases h
      exact hR 68 _ ⟨_, rfl, rfl⟩ dX11_run_68
  · have h := it_t hc h
    refine V_iconst (pc := 28) C dX11_run_28 kc_i_m1 ?_
    cases h
    exact hR 29 _ ⟨_, rfl, rfl⟩ dX11_run_29
set_option maxRecDepth 100000 in
theorem mX11_run (l : Launch) {S : zM} {a1 : Int32} {a2 : Int32} {r : Int32} {S' : zM}  (h : gX11_run S a1 a2 = some (r, S')) : zMet l cW zS0 yX11_run cX11_run 7 (some .int) 7 161 [.ref 0, .int a1, .int a2] S (some (.int r)) S' := by
  refine zmeth (by decide +kernel) (by rfl) (fun K hKl C hR => ?_)
  show V K 0 [some (.ref 0), some (.int a1), some (.int a2), none, none, none, none] [] S
  unfold gX11_run at h
  refine V_aload_n (pc := 0) C dX11_run_0 rfl rfl ?_
  refine V_aload_n (pc := 1) C dX11_run_1 rfl rfl ?_
  refine V_iload_n (pc := 2) C dX11_run_2 rfl rfl ?_
  obtain ⟨r1, er1, h⟩ := b1_some h
  refine V_callV (As := [.int a1]) (pc := 3) C (mX11_isPlan _ er1) zm_X11_isPlan zi_X11_isPlan ml_RX11_207 z1_cW_11 rfl ⟨Nat.le_of_ble_eq_true rfl, Nat.le_of_ble_eq_true rfl⟩ rfl rfl (Nat.le_of_ble_eq_true rfl) dX11_run_3 ?_
  show V K 6 [some (.ref 0), some (.int a1), some (.int a2), none, none, none, none] [.int r1, .ref 0] S
  refine V_if_eq (tgt := 21) (pc := 6) C dX11_run_6 (by decide) (fun hc => ?_) (fun hc => ?_)
  · have h := it_t hc h
    refine V_iconst (pc := 21) C dX11_run_21 kc_i_1 ?_
    exact V_mask [true, true, true, false, false, false, false] (mX11_run_J22 C  hR h)
  · have h := it_f hc h
    refine V_aload_n (pc := 9) C dX11_run_9 rfl rfl ?_
    refine V_iload_n (pc := 10) C dX11_run_10 rfl rfl ?_
    obtain ⟨r22, er22, h⟩ := b1_some h
    refine V_callV (As := [.int a2]) (pc := 11) C (mX11_isSayer _ er22) zm_X11_isSayer zi_X11_isSayer ml_RX11_129 z1_cW_11 rfl ⟨Nat.le_of_ble_eq_true rfl, Nat.le_of_ble_eq_true rfl⟩ rfl rfl (Nat.le_of_ble_eq_true rfl) dX11_run_11 ?_
    show V K 14 [some (.ref 0), some (.int a1), some (.int a2), none, none, none, none] [.int r22, .ref 0] S
    refine V_if_eq (tgt := 21) (pc := 14) C dX11_run_14 (by decide) (fun hc => ?_) (fun hc => ?_)
    · have h := it_t hc h
      refine V_iconst (pc := 21) C dX11_run_21 kc_i_1 ?_
      exact V_mask [true, true, true, false, false, false, false] (mX11_run_J22 C  hR h)
    · have h := it_f hc h
      refine V_iconst (pc := 17) C dX11_run_17 kc_i_0 ?_
      refine V_goto (tgt := 22) (pc := 18) C dX11_run_18 (by decide) ?_
      exact V_mask [true, true, true, false, false, false, false] (mX11_run_J22 C  hR h)
set_option maxRecDepth 100000 in
theorem mX11_stepped (l : Launch) {S : zM} {a0 : Int32} {a1 : Int32} {a2 : Int32} {r : Int32}  (h : gX11_stepped a0 a1 a2 = some r) : zMet l cW zS0 yX11_stepped cX11_stepped 3 (some .int) 1 21 [.int a0, .int a1, .int a2] S (some (.int r)) S := by
  refine zmeth (by decide +kernel) (by rfl) (fun K hKl C hR => ?_)
  show V K 0 [some (.int a0), some (.int a1), some (.int a2)] [] S
  unfold gX11_stepped at h
  refine V_iload_n (pc := 0) C dX11_stepped_0 rfl rfl ?_
  refine V_iconst (pc := 1) C dX11_stepped_1 kc_i_1 ?_
  refine V_icmp_ne (tgt := 15) (pc := 2) C dX11_stepped_2 (by decide) (fun hc => ?_) (fun hc => ?_)
  · have h := it_f hc h
    refine V_sipush (pc := 15) C dX11_stepped_15 kc_s_400 ?_
    refine V_iload_n (pc := 18) C dX11_stepped_18 rfl rfl ?_
    refine V_iload_n (pc := 19) C dX11_stepped_19 rfl rfl ?_
    refine V_iadd (pc := 20) C dX11_stepped_20 ?_
    refine V_min (pc := 21) C ml_RX11_219 mt_min.1 mt_min.2.1 mt_min.2.2 ⟨Nat.le_of_ble_eq_true rfl, Nat.le_of_ble_eq_true rfl⟩ dX11_stepped_21 ?_
    cases h
    exact hR 24 _ ⟨_, rfl, rfl⟩ dX11_stepped_24
  · have h := it_t hc h
    refine V_iconst (pc := 5) C dX11_stepped_5 kc_i_1 ?_
    refine V_iload_n (pc := 6) C dX11_stepped_6 rfl rfl ?_
    refine V_iload_n (pc := 7) C dX11_stepped_7 rfl rfl ?_
    refine V_isub (pc := 8) C dX11_stepped_8 ?_
    refine V_max (pc := 9) C ml_RX11_282 mt_max.1 mt_max.2.1 mt_max.2.2 ⟨Nat.le_of_ble_eq_true rfl, Nat.le_of_ble_eq_true rfl⟩ dX11_stepped_9 ?_
    refine V_goto (tgt := 24) (pc := 12) C dX11_stepped_12 (by decide) ?_
    cases h
    exact hR 24 _ ⟨_, rfl, rfl⟩ dX11_stepped_24
set_option maxRecDepth 100000 in
theorem mX11_climb_L80 {K : zK} (C : zC K cX11_climb yX11_climb.cls 7 7 161 cW) {v1 : Int32} {v3 : Int32} {v4 : Int32}  : ∀ (f : Nat) (S : zM) (v5 : Int32) (v6 : Int32) (r : Int32) (S' : zM), gX11_climb_L80 v1 v3 v4 f S v5 v6 = some (r, S') → zR K cX11_climb (some .int) S' (some (.int r)) → V K 80 [some (.ref 0), some (.int v1), none, some (.int v3), some (.int v4), some (.int v5), some (.int v6)] [] S := by
  intro f
  induction f with
  | zero => intro S v5 v6 r S' h hR; cases h
  | succ n ih =>
    intro S v5 v6 r S' h hR
    unfold gX11_climb_L80 at h
    refine V_iload (pc := 80) C dX11_climb_80 rfl ?_
    refine V_iload (pc := 82) C dX11_climb_82 rfl ?_
    refine V_icmp_ge (tgt := 108) (pc := 84) C dX11_climb_84 (by decide) (fun hc => ?_) (fun hc => ?_)
    · have h := it_t hc h
      refine V_iload (pc := 108) C dX11_climb_108 rfl ?_
      cases h
      exact hR 110 _ ⟨_, rfl, rfl⟩ dX11_climb_110
    · have h := it_f hc h
      refine V_iload (pc := 87) C dX11_climb_87 rfl ?_
      refine V_aload_n (pc := 89) C dX11_climb_89 rfl rfl ?_
      refine V_iload_n (pc := 90) C dX11_climb_90 rfl rfl ?_
      refine V_iload (pc := 91) C dX11_climb_91 rfl ?_
      obtain ⟨r10, S11, er10, h⟩ := b2_some h
      refine V_callV (As := [.int v1, .int v5]) (pc := 93) C (mX11_sayAlone _ er10) zm_X11_sayAlone zi_X11_sayAlone ml_RX11_239 z1_cW_11 rfl ⟨Nat.le_of_ble_eq_true rfl, Nat.le_of_ble_eq_true rfl⟩ rfl rfl (Nat.le_of_ble_eq_true rfl) dX11_climb_93 ?_
      show V K 96 [some (.ref 0), some (.int v1), none, some (.int v3), some (.int v4), some (.int v5), some (.int v6)] [.int r10, .int v5] S11
      refine V_iload_n (pc := 96) C dX11_climb_96 rfl rfl ?_
      obtain ⟨r12, er12, h⟩ := b1_some h
      refine V_callS (As := [.int v5, .int r10, .int v3]) (pc := 97) C (mX11_stepped _ er12) zm_X11_stepped zs_X11_stepped ml_RX11_245 ⟨Nat.le_of_ble_eq_true rfl, Nat.le_of_ble_eq_true rfl⟩ rfl rfl (Nat.le_of_ble_eq_true rfl) dX11_climb_97 ?_
      show V K 100 [some (.ref 0), some (.int v1), none, some (.int v3), some (.int v4), some (.int v5), some (.int v6)] [.int r12] S11
      refine V_istore (L' := [some (.ref 0), some (.int v1), none, some (.int v3), some (.int v4), some (.int r12), some (.int v6)]) (pc := 100) C dX11_climb_100 (by decide) rfl ?_
      refine V_iinc (L' := [some (.ref 0), some (.int v1), none, some (.int v3), some (.int v4), some (.int r12), some (.int (v6 + (1 : Int32)))]) (v := (v6 + (1 : Int32))) (pc := 102) C dX11_climb_102 rfl (congrArg (v6 + ·) kc_i_1) (by decide) rfl ?_
      refine V_goto (tgt := 80) (pc := 105) C dX11_climb_105 (by decide) ?_
      exact V_mask [true, true, false, true, true, true, true] (ih _ _ _ _ _ h hR)
set_option maxRecDepth 100000 in
theorem mX11_climb_J53 {K : zK} (C : zC K cX11_climb yX11_climb.cls 7 7 161 cW) {S : zM} {v1 : Int32} {v2 : Int32} {v3 : Int32} {v4 : Int32} {s0 : Int32} {r : Int32} {S' : zM}  (hR : zR K cX11_climb (some .int) S' (some (.int r))) (h : gX11_climb_J53 S v1 v2 v3 v4 s0 = some (r, S')) : V K 53 [some (.ref 0), some (.int v1), some (.int v2), some (.int v3), some (.int v4), none, none] [.int s0, .ref 0] S := by
  unfold gX11_climb_J53 at h
  obtain ⟨r5, S6, er5, h⟩ := b2_some h
  refine V_callV (As := [.int s0]) (pc := 53) C (mX11_passes _ er5) zm_X11_passes zi_X11_passes ml_RX11_71 z1_cW_11 rfl ⟨Nat.le_of_ble_eq_true rfl, Nat.le_of_ble_eq_true rfl⟩ rfl rfl (Nat.le_of_ble_eq_true rfl) dX11_climb_53 ?_
  show V K 56 [some (.ref 0), some (.int v1), some (.int v2), some (.int v3), some (.int v4), none, none] [.int r5] S6
  refine V_if_eq (tgt := 72) (pc := 56) C dX11_climb_56 (by decide) (fun hc => ?_) (fun hc => ?_)
  · have h := it_t hc h
    refine V_iconst (pc := 72) C dX11_climb_72 kc_i_m1 ?_
    cases h
    exact hR 73 _ ⟨_, rfl, rfl⟩ dX11_climb_73
  · have h := it_f hc h
    refine V_aload_n (pc := 59) C dX11_climb_59 rfl rfl ?_
    refine V_aload_n (pc := 60) C dX11_climb_60 rfl rfl ?_
    refine V_iload (pc := 61) C dX11_climb_61 rfl ?_
    obtain ⟨r7, er7, h⟩ := b1_some h
    refine V_callV (As := [.int v4]) (pc := 63) C (mX11_whyNoRoom _ er7) zm_X11_whyNoRoom zi_X11_whyNoRoom ml_RX11_192 z1_cW_11 rfl ⟨Nat.le_of_ble_eq_true rfl, Nat.le_of_ble_eq_true rfl⟩ rfl rfl (Nat.le_of_ble_eq_true rfl) dX11_climb_63 ?_
    show V K 66 [some (.ref 0), some (.int v1), some (.int v2), some (.int v3), some (.int v4), none, none] [.int r7, .ref 0] S6
    obtain ⟨r8, S9, er8, h⟩ := b2_some h
    refine V_callV (As := [.int r7]) (pc := 66) C (mX11_passes _ er8) zm_X11_passes zi_X11_passes ml_RX11_71 z1_cW_11 rfl ⟨Nat.le_of_ble_eq_true rfl, Nat.le_of_ble_eq_true rfl⟩ rfl rfl (Nat.le_of_ble_eq_true rfl) dX11_climb_66 ?_
    show V K 69 [some (.ref 0), some (.int v1), some (.int v2), some (.int v3), some (.int v4), none, none] [.int r8] S9
    refine V_if_ne (tgt := 74) (pc := 69) C dX11_climb_69 (by decide) (fun hc => ?_) (fun hc => ?_)
    · have h := it_f hc h
      refine V_iload_n (pc := 74) C dX11_climb_74 rfl rfl ?_
      refine V_istore (L' := [some (.ref 0), some (.int v1), some (.int v2), some (.int v3), some (.int v4), some (.int v2), none]) (pc := 75) C dX11_climb_75 (by decide) rfl ?_
      refine V_iconst (pc := 77) C dX11_climb_77 kc_i_0 ?_
      refine V_istore (L' := [some (.ref 0), some (.int v1), some (.int v2), some (.int v3), some (.int v4), some (.int v2), some (.int (0 : Int32))]) (pc := 78) C dX11_climb_78 (by decide) rfl ?_
      exact V_mask [true, true, false, true, true, true, true] (mX11_climb_L80 C  FU _ _ _ _ _ h hR)
    · have h := it_t hc h
      refine V_iconst (pc := 72) C dX11_climb_72 kc_i_m1 ?_
      cases h
      exact hR 73 _ ⟨_, rfl, rfl⟩ dX11_climb_73
set_option maxRecDepth 100000 in
theorem mX11_climb_J14 {K : zK} (C : zC K cX11_climb yX11_climb.cls 7 7 161 cW) {S : zM} {v1 : Int32} {v2 : Int32} {v3 : Int32} {v4 : Int32} {s0 : Int32} {r : Int32} {S' : zM}  (hR : zR K cX11_climb (some .int) S' (some (.int r))) (h : gX11_climb_J14 S v1 v2 v3 v4 s0 = some (r, S')) : V K 14 [some (.ref 0), some (.int v1), some (.int v2), some (.int v3), some (.int v4), none, none] [.int s0, .ref 0] S := by
  unfold gX11_climb_J14 at h
  obtain ⟨r2, S3, er2, h⟩ := b2_some h
  refine V_callV (As := [.int s0]) (pc := 14) C (mX11_passes _ er2) zm_X11_passes zi_X11_passes ml_RX11_71 z1_cW_11 rfl ⟨Nat.le_of_ble_eq_true rfl, Nat.le_of_ble_eq_true rfl⟩ rfl rfl (Nat.le_of_ble_eq_true rfl) dX11_climb_14 ?_
  show V K 17 [some (.ref 0), some (.int v1), some (.int v2), some (.int v3), some (.int v4), none, none] [.int r2] S3
  refine V_if_eq (tgt := 72) (pc := 17) C dX11_climb_17 (by decide) (fun hc => ?_) (fun hc => ?_)
  · have h := it_t hc h
    refine V_iconst (pc := 72) C dX11_climb_72 kc_i_m1 ?_
    cases h
    exact hR 73 _ ⟨_, rfl, rfl⟩ dX11_climb_73
  · have h := it_f hc h
    refine V_aload_n (pc := 20) C dX11_climb_20 rfl rfl ?_
    refine V_iload_n (pc := 21) C dX11_climb_21 rfl rfl ?_
    obtain ⟨r4, er4, h⟩ := b1_some h
    refine V_callS (As := [.int v2]) (pc := 22) C (mX11_isSize _ er4) zm_X11_isSize zs_X11_isSize ml_RX11_242 ⟨Nat.le_of_ble_eq_true rfl, Nat.le_of_ble_eq_true rfl⟩ rfl rfl (Nat.le_of_ble_eq_true rfl) dX11_climb_22 ?_
    show V K 25 [some (.ref 0), some (.int v1), some (.int v2), some (.int v3), some (.int v4), none, none] [.int r4, .ref 0] S3
    refine V_if_eq (tgt := 52) (pc := 25) C dX11_climb_25 (by decide) (fun hc => ?_) (fun hc => ?_)
    · have h := it_t hc h
      refine V_iconst (pc := 52) C dX11_climb_52 kc_i_2 ?_
      exact V_mask [true, true, true, true, true, false, false] (mX11_climb_J53 C  hR h)
    · have h := it_f hc h
      refine V_iload_n (pc := 28) C dX11_climb_28 rfl rfl ?_
      obtain ⟨r13, er13, h⟩ := b1_some h
      refine V_callS (As := [.int v3]) (pc := 29) C (mX11_isSize _ er13) zm_X11_isSize zs_X11_isSize ml_RX11_242 ⟨Nat.le_of_ble_eq_true rfl, Nat.le_of_ble_eq_true rfl⟩ rfl rfl (Nat.le_of_ble_eq_true rfl) dX11_climb_29 ?_
      show V K 32 [some (.ref 0), some (.int v1), some (.int v2), some (.int v3), some (.int v4), none, none] [.int r13, .ref 0] S3
      refine V_if_eq (tgt := 52) (pc := 32) C dX11_climb_32 (by decide) (fun hc => ?_) (fun hc => ?_)
      · have h := it_t hc h
        refine V_iconst (pc := 52) C dX11_climb_52 kc_i_2 ?_
        exact V_mask [true, true, true, true, true, false, false] (mX11_climb_J53 C  hR h)
      · have h := it_f hc h
        refine V_iload (pc := 35) C dX11_climb_35 rfl ?_
        refine V_iconst (pc := 37) C dX11_climb_37 kc_i_1 ?_
        refine V_icmp_lt (tgt := 52) (pc := 38) C dX11_climb_38 (by decide) (fun hc => ?_) (fun hc => ?_)
        · have h := it_t hc h
          refine V_iconst (pc := 52) C dX11_climb_52 kc_i_2 ?_
          exact V_mask [true, true, true, true, true, false, false] (mX11_climb_J53 C  hR h)
        · have h := it_f hc h
          refine V_iload (pc := 41) C dX11_climb_41 rfl ?_
          refine V_bipush (pc := 43) C dX11_climb_43 kc_b_50 ?_
          refine V_icmp_gt (tgt := 52) (pc := 45) C dX11_climb_45 (by decide) (fun hc => ?_) (fun hc => ?_)
          · have h := it_t hc h
            refine V_iconst (pc := 52) C dX11_climb_52 kc_i_2 ?_
            exact V_mask [true, true, true, true, true, false, false] (mX11_climb_J53 C  hR h)
          · have h := it_f hc h
            refine V_iconst (pc := 48) C dX11_climb_48 kc_i_0 ?_
            refine V_goto (tgt := 53) (pc := 49) C dX11_climb_49 (by decide) ?_
            exact V_mask [true, true, true, true, true, false, false] (mX11_climb_J53 C  hR h)
set_option maxRecDepth 100000 in
theorem mX11_climb (l : Launch) {S : zM} {a1 : Int32} {a2 : Int32} {a3 : Int32} {a4 : Int32} {r : Int32} {S' : zM}  (h : gX11_climb S a1 a2 a3 a4 = some (r, S')) : zMet l cW zS0 yX11_climb cX11_climb 7 (some .int) 7 161 [.ref 0, .int a1, .int a2, .int a3, .int a4] S (some (.int r)) S' := by
  refine zmeth (by decide +kernel) (by rfl) (fun K hKl C hR => ?_)
  show V K 0 [some (.ref 0), some (.int a1), some (.int a2), some (.int a3), some (.int a4), none, none] [] S
  unfold gX11_climb at h
  refine V_aload_n (pc := 0) C dX11_climb_0 rfl rfl ?_
  refine V_aload_n (pc := 1) C dX11_climb_1 rfl rfl ?_
  refine V_iload_n (pc := 2) C dX11_climb_2 rfl rfl ?_
  obtain ⟨r1, er1, h⟩ := b1_some h
  refine V_callV (As := [.int a1]) (pc := 3) C (mX11_isSayer _ er1) zm_X11_isSayer zi_X11_isSayer ml_RX11_129 z1_cW_11 rfl ⟨Nat.le_of_ble_eq_true rfl, Nat.le_of_ble_eq_true rfl⟩ rfl rfl (Nat.le_of_ble_eq_true rfl) dX11_climb_3 ?_
  show V K 6 [some (.ref 0), some (.int a1), some (.int a2), some (.int a3), some (.int a4), none, none] [.int r1, .ref 0] S
  refine V_if_eq (tgt := 13) (pc := 6) C dX11_climb_6 (by decide) (fun hc => ?_) (fun hc => ?_)
  · have h := it_t hc h
    refine V_iconst (pc := 13) C dX11_climb_13 kc_i_1 ?_
    exact V_mask [true, true, true, true, true, false, false] (mX11_climb_J14 C  hR h)
  · have h := it_f hc h
    refine V_iconst (pc := 9) C dX11_climb_9 kc_i_0 ?_
    refine V_goto (tgt := 14) (pc := 10) C dX11_climb_10 (by decide) ?_
    exact V_mask [true, true, true, true, true, false, false] (mX11_climb_J14 C  hR h)
set_option maxRecDepth 100000 in
theorem mX11_book (l : Launch) {S : zM} {a1 : Int32} {a2 : Int32} {r : Int32}  (h : gX11_book S a1 a2 = some r) : zMet l cW zS0 yX11_book cX11_book 3 (some .int) 1 22 [.ref 0, .int a1, .int a2] S (some (.int r)) S := by
  refine zmeth (by decide +kernel) (by rfl) (fun K hKl C hR => ?_)
  show V K 0 [some (.ref 0), some (.int a1), some (.int a2)] [] S
  unfold gX11_book at h
  refine V_aload_n (pc := 0) C dX11_book_0 rfl rfl ?_
  refine V_getF (p1 := 219) (pc := 1) C z1_cW_11 fl_RX11_23 rfl (zf_cW_11_2 z1_cW_11) dX11_book_1 ?_
  refine V_iload_n (pc := 4) C dX11_book_4 rfl rfl ?_
  refine V_iload_n (pc := 5) C dX11_book_5 rfl rfl ?_
  obtain ⟨r1, er1, h⟩ := b1_some h
  refine V_callV (As := [.int a1, .int a2]) (pc := 6) C (mX1_rowAt _ er1) zm_X1_rowAt zi_X1_rowAt ml_RX11_249 z1_cW_1 rfl ⟨Nat.le_of_ble_eq_true rfl, Nat.le_of_ble_eq_true rfl⟩ rfl rfl (Nat.le_of_ble_eq_true rfl) dX11_book_6 ?_
  show V K 9 [some (.ref 0), some (.int a1), some (.int a2)] [.int r1] S
  cases h
  exact hR 9 _ ⟨_, rfl, rfl⟩ dX11_book_9
set_option maxRecDepth 100000 in
theorem mX11_count (l : Launch) {S : zM} {a1 : Int32} {a2 : Int32} {a3 : Int32} {a4 : Int32} {a5 : Int32} {a6 : Int32} {r : Int32} {S' : zM}  (h : gX11_count S a1 a2 a3 a4 a5 a6 = some (r, S')) : zMet l cW zS0 yX11_count cX11_count 7 (some .int) 4 89 [.ref 0, .int a1, .int a2, .int a3, .int a4, .int a5, .int a6] S (some (.int r)) S' := by
  refine zmeth (by decide +kernel) (by rfl) (fun K hKl C hR => ?_)
  show V K 0 [some (.ref 0), some (.int a1), some (.int a2), some (.int a3), some (.int a4), some (.int a5), some (.int a6)] [] S
  unfold gX11_count at h
  refine V_aload_n (pc := 0) C dX11_count_0 rfl rfl ?_
  refine V_iload_n (pc := 1) C dX11_count_1 rfl rfl ?_
  refine V_iload_n (pc := 2) C dX11_count_2 rfl rfl ?_
  refine V_iload_n (pc := 3) C dX11_count_3 rfl rfl ?_
  refine V_iload (pc := 4) C dX11_count_4 rfl ?_
  refine V_iload (pc := 6) C dX11_count_6 rfl ?_
  obtain ⟨r1, S2, er1, h⟩ := b2_some h
  refine V_callV (As := [.int a1, .int a2, .int a3, .int a4, .int a5]) (pc := 8) C (mX11_asks _ er1) zm_X11_asks zi_X11_asks ml_RX11_175 z1_cW_11 rfl ⟨Nat.le_of_ble_eq_true rfl, Nat.le_of_ble_eq_true rfl⟩ rfl rfl (Nat.le_of_ble_eq_true rfl) dX11_count_8 ?_
  show V K 11 [some (.ref 0), some (.int a1), some (.int a2), some (.int a3), some (.int a4), some (.int a5), some (.int a6)] [.int r1] S2
  refine V_if_ne (tgt := 16) (pc := 11) C dX11_count_11 (by decide) (fun hc => ?_) (fun hc => ?_)
  · have h := it_f hc h
    refine V_aload_n (pc := 16) C dX11_count_16 rfl rfl ?_
    refine V_getF (p1 := 219) (pc := 17) C z1_cW_11 fl_RX11_23 rfl (zf_cW_11_2 z1_cW_11) dX11_count_17 ?_
    refine V_aload_n (pc := 20) C dX11_count_20 rfl rfl ?_
    refine V_getF (p1 := 456) (pc := 21) C z1_cW_11 fl_RX11_59 rfl (zf_cW_11_9 z1_cW_11) dX11_count_21 ?_
    refine V_iload (pc := 24) C dX11_count_24 rfl ?_
    obtain ⟨r3, er3, h⟩ := b1_some h
    refine V_callV (As := [.ref 456, .int a6]) (pc := 26) C (mX1_timesOf _ er3) zm_X1_timesOf zi_X1_timesOf ml_RX11_252 z1_cW_1 rfl ⟨Nat.le_of_ble_eq_true rfl, Nat.le_of_ble_eq_true rfl⟩ rfl rfl (Nat.le_of_ble_eq_true rfl) dX11_count_26 ?_
    show V K 29 [some (.ref 0), some (.int a1), some (.int a2), some (.int a3), some (.int a4), some (.int a5), some (.int a6)] [.int r3] S2
    cases h
    exact hR 29 _ ⟨_, rfl, rfl⟩ dX11_count_29
  · have h := it_t hc h
    refine V_iconst (pc := 14) C dX11_count_14 kc_i_m1 ?_
    cases h
    exact hR 15 _ ⟨_, rfl, rfl⟩ dX11_count_15
set_option maxRecDepth 100000 in
theorem mX11_span_J38 {K : zK} (C : zC K cX11_span yX11_span.cls 5 4 100 cW) {S : zM} {v1 : Int32} {v2 : Int32} {v3 : Int32} {v4 : Int32} {s0 : Int32} {r : Int32} {S' : zM}  (hR : zR K cX11_span (some .int) S' (some (.int r))) (h : gX11_span_J38 S v1 v2 v3 v4 s0 = some (r, S')) : V K 38 [some (.ref 0), some (.int v1), some (.int v2), some (.int v3), some (.int v4)] [.int s0, .ref 0] S := by
  unfold gX11_span_J38 at h
  obtain ⟨r1, S2, er1, h⟩ := b2_some h
  refine V_callV (As := [.int s0]) (pc := 38) C (mX11_passes _ er1) zm_X11_passes zi_X11_passes ml_RX11_71 z1_cW_11 rfl ⟨Nat.le_of_ble_eq_true rfl, Nat.le_of_ble_eq_true rfl⟩ rfl rfl (Nat.le_of_ble_eq_true rfl) dX11_span_38 ?_
  show V K 41 [some (.ref 0), some (.int v1), some (.int v2), some (.int v3), some (.int v4)] [.int r1] S2
  refine V_if_ne (tgt := 46) (pc := 41) C dX11_span_41 (by decide) (fun hc => ?_) (fun hc => ?_)
  · have h := it_f hc h
    refine V_iload (pc := 46) C dX11_span_46 rfl ?_
    refine V_if_eq (tgt := 64) (pc := 48) C dX11_span_48 (by decide) (fun hc => ?_) (fun hc => ?_)
    · have h := it_t hc h
      refine V_aload_n (pc := 64) C dX11_span_64 rfl rfl ?_
      refine V_getF (p1 := 233) (pc := 65) C z1_cW_11 fl_RX11_30 rfl (zf_cW_11_3 z1_cW_11) dX11_span_65 ?_
      refine V_iload_n (pc := 68) C dX11_span_68 rfl rfl ?_
      refine V_iload_n (pc := 69) C dX11_span_69 rfl rfl ?_
      refine V_iload_n (pc := 70) C dX11_span_70 rfl rfl ?_
      obtain ⟨r3, S4, er3, h⟩ := b2_some h
      refine V_callV (As := [.int v1, .int v2, .int v3]) (pc := 71) C (mX10_least _ er3) zm_X10_least zi_X10_least ml_RX11_288 z1_cW_10 rfl ⟨Nat.le_of_ble_eq_true rfl, Nat.le_of_ble_eq_true rfl⟩ rfl rfl (Nat.le_of_ble_eq_true rfl) dX11_span_71 ?_
      show V K 74 [some (.ref 0), some (.int v1), some (.int v2), some (.int v3), some (.int v4)] [.int r3] S4
      cases h
      exact hR 74 _ ⟨_, rfl, rfl⟩ dX11_span_74
    · have h := it_f hc h
      refine V_aload_n (pc := 51) C dX11_span_51 rfl rfl ?_
      refine V_getF (p1 := 233) (pc := 52) C z1_cW_11 fl_RX11_30 rfl (zf_cW_11_3 z1_cW_11) dX11_span_52 ?_
      refine V_iload_n (pc := 55) C dX11_span_55 rfl rfl ?_
      refine V_iload_n (pc := 56) C dX11_span_56 rfl rfl ?_
      refine V_iload_n (pc := 57) C dX11_span_57 rfl rfl ?_
      obtain ⟨r5, S6, er5, h⟩ := b2_some h
      refine V_callV (As := [.int v1, .int v2, .int v3]) (pc := 58) C (mX10_greatest _ er5) zm_X10_greatest zi_X10_greatest ml_RX11_285 z1_cW_10 rfl ⟨Nat.le_of_ble_eq_true rfl, Nat.le_of_ble_eq_true rfl⟩ rfl rfl (Nat.le_of_ble_eq_true rfl) dX11_span_58 ?_
      show V K 61 [some (.ref 0), some (.int v1), some (.int v2), some (.int v3), some (.int v4)] [.int r5] S6
      refine V_goto (tgt := 74) (pc := 61) C dX11_span_61 (by decide) ?_
      cases h
      exact hR 74 _ ⟨_, rfl, rfl⟩ dX11_span_74
  · have h := it_t hc h
    refine V_iconst (pc := 44) C dX11_span_44 kc_i_m1 ?_
    cases h
    exact hR 45 _ ⟨_, rfl, rfl⟩ dX11_span_45
set_option maxRecDepth 100000 in
theorem mX11_span (l : Launch) {S : zM} {a1 : Int32} {a2 : Int32} {a3 : Int32} {a4 : Int32} {r : Int32} {S' : zM}  (h : gX11_span S a1 a2 a3 a4 = some (r, S')) : zMet l cW zS0 yX11_span cX11_span 5 (some .int) 4 100 [.ref 0, .int a1, .int a2, .int a3, .int a4] S (some (.int r)) S' := by
  refine zmeth (by decide +kernel) (by rfl) (fun K hKl C hR => ?_)
  show V K 0 [some (.ref 0), some (.int a1), some (.int a2), some (.int a3), some (.int a4)] [] S
  unfold gX11_span at h
  refine V_aload_n (pc := 0) C dX11_span_0 rfl rfl ?_
  refine V_iload_n (pc := 1) C dX11_span_1 rfl rfl ?_
  refine V_iconst (pc := 2) C dX11_span_2 kc_i_1 ?_
  refine V_icmp_lt (tgt := 33) (pc := 3) C dX11_span_3 (by decide) (fun hc => ?_) (fun hc => ?_)
  · have h := it_t hc h
    refine V_iconst (pc := 33) C dX11_span_33 kc_i_2 ?_
    refine V_goto (tgt := 38) (pc := 34) C dX11_span_34 (by decide) ?_
    exact V_mask [true, true, true, true, true] (mX11_span_J38 C  hR h)
  · have h := it_f hc h
    refine V_iload_n (pc := 6) C dX11_span_6 rfl rfl ?_
    refine V_bipush (pc := 7) C dX11_span_7 kc_b_40 ?_
    refine V_icmp_gt (tgt := 33) (pc := 9) C dX11_span_9 (by decide) (fun hc => ?_) (fun hc => ?_)
    · have h := it_t hc h
      refine V_iconst (pc := 33) C dX11_span_33 kc_i_2 ?_
      refine V_goto (tgt := 38) (pc := 34) C dX11_span_34 (by decide) ?_
      exact V_mask [true, true, true, true, true] (mX11_span_J38 C  hR h)
    · have h := it_f hc h
      refine V_iload_n (pc := 12) C dX11_span_12 rfl rfl ?_
      refine V_iconst (pc := 13) C dX11_span_13 kc_i_1 ?_
      refine V_icmp_lt (tgt := 33) (pc := 14) C dX11_span_14 (by decide) (fun hc => ?_) (fun hc => ?_)
      · have h := it_t hc h
        refine V_iconst (pc := 33) C dX11_span_33 kc_i_2 ?_
        refine V_goto (tgt := 38) (pc := 34) C dX11_span_34 (by decide) ?_
        exact V_mask [true, true, true, true, true] (mX11_span_J38 C  hR h)
      · have h := it_f hc h
        refine V_iload_n (pc := 17) C dX11_span_17 rfl rfl ?_
        refine V_sipush (pc := 18) C dX11_span_18 kc_s_10000 ?_
        refine V_icmp_gt (tgt := 33) (pc := 21) C dX11_span_21 (by decide) (fun hc => ?_) (fun hc => ?_)
        · have h := it_t hc h
          refine V_iconst (pc := 33) C dX11_span_33 kc_i_2 ?_
          refine V_goto (tgt := 38) (pc := 34) C dX11_span_34 (by decide) ?_
          exact V_mask [true, true, true, true, true] (mX11_span_J38 C  hR h)
        · have h := it_f hc h
          refine V_iload_n (pc := 24) C dX11_span_24 rfl rfl ?_
          refine V_if_lt (tgt := 33) (pc := 25) C dX11_span_25 (by decide) (fun hc => ?_) (fun hc => ?_)
          · have h := it_t hc h
            refine V_iconst (pc := 33) C dX11_span_33 kc_i_2 ?_
            refine V_goto (tgt := 38) (pc := 34) C dX11_span_34 (by decide) ?_
            exact V_mask [true, true, true, true, true] (mX11_span_J38 C  hR h)
          · have h := it_f hc h
            refine V_iload_n (pc := 28) C dX11_span_28 rfl rfl ?_
            refine V_iload_n (pc := 29) C dX11_span_29 rfl rfl ?_
            refine V_icmp_le (tgt := 37) (pc := 30) C dX11_span_30 (by decide) (fun hc => ?_) (fun hc => ?_)
            · have h := it_t hc h
              refine V_iconst (pc := 37) C dX11_span_37 kc_i_0 ?_
              exact V_mask [true, true, true, true, true] (mX11_span_J38 C  hR h)
            · have h := it_f hc h
              refine V_iconst (pc := 33) C dX11_span_33 kc_i_2 ?_
              refine V_goto (tgt := 38) (pc := 34) C dX11_span_34 (by decide) ?_
              exact V_mask [true, true, true, true, true] (mX11_span_J38 C  hR h)
set_option maxRecDepth 100000 in
theorem mX11_isFar (l : Launch) {S : zM} {a0 : Int32} {r : Int32}  (h : gX11_isFar a0 = some r) : zMet l cW zS0 yX11_isFar cX11_isFar 1 (some .boolean) 0 0 [.int a0] S (some (.int r)) S := by
  refine zmeth (by decide +kernel) (by rfl) (fun K hKl C hR => ?_)
  show V K 0 [some (.int a0)] [] S
  unfold gX11_isFar at h
  refine V_iload_n (pc := 0) C dX11_isFar_0 rfl rfl ?_
  refine V_bipush (pc := 1) C dX11_isFar_1 kc_b_m50 ?_
  refine V_icmp_lt (tgt := 16) (pc := 3) C dX11_isFar_3 (by decide) (fun hc => ?_) (fun hc => ?_)
  · have h := it_t hc h
    refine V_iconst (pc := 16) C dX11_isFar_16 kc_i_0 ?_
    cases h
    exact hR 17 _ ⟨_, rfl, zB0⟩ dX11_isFar_17
  · have h := it_f hc h
    refine V_iload_n (pc := 6) C dX11_isFar_6 rfl rfl ?_
    refine V_bipush (pc := 7) C dX11_isFar_7 kc_b_50 ?_
    refine V_icmp_gt (tgt := 16) (pc := 9) C dX11_isFar_9 (by decide) (fun hc => ?_) (fun hc => ?_)
    · have h := it_t hc h
      refine V_iconst (pc := 16) C dX11_isFar_16 kc_i_0 ?_
      cases h
      exact hR 17 _ ⟨_, rfl, zB0⟩ dX11_isFar_17
    · have h := it_f hc h
      refine V_iconst (pc := 12) C dX11_isFar_12 kc_i_1 ?_
      refine V_goto (tgt := 17) (pc := 13) C dX11_isFar_13 (by decide) ?_
      cases h
      exact hR 17 _ ⟨_, rfl, zB1⟩ dX11_isFar_17
set_option maxRecDepth 100000 in
theorem mX11_whyNotJudged (l : Launch) {S : zM} {a1 : Int32} {r : Int32}  (h : gX11_whyNotJudged S a1 = some r) : zMet l cW zS0 yX11_whyNotJudged cX11_whyNotJudged 2 (some .int) 1 22 [.ref 0, .int a1] S (some (.int r)) S := by
  refine zmeth (by decide +kernel) (by rfl) (fun K hKl C hR => ?_)
  show V K 0 [some (.ref 0), some (.int a1)] [] S
  unfold gX11_whyNotJudged at h
  refine V_aload_n (pc := 0) C dX11_whyNotJudged_0 rfl rfl ?_
  refine V_getF (p1 := 219) (pc := 1) C z1_cW_11 fl_RX11_23 rfl (zf_cW_11_2 z1_cW_11) dX11_whyNotJudged_1 ?_
  refine V_getF (p1 := 221) (pc := 4) C z1_cW_1 fl_RX11_297 rfl (zf_cW_1_1 z1_cW_1) dX11_whyNotJudged_4 ?_
  refine V_iload_n (pc := 7) C dX11_whyNotJudged_7 rfl rfl ?_
  obtain ⟨r1, er1, h⟩ := b1_some h
  refine V_callV (As := [.int a1]) (pc := 8) C (mX2_isOverfull _ er1) zm_X2_isOverfull zi_X2_isOverfull ml_RX11_466 z1_cW_2 rfl ⟨Nat.le_of_ble_eq_true rfl, Nat.le_of_ble_eq_true rfl⟩ rfl rfl (Nat.le_of_ble_eq_true rfl) dX11_whyNotJudged_8 ?_
  show V K 11 [some (.ref 0), some (.int a1)] [.int r1] S
  refine V_if_eq (tgt := 18) (pc := 11) C dX11_whyNotJudged_11 (by decide) (fun hc => ?_) (fun hc => ?_)
  · have h := it_t hc h
    refine V_iconst (pc := 18) C dX11_whyNotJudged_18 kc_i_0 ?_
    cases h
    exact hR 19 _ ⟨_, rfl, rfl⟩ dX11_whyNotJudged_19
  · have h := it_f hc h
    refine V_iconst (pc := 14) C dX11_whyNotJudged_14 kc_i_3 ?_
    refine V_goto (tgt := 19) (pc := 15) C dX11_whyNotJudged_15 (by decide) ?_
    cases h
    exact hR 19 _ ⟨_, rfl, rfl⟩ dX11_whyNotJudged_19
set_option maxRecDepth 100000 in
theorem mX11_lets_J53 {K : zK} (C : zC K cX11_lets yX11_lets.cls 7 5 131 cW) {S : zM} {v1 : Int32} {v2 : Int32} {v3 : Int32} {v4 : Int32} {s0 : Int32} {r : Int32} {S' : zM}  (hR : zR K cX11_lets (some .int) S' (some (.int r))) (h : gX11_lets_J53 S v1 v2 v3 v4 s0 = some (r, S')) : V K 53 [some (.ref 0), some (.int v1), some (.int v2), some (.int v3), some (.int v4), none, none] [.int s0, .ref 0] S := by
  unfold gX11_lets_J53 at h
  obtain ⟨r5, S6, er5, h⟩ := b2_some h
  refine V_callV (As := [.int s0]) (pc := 53) C (mX11_passes _ er5) zm_X11_passes zi_X11_passes ml_RX11_71 z1_cW_11 rfl ⟨Nat.le_of_ble_eq_true rfl, Nat.le_of_ble_eq_true rfl⟩ rfl rfl (Nat.le_of_ble_eq_true rfl) dX11_lets_53 ?_
  show V K 56 [some (.ref 0), some (.int v1), some (.int v2), some (.int v3), some (.int v4), none, none] [.int r5] S6
  refine V_if_ne (tgt := 61) (pc := 56) C dX11_lets_56 (by decide) (fun hc => ?_) (fun hc => ?_)
  · have h := it_f hc h
    refine V_aload_n (pc := 61) C dX11_lets_61 rfl rfl ?_
    refine V_getF (p1 := 219) (pc := 62) C z1_cW_11 fl_RX11_23 rfl (zf_cW_11_2 z1_cW_11) dX11_lets_62 ?_
    refine V_getF (p1 := 221) (pc := 65) C z1_cW_1 fl_RX11_297 rfl (zf_cW_1_1 z1_cW_1) dX11_lets_65 ?_
    refine V_astore (L' := [some (.ref 0), some (.int v1), some (.int v2), some (.int v3), some (.int v4), some (.ref 221), none]) (pc := 68) C dX11_lets_68 (by decide) rfl ?_
    refine V_aload_n (pc := 70) C dX11_lets_70 rfl rfl ?_
    obtain ⟨k7, h⟩ := ck_some h
    refine V_getR (pc := 71) C z1_cW_11 fl_RX11_52 rfl dX11_lets_71 ?_
    refine V_getF (p1 := ((gR S6 0 8) + 1)) (pc := 74) C (zob_of k7) fl_RX11_110 rfl (zf_cW_3_0 (zob_of k7)) dX11_lets_74 ?_
    refine V_iload_n (pc := 77) C dX11_lets_77 rfl rfl ?_
    obtain ⟨k8, h⟩ := ck_some h
    refine V_aald (p1 := ((gR S6 0 8) + 7 + 31 * ix v2)) (pc := 78) C (za_cW_3_0 (zob_of k7)) (fun _ => rfl) k8 (ze_cW_3_0 (zob_of k7) k8) dX11_lets_78 ?_
    refine V_astore (L' := [some (.ref 0), some (.int v1), some (.int v2), some (.int v3), some (.int v4), some (.ref 221), some (.ref ((gR S6 0 8) + 7 + 31 * ix v2))]) (pc := 79) C dX11_lets_79 (by decide) rfl ?_
    refine V_aload (pc := 81) C dX11_lets_81 rfl ?_
    refine V_iload_n (pc := 83) C dX11_lets_83 rfl rfl ?_
    refine V_aload (pc := 84) C dX11_lets_84 rfl ?_
    refine V_iload_n (pc := 86) C dX11_lets_86 rfl rfl ?_
    refine V_aload_n (pc := 87) C dX11_lets_87 rfl rfl ?_
    refine V_getF (p1 := 233) (pc := 88) C z1_cW_11 fl_RX11_30 rfl (zf_cW_11_3 z1_cW_11) dX11_lets_88 ?_
    obtain ⟨r9, S10, er9, h⟩ := b2_some h
    refine V_callV (As := [.int v1, .ref ((gR S6 0 8) + 7 + 31 * ix v2), .int v3, .ref 233]) (pc := 91) C (mX2_lineLets _ (zx_cW_3_0 (zob_of k7) k8) er9) zm_X2_lineLets zi_X2_lineLets ml_RX11_301 z1_cW_2 rfl ⟨Nat.le_of_ble_eq_true rfl, Nat.le_of_ble_eq_true rfl⟩ rfl rfl (Nat.le_of_ble_eq_true rfl) dX11_lets_91 ?_
    show V K 94 [some (.ref 0), some (.int v1), some (.int v2), some (.int v3), some (.int v4), some (.ref 221), some (.ref ((gR S6 0 8) + 7 + 31 * ix v2))] [.int r9] S10
    refine V_if_eq (tgt := 130) (pc := 94) C dX11_lets_94 (by decide) (fun hc => ?_) (fun hc => ?_)
    · have h := it_t hc h
      refine V_iconst (pc := 130) C dX11_lets_130 kc_i_0 ?_
      cases h
      exact hR 131 _ ⟨_, rfl, rfl⟩ dX11_lets_131
    · have h := it_f hc h
      refine V_aload (pc := 97) C dX11_lets_97 rfl ?_
      refine V_iload_n (pc := 99) C dX11_lets_99 rfl rfl ?_
      refine V_aload (pc := 100) C dX11_lets_100 rfl ?_
      refine V_iload (pc := 102) C dX11_lets_102 rfl ?_
      refine V_aload_n (pc := 104) C dX11_lets_104 rfl rfl ?_
      obtain ⟨k11, h⟩ := ck_some h
      refine V_getR (pc := 105) C z1_cW_11 fl_RX11_52 rfl dX11_lets_105 ?_
      refine V_getF (p1 := ((gR S10 0 8) + 2)) (pc := 108) C (zob_of k11) fl_RX11_132 rfl (zf_cW_3_1 (zob_of k11)) dX11_lets_108 ?_
      refine V_iload_n (pc := 111) C dX11_lets_111 rfl rfl ?_
      obtain ⟨k12, h⟩ := ck_some h
      refine V_aald (p1 := ((gR S10 0 8) + 193 + 2 * ix v1)) (pc := 112) C (za_cW_3_1 (zob_of k11)) (fun _ => rfl) k12 (ze_cW_3_1 (zob_of k11) k12) dX11_lets_112 ?_
      refine V_getI (pc := 113) C (zx_cW_3_1 (zob_of k11) k12) fl_RX11_168 (by decide) dX11_lets_113 ?_
      refine V_aload_n (pc := 116) C dX11_lets_116 rfl rfl ?_
      refine V_getF (p1 := 233) (pc := 117) C z1_cW_11 fl_RX11_30 rfl (zf_cW_11_3 z1_cW_11) dX11_lets_117 ?_
      obtain ⟨r13, S14, er13, h⟩ := b2_some h
      refine V_callV (As := [.int v1, .ref ((gR S6 0 8) + 7 + 31 * ix v2), .int v4, .int (gI S10 ((gR S10 0 8) + 193 + 2 * ix v1) 6), .ref 233]) (pc := 120) C (mX2_secondLets _ (zx_cW_3_0 (zob_of k7) k8) er13) zm_X2_secondLets zi_X2_secondLets ml_RX11_307 z1_cW_2 rfl ⟨Nat.le_of_ble_eq_true rfl, Nat.le_of_ble_eq_true rfl⟩ rfl rfl (Nat.le_of_ble_eq_true rfl) dX11_lets_120 ?_
      show V K 123 [some (.ref 0), some (.int v1), some (.int v2), some (.int v3), some (.int v4), some (.ref 221), some (.ref ((gR S6 0 8) + 7 + 31 * ix v2))] [.int r13] S14
      refine V_if_eq (tgt := 130) (pc := 123) C dX11_lets_123 (by decide) (fun hc => ?_) (fun hc => ?_)
      · have h := it_t hc h
        refine V_iconst (pc := 130) C dX11_lets_130 kc_i_0 ?_
        cases h
        exact hR 131 _ ⟨_, rfl, rfl⟩ dX11_lets_131
      · have h := it_f hc h
        refine V_iconst (pc := 126) C dX11_lets_126 kc_i_1 ?_
        refine V_goto (tgt := 131) (pc := 127) C dX11_lets_127 (by decide) ?_
        cases h
        exact hR 131 _ ⟨_, rfl, rfl⟩ dX11_lets_131
  · have h := it_t hc h
    refine V_iconst (pc := 59) C dX11_lets_59 kc_i_m1 ?_
    cases h
    exact hR 60 _ ⟨_, rfl, rfl⟩ dX11_lets_60
set_option maxRecDepth 100000 in
theorem mX11_lets_J22 {K : zK} (C : zC K cX11_lets yX11_lets.cls 7 5 131 cW) {S : zM} {v1 : Int32} {v2 : Int32} {v3 : Int32} {v4 : Int32} {s0 : Int32} {r : Int32} {S' : zM}  (hR : zR K cX11_lets (some .int) S' (some (.int r))) (h : gX11_lets_J22 S v1 v2 v3 v4 s0 = some (r, S')) : V K 22 [some (.ref 0), some (.int v1), some (.int v2), some (.int v3), some (.int v4), none, none] [.int s0, .ref 0] S := by
  unfold gX11_lets_J22 at h
  obtain ⟨r2, S3, er2, h⟩ := b2_some h
  refine V_callV (As := [.int s0]) (pc := 22) C (mX11_passes _ er2) zm_X11_passes zi_X11_passes ml_RX11_71 z1_cW_11 rfl ⟨Nat.le_of_ble_eq_true rfl, Nat.le_of_ble_eq_true rfl⟩ rfl rfl (Nat.le_of_ble_eq_true rfl) dX11_lets_22 ?_
  show V K 25 [some (.ref 0), some (.int v1), some (.int v2), some (.int v3), some (.int v4), none, none] [.int r2] S3
  refine V_if_eq (tgt := 59) (pc := 25) C dX11_lets_25 (by decide) (fun hc => ?_) (fun hc => ?_)
  · have h := it_t hc h
    refine V_iconst (pc := 59) C dX11_lets_59 kc_i_m1 ?_
    cases h
    exact hR 60 _ ⟨_, rfl, rfl⟩ dX11_lets_60
  · have h := it_f hc h
    refine V_aload_n (pc := 28) C dX11_lets_28 rfl rfl ?_
    refine V_iload_n (pc := 29) C dX11_lets_29 rfl rfl ?_
    obtain ⟨r4, er4, h⟩ := b1_some h
    refine V_callS (As := [.int v3]) (pc := 30) C (mX11_isFar _ er4) zm_X11_isFar zs_X11_isFar ml_RX11_291 ⟨Nat.le_of_ble_eq_true rfl, Nat.le_of_ble_eq_true rfl⟩ rfl rfl (Nat.le_of_ble_eq_true rfl) dX11_lets_30 ?_
    show V K 33 [some (.ref 0), some (.int v1), some (.int v2), some (.int v3), some (.int v4), none, none] [.int r4, .ref 0] S3
    refine V_if_eq (tgt := 52) (pc := 33) C dX11_lets_33 (by decide) (fun hc => ?_) (fun hc => ?_)
    · have h := it_t hc h
      refine V_iconst (pc := 52) C dX11_lets_52 kc_i_2 ?_
      exact V_mask [true, true, true, true, true, false, false] (mX11_lets_J53 C  hR h)
    · have h := it_f hc h
      refine V_iload (pc := 36) C dX11_lets_36 rfl ?_
      obtain ⟨r15, er15, h⟩ := b1_some h
      refine V_callS (As := [.int v4]) (pc := 38) C (mX11_isFar _ er15) zm_X11_isFar zs_X11_isFar ml_RX11_291 ⟨Nat.le_of_ble_eq_true rfl, Nat.le_of_ble_eq_true rfl⟩ rfl rfl (Nat.le_of_ble_eq_true rfl) dX11_lets_38 ?_
      show V K 41 [some (.ref 0), some (.int v1), some (.int v2), some (.int v3), some (.int v4), none, none] [.int r15, .ref 0] S3
      refine V_if_eq (tgt := 52) (pc := 41) C dX11_lets_41 (by decide) (fun hc => ?_) (fun hc => ?_)
      · have h := it_t hc h
        refine V_iconst (pc := 52) C dX11_lets_52 kc_i_2 ?_
        exact V_mask [true, true, true, true, true, false, false] (mX11_lets_J53 C  hR h)
      · have h := it_f hc h
        refine V_aload_n (pc := 44) C dX11_lets_44 rfl rfl ?_
        refine V_iload_n (pc := 45) C dX11_lets_45 rfl rfl ?_
        obtain ⟨r16, er16, h⟩ := b1_some h
        refine V_callV (As := [.int v1]) (pc := 46) C (mX11_whyNotJudged _ er16) zm_X11_whyNotJudged zi_X11_whyNotJudged ml_RX11_294 z1_cW_11 rfl ⟨Nat.le_of_ble_eq_true rfl, Nat.le_of_ble_eq_true rfl⟩ rfl rfl (Nat.le_of_ble_eq_true rfl) dX11_lets_46 ?_
        show V K 49 [some (.ref 0), some (.int v1), some (.int v2), some (.int v3), some (.int v4), none, none] [.int r16, .ref 0] S3
        refine V_goto (tgt := 53) (pc := 49) C dX11_lets_49 (by decide) ?_
        exact V_mask [true, true, true, true, true, false, false] (mX11_lets_J53 C  hR h)
set_option maxRecDepth 100000 in
theorem mX11_lets (l : Launch) {S : zM} {a1 : Int32} {a2 : Int32} {a3 : Int32} {a4 : Int32} {r : Int32} {S' : zM}  (h : gX11_lets S a1 a2 a3 a4 = some (r, S')) : zMet l cW zS0 yX11_lets cX11_lets 7 (some .int) 5 131 [.ref 0, .int a1, .int a2, .int a3, .int a4] S (some (.int r)) S' := by
  refine zmeth (by decide +kernel) (by rfl) (fun K hKl C hR => ?_)
  show V K 0 [some (.ref 0), some (.int a1), some (.int a2), some (.int a3), some (.int a4), none, none] [] S
  unfold gX11_lets at h
  refine V_aload_n (pc := 0) C dX11_lets_0 rfl rfl ?_
  refine V_aload_n (pc := 1) C dX11_lets_1 rfl rfl ?_
  refine V_iload_n (pc := 2) C dX11_lets_2 rfl rfl ?_
  obtain ⟨r1, er1, h⟩ := b1_some h
  refine V_callV (As := [.int a1]) (pc := 3) C (mX11_isSayer _ er1) zm_X11_isSayer zi_X11_isSayer ml_RX11_129 z1_cW_11 rfl ⟨Nat.le_of_ble_eq_true rfl, Nat.le_of_ble_eq_true rfl⟩ rfl rfl (Nat.le_of_ble_eq_true rfl) dX11_lets_3 ?_
  show V K 6 [some (.ref 0), some (.int a1), some (.int a2), some (.int a3), some (.int a4), none, none] [.int r1, .ref 0] S
  refine V_if_eq (tgt := 21) (pc := 6) C dX11_lets_6 (by decide) (fun hc => ?_) (fun hc => ?_)
  · have h := it_t hc h
    refine V_iconst (pc := 21) C dX11_lets_21 kc_i_1 ?_
    exact V_mask [true, true, true, true, true, false, false] (mX11_lets_J22 C  hR h)
  · have h := it_f hc h
    refine V_aload_n (pc := 9) C dX11_lets_9 rfl rfl ?_
    refine V_iload_n (pc := 10) C dX11_lets_10 rfl rfl ?_
    obtain ⟨r17, er17, h⟩ := b1_some h
    refine V_callV (As := [.int a2]) (pc := 11) C (mX11_isSense _ er17) zm_X11_isSense zi_X11_isSense ml_RX11_107 z1_cW_11 rfl ⟨Nat.le_of_ble_eq_true rfl, Nat.le_of_ble_eq_true rfl⟩ rfl rfl (Nat.le_of_ble_eq_true rfl) dX11_lets_11 ?_
    show V K 14 [some (.ref 0), some (.int a1), some (.int a2), some (.int a3), some (.int a4), none, none] [.int r17, .ref 0] S
    refine V_if_eq (tgt := 21) (pc := 14) C dX11_lets_14 (by decide) (fun hc => ?_) (fun hc => ?_)
    · have h := it_t hc h
      refine V_iconst (pc := 21) C dX11_lets_21 kc_i_1 ?_
      exact V_mask [true, true, true, true, true, false, false] (mX11_lets_J22 C  hR h)
    · have h := it_f hc h
      refine V_iconst (pc := 17) C dX11_lets_17 kc_i_0 ?_
      refine V_goto (tgt := 22) (pc := 18) C dX11_lets_18 (by decide) ?_
      exact V_mask [true, true, true, true, true, false, false] (mX11_lets_J22 C  hR h)
set_option maxRecDepth 100000 in
theorem mX11_allFits_L4 {K : zK} (C : zC K cX11_allFits yX11_allFits.cls 4 6 160 cW) {v1 : Int32}  : ∀ (f : Nat) (S : zM) (v2 : Int32) (v3 : Int32) (r : Int32) (S' : zM), gX11_allFits_L4 v1 f S v2 v3 = some (r, S') → zR K cX11_allFits (some .int) S' (some (.int r)) → V K 4 [some (.ref 0), some (.int v1), some (.int v2), some (.int v3)] [] S := by
  intro f
  induction f with
  | zero => intro S v2 v3 r S' h hR; cases h
  | succ n ih =>
    intro S v2 v3 r S' h hR
    unfold gX11_allFits_L4 at h
    refine V_iload_n (pc := 4) C dX11_allFits_4 rfl rfl ?_
    refine V_aload_n (pc := 5) C dX11_allFits_5 rfl rfl ?_
    obtain ⟨k1, h⟩ := ck_some h
    refine V_getR (pc := 6) C z1_cW_11 fl_RX11_52 rfl dX11_allFits_6 ?_
    refine V_getI (pc := 9) C (zob_of k1) fl_RX11_101 (by decide) dX11_allFits_9 ?_
    refine V_icmp_ge (tgt := 55) (pc := 12) C dX11_allFits_12 (by decide) (fun hc => ?_) (fun hc => ?_)
    · have h := it_t hc h
      refine V_iload_n (pc := 55) C dX11_allFits_55 rfl rfl ?_
      cases h
      exact hR 56 _ ⟨_, rfl, rfl⟩ dX11_allFits_56
    · have h := it_f hc h
      refine V_aload_n (pc := 15) C dX11_allFits_15 rfl rfl ?_
      refine V_getF (p1 := 219) (pc := 16) C z1_cW_11 fl_RX11_23 rfl (zf_cW_11_2 z1_cW_11) dX11_allFits_16 ?_
      refine V_getF (p1 := 221) (pc := 19) C z1_cW_1 fl_RX11_297 rfl (zf_cW_1_1 z1_cW_1) dX11_allFits_19 ?_
      refine V_iload_n (pc := 22) C dX11_allFits_22 rfl rfl ?_
      refine V_iload_n (pc := 23) C dX11_allFits_23 rfl rfl ?_
      refine V_aload_n (pc := 24) C dX11_allFits_24 rfl rfl ?_
      obtain ⟨k2, h⟩ := ck_some h
      refine V_getR (pc := 25) C z1_cW_11 fl_RX11_52 rfl dX11_allFits_25 ?_
      refine V_aload_n (pc := 28) C dX11_allFits_28 rfl rfl ?_
      refine V_getF (p1 := 233) (pc := 29) C z1_cW_11 fl_RX11_30 rfl (zf_cW_11_3 z1_cW_11) dX11_allFits_29 ?_
      obtain ⟨S4, euS4, h⟩ := b1_some h
      refine V_callV (As := [.int v1, .int v3, .ref (gR S 0 8), .ref 233]) (pc := 32) C (mX2_judge _ (zob_of k2) euS4) zm_X2_judge zi_X2_judge ml_RX11_323 z1_cW_2 rfl ⟨Nat.le_of_ble_eq_true rfl, Nat.le_of_ble_eq_true rfl⟩ rfl rfl (Nat.le_of_ble_eq_true rfl) dX11_allFits_32 ?_
      show V K 35 [some (.ref 0), some (.int v1), some (.int v2), some (.int v3)] [] S4
      refine V_iload_n (pc := 35) C dX11_allFits_35 rfl rfl ?_
      refine V_aload_n (pc := 36) C dX11_allFits_36 rfl rfl ?_
      refine V_getF (p1 := 219) (pc := 37) C z1_cW_11 fl_RX11_23 rfl (zf_cW_11_2 z1_cW_11) dX11_allFits_37 ?_
      refine V_getF (p1 := 221) (pc := 40) C z1_cW_1 fl_RX11_297 rfl (zf_cW_1_1 z1_cW_1) dX11_allFits_40 ?_
      refine V_iload_n (pc := 43) C dX11_allFits_43 rfl rfl ?_
      obtain ⟨r5, er5, h⟩ := b1_some h
      refine V_callV (As := [.int v3]) (pc := 44) C (mX2_fitsOf _ er5) zm_X2_fitsOf zi_X2_fitsOf ml_RX11_314 z1_cW_2 rfl ⟨Nat.le_of_ble_eq_true rfl, Nat.le_of_ble_eq_true rfl⟩ rfl rfl (Nat.le_of_ble_eq_true rfl) dX11_allFits_44 ?_
      show V K 47 [some (.ref 0), some (.int v1), some (.int v2), some (.int v3)] [.int r5, .int v2] S4
      refine V_iadd (pc := 47) C dX11_allFits_47 ?_
      refine V_istore_n (L' := [some (.ref 0), some (.int v1), some (.int (v2 + r5)), some (.int v3)]) (pc := 48) C dX11_allFits_48 rfl (by decide) rfl ?_
      refine V_iinc (L' := [some (.ref 0), some (.int v1), some (.int (v2 + r5)), some (.int (v3 + (1 : Int32)))]) (v := (v3 + (1 : Int32))) (pc := 49) C dX11_allFits_49 rfl (congrArg (v3 + ·) kc_i_1) (by decide) rfl ?_
      refine V_goto (tgt := 4) (pc := 52) C dX11_allFits_52 (by decide) ?_
      exact V_mask [true, true, true, true] (ih _ _ _ _ _ h hR)
set_option maxRecDepth 100000 in
theorem mX11_allFits (l : Launch) {S : zM} {a1 : Int32} {r : Int32} {S' : zM}  (h : gX11_allFits S a1 = some (r, S')) : zMet l cW zS0 yX11_allFits cX11_allFits 4 (some .int) 6 160 [.ref 0, .int a1] S (some (.int r)) S' := by
  refine zmeth (by decide +kernel) (by rfl) (fun K hKl C hR => ?_)
  show V K 0 [some (.ref 0), some (.int a1), none, none] [] S
  unfold gX11_allFits at h
  refine V_iconst (pc := 0) C dX11_allFits_0 kc_i_0 ?_
  refine V_istore_n (L' := [some (.ref 0), some (.int a1), some (.int (0 : Int32)), none]) (pc := 1) C dX11_allFits_1 rfl (by decide) rfl ?_
  refine V_iconst (pc := 2) C dX11_allFits_2 kc_i_0 ?_
  refine V_istore_n (L' := [some (.ref 0), some (.int a1), some (.int (0 : Int32)), some (.int (0 : Int32))]) (pc := 3) C dX11_allFits_3 rfl (by decide) rfl ?_
  exact V_mask [true, true, true, true] (mX11_allFits_L4 C  FU _ _ _ _ _ h hR)
set_option maxRecDepth 100000 in
theorem mX11_fits (l : Launch) {S : zM} {a1 : Int32} {r : Int32} {S' : zM}  (h : gX11_fits S a1 = some (r, S')) : zMet l cW zS0 yX11_fits cX11_fits 2 (some .int) 7 183 [.ref 0, .int a1] S (some (.int r)) S' := by
  refine zmeth (by decide +kernel) (by rfl) (fun K hKl C hR => ?_)
  show V K 0 [some (.ref 0), some (.int a1)] [] S
  unfold gX11_fits at h
  refine V_aload_n (pc := 0) C dX11_fits_0 rfl rfl ?_
  refine V_aload_n (pc := 1) C dX11_fits_1 rfl rfl ?_
  refine V_iload_n (pc := 2) C dX11_fits_2 rfl rfl ?_
  obtain ⟨r1, er1, h⟩ := b1_some h
  refine V_callV (As := [.int a1]) (pc := 3) C (mX11_isSayer _ er1) zm_X11_isSayer zi_X11_isSayer ml_RX11_129 z1_cW_11 rfl ⟨Nat.le_of_ble_eq_true rfl, Nat.le_of_ble_eq_true rfl⟩ rfl rfl (Nat.le_of_ble_eq_true rfl) dX11_fits_3 ?_
  show V K 6 [some (.ref 0), some (.int a1)] [.int r1, .ref 0] S
  refine V_if_eq (tgt := 17) (pc := 6) C dX11_fits_6 (by decide) (fun hc => ?_) (fun hc => ?_)
  · have h := it_t hc h
    refine V_iconst (pc := 17) C dX11_fits_17 kc_i_1 ?_
    obtain ⟨r2, S3, er2, h⟩ := b2_some h
    refine V_callV (As := [.int (1 : Int32)]) (pc := 18) C (mX11_passes _ er2) zm_X11_passes zi_X11_passes ml_RX11_71 z1_cW_11 rfl ⟨Nat.le_of_ble_eq_true rfl, Nat.le_of_ble_eq_true rfl⟩ rfl rfl (Nat.le_of_ble_eq_true rfl) dX11_fits_18 ?_
    show V K 21 [some (.ref 0), some (.int a1)] [.int r2] S3
    refine V_if_ne (tgt := 26) (pc := 21) C dX11_fits_21 (by decide) (fun hc => ?_) (fun hc => ?_)
    · have h := it_f hc h
      refine V_aload_n (pc := 26) C dX11_fits_26 rfl rfl ?_
      refine V_iload_n (pc := 27) C dX11_fits_27 rfl rfl ?_
      obtain ⟨r4, S5, er4, h⟩ := b2_some h
      refine V_callV (As := [.int a1]) (pc := 28) C (mX11_allFits _ er4) zm_X11_allFits zi_X11_allFits ml_RX11_311 z1_cW_11 rfl ⟨Nat.le_of_ble_eq_true rfl, Nat.le_of_ble_eq_true rfl⟩ rfl rfl (Nat.le_of_ble_eq_true rfl) dX11_fits_28 ?_
      show V K 31 [some (.ref 0), some (.int a1)] [.int r4] S5
      cases h
      exact hR 31 _ ⟨_, rfl, rfl⟩ dX11_fits_31
    · have h := it_t hc h
      refine V_iconst (pc := 24) C dX11_fits_24 kc_i_m1 ?_
      cases h
      exact hR 25 _ ⟨_, rfl, rfl⟩ dX11_fits_25
  · have h := it_f hc h
    refine V_aload_n (pc := 9) C dX11_fits_9 rfl rfl ?_
    refine V_iload_n (pc := 10) C dX11_fits_10 rfl rfl ?_
    obtain ⟨r6, er6, h⟩ := b1_some h
    refine V_callV (As := [.int a1]) (pc := 11) C (mX11_whyNotJudged _ er6) zm_X11_whyNotJudged zi_X11_whyNotJudged ml_RX11_294 z1_cW_11 rfl ⟨Nat.le_of_ble_eq_true rfl, Nat.le_of_ble_eq_true rfl⟩ rfl rfl (Nat.le_of_ble_eq_true rfl) dX11_fits_11 ?_
    show V K 14 [some (.ref 0), some (.int a1)] [.int r6, .ref 0] S
    refine V_goto (tgt := 18) (pc := 14) C dX11_fits_14 (by decide) ?_
    obtain ⟨r7, S8, er7, h⟩ := b2_some h
    refine V_callV (As := [.int r6]) (pc := 18) C (mX11_passes _ er7) zm_X11_passes zi_X11_passes ml_RX11_71 z1_cW_11 rfl ⟨Nat.le_of_ble_eq_true rfl, Nat.le_of_ble_eq_true rfl⟩ rfl rfl (Nat.le_of_ble_eq_true rfl) dX11_fits_18 ?_
    show V K 21 [some (.ref 0), some (.int a1)] [.int r7] S8
    refine V_if_ne (tgt := 26) (pc := 21) C dX11_fits_21 (by decide) (fun hc => ?_) (fun hc => ?_)
    · have h := it_f hc h
      refine V_aload_n (pc := 26) C dX11_fits_26 rfl rfl ?_
      refine V_iload_n (pc := 27) C dX11_fits_27 rfl rfl ?_
      obtain ⟨r9, S10, er9, h⟩ := b2_some h
      refine V_callV (As := [.int a1]) (pc := 28) C (mX11_allFits _ er9) zm_X11_allFits zi_X11_allFits ml_RX11_311 z1_cW_11 rfl ⟨Nat.le_of_ble_eq_true rfl, Nat.le_of_ble_eq_true rfl⟩ rfl rfl (Nat.le_of_ble_eq_true rfl) dX11_fits_28 ?_
      show V K 31 [some (.ref 0), some (.int a1)] [.int r9] S10
      cases h
      exact hR 31 _ ⟨_, rfl, rfl⟩ dX11_fits_31
    · have h := it_t hc h
      refine V_iconst (pc := 24) C dX11_fits_24 kc_i_m1 ?_
      cases h
      exact hR 25 _ ⟨_, rfl, rfl⟩ dX11_fits_25
