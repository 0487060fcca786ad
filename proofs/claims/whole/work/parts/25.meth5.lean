set_option maxRecDepth 100000 in
theorem mX11_fitAt_L86 {K : zK} (C : zC K cX11_fitAt yX11_fitAt.cls 8 7 183 cW) {S : zM} {v3 : Int32} {v7 : Int32}  : ∀ (f : Nat) (v5 : Int32) (v6 : Int32) (r : Int32) (S' : zM), gX11_fitAt_L86 S v3 v7 f v5 v6 = some (r, S') → zR K cX11_fitAt (some .int) S' (some (.int r)) → V K 86 [none, none, none, some (.int v3), some (.ref 221), some (.int v5), some (.int v6), some (.int v7)] [] S := by
  intro f
  induction f with
  | zero => intro v5 v6 r S' h hR; cases h
  | succ n ih =>
    intro v5 v6 r S' h hR
    unfold gX11_fitAt_L86 at h
    refine V_iload (pc := 86) C dX11_fitAt_86 rfl ?_
    refine V_iload (pc := 88) C dX11_fitAt_88 rfl ?_
    refine V_icmp_ge (tgt := 123) (pc := 90) C dX11_fitAt_90 (by decide) (fun hc => ?_) (fun hc => ?_)
    · have h := it_t hc h
      refine V_iload_n (pc := 123) C dX11_fitAt_123 rfl rfl ?_
      refine V_if_ne (tgt := 132) (pc := 124) C dX11_fitAt_124 (by decide) (fun hc => ?_) (fun hc => ?_)
      · have h := it_f hc h
        refine V_iload_n (pc := 132) C dX11_fitAt_132 rfl rfl ?_
        refine V_iconst (pc := 133) C dX11_fitAt_133 kc_i_1 ?_
        refine V_icmp_ne (tgt := 149) (pc := 134) C dX11_fitAt_134 (by decide) (fun hc => ?_) (fun hc => ?_)
        · have h := it_f hc h
          refine V_aload (pc := 149) C dX11_fitAt_149 rfl ?_
          refine V_iload (pc := 151) C dX11_fitAt_151 rfl ?_
          refine V_iload (pc := 153) C dX11_fitAt_153 rfl ?_
          obtain ⟨r7, er7, h⟩ := b1_some h
          refine V_callV (As := [.int v6, .int v5]) (pc := 155) C (mX2_fitSecond _ er7) zm_X2_fitSecond zi_X2_fitSecond ml_RX11_320 z1_cW_2 rfl ⟨Nat.le_of_ble_eq_true rfl, Nat.le_of_ble_eq_true rfl⟩ rfl rfl (Nat.le_of_ble_eq_true rfl) dX11_fitAt_155 ?_
          show V K 158 [none, none, none, some (.int v3), some (.ref 221), some (.int v5), some (.int v6), some (.int v7)] [.int r7] S
          cases h
          exact hR 158 _ ⟨_, rfl, rfl⟩ dX11_fitAt_158
        · have h := it_t hc h
          refine V_aload (pc := 137) C dX11_fitAt_137 rfl ?_
          refine V_iload (pc := 139) C dX11_fitAt_139 rfl ?_
          refine V_iload (pc := 141) C dX11_fitAt_141 rfl ?_
          obtain ⟨r8, er8, h⟩ := b1_some h
          refine V_callV (As := [.int v6, .int v5]) (pc := 143) C (mX2_fitLine _ er8) zm_X2_fitLine zi_X2_fitLine ml_RX11_317 z1_cW_2 rfl ⟨Nat.le_of_ble_eq_true rfl, Nat.le_of_ble_eq_true rfl⟩ rfl rfl (Nat.le_of_ble_eq_true rfl) dX11_fitAt_143 ?_
          show V K 146 [none, none, none, some (.int v3), some (.ref 221), some (.int v5), some (.int v6), some (.int v7)] [.int r8] S
          refine V_goto (tgt := 158) (pc := 146) C dX11_fitAt_146 (by decide) ?_
          cases h
          exact hR 158 _ ⟨_, rfl, rfl⟩ dX11_fitAt_158
      · have h := it_t hc h
        refine V_iload (pc := 127) C dX11_fitAt_127 rfl ?_
        refine V_goto (tgt := 158) (pc := 129) C dX11_fitAt_129 (by decide) ?_
        cases h
        exact hR 158 _ ⟨_, rfl, rfl⟩ dX11_fitAt_158
    · have h := it_f hc h
      refine V_iload (pc := 93) C dX11_fitAt_93 rfl ?_
      refine V_aload (pc := 95) C dX11_fitAt_95 rfl ?_
      refine V_iload (pc := 97) C dX11_fitAt_97 rfl ?_
      obtain ⟨r9, er9, h⟩ := b1_some h
      refine V_callV (As := [.int v6]) (pc := 99) C (mX2_fitsOf _ er9) zm_X2_fitsOf zi_X2_fitsOf ml_RX11_314 z1_cW_2 rfl ⟨Nat.le_of_ble_eq_true rfl, Nat.le_of_ble_eq_true rfl⟩ rfl rfl (Nat.le_of_ble_eq_true rfl) dX11_fitAt_99 ?_
      show V K 102 [none, none, none, some (.int v3), some (.ref 221), some (.int v5), some (.int v6), some (.int v7)] [.int r9, .int v5] S
      refine V_icmp_lt (tgt := 123) (pc := 102) C dX11_fitAt_102 (by decide) (fun hc => ?_) (fun hc => ?_)
      · have h := it_t hc h
        refine V_iload_n (pc := 123) C dX11_fitAt_123 rfl rfl ?_
        refine V_if_ne (tgt := 132) (pc := 124) C dX11_fitAt_124 (by decide) (fun hc => ?_) (fun hc => ?_)
        · have h := it_f hc h
          refine V_iload_n (pc := 132) C dX11_fitAt_132 rfl rfl ?_
          refine V_iconst (pc := 133) C dX11_fitAt_133 kc_i_1 ?_
          refine V_icmp_ne (tgt := 149) (pc := 134) C dX11_fitAt_134 (by decide) (fun hc => ?_) (fun hc => ?_)
          · have h := it_f hc h
            refine V_aload (pc := 149) C dX11_fitAt_149 rfl ?_
            refine V_iload (pc := 151) C dX11_fitAt_151 rfl ?_
            refine V_iload (pc := 153) C dX11_fitAt_153 rfl ?_
            obtain ⟨r10, er10, h⟩ := b1_some h
            refine V_callV (As := [.int v6, .int v5]) (pc := 155) C (mX2_fitSecond _ er10) zm_X2_fitSecond zi_X2_fitSecond ml_RX11_320 z1_cW_2 rfl ⟨Nat.le_of_ble_eq_true rfl, Nat.le_of_ble_eq_true rfl⟩ rfl rfl (Nat.le_of_ble_eq_true rfl) dX11_fitAt_155 ?_
            show V K 158 [none, none, none, some (.int v3), some (.ref 221), some (.int v5), some (.int v6), some (.int v7)] [.int r10] S
            cases h
            exact hR 158 _ ⟨_, rfl, rfl⟩ dX11_fitAt_158
          · have h := it_t hc h
            refine V_aload (pc := 137) C dX11_fitAt_137 rfl ?_
            refine V_iload (pc := 139) C dX11_fitAt_139 rfl ?_
            refine V_iload (pc := 141) C dX11_fitAt_141 rfl ?_
            obtain ⟨r11, er11, h⟩ := b1_some h
            refine V_callV (As := [.int v6, .int v5]) (pc := 143) C (mX2_fitLine _ er11) zm_X2_fitLine zi_X2_fitLine ml_RX11_317 z1_cW_2 rfl ⟨Nat.le_of_ble_eq_true rfl, Nat.le_of_ble_eq_true rfl⟩ rfl rfl (Nat.le_of_ble_eq_true rfl) dX11_fitAt_143 ?_
            show V K 146 [none, none, none, some (.int v3), some (.ref 221), some (.int v5), some (.int v6), some (.int v7)] [.int r11] S
            refine V_goto (tgt := 158) (pc := 146) C dX11_fitAt_146 (by decide) ?_
            cases h
            exact hR 158 _ ⟨_, rfl, rfl⟩ dX11_fitAt_158
        · have h := it_t hc h
          refine V_iload (pc := 127) C dX11_fitAt_127 rfl ?_
          refine V_goto (tgt := 158) (pc := 129) C dX11_fitAt_129 (by decide) ?_
          cases h
          exact hR 158 _ ⟨_, rfl, rfl⟩ dX11_fitAt_158
      · have h := it_f hc h
        refine V_iload (pc := 105) C dX11_fitAt_105 rfl ?_
        refine V_aload (pc := 107) C dX11_fitAt_107 rfl ?_
        refine V_iload (pc := 109) C dX11_fitAt_109 rfl ?_
        obtain ⟨r12, er12, h⟩ := b1_some h
        refine V_callV (As := [.int v6]) (pc := 111) C (mX2_fitsOf _ er12) zm_X2_fitsOf zi_X2_fitsOf ml_RX11_314 z1_cW_2 rfl ⟨Nat.le_of_ble_eq_true rfl, Nat.le_of_ble_eq_true rfl⟩ rfl rfl (Nat.le_of_ble_eq_true rfl) dX11_fitAt_111 ?_
        show V K 114 [none, none, none, some (.int v3), some (.ref 221), some (.int v5), some (.int v6), some (.int v7)] [.int r12, .int v5] S
        refine V_isub (pc := 114) C dX11_fitAt_114 ?_
        refine V_istore (L' := [none, none, none, some (.int v3), some (.ref 221), some (.int (v5 - r12)), some (.int v6), some (.int v7)]) (pc := 115) C dX11_fitAt_115 (by decide) rfl ?_
        refine V_iinc (L' := [none, none, none, some (.int v3), some (.ref 221), some (.int (v5 - r12)), some (.int (v6 + (1 : Int32))), some (.int v7)]) (v := (v6 + (1 : Int32))) (pc := 117) C dX11_fitAt_117 rfl (congrArg (v6 + ·) kc_i_1) (by decide) rfl ?_
        refine V_goto (tgt := 86) (pc := 120) C dX11_fitAt_120 (by decide) ?_
        exact V_mask [false, false, false, true, true, true, true, true] (ih _ _ _ _ h hR)
set_option maxRecDepth 100000 in
theorem mX11_fitAt_J52 {K : zK} (C : zC K cX11_fitAt yX11_fitAt.cls 8 7 183 cW) {S : zM} {v2 : Int32} {v3 : Int32} {s0 : Int32} {r : Int32} {S' : zM}  (hR : zR K cX11_fitAt (some .int) S' (some (.int r))) (h : gX11_fitAt_J52 S v2 v3 s0 = some (r, S')) : V K 52 [some (.ref 0), none, some (.int v2), some (.int v3), none, none, none, none] [.int s0, .ref 0] S := by
  unfold gX11_fitAt_J52 at h
  obtain ⟨r4, S5, er4, h⟩ := b2_some h
  refine V_callV (As := [.int s0]) (pc := 52) C (mX11_passes _ er4) zm_X11_passes zi_X11_passes ml_RX11_71 z1_cW_11 rfl ⟨Nat.le_of_ble_eq_true rfl, Nat.le_of_ble_eq_true rfl⟩ rfl rfl (Nat.le_of_ble_eq_true rfl) dX11_fitAt_52 ?_
  show V K 55 [some (.ref 0), none, some (.int v2), some (.int v3), none, none, none, none] [.int r4] S5
  refine V_if_ne (tgt := 62) (pc := 55) C dX11_fitAt_55 (by decide) (fun hc => ?_) (fun hc => ?_)
  · have h := it_f hc h
    refine V_aload_n (pc := 62) C dX11_fitAt_62 rfl rfl ?_
    refine V_getF (p1 := 219) (pc := 63) C z1_cW_11 fl_RX11_23 rfl (zf_cW_11_2 z1_cW_11) dX11_fitAt_63 ?_
    refine V_getF (p1 := 221) (pc := 66) C z1_cW_1 fl_RX11_297 rfl (zf_cW_1_1 z1_cW_1) dX11_fitAt_66 ?_
    refine V_astore (L' := [some (.ref 0), none, some (.int v2), some (.int v3), some (.ref 221), none, none, none]) (pc := 69) C dX11_fitAt_69 (by decide) rfl ?_
    refine V_iload_n (pc := 71) C dX11_fitAt_71 rfl rfl ?_
    refine V_istore (L' := [some (.ref 0), none, some (.int v2), some (.int v3), some (.ref 221), some (.int v2), none, none]) (pc := 72) C dX11_fitAt_72 (by decide) rfl ?_
    refine V_iconst (pc := 74) C dX11_fitAt_74 kc_i_0 ?_
    refine V_istore (L' := [some (.ref 0), none, some (.int v2), some (.int v3), some (.ref 221), some (.int v2), some (.int (0 : Int32)), none]) (pc := 75) C dX11_fitAt_75 (by decide) rfl ?_
    refine V_aload_n (pc := 77) C dX11_fitAt_77 rfl rfl ?_
    obtain ⟨k6, h⟩ := ck_some h
    refine V_getR (pc := 78) C z1_cW_11 fl_RX11_52 rfl dX11_fitAt_78 ?_
    refine V_getI (pc := 81) C (zob_of k6) fl_RX11_101 (by decide) dX11_fitAt_81 ?_
    refine V_istore (L' := [some (.ref 0), none, some (.int v2), some (.int v3), some (.ref 221), some (.int v2), some (.int (0 : Int32)), some (.int (gI S5 (gR S5 0 8) 6))]) (pc := 84) C dX11_fitAt_84 (by decide) rfl ?_
    exact V_mask [false, false, false, true, true, true, true, true] (mX11_fitAt_L86 C  FU _ _ _ _ h hR)
  · have h := it_t hc h
    refine V_sipush (pc := 58) C dX11_fitAt_58 kc_s_m1000 ?_
    cases h
    exact hR 61 _ ⟨_, rfl, rfl⟩ dX11_fitAt_61
set_option maxRecDepth 100000 in
theorem mX11_fitAt_J27 {K : zK} (C : zC K cX11_fitAt yX11_fitAt.cls 8 7 183 cW) {S : zM} {v1 : Int32} {v2 : Int32} {v3 : Int32} {s0 : Int32} {r : Int32} {S' : zM}  (hR : zR K cX11_fitAt (some .int) S' (some (.int r))) (h : gX11_fitAt_J27 S v1 v2 v3 s0 = some (r, S')) : V K 27 [some (.ref 0), some (.int v1), some (.int v2), some (.int v3), none, none, none, none] [.int s0, .ref 0] S := by
  unfold gX11_fitAt_J27 at h
  obtain ⟨r2, S3, er2, h⟩ := b2_some h
  refine V_callV (As := [.int s0]) (pc := 27) C (mX11_passes _ er2) zm_X11_passes zi_X11_passes ml_RX11_71 z1_cW_11 rfl ⟨Nat.le_of_ble_eq_true rfl, Nat.le_of_ble_eq_true rfl⟩ rfl rfl (Nat.le_of_ble_eq_true rfl) dX11_fitAt_27 ?_
  show V K 30 [some (.ref 0), some (.int v1), some (.int v2), some (.int v3), none, none, none, none] [.int r2] S3
  refine V_if_eq (tgt := 58) (pc := 30) C dX11_fitAt_30 (by decide) (fun hc => ?_) (fun hc => ?_)
  · have h := it_t hc h
    refine V_sipush (pc := 58) C dX11_fitAt_58 kc_s_m1000 ?_
    cases h
    exact hR 61 _ ⟨_, rfl, rfl⟩ dX11_fitAt_61
  · have h := it_f hc h
    refine V_aload_n (pc := 33) C dX11_fitAt_33 rfl rfl ?_
    refine V_iload_n (pc := 34) C dX11_fitAt_34 rfl rfl ?_
    refine V_if_lt (tgt := 51) (pc := 35) C dX11_fitAt_35 (by decide) (fun hc => ?_) (fun hc => ?_)
    · have h := it_t hc h
      refine V_iconst (pc := 51) C dX11_fitAt_51 kc_i_1 ?_
      exact V_mask [true, false, true, true, false, false, false, false] (mX11_fitAt_J52 C  hR h)
    · have h := it_f hc h
      refine V_iload_n (pc := 38) C dX11_fitAt_38 rfl rfl ?_
      refine V_aload_n (pc := 39) C dX11_fitAt_39 rfl rfl ?_
      refine V_iload_n (pc := 40) C dX11_fitAt_40 rfl rfl ?_
      obtain ⟨r13, S14, er13, h⟩ := b2_some h
      refine V_callV (As := [.int v1]) (pc := 41) C (mX11_allFits _ er13) zm_X11_allFits zi_X11_allFits ml_RX11_311 z1_cW_11 rfl ⟨Nat.le_of_ble_eq_true rfl, Nat.le_of_ble_eq_true rfl⟩ rfl rfl (Nat.le_of_ble_eq_true rfl) dX11_fitAt_41 ?_
      show V K 44 [some (.ref 0), some (.int v1), some (.int v2), some (.int v3), none, none, none, none] [.int r13, .int v2, .ref 0] S14
      refine V_icmp_ge (tgt := 51) (pc := 44) C dX11_fitAt_44 (by decide) (fun hc => ?_) (fun hc => ?_)
      · have h := it_t hc h
        refine V_iconst (pc := 51) C dX11_fitAt_51 kc_i_1 ?_
        exact V_mask [true, false, true, true, false, false, false, false] (mX11_fitAt_J52 C  hR h)
      · have h := it_f hc h
        refine V_iconst (pc := 47) C dX11_fitAt_47 kc_i_0 ?_
        refine V_goto (tgt := 52) (pc := 48) C dX11_fitAt_48 (by decide) ?_
        exact V_mask [true, false, true, true, false, false, false, false] (mX11_fitAt_J52 C  hR h)
set_option maxRecDepth 100000 in
theorem mX11_fitAt (l : Launch) {S : zM} {a1 : Int32} {a2 : Int32} {a3 : Int32} {r : Int32} {S' : zM}  (h : gX11_fitAt S a1 a2 a3 = some (r, S')) : zMet l cW zS0 yX11_fitAt cX11_fitAt 8 (some .int) 7 183 [.ref 0, .int a1, .int a2, .int a3] S (some (.int r)) S' := by
  refine zmeth (by decide +kernel) (by rfl) (fun K hKl C hR => ?_)
  show V K 0 [some (.ref 0), some (.int a1), some (.int a2), some (.int a3), none, none, none, none] [] S
  unfold gX11_fitAt at h
  refine V_aload_n (pc := 0) C dX11_fitAt_0 rfl rfl ?_
  refine V_aload_n (pc := 1) C dX11_fitAt_1 rfl rfl ?_
  refine V_iload_n (pc := 2) C dX11_fitAt_2 rfl rfl ?_
  obtain ⟨r1, er1, h⟩ := b1_some h
  refine V_callV (As := [.int a1]) (pc := 3) C (mX11_isSayer _ er1) zm_X11_isSayer zi_X11_isSayer ml_RX11_129 z1_cW_11 rfl ⟨Nat.le_of_ble_eq_true rfl, Nat.le_of_ble_eq_true rfl⟩ rfl rfl (Nat.le_of_ble_eq_true rfl) dX11_fitAt_3 ?_
  show V K 6 [some (.ref 0), some (.int a1), some (.int a2), some (.int a3), none, none, none, none] [.int r1, .ref 0] S
  refine V_if_eq (tgt := 26) (pc := 6) C dX11_fitAt_6 (by decide) (fun hc => ?_) (fun hc => ?_)
  · have h := it_t hc h
    refine V_iconst (pc := 26) C dX11_fitAt_26 kc_i_1 ?_
    exact V_mask [true, true, true, true, false, false, false, false] (mX11_fitAt_J27 C  hR h)
  · have h := it_f hc h
    refine V_iload_n (pc := 9) C dX11_fitAt_9 rfl rfl ?_
    refine V_if_lt (tgt := 26) (pc := 10) C dX11_fitAt_10 (by decide) (fun hc => ?_) (fun hc => ?_)
    · have h := it_t hc h
      refine V_iconst (pc := 26) C dX11_fitAt_26 kc_i_1 ?_
      exact V_mask [true, true, true, true, false, false, false, false] (mX11_fitAt_J27 C  hR h)
    · have h := it_f hc h
      refine V_iload_n (pc := 13) C dX11_fitAt_13 rfl rfl ?_
      refine V_iconst (pc := 14) C dX11_fitAt_14 kc_i_2 ?_
      refine V_icmp_gt (tgt := 26) (pc := 15) C dX11_fitAt_15 (by decide) (fun hc => ?_) (fun hc => ?_)
      · have h := it_t hc h
        refine V_iconst (pc := 26) C dX11_fitAt_26 kc_i_1 ?_
        exact V_mask [true, true, true, true, false, false, false, false] (mX11_fitAt_J27 C  hR h)
      · have h := it_f hc h
        refine V_aload_n (pc := 18) C dX11_fitAt_18 rfl rfl ?_
        refine V_iload_n (pc := 19) C dX11_fitAt_19 rfl rfl ?_
        obtain ⟨r15, er15, h⟩ := b1_some h
        refine V_callV (As := [.int a1]) (pc := 20) C (mX11_whyNotJudged _ er15) zm_X11_whyNotJudged zi_X11_whyNotJudged ml_RX11_294 z1_cW_11 rfl ⟨Nat.le_of_ble_eq_true rfl, Nat.le_of_ble_eq_true rfl⟩ rfl rfl (Nat.le_of_ble_eq_true rfl) dX11_fitAt_20 ?_
        show V K 23 [some (.ref 0), some (.int a1), some (.int a2), some (.int a3), none, none, none, none] [.int r15, .ref 0] S
        refine V_goto (tgt := 27) (pc := 23) C dX11_fitAt_23 (by decide) ?_
        exact V_mask [true, true, true, true, false, false, false, false] (mX11_fitAt_J27 C  hR h)
set_option maxRecDepth 100000 in
theorem mX11_verdict_J26 {K : zK} (C : zC K cX11_verdict yX11_verdict.cls 5 7 183 cW) {S : zM} {v1 : Int32} {v2 : Int32} {s0 : Int32} {r : Int32} {S' : zM}  (hR : zR K cX11_verdict (some .int) S' (some (.int r))) (h : gX11_verdict_J26 S v1 v2 s0 = some (r, S')) : V K 26 [some (.ref 0), some (.int v1), some (.int v2), none, none] [.int s0, .ref 0] S := by
  unfold gX11_verdict_J26 at h
  obtain ⟨r2, S3, er2, h⟩ := b2_some h
  refine V_callV (As := [.int s0]) (pc := 26) C (mX11_passes _ er2) zm_X11_passes zi_X11_passes ml_RX11_71 z1_cW_11 rfl ⟨Nat.le_of_ble_eq_true rfl, Nat.le_of_ble_eq_true rfl⟩ rfl rfl (Nat.le_of_ble_eq_true rfl) dX11_verdict_26 ?_
  show V K 29 [some (.ref 0), some (.int v1), some (.int v2), none, none] [.int r2] S3
  refine V_if_ne (tgt := 34) (pc := 29) C dX11_verdict_29 (by decide) (fun hc => ?_) (fun hc => ?_)
  · have h := it_f hc h
    refine V_aload_n (pc := 34) C dX11_verdict_34 rfl rfl ?_
    refine V_iload_n (pc := 35) C dX11_verdict_35 rfl rfl ?_
    obtain ⟨r4, S5, er4, h⟩ := b2_some h
    refine V_callV (As := [.int v1]) (pc := 36) C (mX11_allFits _ er4) zm_X11_allFits zi_X11_allFits ml_RX11_311 z1_cW_11 rfl ⟨Nat.le_of_ble_eq_true rfl, Nat.le_of_ble_eq_true rfl⟩ rfl rfl (Nat.le_of_ble_eq_true rfl) dX11_verdict_36 ?_
    show V K 39 [some (.ref 0), some (.int v1), some (.int v2), none, none] [.int r4] S5
    refine V_istore_n (L' := [some (.ref 0), some (.int v1), some (.int v2), some (.int r4), none]) (pc := 39) C dX11_verdict_39 rfl (by decide) rfl ?_
    refine V_aload_n (pc := 40) C dX11_verdict_40 rfl rfl ?_
    refine V_getF (p1 := 219) (pc := 41) C z1_cW_11 fl_RX11_23 rfl (zf_cW_11_2 z1_cW_11) dX11_verdict_41 ?_
    refine V_getF (p1 := 221) (pc := 44) C z1_cW_1 fl_RX11_297 rfl (zf_cW_1_1 z1_cW_1) dX11_verdict_44 ?_
    refine V_iload_n (pc := 47) C dX11_verdict_47 rfl rfl ?_
    obtain ⟨r6, er6, h⟩ := b1_some h
    refine V_callV (As := [.int v2]) (pc := 48) C (mX2_fitsOf _ er6) zm_X2_fitsOf zi_X2_fitsOf ml_RX11_314 z1_cW_2 rfl ⟨Nat.le_of_ble_eq_true rfl, Nat.le_of_ble_eq_true rfl⟩ rfl rfl (Nat.le_of_ble_eq_true rfl) dX11_verdict_48 ?_
    show V K 51 [some (.ref 0), some (.int v1), some (.int v2), some (.int r4), none] [.int r6] S5
    refine V_istore (L' := [some (.ref 0), some (.int v1), some (.int v2), some (.int r4), some (.int r6)]) (pc := 51) C dX11_verdict_51 (by decide) rfl ?_
    refine V_iload (pc := 53) C dX11_verdict_53 rfl ?_
    refine V_if_ne (tgt := 62) (pc := 55) C dX11_verdict_55 (by decide) (fun hc => ?_) (fun hc => ?_)
    · have h := it_f hc h
      refine V_iload (pc := 62) C dX11_verdict_62 rfl ?_
      refine V_iload_n (pc := 64) C dX11_verdict_64 rfl rfl ?_
      refine V_icmp_ne (tgt := 72) (pc := 65) C dX11_verdict_65 (by decide) (fun hc => ?_) (fun hc => ?_)
      · have h := it_f hc h
        refine V_iconst (pc := 72) C dX11_verdict_72 kc_i_1 ?_
        cases h
        exact hR 73 _ ⟨_, rfl, rfl⟩ dX11_verdict_73
      · have h := it_t hc h
        refine V_iconst (pc := 68) C dX11_verdict_68 kc_i_2 ?_
        refine V_goto (tgt := 73) (pc := 69) C dX11_verdict_69 (by decide) ?_
        cases h
        exact hR 73 _ ⟨_, rfl, rfl⟩ dX11_verdict_73
    · have h := it_t hc h
      refine V_iconst (pc := 58) C dX11_verdict_58 kc_i_0 ?_
      refine V_goto (tgt := 73) (pc := 59) C dX11_verdict_59 (by decide) ?_
      cases h
      exact hR 73 _ ⟨_, rfl, rfl⟩ dX11_verdict_73
  · have h := it_t hc h
    refine V_iconst (pc := 32) C dX11_verdict_32 kc_i_m1 ?_
    cases h
    exact hR 33 _ ⟨_, rfl, rfl⟩ dX11_verdict_33
set_option maxRecDepth 100000 in
theorem mX11_verdict (l : Launch) {S : zM} {a1 : Int32} {a2 : Int32} {r : Int32} {S' : zM}  (h : gX11_verdict S a1 a2 = some (r, S')) : zMet l cW zS0 yX11_verdict cX11_verdict 5 (some .int) 7 183 [.ref 0, .int a1, .int a2] S (some (.int r)) S' := by
  refine zmeth (by decide +kernel) (by rfl) (fun K hKl C hR => ?_)
  show V K 0 [some (.ref 0), some (.int a1), some (.int a2), none, none] [] S
  unfold gX11_verdict at h
  refine V_aload_n (pc := 0) C dX11_verdict_0 rfl rfl ?_
  refine V_aload_n (pc := 1) C dX11_verdict_1 rfl rfl ?_
  refine V_iload_n (pc := 2) C dX11_verdict_2 rfl rfl ?_
  obtain ⟨r1, er1, h⟩ := b1_some h
  refine V_callV (As := [.int a1]) (pc := 3) C (mX11_isSayer _ er1) zm_X11_isSayer zi_X11_isSayer ml_RX11_129 z1_cW_11 rfl ⟨Nat.le_of_ble_eq_true rfl, Nat.le_of_ble_eq_true rfl⟩ rfl rfl (Nat.le_of_ble_eq_true rfl) dX11_verdict_3 ?_
  show V K 6 [some (.ref 0), some (.int a1), some (.int a2), none, none] [.int r1, .ref 0] S
  refine V_if_eq (tgt := 25) (pc := 6) C dX11_verdict_6 (by decide) (fun hc => ?_) (fun hc => ?_)
  · have h := it_t hc h
    refine V_iconst (pc := 25) C dX11_verdict_25 kc_i_1 ?_
    exact V_mask [true, true, true, false, false] (mX11_verdict_J26 C  hR h)
  · have h := it_f hc h
    refine V_aload_n (pc := 9) C dX11_verdict_9 rfl rfl ?_
    refine V_iload_n (pc := 10) C dX11_verdict_10 rfl rfl ?_
    obtain ⟨r7, er7, h⟩ := b1_some h
    refine V_callV (As := [.int a2]) (pc := 11) C (mX11_isSense _ er7) zm_X11_isSense zi_X11_isSense ml_RX11_107 z1_cW_11 rfl ⟨Nat.le_of_ble_eq_true rfl, Nat.le_of_ble_eq_true rfl⟩ rfl rfl (Nat.le_of_ble_eq_true rfl) dX11_verdict_11 ?_
    show V K 14 [some (.ref 0), some (.int a1), some (.int a2), none, none] [.int r7, .ref 0] S
    refine V_if_eq (tgt := 25) (pc := 14) C dX11_verdict_14 (by decide) (fun hc => ?_) (fun hc => ?_)
    · have h := it_t hc h
      refine V_iconst (pc := 25) C dX11_verdict_25 kc_i_1 ?_
      exact V_mask [true, true, true, false, false] (mX11_verdict_J26 C  hR h)
    · have h := it_f hc h
      refine V_aload_n (pc := 17) C dX11_verdict_17 rfl rfl ?_
      refine V_iload_n (pc := 18) C dX11_verdict_18 rfl rfl ?_
      obtain ⟨r8, er8, h⟩ := b1_some h
      refine V_callV (As := [.int a1]) (pc := 19) C (mX11_whyNotJudged _ er8) zm_X11_whyNotJudged zi_X11_whyNotJudged ml_RX11_294 z1_cW_11 rfl ⟨Nat.le_of_ble_eq_true rfl, Nat.le_of_ble_eq_true rfl⟩ rfl rfl (Nat.le_of_ble_eq_true rfl) dX11_verdict_19 ?_
      show V K 22 [some (.ref 0), some (.int a1), some (.int a2), none, none] [.int r8, .ref 0] S
      refine V_goto (tgt := 26) (pc := 22) C dX11_verdict_22 (by decide) ?_
      exact V_mask [true, true, true, false, false] (mX11_verdict_J26 C  hR h)
set_option maxRecDepth 100000 in
theorem mX11_lineOf_J59 {K : zK} (C : zC K cX11_lineOf yX11_lineOf.cls 6 5 129 cW) {S : zM} {v1 : Int32} {v2 : Int32} {v3 : Int32} {v4 : Int32} {s0 : Int32} {out : (Int32 × zM) ⊕ (Int32 × zM)}  (h : gX11_lineOf_J59 S v1 v2 v3 v4 s0 = some out) (hb : ∀ (b4 : Int32) (S' : zM), out = .inr (b4, S') → V K 40 [some (.ref 0), some (.int v1), some (.int v2), some (.int v3), some (.int b4), none] [] S') (hret : ∀ r' : (Int32 × zM), out = .inl r' → zR K cX11_lineOf (some .int) r'.2 (some (.int (r'.1)))) : V K 59 [some (.ref 0), some (.int v1), some (.int v2), some (.int v3), some (.int v4), none] [.int s0] S := by
  unfold gX11_lineOf_J59 at h
  refine V_istore (L' := [some (.ref 0), some (.int v1), some (.int v2), some (.int v3), some (.int v4), some (.int s0)]) (pc := 59) C dX11_lineOf_59 (by decide) rfl ?_
  refine V_aload_n (pc := 61) C dX11_lineOf_61 rfl rfl ?_
  refine V_getF (p1 := 219) (pc := 62) C z1_cW_11 fl_RX11_23 rfl (zf_cW_11_2 z1_cW_11) dX11_lineOf_62 ?_
  refine V_getF (p1 := 221) (pc := 65) C z1_cW_1 fl_RX11_297 rfl (zf_cW_1_1 z1_cW_1) dX11_lineOf_65 ?_
  refine V_iload_n (pc := 68) C dX11_lineOf_68 rfl rfl ?_
  refine V_aload_n (pc := 69) C dX11_lineOf_69 rfl rfl ?_
  obtain ⟨k4, h⟩ := ck_some h
  refine V_getR (pc := 70) C z1_cW_11 fl_RX11_52 rfl dX11_lineOf_70 ?_
  refine V_getF (p1 := ((gR S 0 8) + 1)) (pc := 73) C (zob_of k4) fl_RX11_110 rfl (zf_cW_3_0 (zob_of k4)) dX11_lineOf_73 ?_
  refine V_iload_n (pc := 76) C dX11_lineOf_76 rfl rfl ?_
  obtain ⟨k5, h⟩ := ck_some h
  refine V_aald (p1 := ((gR S 0 8) + 7 + 31 * ix v2)) (pc := 77) C (za_cW_3_0 (zob_of k4)) (fun _ => rfl) k5 (ze_cW_3_0 (zob_of k4) k5) dX11_lineOf_77 ?_
  refine V_iload (pc := 78) C dX11_lineOf_78 rfl ?_
  refine V_aload_n (pc := 80) C dX11_lineOf_80 rfl rfl ?_
  refine V_getF (p1 := 233) (pc := 81) C z1_cW_11 fl_RX11_30 rfl (zf_cW_11_3 z1_cW_11) dX11_lineOf_81 ?_
  obtain ⟨r6, S7, er6, h⟩ := b2_some h
  refine V_callV (As := [.int v1, .ref ((gR S 0 8) + 7 + 31 * ix v2), .int s0, .ref 233]) (pc := 84) C (mX2_lineLets _ (zx_cW_3_0 (zob_of k4) k5) er6) zm_X2_lineLets zi_X2_lineLets ml_RX11_301 z1_cW_2 rfl ⟨Nat.le_of_ble_eq_true rfl, Nat.le_of_ble_eq_true rfl⟩ rfl rfl (Nat.le_of_ble_eq_true rfl) dX11_lineOf_84 ?_
  show V K 87 [some (.ref 0), some (.int v1), some (.int v2), some (.int v3), some (.int v4), some (.int s0)] [.int r6] S7
  refine V_if_eq (tgt := 93) (pc := 87) C dX11_lineOf_87 (by decide) (fun hc => ?_) (fun hc => ?_)
  · have h := it_t hc h
    refine V_iinc (L' := [some (.ref 0), some (.int v1), some (.int v2), some (.int v3), some (.int (v4 + (1 : Int32))), some (.int s0)]) (v := (v4 + (1 : Int32))) (pc := 93) C dX11_lineOf_93 rfl (congrArg (v4 + ·) kc_i_1) (by decide) rfl ?_
    refine V_goto (tgt := 40) (pc := 96) C dX11_lineOf_96 (by decide) ?_
    cases h
    exact V_mask [true, true, true, true, true, false] (hb _ _ rfl)
  · have h := it_f hc h
    refine V_iload (pc := 90) C dX11_lineOf_90 rfl ?_
    cases h
    exact (hret _ rfl) 92 _ ⟨_, rfl, rfl⟩ dX11_lineOf_92
set_option maxRecDepth 100000 in
theorem mX11_lineOf_L40 {K : zK} (C : zC K cX11_lineOf yX11_lineOf.cls 6 5 129 cW) {v1 : Int32} {v2 : Int32} {v3 : Int32}  : ∀ (f : Nat) (S : zM) (v4 : Int32) (r : Int32) (S' : zM), gX11_lineOf_L40 v1 v2 v3 f S v4 = some (r, S') → zR K cX11_lineOf (some .int) S' (some (.int r)) → V K 40 [some (.ref 0), some (.int v1), some (.int v2), some (.int v3), some (.int v4), none] [] S := by
  intro f
  induction f with
  | zero => intro S v4 r S' h hR; cases h
  | succ n ih =>
    intro S v4 r S' h hR
    unfold gX11_lineOf_L40 at h
    refine V_iload (pc := 40) C dX11_lineOf_40 rfl ?_
    refine V_bipush (pc := 42) C dX11_lineOf_42 kc_b_50 ?_
    refine V_icmp_gt (tgt := 99) (pc := 44) C dX11_lineOf_44 (by decide) (fun hc => ?_) (fun hc => ?_)
    · have h := it_t hc h
      refine V_aload_n (pc := 99) C dX11_lineOf_99 rfl rfl ?_
      refine V_bipush (pc := 100) C dX11_lineOf_100 kc_b_6 ?_
      refine V_putI (pc := 102) C z1_cW_11 fp_RX11_104 rfl rfl dX11_lineOf_102 ?_
      refine V_sipush (pc := 105) C dX11_lineOf_105 kc_s_m1000 ?_
      cases h
      exact hR 108 _ ⟨_, rfl, rfl⟩ dX11_lineOf_108
    · have h := it_f hc h
      refine V_iload_n (pc := 47) C dX11_lineOf_47 rfl rfl ?_
      refine V_if_eq (tgt := 57) (pc := 48) C dX11_lineOf_48 (by decide) (fun hc => ?_) (fun hc => ?_)
      · have h := it_t hc h
        refine V_iload (pc := 57) C dX11_lineOf_57 rfl ?_
        obtain ⟨out', e59, hi, hb⟩ := lm_some h
        refine V_mask [true, true, true, true, true, false] (mX11_lineOf_J59 C  e59 ?_ ?_)
        · intro v4 S eo
          have h := hb _ eo
          exact ih _ _ _ _ h hR
        · intro r' eo
          cases hi _ eo
          exact hR
      · have h := it_f hc h
        refine V_iload (pc := 51) C dX11_lineOf_51 rfl ?_
        refine V_ineg (pc := 53) C dX11_lineOf_53 ?_
        refine V_goto (tgt := 59) (pc := 54) C dX11_lineOf_54 (by decide) ?_
        obtain ⟨out', e59, hi, hb⟩ := lm_some h
        refine V_mask [true, true, true, true, true, false] (mX11_lineOf_J59 C  e59 ?_ ?_)
        · intro v4 S eo
          have h := hb _ eo
          exact ih _ _ _ _ h hR
        · intro r' eo
          cases hi _ eo
          exact hR
set_option maxRecDepth 100000 in
theorem mX11_lineOf (l : Launch) {S : zM} {a1 : Int32} {a2 : Int32} {a3 : Int32} {r : Int32} {S' : zM}  (h : gX11_lineOf S a1 a2 a3 = some (r, S')) : zMet l cW zS0 yX11_lineOf cX11_lineOf 6 (some .int) 5 129 [.ref 0, .int a1, .int a2, .int a3] S (some (.int r)) S' := by
  refine zmeth (by decide +kernel) (by rfl) (fun K hKl C hR => ?_)
  show V K 0 [some (.ref 0), some (.int a1), some (.int a2), some (.int a3), none, none] [] S
  unfold gX11_lineOf at h
  refine V_aload_n (pc := 0) C dX11_lineOf_0 rfl rfl ?_
  refine V_aload_n (pc := 1) C dX11_lineOf_1 rfl rfl ?_
  refine V_iload_n (pc := 2) C dX11_lineOf_2 rfl rfl ?_
  obtain ⟨r1, er1, h⟩ := b1_some h
  refine V_callV (As := [.int a1]) (pc := 3) C (mX11_isSayer _ er1) zm_X11_isSayer zi_X11_isSayer ml_RX11_129 z1_cW_11 rfl ⟨Nat.le_of_ble_eq_true rfl, Nat.le_of_ble_eq_true rfl⟩ rfl rfl (Nat.le_of_ble_eq_true rfl) dX11_lineOf_3 ?_
  show V K 6 [some (.ref 0), some (.int a1), some (.int a2), some (.int a3), none, none] [.int r1, .ref 0] S
  refine V_if_eq (tgt := 25) (pc := 6) C dX11_lineOf_6 (by decide) (fun hc => ?_) (fun hc => ?_)
  · have h := it_t hc h
    refine V_iconst (pc := 25) C dX11_lineOf_25 kc_i_1 ?_
    obtain ⟨r2, S3, er2, h⟩ := b2_some h
    refine V_callV (As := [.int (1 : Int32)]) (pc := 26) C (mX11_passes _ er2) zm_X11_passes zi_X11_passes ml_RX11_71 z1_cW_11 rfl ⟨Nat.le_of_ble_eq_true rfl, Nat.le_of_ble_eq_true rfl⟩ rfl rfl (Nat.le_of_ble_eq_true rfl) dX11_lineOf_26 ?_
    show V K 29 [some (.ref 0), some (.int a1), some (.int a2), some (.int a3), none, none] [.int r2] S3
    refine V_if_ne (tgt := 36) (pc := 29) C dX11_lineOf_29 (by decide) (fun hc => ?_) (fun hc => ?_)
    · have h := it_f hc h
      refine V_bipush (pc := 36) C dX11_lineOf_36 kc_b_m50 ?_
      refine V_istore (L' := [some (.ref 0), some (.int a1), some (.int a2), some (.int a3), some (.int (-50 : Int32)), none]) (pc := 38) C dX11_lineOf_38 (by decide) rfl ?_
      exact V_mask [true, true, true, true, true, false] (mX11_lineOf_L40 C  FU _ _ _ _ h hR)
    · have h := it_t hc h
      refine V_sipush (pc := 32) C dX11_lineOf_32 kc_s_m1000 ?_
      cases h
      exact hR 35 _ ⟨_, rfl, rfl⟩ dX11_lineOf_35
  · have h := it_f hc h
    refine V_aload_n (pc := 9) C dX11_lineOf_9 rfl rfl ?_
    refine V_iload_n (pc := 10) C dX11_lineOf_10 rfl rfl ?_
    obtain ⟨r8, er8, h⟩ := b1_some h
    refine V_callV (As := [.int a2]) (pc := 11) C (mX11_isSense _ er8) zm_X11_isSense zi_X11_isSense ml_RX11_107 z1_cW_11 rfl ⟨Nat.le_of_ble_eq_true rfl, Nat.le_of_ble_eq_true rfl⟩ rfl rfl (Nat.le_of_ble_eq_true rfl) dX11_lineOf_11 ?_
    show V K 14 [some (.ref 0), some (.int a1), some (.int a2), some (.int a3), none, none] [.int r8, .ref 0] S
    refine V_if_eq (tgt := 25) (pc := 14) C dX11_lineOf_14 (by decide) (fun hc => ?_) (fun hc => ?_)
    · have h := it_t hc h
      refine V_iconst (pc := 25) C dX11_lineOf_25 kc_i_1 ?_
      obtain ⟨r9, S10, er9, h⟩ := b2_some h
      refine V_callV (As := [.int (1 : Int32)]) (pc := 26) C (mX11_passes _ er9) zm_X11_passes zi_X11_passes ml_RX11_71 z1_cW_11 rfl ⟨Nat.le_of_ble_eq_true rfl, Nat.le_of_ble_eq_true rfl⟩ rfl rfl (Nat.le_of_ble_eq_true rfl) dX11_lineOf_26 ?_
      show V K 29 [some (.ref 0), some (.int a1), some (.int a2), some (.int a3), none, none] [.int r9] S10
      refine V_if_ne (tgt := 36) (pc := 29) C dX11_lineOf_29 (by decide) (fun hc => ?_) (fun hc => ?_)
      · have h := it_f hc h
        refine V_bipush (pc := 36) C dX11_lineOf_36 kc_b_m50 ?_
        refine V_istore (L' := [some (.ref 0), some (.int a1), some (.int a2), some (.int a3), some (.int (-50 : Int32)), none]) (pc := 38) C dX11_lineOf_38 (by decide) rfl ?_
        exact V_mask [true, true, true, true, true, false] (mX11_lineOf_L40 C  FU _ _ _ _ h hR)
      · have h := it_t hc h
        refine V_sipush (pc := 32) C dX11_lineOf_32 kc_s_m1000 ?_
        cases h
        exact hR 35 _ ⟨_, rfl, rfl⟩ dX11_lineOf_35
    · have h := it_f hc h
      refine V_aload_n (pc := 17) C dX11_lineOf_17 rfl rfl ?_
      refine V_iload_n (pc := 18) C dX11_lineOf_18 rfl rfl ?_
      obtain ⟨r11, er11, h⟩ := b1_some h
      refine V_callV (As := [.int a1]) (pc := 19) C (mX11_whyNotJudged _ er11) zm_X11_whyNotJudged zi_X11_whyNotJudged ml_RX11_294 z1_cW_11 rfl ⟨Nat.le_of_ble_eq_true rfl, Nat.le_of_ble_eq_true rfl⟩ rfl rfl (Nat.le_of_ble_eq_true rfl) dX11_lineOf_19 ?_
      show V K 22 [some (.ref 0), some (.int a1), some (.int a2), some (.int a3), none, none] [.int r11, .ref 0] S
      refine V_goto (tgt := 26) (pc := 22) C dX11_lineOf_22 (by decide) ?_
      obtain ⟨r12, S13, er12, h⟩ := b2_some h
      refine V_callV (As := [.int r11]) (pc := 26) C (mX11_passes _ er12) zm_X11_passes zi_X11_passes ml_RX11_71 z1_cW_11 rfl ⟨Nat.le_of_ble_eq_true rfl, Nat.le_of_ble_eq_true rfl⟩ rfl rfl (Nat.le_of_ble_eq_true rfl) dX11_lineOf_26 ?_
      show V K 29 [some (.ref 0), some (.int a1), some (.int a2), some (.int a3), none, none] [.int r12] S13
      refine V_if_ne (tgt := 36) (pc := 29) C dX11_lineOf_29 (by decide) (fun hc => ?_) (fun hc => ?_)
      · have h := it_f hc h
        refine V_bipush (pc := 36) C dX11_lineOf_36 kc_b_m50 ?_
        refine V_istore (L' := [some (.ref 0), some (.int a1), some (.int a2), some (.int a3), some (.int (-50 : Int32)), none]) (pc := 38) C dX11_lineOf_38 (by decide) rfl ?_
        exact V_mask [true, true, true, true, true, false] (mX11_lineOf_L40 C  FU _ _ _ _ h hR)
      · have h := it_t hc h
        refine V_sipush (pc := 32) C dX11_lineOf_32 kc_s_m1000 ?_
        cases h
        exact hR 35 _ ⟨_, rfl, rfl⟩ dX11_lineOf_35
set_option maxRecDepth 100000 in
theorem mX11_secondOf_J73 {K : zK} (C : zC K cX11_secondOf yX11_secondOf.cls 7 5 131 cW) {S : zM} {v1 : Int32} {v2 : Int32} {v3 : Int32} {v4 : Int32} {v5 : Int32} {s0 : Int32} {out : (Int32 × zM) ⊕ (Int32 × zM)}  (h : gX11_secondOf_J73 S v1 v2 v3 v4 v5 s0 = some out) (hb : ∀ (b5 : Int32) (S' : zM), out = .inr (b5, S') → V K 54 [some (.ref 0), some (.int v1), some (.int v2), some (.int v3), some (.int v4), some (.int b5), none] [] S') (hret : ∀ r' : (Int32 × zM), out = .inl r' → zR K cX11_secondOf (some .int) r'.2 (some (.int (r'.1)))) : V K 73 [some (.ref 0), some (.int v1), some (.int v2), some (.int v3), some (.int v4), some (.int v5), none] [.int s0] S := by
  unfold gX11_secondOf_J73 at h
  refine V_istore (L' := [some (.ref 0), some (.int v1), some (.int v2), some (.int v3), some (.int v4), some (.int v5), some (.int s0)]) (pc := 73) C dX11_secondOf_73 (by decide) rfl ?_
  refine V_aload_n (pc := 75) C dX11_secondOf_75 rfl rfl ?_
  refine V_getF (p1 := 219) (pc := 76) C z1_cW_11 fl_RX11_23 rfl (zf_cW_11_2 z1_cW_11) dX11_secondOf_76 ?_
  refine V_getF (p1 := 221) (pc := 79) C z1_cW_1 fl_RX11_297 rfl (zf_cW_1_1 z1_cW_1) dX11_secondOf_79 ?_
  refine V_iload_n (pc := 82) C dX11_secondOf_82 rfl rfl ?_
  refine V_aload_n (pc := 83) C dX11_secondOf_83 rfl rfl ?_
  obtain ⟨k7, h⟩ := ck_some h
  refine V_getR (pc := 84) C z1_cW_11 fl_RX11_52 rfl dX11_secondOf_84 ?_
  refine V_getF (p1 := ((gR S 0 8) + 1)) (pc := 87) C (zob_of k7) fl_RX11_110 rfl (zf_cW_3_0 (zob_of k7)) dX11_secondOf_87 ?_
  refine V_iload_n (pc := 90) C dX11_secondOf_90 rfl rfl ?_
  obtain ⟨k8, h⟩ := ck_some h
  refine V_aald (p1 := ((gR S 0 8) + 7 + 31 * ix v2)) (pc := 91) C (za_cW_3_0 (zob_of k7)) (fun _ => rfl) k8 (ze_cW_3_0 (zob_of k7) k8) dX11_secondOf_91 ?_
  refine V_iload (pc := 92) C dX11_secondOf_92 rfl ?_
  refine V_iload (pc := 94) C dX11_secondOf_94 rfl ?_
  refine V_aload_n (pc := 96) C dX11_secondOf_96 rfl rfl ?_
  refine V_getF (p1 := 233) (pc := 97) C z1_cW_11 fl_RX11_30 rfl (zf_cW_11_3 z1_cW_11) dX11_secondOf_97 ?_
  obtain ⟨r9, S10, er9, h⟩ := b2_some h
  refine V_callV (As := [.int v1, .ref ((gR S 0 8) + 7 + 31 * ix v2), .int s0, .int v4, .ref 233]) (pc := 100) C (mX2_secondLets _ (zx_cW_3_0 (zob_of k7) k8) er9) zm_X2_secondLets zi_X2_secondLets ml_RX11_307 z1_cW_2 rfl ⟨Nat.le_of_ble_eq_true rfl, Nat.le_of_ble_eq_true rfl⟩ rfl rfl (Nat.le_of_ble_eq_true rfl) dX11_secondOf_100 ?_
  show V K 103 [some (.ref 0), some (.int v1), some (.int v2), some (.int v3), some (.int v4), some (.int v5), some (.int s0)] [.int r9] S10
  refine V_if_eq (tgt := 109) (pc := 103) C dX11_secondOf_103 (by decide) (fun hc => ?_) (fun hc => ?_)
  · have h := it_t hc h
    refine V_iinc (L' := [some (.ref 0), some (.int v1), some (.int v2), some (.int v3), some (.int v4), some (.int (v5 + (1 : Int32))), some (.int s0)]) (v := (v5 + (1 : Int32))) (pc := 109) C dX11_secondOf_109 rfl (congrArg (v5 + ·) kc_i_1) (by decide) rfl ?_
    refine V_goto (tgt := 54) (pc := 112) C dX11_secondOf_112 (by decide) ?_
    cases h
    exact V_mask [true, true, true, true, true, true, false] (hb _ _ rfl)
  · have h := it_f hc h
    refine V_iload (pc := 106) C dX11_secondOf_106 rfl ?_
    cases h
    exact (hret _ rfl) 108 _ ⟨_, rfl, rfl⟩ dX11_secondOf_108
set_option maxRecDepth 100000 in
theorem mX11_secondOf_L54 {K : zK} (C : zC K cX11_secondOf yX11_secondOf.cls 7 5 131 cW) {v1 : Int32} {v2 : Int32} {v3 : Int32} {v4 : Int32}  : ∀ (f : Nat) (S : zM) (v5 : Int32) (r : Int32) (S' : zM), gX11_secondOf_L54 v1 v2 v3 v4 f S v5 = some (r, S') → zR K cX11_secondOf (some .int) S' (some (.int r)) → V K 54 [some (.ref 0), some (.int v1), some (.int v2), some (.int v3), some (.int v4), some (.int v5), none] [] S := by
  intro f
  induction f with
  | zero => intro S v5 r S' h hR; cases h
  | succ n ih =>
    intro S v5 r S' h hR
    unfold gX11_secondOf_L54 at h
    refine V_iload (pc := 54) C dX11_secondOf_54 rfl ?_
    refine V_bipush (pc := 56) C dX11_secondOf_56 kc_b_50 ?_
    refine V_icmp_gt (tgt := 115) (pc := 58) C dX11_secondOf_58 (by decide) (fun hc => ?_) (fun hc => ?_)
    · have h := it_t hc h
      refine V_aload_n (pc := 115) C dX11_secondOf_115 rfl rfl ?_
      refine V_bipush (pc := 116) C dX11_secondOf_116 kc_b_6 ?_
      refine V_putI (pc := 118) C z1_cW_11 fp_RX11_104 rfl rfl dX11_secondOf_118 ?_
      refine V_sipush (pc := 121) C dX11_secondOf_121 kc_s_m1000 ?_
      cases h
      exact hR 124 _ ⟨_, rfl, rfl⟩ dX11_secondOf_124
    · have h := it_f hc h
      refine V_iload_n (pc := 61) C dX11_secondOf_61 rfl rfl ?_
      refine V_if_eq (tgt := 71) (pc := 62) C dX11_secondOf_62 (by decide) (fun hc => ?_) (fun hc => ?_)
      · have h := it_t hc h
        refine V_iload (pc := 71) C dX11_secondOf_71 rfl ?_
        obtain ⟨out', e73, hi, hb⟩ := lm_some h
        refine V_mask [true, true, true, true, true, true, false] (mX11_secondOf_J73 C  e73 ?_ ?_)
        · intro v5 S eo
          have h := hb _ eo
          exact ih _ _ _ _ h hR
        · intro r' eo
          cases hi _ eo
          exact hR
      · have h := it_f hc h
        refine V_iload (pc := 65) C dX11_secondOf_65 rfl ?_
        refine V_ineg (pc := 67) C dX11_secondOf_67 ?_
        refine V_goto (tgt := 73) (pc := 68) C dX11_secondOf_68 (by decide) ?_
        obtain ⟨out', e73, hi, hb⟩ := lm_some h
        refine V_mask [true, true, true, true, true, true, false] (mX11_secondOf_J73 C  e73 ?_ ?_)
        · intro v5 S eo
          have h := hb _ eo
          exact ih _ _ _ _ h hR
        · intro r' eo
          cases hi _ eo
          exact hR
set_option maxRecDepth 100000 in
theorem mX11_secondOf_J26 {K : zK} (C : zC K cX11_secondOf yX11_secondOf.cls 7 5 131 cW) {S : zM} {v1 : Int32} {v2 : Int32} {v3 : Int32} {s0 : Int32} {r : Int32} {S' : zM}  (hR : zR K cX11_secondOf (some .int) S' (some (.int r))) (h : gX11_secondOf_J26 S v1 v2 v3 s0 = some (r, S')) : V K 26 [some (.ref 0), some (.int v1), some (.int v2), some (.int v3), none, none, none] [.int s0, .ref 0] S := by
  unfold gX11_secondOf_J26 at h
  obtain ⟨r2, S3, er2, h⟩ := b2_some h
  refine V_callV (As := [.int s0]) (pc := 26) C (mX11_passes _ er2) zm_X11_passes zi_X11_passes ml_RX11_71 z1_cW_11 rfl ⟨Nat.le_of_ble_eq_true rfl, Nat.le_of_ble_eq_true rfl⟩ rfl rfl (Nat.le_of_ble_eq_true rfl) dX11_secondOf_26 ?_
  show V K 29 [some (.ref 0), some (.int v1), some (.int v2), some (.int v3), none, none, none] [.int r2] S3
  refine V_if_ne (tgt := 36) (pc := 29) C dX11_secondOf_29 (by decide) (fun hc => ?_) (fun hc => ?_)
  · have h := it_f hc h
    refine V_aload_n (pc := 36) C dX11_secondOf_36 rfl rfl ?_
    obtain ⟨k4, h⟩ := ck_some h
    refine V_getR (pc := 37) C z1_cW_11 fl_RX11_52 rfl dX11_secondOf_37 ?_
    refine V_getF (p1 := ((gR S3 0 8) + 2)) (pc := 40) C (zob_of k4) fl_RX11_132 rfl (zf_cW_3_1 (zob_of k4)) dX11_secondOf_40 ?_
    refine V_iload_n (pc := 43) C dX11_secondOf_43 rfl rfl ?_
    obtain ⟨k5, h⟩ := ck_some h
    refine V_aald (p1 := ((gR S3 0 8) + 193 + 2 * ix v1)) (pc := 44) C (za_cW_3_1 (zob_of k4)) (fun _ => rfl) k5 (ze_cW_3_1 (zob_of k4) k5) dX11_secondOf_44 ?_
    refine V_getI (pc := 45) C (zx_cW_3_1 (zob_of k4) k5) fl_RX11_168 (by decide) dX11_secondOf_45 ?_
    obtain ⟨x6, ex6, h⟩ := lt_some h
    refine V_nmI ex6 ?_
    refine V_istore (L' := [some (.ref 0), some (.int v1), some (.int v2), some (.int v3), some (.int x6), none, none]) (pc := 48) C dX11_secondOf_48 (by decide) rfl ?_
    refine V_bipush (pc := 50) C dX11_secondOf_50 kc_b_m50 ?_
    refine V_istore (L' := [some (.ref 0), some (.int v1), some (.int v2), some (.int v3), some (.int x6), some (.int (-50 : Int32)), none]) (pc := 52) C dX11_secondOf_52 (by decide) rfl ?_
    exact V_mask [true, true, true, true, true, true, false] (mX11_secondOf_L54 C  FU _ _ _ _ h hR)
  · have h := it_t hc h
    refine V_sipush (pc := 32) C dX11_secondOf_32 kc_s_m1000 ?_
    cases h
    exact hR 35 _ ⟨_, rfl, rfl⟩ dX11_secondOf_35
set_option maxRecDepth 100000 in
theorem mX11_secondOf (l : Launch) {S : zM} {a1 : Int32} {a2 : Int32} {a3 : Int32} {r : Int32} {S' : zM}  (h : gX11_secondOf S a1 a2 a3 = some (r, S')) : zMet l cW zS0 yX11_secondOf cX11_secondOf 7 (some .int) 5 131 [.ref 0, .int a1, .int a2, .int a3] S (some (.int r)) S' := by
  refine zmeth (by decide +kernel) (by rfl) (fun K hKl C hR => ?_)
  show V K 0 [some (.ref 0), some (.int a1), some (.int a2), some (.int a3), none, none, none] [] S
  unfold gX11_secondOf at h
  refine V_aload_n (pc := 0) C dX11_secondOf_0 rfl rfl ?_
  refine V_aload_n (pc := 1) C dX11_secondOf_1 rfl rfl ?_
  refine V_iload_n (pc := 2) C dX11_secondOf_2 rfl rfl ?_
  obtain ⟨r1, er1, h⟩ := b1_some h
  refine V_callV (As := [.int a1]) (pc := 3) C (mX11_isSayer _ er1) zm_X11_isSayer zi_X11_isSayer ml_RX11_129 z1_cW_11 rfl ⟨Nat.le_of_ble_eq_true rfl, Nat.le_of_ble_eq_true rfl⟩ rfl rfl (Nat.le_of_ble_eq_true rfl) dX11_secondOf_3 ?_
  show V K 6 [some (.ref 0), some (.int a1), some (.int a2), some (.int a3), none, none, none] [.int r1, .ref 0] S
  refine V_if_eq (tgt := 25) (pc := 6) C dX11_secondOf_6 (by decide) (fun hc => ?_) (fun hc => ?_)
  · have h := it_t hc h
    refine V_iconst (pc := 25) C dX11_secondOf_25 kc_i_1 ?_
    exact V_mask [true, true, true, true, false, false, false] (mX11_secondOf_J26 C  hR h)
  · have h := it_f hc h
    refine V_aload_n (pc := 9) C dX11_secondOf_9 rfl rfl ?_
    refine V_iload_n (pc := 10) C dX11_secondOf_10 rfl rfl ?_
    obtain ⟨r11, er11, h⟩ := b1_some h
    refine V_callV (As := [.int a2]) (pc := 11) C (mX11_isSense _ er11) zm_X11_isSense zi_X11_isSense ml_RX11_107 z1_cW_11 rfl ⟨Nat.le_of_ble_eq_true rfl, Nat.le_of_ble_eq_true rfl⟩ rfl rfl (Nat.le_of_ble_eq_true rfl) dX11_secondOf_11 ?_
    show V K 14 [some (.ref 0), some (.int a1), some (.int a2), some (.int a3), none, none, none] [.int r11, .ref 0] S
    refine V_if_eq (tgt := 25) (pc := 14) C dX11_secondOf_14 (by decide) (fun hc => ?_) (fun hc => ?_)
    · have h := it_t hc h
      refine V_iconst (pc := 25) C dX11_secondOf_25 kc_i_1 ?_
      exact V_mask [true, true, true, true, false, false, false] (mX11_secondOf_J26 C  hR h)
    · have h := it_f hc h
      refine V_aload_n (pc := 17) C dX11_secondOf_17 rfl rfl ?_
      refine V_iload_n (pc := 18) C dX11_secondOf_18 rfl rfl ?_
      obtain ⟨r12, er12, h⟩ := b1_some h
      refine V_callV (As := [.int a1]) (pc := 19) C (mX11_whyNotJudged _ er12) zm_X11_whyNotJudged zi_X11_whyNotJudged ml_RX11_294 z1_cW_11 rfl ⟨Nat.le_of_ble_eq_true rfl, Nat.le_of_ble_eq_true rfl⟩ rfl rfl (Nat.le_of_ble_eq_true rfl) dX11_secondOf_19 ?_
      show V K 22 [some (.ref 0), some (.int a1), some (.int a2), some (.int a3), none, none, none] [.int r12, .ref 0] S
      refine V_goto (tgt := 26) (pc := 22) C dX11_secondOf_22 (by decide) ?_
      exact V_mask [true, true, true, true, false, false, false] (mX11_secondOf_J26 C  hR h)
set_option maxRecDepth 100000 in
theorem mX11_isPercent (l : Launch) {S : zM} {a0 : Int32} {r : Int32}  (h : gX11_isPercent a0 = some r) : zMet l cW zS0 yX11_isPercent cX11_isPercent 1 (some .boolean) 0 0 [.int a0] S (some (.int r)) S := by
  refine zmeth (by decide +kernel) (by rfl) (fun K hKl C hR => ?_)
  show V K 0 [some (.int a0)] [] S
  unfold gX11_isPercent at h
  refine V_iload_n (pc := 0) C dX11_isPercent_0 rfl rfl ?_
  refine V_iconst (pc := 1) C dX11_isPercent_1 kc_i_1 ?_
  refine V_icmp_lt (tgt := 15) (pc := 2) C dX11_isPercent_2 (by decide) (fun hc => ?_) (fun hc => ?_)
  · have h := it_t hc h
    refine V_iconst (pc := 15) C dX11_isPercent_15 kc_i_0 ?_
    cases h
    exact hR 16 _ ⟨_, rfl, zB0⟩ dX11_isPercent_16
  · have h := it_f hc h
    refine V_iload_n (pc := 5) C dX11_isPercent_5 rfl rfl ?_
    refine V_bipush (pc := 6) C dX11_isPercent_6 kc_b_100 ?_
    refine V_icmp_gt (tgt := 15) (pc := 8) C dX11_isPercent_8 (by decide) (fun hc => ?_) (fun hc => ?_)
    · have h := it_t hc h
      refine V_iconst (pc := 15) C dX11_isPercent_15 kc_i_0 ?_
      cases h
      exact hR 16 _ ⟨_, rfl, zB0⟩ dX11_isPercent_16
    · have h := it_f hc h
      refine V_iconst (pc := 11) C dX11_isPercent_11 kc_i_1 ?_
      refine V_goto (tgt := 16) (pc := 12) C dX11_isPercent_12 (by decide) ?_
      cases h
      exact hR 16 _ ⟨_, rfl, zB1⟩ dX11_isPercent_16
set_option maxRecDepth 100000 in
theorem mX11_needed_L30 {K : zK} (C : zC K cX11_needed yX11_needed.cls 9 3 67 cW) {S : zM} {v1 : Nat} {v2 : Int32} {v3 : Int32} {v4 : Nat} {v5 : Nat} {v6 : Int32} (hv1 : zob cW 8 v1) (hv4 : zob cW 9 v4) (hv5 : zob cW 4 v5) : ∀ (f : Nat) (v7 : Int32) (r : Int32), gX11_needed_L30 S v1 v2 v3 v4 v5 v6 f v7 = some r → zR K cX11_needed (some .int) S (some (.int r)) → V K 30 [none, some (.ref v1), some (.int v2), some (.int v3), some (.ref v4), some (.ref v5), some (.int v6), some (.int v7), none] [] S := by
  intro f
  induction f with
  | zero => intro v7 r h hR; cases h
  | succ n ih =>
    intro v7 r h hR
    unfold gX11_needed_L30 at h
    refine V_iload_n (pc := 30) C dX11_needed_30 rfl rfl ?_
    refine V_iload (pc := 31) C dX11_needed_31 rfl ?_
    refine V_iadd (pc := 33) C dX11_needed_33 ?_
    refine V_sipush (pc := 34) C dX11_needed_34 kc_s_400 ?_
    refine V_icmp_gt (tgt := 88) (pc := 37) C dX11_needed_37 (by decide) (fun hc => ?_) (fun hc => ?_)
    · have h := it_t hc h
      refine V_bipush (pc := 88) C dX11_needed_88 kc_b_m2 ?_
      cases h
      exact hR 90 _ ⟨_, rfl, rfl⟩ dX11_needed_90
    · have h := it_f hc h
      refine V_aload (pc := 40) C dX11_needed_40 rfl ?_
      refine V_aload (pc := 42) C dX11_needed_42 rfl ?_
      refine V_iload_n (pc := 44) C dX11_needed_44 rfl rfl ?_
      refine V_iload (pc := 45) C dX11_needed_45 rfl ?_
      refine V_iadd (pc := 47) C dX11_needed_47 ?_
      obtain ⟨r4, er4, h⟩ := b1_some h
      refine V_callV (As := [.int (v2 + v7)]) (pc := 48) C (mX9_levelAt _ hv4 er4) zm_X9_levelAt zi_X9_levelAt ml_RX11_114 hv4 rfl ⟨Nat.le_of_ble_eq_true rfl, Nat.le_of_ble_eq_true rfl⟩ rfl rfl (Nat.le_of_ble_eq_true rfl) dX11_needed_48 ?_
      show V K 51 [none, some (.ref v1), some (.int v2), some (.int v3), some (.ref v4), some (.ref v5), some (.int v6), some (.int v7), none] [.int r4, .ref v5] S
      refine V_iload (pc := 51) C dX11_needed_51 rfl ?_
      refine V_isub (pc := 53) C dX11_needed_53 ?_
      refine V_aload_n (pc := 54) C dX11_needed_54 rfl rfl ?_
      refine V_getI (pc := 55) C hv1 fl_RX11_168 (by decide) dX11_needed_55 ?_
      refine V_iconst (pc := 58) C dX11_needed_58 kc_i_1 ?_
      obtain ⟨r5, er5, h⟩ := b1_some h
      refine V_callV (As := [.int (r4 - v6), .int (gI S v1 6), .int (1 : Int32)]) (pc := 59) C (mX4_pairOdds _ hv5 er5) zm_X4_pairOdds zi_X4_pairOdds ml_RX11_344 hv5 rfl ⟨Nat.le_of_ble_eq_true rfl, Nat.le_of_ble_eq_true rfl⟩ rfl rfl (Nat.le_of_ble_eq_true rfl) dX11_needed_59 ?_
      show V K 62 [none, some (.ref v1), some (.int v2), some (.int v3), some (.ref v4), some (.ref v5), some (.int v6), some (.int v7), none] [.int r5] S
      refine V_istore (L' := [none, some (.ref v1), some (.int v2), some (.int v3), some (.ref v4), some (.ref v5), some (.int v6), some (.int v7), some (.int r5)]) (pc := 62) C dX11_needed_62 (by decide) rfl ?_
      refine V_bipush (pc := 64) C dX11_needed_64 kc_b_100 ?_
      refine V_iload (pc := 66) C dX11_needed_66 rfl ?_
      refine V_imul (pc := 68) C dX11_needed_68 ?_
      refine V_iload_n (pc := 69) C dX11_needed_69 rfl rfl ?_
      refine V_aload (pc := 70) C dX11_needed_70 rfl ?_
      obtain ⟨r6, er6, h⟩ := b1_some h
      refine V_callV (As := []) (pc := 72) C (mX4_pairs _ hv5 er6) zm_X4_pairs zi_X4_pairs ml_RX11_348 hv5 rfl ⟨Nat.le_of_ble_eq_true rfl, Nat.le_of_ble_eq_true rfl⟩ rfl rfl (Nat.le_of_ble_eq_true rfl) dX11_needed_72 ?_
      show V K 75 [none, some (.ref v1), some (.int v2), some (.int v3), some (.ref v4), some (.ref v5), some (.int v6), some (.int v7), some (.int r5)] [.int r6, .int v3, .int ((100 : Int32) * r5)] S
      refine V_imul (pc := 75) C dX11_needed_75 ?_
      refine V_icmp_lt (tgt := 82) (pc := 76) C dX11_needed_76 (by decide) (fun hc => ?_) (fun hc => ?_)
      · have h := it_t hc h
        refine V_iinc (L' := [none, some (.ref v1), some (.int v2), some (.int v3), some (.ref v4), some (.ref v5), some (.int v6), some (.int (v7 + (1 : Int32))), some (.int r5)]) (v := (v7 + (1 : Int32))) (pc := 82) C dX11_needed_82 rfl (congrArg (v7 + ·) kc_i_1) (by decide) rfl ?_
        refine V_goto (tgt := 30) (pc := 85) C dX11_needed_85 (by decide) ?_
        exact V_mask [false, true, true, true, true, true, true, true, false] (ih _ _ h hR)
      · have h := it_f hc h
        refine V_iload (pc := 79) C dX11_needed_79 rfl ?_
        cases h
        exact hR 81 _ ⟨_, rfl, rfl⟩ dX11_needed_81
set_option maxRecDepth 100000 in
theorem mX11_needed (l : Launch) {S : zM} {a1 : Nat} {a2 : Int32} {a3 : Int32} {r : Int32} (ha1 : zob cW 8 a1) (h : gX11_needed S a1 a2 a3 = some r) : zMet l cW zS0 yX11_needed cX11_needed 9 (some .int) 3 67 [.ref 0, .ref a1, .int a2, .int a3] S (some (.int r)) S := by
  refine zmeth (by decide +kernel) (by rfl) (fun K hKl C hR => ?_)
  show V K 0 [some (.ref 0), some (.ref a1), some (.int a2), some (.int a3), none, none, none, none, none] [] S
  unfold gX11_needed at h
  refine V_aload_n (pc := 0) C dX11_needed_0 rfl rfl ?_
  refine V_aload_n (pc := 1) C dX11_needed_1 rfl rfl ?_
  obtain ⟨r1, er1, h⟩ := b1_some h
  refine V_callV (As := [.ref a1]) (pc := 2) C (mX11_senseOf _ ha1 er1) zm_X11_senseOf zi_X11_senseOf ml_RX11_337 z1_cW_11 rfl ⟨Nat.le_of_ble_eq_true rfl, Nat.le_of_ble_eq_true rfl⟩ rfl rfl (Nat.le_of_ble_eq_true rfl) dX11_needed_2 ?_
  show V K 5 [some (.ref 0), some (.ref a1), some (.int a2), some (.int a3), none, none, none, none, none] [.ref r1] S
  refine V_astore (L' := [some (.ref 0), some (.ref a1), some (.int a2), some (.int a3), some (.ref r1), none, none, none, none]) (pc := 5) C dX11_needed_5 (by decide) rfl ?_
  refine V_aload (pc := 7) C dX11_needed_7 rfl ?_
  obtain ⟨r2, er2, h⟩ := b1_some h
  refine V_callV (As := []) (pc := 9) C (mX9_fresh _ (mX11_senseOf_f ha1 er1) er2) zm_X9_fresh zi_X9_fresh ml_RX11_120 (mX11_senseOf_f ha1 er1) rfl ⟨Nat.le_of_ble_eq_true rfl, Nat.le_of_ble_eq_true rfl⟩ rfl rfl (Nat.le_of_ble_eq_true rfl) dX11_needed_9 ?_
  show V K 12 [some (.ref 0), some (.ref a1), some (.int a2), some (.int a3), some (.ref r1), none, none, none, none] [.ref r2] S
  refine V_astore (L' := [some (.ref 0), some (.ref a1), some (.int a2), some (.int a3), some (.ref r1), some (.ref r2), none, none, none]) (pc := 12) C dX11_needed_12 (by decide) rfl ?_
  refine V_aload (pc := 14) C dX11_needed_14 rfl ?_
  refine V_iload_n (pc := 16) C dX11_needed_16 rfl rfl ?_
  obtain ⟨r3, er3, h⟩ := b1_some h
  refine V_callV (As := [.int a2]) (pc := 17) C (mX9_levelAt _ (mX11_senseOf_f ha1 er1) er3) zm_X9_levelAt zi_X9_levelAt ml_RX11_114 (mX11_senseOf_f ha1 er1) rfl ⟨Nat.le_of_ble_eq_true rfl, Nat.le_of_ble_eq_true rfl⟩ rfl rfl (Nat.le_of_ble_eq_true rfl) dX11_needed_17 ?_
  show V K 20 [some (.ref 0), some (.ref a1), some (.int a2), some (.int a3), some (.ref r1), some (.ref r2), none, none, none] [.int r3] S
  refine V_aload_n (pc := 20) C dX11_needed_20 rfl rfl ?_
  refine V_getI (pc := 21) C ha1 fl_RX11_144 (by decide) dX11_needed_21 ?_
  refine V_isub (pc := 24) C dX11_needed_24 ?_
  refine V_istore (L' := [some (.ref 0), some (.ref a1), some (.int a2), some (.int a3), some (.ref r1), some (.ref r2), some (.int (r3 - (gI S a1 3))), none, none]) (pc := 25) C dX11_needed_25 (by decide) rfl ?_
  refine V_iconst (pc := 27) C dX11_needed_27 kc_i_1 ?_
  refine V_istore (L' := [some (.ref 0), some (.ref a1), some (.int a2), some (.int a3), some (.ref r1), some (.ref r2), some (.int (r3 - (gI S a1 3))), some (.int (1 : Int32)), none]) (pc := 28) C dX11_needed_28 (by decide) rfl ?_
  exact V_mask [false, true, true, true, true, true, true, true, false] (mX11_needed_L30 C ha1 (mX11_senseOf_f ha1 er1) (mX9_fresh_f (mX11_senseOf_f ha1 er1) er2) FU _ _ h hR)
set_option maxRecDepth 100000 in
theorem mX11_more_J40 {K : zK} (C : zC K cX11_more yX11_more.cls 4 4 95 cW) {S : zM} {v1 : Int32} {v2 : Int32} {v3 : Int32} {s0 : Int32} {r : Int32} {S' : zM}  (hR : zR K cX11_more (some .int) S' (some (.int r))) (h : gX11_more_J40 S v1 v2 v3 s0 = some (r, S')) : V K 40 [some (.ref 0), some (.int v1), some (.int v2), some (.int v3)] [.int s0, .ref 0] S := by
  unfold gX11_more_J40 at h
  obtain ⟨r5, S6, er5, h⟩ := b2_some h
  refine V_callV (As := [.int s0]) (pc := 40) C (mX11_passes _ er5) zm_X11_passes zi_X11_passes ml_RX11_71 z1_cW_11 rfl ⟨Nat.le_of_ble_eq_true rfl, Nat.le_of_ble_eq_true rfl⟩ rfl rfl (Nat.le_of_ble_eq_true rfl) dX11_more_40 ?_
  show V K 43 [some (.ref 0), some (.int v1), some (.int v2), some (.int v3)] [.int r5] S6
  refine V_if_ne (tgt := 48) (pc := 43) C dX11_more_43 (by decide) (fun hc => ?_) (fun hc => ?_)
  · have h := it_f hc h
    refine V_aload_n (pc := 48) C dX11_more_48 rfl rfl ?_
    refine V_aload_n (pc := 49) C dX11_more_49 rfl rfl ?_
    obtain ⟨k7, h⟩ := ck_some h
    refine V_getR (pc := 50) C z1_cW_11 fl_RX11_52 rfl dX11_more_50 ?_
    refine V_getF (p1 := ((gR S6 0 8) + 2)) (pc := 53) C (zob_of k7) fl_RX11_132 rfl (zf_cW_3_1 (zob_of k7)) dX11_more_53 ?_
    refine V_iload_n (pc := 56) C dX11_more_56 rfl rfl ?_
    obtain ⟨k8, h⟩ := ck_some h
    refine V_aald (p1 := ((gR S6 0 8) + 193 + 2 * ix v1)) (pc := 57) C (za_cW_3_1 (zob_of k7)) (fun _ => rfl) k8 (ze_cW_3_1 (zob_of k7) k8) dX11_more_57 ?_
    refine V_iload_n (pc := 58) C dX11_more_58 rfl rfl ?_
    refine V_iload_n (pc := 59) C dX11_more_59 rfl rfl ?_
    obtain ⟨r9, er9, h⟩ := b1_some h
    refine V_callV (As := [.ref ((gR S6 0 8) + 193 + 2 * ix v1), .int v2, .int v3]) (pc := 60) C (mX11_needed _ (zx_cW_3_1 (zob_of k7) k8) er9) zm_X11_needed zi_X11_needed ml_RX11_330 z1_cW_11 rfl ⟨Nat.le_of_ble_eq_true rfl, Nat.le_of_ble_eq_true rfl⟩ rfl rfl (Nat.le_of_ble_eq_true rfl) dX11_more_60 ?_
    show V K 63 [some (.ref 0), some (.int v1), some (.int v2), some (.int v3)] [.int r9] S6
    cases h
    exact hR 63 _ ⟨_, rfl, rfl⟩ dX11_more_63
  · have h := it_t hc h
    refine V_iconst (pc := 46) C dX11_more_46 kc_i_m1 ?_
    cases h
    exact hR 47 _ ⟨_, rfl, rfl⟩ dX11_more_47
set_option maxRecDepth 100000 in
theorem mX11_more_J14 {K : zK} (C : zC K cX11_more yX11_more.cls 4 4 95 cW) {S : zM} {v1 : Int32} {v2 : Int32} {v3 : Int32} {s0 : Int32} {r : Int32} {S' : zM}  (hR : zR K cX11_more (some .int) S' (some (.int r))) (h : gX11_more_J14 S v1 v2 v3 s0 = some (r, S')) : V K 14 [some (.ref 0), some (.int v1), some (.int v2), some (.int v3)] [.int s0, .ref 0] S := by
  unfold gX11_more_J14 at h
  obtain ⟨r2, S3, er2, h⟩ := b2_some h
  refine V_callV (As := [.int s0]) (pc := 14) C (mX11_passes _ er2) zm_X11_passes zi_X11_passes ml_RX11_71 z1_cW_11 rfl ⟨Nat.le_of_ble_eq_true rfl, Nat.le_of_ble_eq_true rfl⟩ rfl rfl (Nat.le_of_ble_eq_true rfl) dX11_more_14 ?_
  show V K 17 [some (.ref 0), some (.int v1), some (.int v2), some (.int v3)] [.int r2] S3
  refine V_if_eq (tgt := 46) (pc := 17) C dX11_more_17 (by decide) (fun hc => ?_) (fun hc => ?_)
  · have h := it_t hc h
    refine V_iconst (pc := 46) C dX11_more_46 kc_i_m1 ?_
    cases h
    exact hR 47 _ ⟨_, rfl, rfl⟩ dX11_more_47
  · have h := it_f hc h
    refine V_aload_n (pc := 20) C dX11_more_20 rfl rfl ?_
    refine V_iload_n (pc := 21) C dX11_more_21 rfl rfl ?_
    obtain ⟨r4, er4, h⟩ := b1_some h
    refine V_callS (As := [.int v2]) (pc := 22) C (mX11_isSize _ er4) zm_X11_isSize zs_X11_isSize ml_RX11_242 ⟨Nat.le_of_ble_eq_true rfl, Nat.le_of_ble_eq_true rfl⟩ rfl rfl (Nat.le_of_ble_eq_true rfl) dX11_more_22 ?_
    show V K 25 [some (.ref 0), some (.int v1), some (.int v2), some (.int v3)] [.int r4, .ref 0] S3
    refine V_if_eq (tgt := 39) (pc := 25) C dX11_more_25 (by decide) (fun hc => ?_) (fun hc => ?_)
    · have h := it_t hc h
      refine V_iconst (pc := 39) C dX11_more_39 kc_i_2 ?_
      exact V_mask [true, true, true, true] (mX11_more_J40 C  hR h)
    · have h := it_f hc h
      refine V_iload_n (pc := 28) C dX11_more_28 rfl rfl ?_
      obtain ⟨r10, er10, h⟩ := b1_some h
      refine V_callS (As := [.int v3]) (pc := 29) C (mX11_isPercent _ er10) zm_X11_isPercent zs_X11_isPercent ml_RX11_327 ⟨Nat.le_of_ble_eq_true rfl, Nat.le_of_ble_eq_true rfl⟩ rfl rfl (Nat.le_of_ble_eq_true rfl) dX11_more_29 ?_
      show V K 32 [some (.ref 0), some (.int v1), some (.int v2), some (.int v3)] [.int r10, .ref 0] S3
      refine V_if_eq (tgt := 39) (pc := 32) C dX11_more_32 (by decide) (fun hc => ?_) (fun hc => ?_)
      · have h := it_t hc h
        refine V_iconst (pc := 39) C dX11_more_39 kc_i_2 ?_
        exact V_mask [true, true, true, true] (mX11_more_J40 C  hR h)
      · have h := it_f hc h
        refine V_iconst (pc := 35) C dX11_more_35 kc_i_0 ?_
        refine V_goto (tgt := 40) (pc := 36) C dX11_more_36 (by decide) ?_
        exact V_mask [true, true, true, true] (mX11_more_J40 C  hR h)
set_option maxRecDepth 100000 in
theorem mX11_more (l : Launch) {S : zM} {a1 : Int32} {a2 : Int32} {a3 : Int32} {r : Int32} {S' : zM}  (h : gX11_more S a1 a2 a3 = some (r, S')) : zMet l cW zS0 yX11_more cX11_more 4 (some .int) 4 95 [.ref 0, .int a1, .int a2, .int a3] S (some (.int r)) S' := by
  refine zmeth (by decide +kernel) (by rfl) (fun K hKl C hR => ?_)
  show V K 0 [some (.ref 0), some (.int a1), some (.int a2), some (.int a3)] [] S
  unfold gX11_more at h
  refine V_aload_n (pc := 0) C dX11_more_0 rfl rfl ?_
  refine V_aload_n (pc := 1) C dX11_more_1 rfl rfl ?_
  refine V_iload_n (pc := 2) C dX11_more_2 rfl rfl ?_
  obtain ⟨r1, er1, h⟩ := b1_some h
  refine V_callV (As := [.int a1]) (pc := 3) C (mX11_isSayer _ er1) zm_X11_isSayer zi_X11_isSayer ml_RX11_129 z1_cW_11 rfl ⟨Nat.le_of_ble_eq_true rfl, Nat.le_of_ble_eq_true rfl⟩ rfl rfl (Nat.le_of_ble_eq_true rfl) dX11_more_3 ?_
  show V K 6 [some (.ref 0), some (.int a1), some (.int a2), some (.int a3)] [.int r1, .ref 0] S
  refine V_if_eq (tgt := 13) (pc := 6) C dX11_more_6 (by decide) (fun hc => ?_) (fun hc => ?_)
  · have h := it_t hc h
    refine V_iconst (pc := 13) C dX11_more_13 kc_i_1 ?_
    exact V_mask [true, true, true, true] (mX11_more_J14 C  hR h)
  · have h := it_f hc h
    refine V_iconst (pc := 9) C dX11_more_9 kc_i_0 ?_
    refine V_goto (tgt := 14) (pc := 10) C dX11_more_10 (by decide) ?_
    exact V_mask [true, true, true, true] (mX11_more_J14 C  hR h)
set_option maxRecDepth 100000 in
theorem mX11_fails_J111 {K : zK} (C : zC K cX11_fails yX11_fails.cls 10 4 95 cW) {S : zM} {v1 : Int32} {v2 : Int32} {v4 : Int32} {v5 : Int32} {v7 : Int32} {s0 : Int32} {out : (Int32 × zM) ⊕ Int32}  (h : gX11_fails_J111 S v1 v2 v4 v5 v7 s0 = some out) (hb : ∀ (b7 : Int32), out = .inr b7 → V K 85 [some (.ref 0), some (.int v1), some (.int v2), none, some (.int v4), some (.int v5), none, some (.int b7), none, none] [] S) (hret : ∀ r' : (Int32 × zM), out = .inl r' → zR K cX11_fails (some .int) r'.2 (some (.int (r'.1)))) : V K 111 [some (.ref 0), some (.int v1), some (.int v2), none, some (.int v4), some (.int v5), none, some (.int v7), none, none] [.int s0] S := by
  unfold gX11_fails_J111 at h
  refine V_istore (L' := [some (.ref 0), some (.int v1), some (.int v2), none, some (.int v4), some (.int v5), none, some (.int v7), some (.int s0), none]) (pc := 111) C dX11_fails_111 (by decide) rfl ?_
  refine V_aload_n (pc := 113) C dX11_fails_113 rfl rfl ?_
  refine V_aload_n (pc := 114) C dX11_fails_114 rfl rfl ?_
  obtain ⟨k8, h⟩ := ck_some h
  refine V_getR (pc := 115) C z1_cW_11 fl_RX11_52 rfl dX11_fails_115 ?_
  refine V_getF (p1 := ((gR S 0 8) + 2)) (pc := 118) C (zob_of k8) fl_RX11_132 rfl (zf_cW_3_1 (zob_of k8)) dX11_fails_118 ?_
  refine V_iload_n (pc := 121) C dX11_fails_121 rfl rfl ?_
  obtain ⟨k9, h⟩ := ck_some h
  refine V_aald (p1 := ((gR S 0 8) + 193 + 2 * ix v1)) (pc := 122) C (za_cW_3_1 (zob_of k8)) (fun _ => rfl) k9 (ze_cW_3_1 (zob_of k8) k9) dX11_fails_122 ?_
  refine V_iload (pc := 123) C dX11_fails_123 rfl ?_
  refine V_iload_n (pc := 125) C dX11_fails_125 rfl rfl ?_
  obtain ⟨r10, er10, h⟩ := b1_some h
  refine V_callV (As := [.ref ((gR S 0 8) + 193 + 2 * ix v1), .int v7, .int v2]) (pc := 126) C (mX11_needed _ (zx_cW_3_1 (zob_of k8) k9) er10) zm_X11_needed zi_X11_needed ml_RX11_330 z1_cW_11 rfl ⟨Nat.le_of_ble_eq_true rfl, Nat.le_of_ble_eq_true rfl⟩ rfl rfl (Nat.le_of_ble_eq_true rfl) dX11_fails_126 ?_
  show V K 129 [some (.ref 0), some (.int v1), some (.int v2), none, some (.int v4), some (.int v5), none, some (.int v7), some (.int s0), none] [.int r10] S
  refine V_istore (L' := [some (.ref 0), some (.int v1), some (.int v2), none, some (.int v4), some (.int v5), none, some (.int v7), some (.int s0), some (.int r10)]) (pc := 129) C dX11_fails_129 (by decide) rfl ?_
  refine V_iload (pc := 131) C dX11_fails_131 rfl ?_
  refine V_bipush (pc := 133) C dX11_fails_133 kc_b_m2 ?_
  refine V_icmp_eq (tgt := 150) (pc := 135) C dX11_fails_135 (by decide) (fun hc => ?_) (fun hc => ?_)
  · have h := it_t hc h
    refine V_iload (pc := 150) C dX11_fails_150 rfl ?_
    cases h
    exact (hret _ rfl) 152 _ ⟨_, rfl, rfl⟩ dX11_fails_152
  · have h := it_f hc h
    refine V_iload (pc := 138) C dX11_fails_138 rfl ?_
    refine V_iload (pc := 140) C dX11_fails_140 rfl ?_
    refine V_isub (pc := 142) C dX11_fails_142 ?_
    refine V_abs (pc := 143) C ml_RX11_334 mt_abs.1 mt_abs.2.1 mt_abs.2.2 ⟨Nat.le_of_ble_eq_true rfl, Nat.le_of_ble_eq_true rfl⟩ dX11_fails_143 ?_
    refine V_iconst (pc := 146) C dX11_fails_146 kc_i_1 ?_
    refine V_icmp_le (tgt := 153) (pc := 147) C dX11_fails_147 (by decide) (fun hc => ?_) (fun hc => ?_)
    · have h := it_t hc h
      refine V_iinc (L' := [some (.ref 0), some (.int v1), some (.int v2), none, some (.int v4), some (.int v5), none, some (.int (v7 + (1 : Int32))), some (.int s0), some (.int r10)]) (v := (v7 + (1 : Int32))) (pc := 153) C dX11_fails_153 rfl (congrArg (v7 + ·) kc_i_1) (by decide) rfl ?_
      refine V_goto (tgt := 85) (pc := 156) C dX11_fails_156 (by decide) ?_
      cases h
      exact V_mask [true, true, true, false, true, true, false, true, false, false] (hb _ rfl)
    · have h := it_f hc h
      refine V_iload (pc := 150) C dX11_fails_150 rfl ?_
      cases h
      exact (hret _ rfl) 152 _ ⟨_, rfl, rfl⟩ dX11_fails_152
set_option maxRecDepth 100000 in
theorem mX11_fails_L85 {K : zK} (C : zC K cX11_fails yX11_fails.cls 10 4 95 cW) {S : zM} {v1 : Int32} {v2 : Int32} {v4 : Int32} {v5 : Int32}  : ∀ (f : Nat) (v7 : Int32) (r : Int32) (S' : zM), gX11_fails_L85 S v1 v2 v4 v5 f v7 = some (r, S') → zR K cX11_fails (some .int) S' (some (.int r)) → V K 85 [some (.ref 0), some (.int v1), some (.int v2), none, some (.int v4), some (.int v5), none, some (.int v7), none, none] [] S := by
  intro f
  induction f with
  | zero => intro v7 r S' h hR; cases h
  | succ n ih =>
    intro v7 r S' h hR
    unfold gX11_fails_L85 at h
    refine V_iload (pc := 85) C dX11_fails_85 rfl ?_
    refine V_iload (pc := 87) C dX11_fails_87 rfl ?_
    refine V_icmp_gt (tgt := 159) (pc := 89) C dX11_fails_89 (by decide) (fun hc => ?_) (fun hc => ?_)
    · have h := it_t hc h
      refine V_bipush (pc := 159) C dX11_fails_159 kc_b_m2 ?_
      cases h
      exact hR 161 _ ⟨_, rfl, rfl⟩ dX11_fails_161
    · have h := it_f hc h
      refine V_iload (pc := 92) C dX11_fails_92 rfl ?_
      refine V_iconst (pc := 94) C dX11_fails_94 kc_i_1 ?_
      refine V_icmp_ge (tgt := 102) (pc := 95) C dX11_fails_95 (by decide) (fun hc => ?_) (fun hc => ?_)
      · have h := it_t hc h
        refine V_iconst (pc := 102) C dX11_fails_102 kc_i_1 ?_
        refine V_iload (pc := 103) C dX11_fails_103 rfl ?_
        refine V_iload (pc := 105) C dX11_fails_105 rfl ?_
        obtain ⟨k7, h⟩ := ck_some h
        refine V_idiv (pc := 107) C dX11_fails_107 (of_decide_eq_true k7) ?_
        refine V_max (pc := 108) C ml_RX11_282 mt_max.1 mt_max.2.1 mt_max.2.2 ⟨Nat.le_of_ble_eq_true rfl, Nat.le_of_ble_eq_true rfl⟩ dX11_fails_108 ?_
        obtain ⟨out', e111, hi, hb⟩ := lm_some h
        refine V_mask [true, true, true, false, true, true, false, true, false, false] (mX11_fails_J111 C  e111 ?_ ?_)
        · intro v7 eo
          have h := hb _ eo
          exact ih _ _ _ h hR
        · intro r' eo
          cases hi _ eo
          exact hR
      · have h := it_f hc h
        refine V_iconst (pc := 98) C dX11_fails_98 kc_i_1 ?_
        refine V_goto (tgt := 111) (pc := 99) C dX11_fails_99 (by decide) ?_
        obtain ⟨out', e111, hi, hb⟩ := lm_some h
        refine V_mask [true, true, true, false, true, true, false, true, false, false] (mX11_fails_J111 C  e111 ?_ ?_)
        · intro v7 eo
          have h := hb _ eo
          exact ih _ _ _ h hR
        · intro r' eo
          cases hi _ eo
          exact hR
set_option maxRecDepth 100000 in
theorem mX11_fails_J57 {K : zK} (C : zC K cX11_fails yX11_fails.cls 10 4 95 cW) {S : zM} {v1 : Int32} {v2 : Int32} {v3 : Int32} {v4 : Int32} {v5 : Int32} {v6 : Int32} {s0 : Int32} {r : Int32} {S' : zM}  (hR : zR K cX11_fails (some .int) S' (some (.int r))) (h : gX11_fails_J57 S v1 v2 v3 v4 v5 v6 s0 = some (r, S')) : V K 57 [some (.ref 0), some (.int v1), some (.int v2), some (.int v3), some (.int v4), some (.int v5), some (.int v6), none, none, none] [.int s0, .ref 0] S := by
  unfold gX11_fails_J57 at h
  obtain ⟨r3, S4, er3, h⟩ := b2_some h
  refine V_callV (As := [.int s0]) (pc := 57) C (mX11_passes _ er3) zm_X11_passes zi_X11_passes ml_RX11_71 z1_cW_11 rfl ⟨Nat.le_of_ble_eq_true rfl, Nat.le_of_ble_eq_true rfl⟩ rfl rfl (Nat.le_of_ble_eq_true rfl) dX11_fails_57 ?_
  show V K 60 [some (.ref 0), some (.int v1), some (.int v2), some (.int v3), some (.int v4), some (.int v5), some (.int v6), none, none, none] [.int r3] S4
  refine V_if_eq (tgt := 80) (pc := 60) C dX11_fails_60 (by decide) (fun hc => ?_) (fun hc => ?_)
  · have h := it_t hc h
    refine V_iconst (pc := 80) C dX11_fails_80 kc_i_m1 ?_
    cases h
    exact hR 81 _ ⟨_, rfl, rfl⟩ dX11_fails_81
  · have h := it_f hc h
    refine V_aload_n (pc := 63) C dX11_fails_63 rfl rfl ?_
    refine V_iload (pc := 64) C dX11_fails_64 rfl ?_
    refine V_if_eq (tgt := 73) (pc := 66) C dX11_fails_66 (by decide) (fun hc => ?_) (fun hc => ?_)
    · have h := it_t hc h
      refine V_iconst (pc := 73) C dX11_fails_73 kc_i_2 ?_
      obtain ⟨r5, S6, er5, h⟩ := b2_some h
      refine V_callV (As := [.int (2 : Int32)]) (pc := 74) C (mX11_passes _ er5) zm_X11_passes zi_X11_passes ml_RX11_71 z1_cW_11 rfl ⟨Nat.le_of_ble_eq_true rfl, Nat.le_of_ble_eq_true rfl⟩ rfl rfl (Nat.le_of_ble_eq_true rfl) dX11_fails_74 ?_
      show V K 77 [some (.ref 0), some (.int v1), some (.int v2), some (.int v3), some (.int v4), some (.int v5), some (.int v6), none, none, none] [.int r5] S6
      refine V_if_ne (tgt := 82) (pc := 77) C dX11_fails_77 (by decide) (fun hc => ?_) (fun hc => ?_)
      · have h := it_f hc h
        refine V_iload_n (pc := 82) C dX11_fails_82 rfl rfl ?_
        refine V_istore (L' := [some (.ref 0), some (.int v1), some (.int v2), some (.int v3), some (.int v4), some (.int v5), some (.int v6), some (.int v3), none, none]) (pc := 83) C dX11_fails_83 (by decide) rfl ?_
        exact V_mask [true, true, true, false, true, true, false, true, false, false] (mX11_fails_L85 C  FU _ _ _ h hR)
      · have h := it_t hc h
        refine V_iconst (pc := 80) C dX11_fails_80 kc_i_m1 ?_
        cases h
        exact hR 81 _ ⟨_, rfl, rfl⟩ dX11_fails_81
    · have h := it_f hc h
      refine V_iconst (pc := 69) C dX11_fails_69 kc_i_0 ?_
      refine V_goto (tgt := 74) (pc := 70) C dX11_fails_70 (by decide) ?_
      obtain ⟨r11, S12, er11, h⟩ := b2_some h
      refine V_callV (As := [.int (0 : Int32)]) (pc := 74) C (mX11_passes _ er11) zm_X11_passes zi_X11_passes ml_RX11_71 z1_cW_11 rfl ⟨Nat.le_of_ble_eq_true rfl, Nat.le_of_ble_eq_true rfl⟩ rfl rfl (Nat.le_of_ble_eq_true rfl) dX11_fails_74 ?_
      show V K 77 [some (.ref 0), some (.int v1), some (.int v2), some (.int v3), some (.int v4), some (.int v5), some (.int v6), none, none, none] [.int r11] S12
      refine V_if_ne (tgt := 82) (pc := 77) C dX11_fails_77 (by decide) (fun hc => ?_) (fun hc => ?_)
      · have h := it_f hc h
        refine V_iload_n (pc := 82) C dX11_fails_82 rfl rfl ?_
        refine V_istore (L' := [some (.ref 0), some (.int v1), some (.int v2), some (.int v3), some (.int v4), some (.int v5), some (.int v6), some (.int v3), none, none]) (pc := 83) C dX11_fails_83 (by decide) rfl ?_
        exact V_mask [true, true, true, false, true, true, false, true, false, false] (mX11_fails_L85 C  FU _ _ _ h hR)
      · have h := it_t hc h
        refine V_iconst (pc := 80) C dX11_fails_80 kc_i_m1 ?_
        cases h
        exact hR 81 _ ⟨_, rfl, rfl⟩ dX11_fails_81
set_option maxRecDepth 100000 in
theorem mX11_fails_J41 {K : zK} (C : zC K cX11_fails yX11_fails.cls 10 4 95 cW) {S : zM} {v1 : Int32} {v2 : Int32} {v3 : Int32} {v4 : Int32} {v5 : Int32} {s0 : Int32} {r : Int32} {S' : zM}  (hR : zR K cX11_fails (some .int) S' (some (.int r))) (h : gX11_fails_J41 S v1 v2 v3 v4 v5 s0 = some (r, S')) : V K 41 [some (.ref 0), some (.int v1), some (.int v2), some (.int v3), some (.int v4), some (.int v5), none, none, none, none] [.int s0] S := by
  unfold gX11_fails_J41 at h
  refine V_istore (L' := [some (.ref 0), some (.int v1), some (.int v2), some (.int v3), some (.int v4), some (.int v5), some (.int s0), none, none, none]) (pc := 41) C dX11_fails_41 (by decide) rfl ?_
  refine V_aload_n (pc := 43) C dX11_fails_43 rfl rfl ?_
  refine V_aload_n (pc := 44) C dX11_fails_44 rfl rfl ?_
  refine V_iload_n (pc := 45) C dX11_fails_45 rfl rfl ?_
  obtain ⟨r2, er2, h⟩ := b1_some h
  refine V_callV (As := [.int v1]) (pc := 46) C (mX11_isSayer _ er2) zm_X11_isSayer zi_X11_isSayer ml_RX11_129 z1_cW_11 rfl ⟨Nat.le_of_ble_eq_true rfl, Nat.le_of_ble_eq_true rfl⟩ rfl rfl (Nat.le_of_ble_eq_true rfl) dX11_fails_46 ?_
  show V K 49 [some (.ref 0), some (.int v1), some (.int v2), some (.int v3), some (.int v4), some (.int v5), some (.int s0), none, none, none] [.int r2, .ref 0] S
  refine V_if_eq (tgt := 56) (pc := 49) C dX11_fails_49 (by decide) (fun hc => ?_) (fun hc => ?_)
  · have h := it_t hc h
    refine V_iconst (pc := 56) C dX11_fails_56 kc_i_1 ?_
    exact V_mask [true, true, true, true, true, true, true, false, false, false] (mX11_fails_J57 C  hR h)
  · have h := it_f hc h
    refine V_iconst (pc := 52) C dX11_fails_52 kc_i_0 ?_
    refine V_goto (tgt := 57) (pc := 53) C dX11_fails_53 (by decide) ?_
    exact V_mask [true, true, true, true, true, true, true, false, false, false] (mX11_fails_J57 C  hR h)
set_option maxRecDepth 100000 in
theorem mX11_fails (l : Launch) {S : zM} {a1 : Int32} {a2 : Int32} {a3 : Int32} {a4 : Int32} {a5 : Int32} {r : Int32} {S' : zM}  (h : gX11_fails S a1 a2 a3 a4 a5 = some (r, S')) : zMet l cW zS0 yX11_fails cX11_fails 10 (some .int) 4 95 [.ref 0, .int a1, .int a2, .int a3, .int a4, .int a5] S (some (.int r)) S' := by
  refine zmeth (by decide +kernel) (by rfl) (fun K hKl C hR => ?_)
  show V K 0 [some (.ref 0), some (.int a1), some (.int a2), some (.int a3), some (.int a4), some (.int a5), none, none, none, none] [] S
  unfold gX11_fails at h
  refine V_iload_n (pc := 0) C dX11_fails_0 rfl rfl ?_
  obtain ⟨r1, er1, h⟩ := b1_some h
  refine V_callS (As := [.int a2]) (pc := 1) C (mX11_isPercent _ er1) zm_X11_isPercent zs_X11_isPercent ml_RX11_327 ⟨Nat.le_of_ble_eq_true rfl, Nat.le_of_ble_eq_true rfl⟩ rfl rfl (Nat.le_of_ble_eq_true rfl) dX11_fails_1 ?_
  show V K 4 [some (.ref 0), some (.int a1), some (.int a2), some (.int a3), some (.int a4), some (.int a5), none, none, none, none] [.int r1] S
  refine V_if_eq (tgt := 40) (pc := 4) C dX11_fails_4 (by decide) (fun hc => ?_) (fun hc => ?_)
  · have h := it_t hc h
    refine V_iconst (pc := 40) C dX11_fails_40 kc_i_0 ?_
    exact V_mask [true, true, true, true, true, true, false, false, false, false] (mX11_fails_J41 C  hR h)
  · have h := it_f hc h
    refine V_iload_n (pc := 7) C dX11_fails_7 rfl rfl ?_
    obtain ⟨r14, er14, h⟩ := b1_some h
    refine V_callS (As := [.int a3]) (pc := 8) C (mX11_isSize _ er14) zm_X11_isSize zs_X11_isSize ml_RX11_242 ⟨Nat.le_of_ble_eq_true rfl, Nat.le_of_ble_eq_true rfl⟩ rfl rfl (Nat.le_of_ble_eq_true rfl) dX11_fails_8 ?_
    show V K 11 [some (.ref 0), some (.int a1), some (.int a2), some (.int a3), some (.int a4), some (.int a5), none, none, none, none] [.int r14] S
    refine V_if_eq (tgt := 40) (pc := 11) C dX11_fails_11 (by decide) (fun hc => ?_) (fun hc => ?_)
    · have h := it_t hc h
      refine V_iconst (pc := 40) C dX11_fails_40 kc_i_0 ?_
      exact V_mask [true, true, true, true, true, true, false, false, false, false] (mX11_fails_J41 C  hR h)
    · have h := it_f hc h
      refine V_iload (pc := 14) C dX11_fails_14 rfl ?_
      obtain ⟨r15, er15, h⟩ := b1_some h
      refine V_callS (As := [.int a4]) (pc := 16) C (mX11_isSize _ er15) zm_X11_isSize zs_X11_isSize ml_RX11_242 ⟨Nat.le_of_ble_eq_true rfl, Nat.le_of_ble_eq_true rfl⟩ rfl rfl (Nat.le_of_ble_eq_true rfl) dX11_fails_16 ?_
      show V K 19 [some (.ref 0), some (.int a1), some (.int a2), some (.int a3), some (.int a4), some (.int a5), none, none, none, none] [.int r15] S
      refine V_if_eq (tgt := 40) (pc := 19) C dX11_fails_19 (by decide) (fun hc => ?_) (fun hc => ?_)
      · have h := it_t hc h
        refine V_iconst (pc := 40) C dX11_fails_40 kc_i_0 ?_
        exact V_mask [true, true, true, true, true, true, false, false, false, false] (mX11_fails_J41 C  hR h)
      · have h := it_f hc h
        refine V_iload_n (pc := 22) C dX11_fails_22 rfl rfl ?_
        refine V_iload (pc := 23) C dX11_fails_23 rfl ?_
        refine V_icmp_gt (tgt := 40) (pc := 25) C dX11_fails_25 (by decide) (fun hc => ?_) (fun hc => ?_)
        · have h := it_t hc h
          refine V_iconst (pc := 40) C dX11_fails_40 kc_i_0 ?_
          exact V_mask [true, true, true, true, true, true, false, false, false, false] (mX11_fails_J41 C  hR h)
        · have h := it_f hc h
          refine V_iload (pc := 28) C dX11_fails_28 rfl ?_
          obtain ⟨r16, er16, h⟩ := b1_some h
          refine V_callS (As := [.int a5]) (pc := 30) C (mX11_isSize _ er16) zm_X11_isSize zs_X11_isSize ml_RX11_242 ⟨Nat.le_of_ble_eq_true rfl, Nat.le_of_ble_eq_true rfl⟩ rfl rfl (Nat.le_of_ble_eq_true rfl) dX11_fails_30 ?_
          show V K 33 [some (.ref 0), some (.int a1), some (.int a2), some (.int a3), some (.int a4), some (.int a5), none, none, none, none] [.int r16] S
          refine V_if_eq (tgt := 40) (pc := 33) C dX11_fails_33 (by decide) (fun hc => ?_) (fun hc => ?_)
          · have h := it_t hc h
            refine V_iconst (pc := 40) C dX11_fails_40 kc_i_0 ?_
            exact V_mask [true, true, true, true, true, true, false, false, false, false] (mX11_fails_J41 C  hR h)
          · have h := it_f hc h
            refine V_iconst (pc := 36) C dX11_fails_36 kc_i_1 ?_
            refine V_goto (tgt := 41) (pc := 37) C dX11_fails_37 (by decide) ?_
            exact V_mask [true, true, true, true, true, true, false, false, false, false] (mX11_fails_J41 C  hR h)
set_option maxRecDepth 100000 in
theorem mX11_steps_L62 {K : zK} (C : zC K cX11_steps yX11_steps.cls 8 4 95 cW) {S : zM} {v1 : Int32} {v2 : Int32} {v4 : Int32}  : ∀ (f : Nat) (v5 : Int32) (v6 : Int32) (r : Int32) (S' : zM), gX11_steps_L62 S v1 v2 v4 f v5 v6 = some (r, S') → zR K cX11_steps (some .int) S' (some (.int r)) → V K 62 [some (.ref 0), some (.int v1), some (.int v2), none, some (.int v4), some (.int v5), some (.int v6), none] [] S := by
  intro f
  induction f with
  | zero => intro v5 v6 r S' h hR; cases h
  | succ n ih =>
    intro v5 v6 r S' h hR
    unfold gX11_steps_L62 at h
    refine V_iload (pc := 62) C dX11_steps_62 rfl ?_
    refine V_sipush (pc := 64) C dX11_steps_64 kc_s_400 ?_
    refine V_icmp_ge (tgt := 121) (pc := 67) C dX11_steps_67 (by decide) (fun hc => ?_) (fun hc => ?_)
    · have h := it_t hc h
      refine V_sipush (pc := 121) C dX11_steps_121 kc_s_400 ?_
      cases h
      exact hR 124 _ ⟨_, rfl, rfl⟩ dX11_steps_124
    · have h := it_f hc h
      refine V_aload_n (pc := 70) C dX11_steps_70 rfl rfl ?_
      refine V_aload_n (pc := 71) C dX11_steps_71 rfl rfl ?_
      obtain ⟨k7, h⟩ := ck_some h
      refine V_getR (pc := 72) C z1_cW_11 fl_RX11_52 rfl dX11_steps_72 ?_
      refine V_getF (p1 := ((gR S 0 8) + 2)) (pc := 75) C (zob_of k7) fl_RX11_132 rfl (zf_cW_3_1 (zob_of k7)) dX11_steps_75 ?_
      refine V_iload_n (pc := 78) C dX11_steps_78 rfl rfl ?_
      obtain ⟨k8, h⟩ := ck_some h
      refine V_aald (p1 := ((gR S 0 8) + 193 + 2 * ix v1)) (pc := 79) C (za_cW_3_1 (zob_of k7)) (fun _ => rfl) k8 (ze_cW_3_1 (zob_of k7) k8) dX11_steps_79 ?_
      refine V_iload (pc := 80) C dX11_steps_80 rfl ?_
      refine V_iload_n (pc := 82) C dX11_steps_82 rfl rfl ?_
      obtain ⟨r9, er9, h⟩ := b1_some h
      refine V_callV (As := [.ref ((gR S 0 8) + 193 + 2 * ix v1), .int v5, .int v2]) (pc := 83) C (mX11_needed _ (zx_cW_3_1 (zob_of k7) k8) er9) zm_X11_needed zi_X11_needed ml_RX11_330 z1_cW_11 rfl ⟨Nat.le_of_ble_eq_true rfl, Nat.le_of_ble_eq_true rfl⟩ rfl rfl (Nat.le_of_ble_eq_true rfl) dX11_steps_83 ?_
      show V K 86 [some (.ref 0), some (.int v1), some (.int v2), none, some (.int v4), some (.int v5), some (.int v6), none] [.int r9] S
      refine V_istore (L' := [some (.ref 0), some (.int v1), some (.int v2), none, some (.int v4), some (.int v5), some (.int v6), some (.int r9)]) (pc := 86) C dX11_steps_86 (by decide) rfl ?_
      refine V_iload (pc := 88) C dX11_steps_88 rfl ?_
      refine V_bipush (pc := 90) C dX11_steps_90 kc_b_m2 ?_
      refine V_icmp_eq (tgt := 105) (pc := 92) C dX11_steps_92 (by decide) (fun hc => ?_) (fun hc => ?_)
      · have h := it_t hc h
        refine V_iload (pc := 105) C dX11_steps_105 rfl ?_
        cases h
        exact hR 107 _ ⟨_, rfl, rfl⟩ dX11_steps_107
      · have h := it_f hc h
        refine V_iload (pc := 95) C dX11_steps_95 rfl ?_
        refine V_iload (pc := 97) C dX11_steps_97 rfl ?_
        refine V_iadd (pc := 99) C dX11_steps_99 ?_
        refine V_iload (pc := 100) C dX11_steps_100 rfl ?_
        refine V_icmp_le (tgt := 108) (pc := 102) C dX11_steps_102 (by decide) (fun hc => ?_) (fun hc => ?_)
        · have h := it_t hc h
          refine V_iload (pc := 108) C dX11_steps_108 rfl ?_
          refine V_iload (pc := 110) C dX11_steps_110 rfl ?_
          refine V_iadd (pc := 112) C dX11_steps_112 ?_
          refine V_istore (L' := [some (.ref 0), some (.int v1), some (.int v2), none, some (.int v4), some (.int (v5 + r9)), some (.int v6), some (.int r9)]) (pc := 113) C dX11_steps_113 (by decide) rfl ?_
          refine V_iinc (L' := [some (.ref 0), some (.int v1), some (.int v2), none, some (.int v4), some (.int (v5 + r9)), some (.int (v6 + (1 : Int32))), some (.int r9)]) (v := (v6 + (1 : Int32))) (pc := 115) C dX11_steps_115 rfl (congrArg (v6 + ·) kc_i_1) (by decide) rfl ?_
          refine V_goto (tgt := 62) (pc := 118) C dX11_steps_118 (by decide) ?_
          exact V_mask [true, true, true, false, true, true, true, false] (ih _ _ _ _ h hR)
        · have h := it_f hc h
          refine V_iload (pc := 105) C dX11_steps_105 rfl ?_
          cases h
          exact hR 107 _ ⟨_, rfl, rfl⟩ dX11_steps_107
set_option maxRecDepth 100000 in
theorem mX11_steps_J14 {K : zK} (C : zC K cX11_steps yX11_steps.cls 8 4 95 cW) {S : zM} {v1 : Int32} {v2 : Int32} {v3 : Int32} {v4 : Int32} {s0 : Int32} {r : Int32} {S' : zM}  (hR : zR K cX11_steps (some .int) S' (some (.int r))) (h : gX11_steps_J14 S v1 v2 v3 v4 s0 = some (r, S')) : V K 14 [some (.ref 0), some (.int v1), some (.int v2), some (.int v3), some (.int v4), none, none, none] [.int s0, .ref 0] S := by
  unfold gX11_steps_J14 at h
  obtain ⟨r2, S3, er2, h⟩ := b2_some h
  refine V_callV (As := [.int s0]) (pc := 14) C (mX11_passes _ er2) zm_X11_passes zi_X11_passes ml_RX11_71 z1_cW_11 rfl ⟨Nat.le_of_ble_eq_true rfl, Nat.le_of_ble_eq_true rfl⟩ rfl rfl (Nat.le_of_ble_eq_true rfl) dX11_steps_14 ?_
  show V K 17 [some (.ref 0), some (.int v1), some (.int v2), some (.int v3), some (.int v4), none, none, none] [.int r2] S3
  refine V_if_eq (tgt := 54) (pc := 17) C dX11_steps_17 (by decide) (fun hc => ?_) (fun hc => ?_)
  · have h := it_t hc h
    refine V_iconst (pc := 54) C dX11_steps_54 kc_i_m1 ?_
    cases h
    exact hR 55 _ ⟨_, rfl, rfl⟩ dX11_steps_55
  · have h := it_f hc h
    refine V_aload_n (pc := 20) C dX11_steps_20 rfl rfl ?_
    refine V_iload_n (pc := 21) C dX11_steps_21 rfl rfl ?_
    obtain ⟨r4, er4, h⟩ := b1_some h
    refine V_callS (As := [.int v2]) (pc := 22) C (mX11_isPercent _ er4) zm_X11_isPercent zs_X11_isPercent ml_RX11_327 ⟨Nat.le_of_ble_eq_true rfl, Nat.le_of_ble_eq_true rfl⟩ rfl rfl (Nat.le_of_ble_eq_true rfl) dX11_steps_22 ?_
    show V K 25 [some (.ref 0), some (.int v1), some (.int v2), some (.int v3), some (.int v4), none, none, none] [.int r4, .ref 0] S3
    refine V_if_eq (tgt := 47) (pc := 25) C dX11_steps_25 (by decide) (fun hc => ?_) (fun hc => ?_)
    · have h := it_t hc h
      refine V_iconst (pc := 47) C dX11_steps_47 kc_i_2 ?_
      obtain ⟨r5, S6, er5, h⟩ := b2_some h
      refine V_callV (As := [.int (2 : Int32)]) (pc := 48) C (mX11_passes _ er5) zm_X11_passes zi_X11_passes ml_RX11_71 z1_cW_11 rfl ⟨Nat.le_of_ble_eq_true rfl, Nat.le_of_ble_eq_true rfl⟩ rfl rfl (Nat.le_of_ble_eq_true rfl) dX11_steps_48 ?_
      show V K 51 [some (.ref 0), some (.int v1), some (.int v2), some (.int v3), some (.int v4), none, none, none] [.int r5] S6
      refine V_if_ne (tgt := 56) (pc := 51) C dX11_steps_51 (by decide) (fun hc => ?_) (fun hc => ?_)
      · have h := it_f hc h
        refine V_iload_n (pc := 56) C dX11_steps_56 rfl rfl ?_
        refine V_istore (L' := [some (.ref 0), some (.int v1), some (.int v2), some (.int v3), some (.int v4), some (.int v3), none, none]) (pc := 57) C dX11_steps_57 (by decide) rfl ?_
        refine V_iconst (pc := 59) C dX11_steps_59 kc_i_0 ?_
        refine V_istore (L' := [some (.ref 0), some (.int v1), some (.int v2), some (.int v3), some (.int v4), some (.int v3), some (.int (0 : Int32)), none]) (pc := 60) C dX11_steps_60 (by decide) rfl ?_
        exact V_mask [true, true, true, false, true, true, true, false] (mX11_steps_L62 C  FU _ _ _ _ h hR)
      · have h := it_t hc h
        refine V_iconst (pc := 54) C dX11_steps_54 kc_i_m1 ?_
        cases h
        exact hR 55 _ ⟨_, rfl, rfl⟩ dX11_steps_55
    · have h := it_f hc h
      refine V_iload_n (pc := 28) C dX11_steps_28 rfl rfl ?_
      obtain ⟨r10, er10, h⟩ := b1_some h
      refine V_callS (As := [.int v3]) (pc := 29) C (mX11_isSize _ er10) zm_X11_isSize zs_X11_isSize ml_RX11_242 ⟨Nat.le_of_ble_eq_true rfl, Nat.le_of_ble_eq_true rfl⟩ rfl rfl (Nat.le_of_ble_eq_true rfl) dX11_steps_29 ?_
      show V K 32 [some (.ref 0), some (.int v1), some (.int v2), some (.int v3), some (.int v4), none, none, none] [.int r10, .ref 0] S3
      refine V_if_eq (tgt := 47) (pc := 32) C dX11_steps_32 (by decide) (fun hc => ?_) (fun hc => ?_)
      · have h := it_t hc h
        refine V_iconst (pc := 47) C dX11_steps_47 kc_i_2 ?_
        obtain ⟨r11, S12, er11, h⟩ := b2_some h
        refine V_callV (As := [.int (2 : Int32)]) (pc := 48) C (mX11_passes _ er11) zm_X11_passes zi_X11_passes ml_RX11_71 z1_cW_11 rfl ⟨Nat.le_of_ble_eq_true rfl, Nat.le_of_ble_eq_true rfl⟩ rfl rfl (Nat.le_of_ble_eq_true rfl) dX11_steps_48 ?_
        show V K 51 [some (.ref 0), some (.int v1), some (.int v2), some (.int v3), some (.int v4), none, none, none] [.int r11] S12
        refine V_if_ne (tgt := 56) (pc := 51) C dX11_steps_51 (by decide) (fun hc => ?_) (fun hc => ?_)
        · have h := it_f hc h
          refine V_iload_n (pc := 56) C dX11_steps_56 rfl rfl ?_
          refine V_istore (L' := [some (.ref 0), some (.int v1), some (.int v2), some (.int v3), some (.int v4), some (.int v3), none, none]) (pc := 57) C dX11_steps_57 (by decide) rfl ?_
          refine V_iconst (pc := 59) C dX11_steps_59 kc_i_0 ?_
          refine V_istore (L' := [some (.ref 0), some (.int v1), some (.int v2), some (.int v3), some (.int v4), some (.int v3), some (.int (0 : Int32)), none]) (pc := 60) C dX11_steps_60 (by decide) rfl ?_
          exact V_mask [true, true, true, false, true, true, true, false] (mX11_steps_L62 C  FU _ _ _ _ h hR)
        · have h := it_t hc h
          refine V_iconst (pc := 54) C dX11_steps_54 kc_i_m1 ?_
          cases h
          exact hR 55 _ ⟨_, rfl, rfl⟩ dX11_steps_55
      · have h := it_f hc h
        refine V_iload (pc := 35) C dX11_steps_35 rfl ?_
        obtain ⟨r16, er16, h⟩ := b1_some h
        refine V_callS (As := [.int v4]) (pc := 37) C (mX11_isSize _ er16) zm_X11_isSize zs_X11_isSize ml_RX11_242 ⟨Nat.le_of_ble_eq_true rfl, Nat.le_of_ble_eq_true rfl⟩ rfl rfl (Nat.le_of_ble_eq_true rfl) dX11_steps_37 ?_
        show V K 40 [some (.ref 0), some (.int v1), some (.int v2), some (.int v3), some (.int v4), none, none, none] [.int r16, .ref 0] S3
        refine V_if_eq (tgt := 47) (pc := 40) C dX11_steps_40 (by decide) (fun hc => ?_) (fun hc => ?_)
        · have h := it_t hc h
          refine V_iconst (pc := 47) C dX11_steps_47 kc_i_2 ?_
          obtain ⟨r17, S18, er17, h⟩ := b2_some h
          refine V_callV (As := [.int (2 : Int32)]) (pc := 48) C (mX11_passes _ er17) zm_X11_passes zi_X11_passes ml_RX11_71 z1_cW_11 rfl ⟨Nat.le_of_ble_eq_true rfl, Nat.le_of_ble_eq_true rfl⟩ rfl rfl (Nat.le_of_ble_eq_true rfl) dX11_steps_48 ?_
          show V K 51 [some (.ref 0), some (.int v1), some (.int v2), some (.int v3), some (.int v4), none, none, none] [.int r17] S18
          refine V_if_ne (tgt := 56) (pc := 51) C dX11_steps_51 (by decide) (fun hc => ?_) (fun hc => ?_)
          · have h := it_f hc h
            refine V_iload_n (pc := 56) C dX11_steps_56 rfl rfl ?_
            refine V_istore (L' := [some (.ref 0), some (.int v1), some (.int v2), some (.int v3), some (.int v4), some (.int v3), none, none]) (pc := 57) C dX11_steps_57 (by decide) rfl ?_
            refine V_iconst (pc := 59) C dX11_steps_59 kc_i_0 ?_
            refine V_istore (L' := [some (.ref 0), some (.int v1), some (.int v2), some (.int v3), some (.int v4), some (.int v3), some (.int (0 : Int32)), none]) (pc := 60) C dX11_steps_60 (by decide) rfl ?_
            exact V_mask [true, true, true, false, true, true, true, false] (mX11_steps_L62 C  FU _ _ _ _ h hR)
          · have h := it_t hc h
            refine V_iconst (pc := 54) C dX11_steps_54 kc_i_m1 ?_
            cases h
            exact hR 55 _ ⟨_, rfl, rfl⟩ dX11_steps_55
        · have h := it_f hc h
          refine V_iconst (pc := 43) C dX11_steps_43 kc_i_0 ?_
          refine V_goto (tgt := 48) (pc := 44) C dX11_steps_44 (by decide) ?_
          obtain ⟨r22, S23, er22, h⟩ := b2_some h
          refine V_callV (As := [.int (0 : Int32)]) (pc := 48) C (mX11_passes _ er22) zm_X11_passes zi_X11_passes ml_RX11_71 z1_cW_11 rfl ⟨Nat.le_of_ble_eq_true rfl, Nat.le_of_ble_eq_true rfl⟩ rfl rfl (Nat.le_of_ble_eq_true rfl) dX11_steps_48 ?_
          show V K 51 [some (.ref 0), some (.int v1), some (.int v2), some (.int v3), some (.int v4), none, none, none] [.int r22] S23
          refine V_if_ne (tgt := 56) (pc := 51) C dX11_steps_51 (by decide) (fun hc => ?_) (fun hc => ?_)
          · have h := it_f hc h
            refine V_iload_n (pc := 56) C dX11_steps_56 rfl rfl ?_
            refine V_istore (L' := [some (.ref 0), some (.int v1), some (.int v2), some (.int v3), some (.int v4), some (.int v3), none, none]) (pc := 57) C dX11_steps_57 (by decide) rfl ?_
            refine V_iconst (pc := 59) C dX11_steps_59 kc_i_0 ?_
            refine V_istore (L' := [some (.ref 0), some (.int v1), some (.int v2), some (.int v3), some (.int v4), some (.int v3), some (.int (0 : Int32)), none]) (pc := 60) C dX11_steps_60 (by decide) rfl ?_
            exact V_mask [true, true, true, false, true, true, true, false] (mX11_steps_L62 C  FU _ _ _ _ h hR)
          · have h := it_t hc h
            refine V_iconst (pc := 54) C dX11_steps_54 kc_i_m1 ?_
            cases h
            exact hR 55 _ ⟨_, rfl, rfl⟩ dX11_steps_55
set_option maxRecDepth 100000 in
theorem mX11_steps (l : Launch) {S : zM} {a1 : Int32} {a2 : Int32} {a3 : Int32} {a4 : Int32} {r : Int32} {S' : zM}  (h : gX11_steps S a1 a2 a3 a4 = some (r, S')) : zMet l cW zS0 yX11_steps cX11_steps 8 (some .int) 4 95 [.ref 0, .int a1, .int a2, .int a3, .int a4] S (some (.int r)) S' := by
  refine zmeth (by decide +kernel) (by rfl) (fun K hKl C hR => ?_)
  show V K 0 [some (.ref 0), some (.int a1), some (.int a2), some (.int a3), some (.int a4), none, none, none] [] S
  unfold gX11_steps at h
  refine V_aload_n (pc := 0) C dX11_steps_0 rfl rfl ?_
  refine V_aload_n (pc := 1) C dX11_steps_1 rfl rfl ?_
  refine V_iload_n (pc := 2) C dX11_steps_2 rfl rfl ?_
  obtain ⟨r1, er1, h⟩ := b1_some h
  refine V_callV (As := [.int a1]) (pc := 3) C (mX11_isSayer _ er1) zm_X11_isSayer zi_X11_isSayer ml_RX11_129 z1_cW_11 rfl ⟨Nat.le_of_ble_eq_true rfl, Nat.le_of_ble_eq_true rfl⟩ rfl rfl (Nat.le_of_ble_eq_true rfl) dX11_steps_3 ?_
  show V K 6 [some (.ref 0), some (.int a1), some (.int a2), some (.int a3), some (.int a4), none, none, none] [.int r1, .ref 0] S
  refine V_if_eq (tgt := 13) (pc := 6) C dX11_steps_6 (by decide) (fun hc => ?_) (fun hc => ?_)
  · have h := it_t hc h
    refine V_iconst (pc := 13) C dX11_steps_13 kc_i_1 ?_
    exact V_mask [true, true, true, true, true, false, false, false] (mX11_steps_J14 C  hR h)
  · have h := it_f hc h
    refine V_iconst (pc := 9) C dX11_steps_9 kc_i_0 ?_
    refine V_goto (tgt := 14) (pc := 10) C dX11_steps_10 (by decide) ?_
    exact V_mask [true, true, true, true, true, false, false, false] (mX11_steps_J14 C  hR h)
set_option maxRecDepth 100000 in
theorem mX11_freshOnes (l : Launch) {S : zM} {a1 : Nat} {a2 : Int32} {a3 : Int32} {r : Int32} (ha1 : zob cW 8 a1) (h : gX11_freshOnes S a1 a2 a3 = some r) : zMet l cW zS0 yX11_freshOnes cX11_freshOnes 5 (some .int) 3 62 [.ref 0, .ref a1, .int a2, .int a3] S (some (.int r)) S := by
  refine zmeth (by decide +kernel) (by rfl) (fun K hKl C hR => ?_)
  show V K 0 [some (.ref 0), some (.ref a1), some (.int a2), some (.int a3), none] [] S
  unfold gX11_freshOnes at h
  refine V_aload_n (pc := 0) C dX11_freshOnes_0 rfl rfl ?_
  refine V_aload_n (pc := 1) C dX11_freshOnes_1 rfl rfl ?_
  obtain ⟨r1, er1, h⟩ := b1_some h
  refine V_callV (As := [.ref a1]) (pc := 2) C (mX11_senseOf _ ha1 er1) zm_X11_senseOf zi_X11_senseOf ml_RX11_337 z1_cW_11 rfl ⟨Nat.le_of_ble_eq_true rfl, Nat.le_of_ble_eq_true rfl⟩ rfl rfl (Nat.le_of_ble_eq_true rfl) dX11_freshOnes_2 ?_
  show V K 5 [some (.ref 0), some (.ref a1), some (.int a2), some (.int a3), none] [.ref r1] S
  refine V_astore (L' := [some (.ref 0), some (.ref a1), some (.int a2), some (.int a3), some (.ref r1)]) (pc := 5) C dX11_freshOnes_5 (by decide) rfl ?_
  refine V_aload (pc := 7) C dX11_freshOnes_7 rfl ?_
  obtain ⟨r2, er2, h⟩ := b1_some h
  refine V_callV (As := []) (pc := 9) C (mX9_fresh _ (mX11_senseOf_f ha1 er1) er2) zm_X9_fresh zi_X9_fresh ml_RX11_120 (mX11_senseOf_f ha1 er1) rfl ⟨Nat.le_of_ble_eq_true rfl, Nat.le_of_ble_eq_true rfl⟩ rfl rfl (Nat.le_of_ble_eq_true rfl) dX11_freshOnes_9 ?_
  show V K 12 [some (.ref 0), some (.ref a1), some (.int a2), some (.int a3), some (.ref r1)] [.ref r2] S
  refine V_iload_n (pc := 12) C dX11_freshOnes_12 rfl rfl ?_
  refine V_aload (pc := 13) C dX11_freshOnes_13 rfl ?_
  refine V_iload_n (pc := 15) C dX11_freshOnes_15 rfl rfl ?_
  obtain ⟨r3, er3, h⟩ := b1_some h
  refine V_callV (As := [.int a2]) (pc := 16) C (mX9_levelAt _ (mX11_senseOf_f ha1 er1) er3) zm_X9_levelAt zi_X9_levelAt ml_RX11_114 (mX11_senseOf_f ha1 er1) rfl ⟨Nat.le_of_ble_eq_true rfl, Nat.le_of_ble_eq_true rfl⟩ rfl rfl (Nat.le_of_ble_eq_true rfl) dX11_freshOnes_16 ?_
  show V K 19 [some (.ref 0), some (.ref a1), some (.int a2), some (.int a3), some (.ref r1)] [.int r3, .int a3, .ref r2] S
  refine V_isub (pc := 19) C dX11_freshOnes_19 ?_
  obtain ⟨r4, er4, h⟩ := b1_some h
  refine V_callV (As := [.int (a3 - r3)]) (pc := 20) C (mX4_above _ (mX9_fresh_f (mX11_senseOf_f ha1 er1) er2) er4) zm_X4_above zi_X4_above ml_RX11_351 (mX9_fresh_f (mX11_senseOf_f ha1 er1) er2) rfl ⟨Nat.le_of_ble_eq_true rfl, Nat.le_of_ble_eq_true rfl⟩ rfl rfl (Nat.le_of_ble_eq_true rfl) dX11_freshOnes_20 ?_
  show V K 23 [some (.ref 0), some (.ref a1), some (.int a2), some (.int a3), some (.ref r1)] [.int r4] S
  cases h
  exact hR 23 _ ⟨_, rfl, rfl⟩ dX11_freshOnes_23
set_option maxRecDepth 100000 in
theorem mX11_felt_L76 {K : zK} (C : zC K cX11_felt yX11_felt.cls 7 4 86 cW) {S : zM} {v2 : Int32} {v3 : Nat} {v4 : Nat} {v5 : Int32} (hv3 : zob cW 8 v3) (hv4 : zob cW 4 v4) : ∀ (f : Nat) (v6 : Int32) (r : Int32) (S' : zM), gX11_felt_L76 S v2 v3 v4 v5 f v6 = some (r, S') → zR K cX11_felt (some .int) S' (some (.int r)) → V K 76 [some (.ref 0), none, some (.int v2), some (.ref v3), some (.ref v4), some (.int v5), some (.int v6)] [] S := by
  intro f
  induction f with
  | zero => intro v6 r S' h hR; cases h
  | succ n ih =>
    intro v6 r S' h hR
    unfold gX11_felt_L76 at h
    refine V_iload (pc := 76) C dX11_felt_76 rfl ?_
    refine V_sipush (pc := 78) C dX11_felt_78 kc_s_400 ?_
    refine V_icmp_gt (tgt := 120) (pc := 81) C dX11_felt_81 (by decide) (fun hc => ?_) (fun hc => ?_)
    · have h := it_t hc h
      refine V_bipush (pc := 120) C dX11_felt_120 kc_b_m2 ?_
      cases h
      exact hR 122 _ ⟨_, rfl, rfl⟩ dX11_felt_122
    · have h := it_f hc h
      refine V_bipush (pc := 84) C dX11_felt_84 kc_b_100 ?_
      refine V_aload_n (pc := 86) C dX11_felt_86 rfl rfl ?_
      refine V_aload_n (pc := 87) C dX11_felt_87 rfl rfl ?_
      refine V_iload (pc := 88) C dX11_felt_88 rfl ?_
      refine V_aload_n (pc := 90) C dX11_felt_90 rfl rfl ?_
      refine V_getI (pc := 91) C hv3 fl_RX11_141 (by decide) dX11_felt_91 ?_
      obtain ⟨r12, er12, h⟩ := b1_some h
      refine V_callV (As := [.ref v3, .int v6, .int (gI S v3 2)]) (pc := 94) C (mX11_freshOnes _ hv3 er12) zm_X11_freshOnes zi_X11_freshOnes ml_RX11_341 z1_cW_11 rfl ⟨Nat.le_of_ble_eq_true rfl, Nat.le_of_ble_eq_true rfl⟩ rfl rfl (Nat.le_of_ble_eq_true rfl) dX11_felt_94 ?_
      show V K 97 [some (.ref 0), none, some (.int v2), some (.ref v3), some (.ref v4), some (.int v5), some (.int v6)] [.int r12, .int (100 : Int32)] S
      refine V_iload (pc := 97) C dX11_felt_97 rfl ?_
      refine V_isub (pc := 99) C dX11_felt_99 ?_
      refine V_imul (pc := 100) C dX11_felt_100 ?_
      refine V_iload_n (pc := 101) C dX11_felt_101 rfl rfl ?_
      refine V_aload (pc := 102) C dX11_felt_102 rfl ?_
      refine V_getI (pc := 104) C hv4 fl_RX11_165 (by decide) dX11_felt_104 ?_
      refine V_imul (pc := 107) C dX11_felt_107 ?_
      refine V_icmp_lt (tgt := 114) (pc := 108) C dX11_felt_108 (by decide) (fun hc => ?_) (fun hc => ?_)
      · have h := it_t hc h
        refine V_iinc (L' := [some (.ref 0), none, some (.int v2), some (.ref v3), some (.ref v4), some (.int v5), some (.int (v6 + (1 : Int32)))]) (v := (v6 + (1 : Int32))) (pc := 114) C dX11_felt_114 rfl (congrArg (v6 + ·) kc_i_1) (by decide) rfl ?_
        refine V_goto (tgt := 76) (pc := 117) C dX11_felt_117 (by decide) ?_
        exact V_mask [true, false, true, true, true, true, true] (ih _ _ _ h hR)
      · have h := it_f hc h
        refine V_iload (pc := 111) C dX11_felt_111 rfl ?_
        cases h
        exact hR 113 _ ⟨_, rfl, rfl⟩ dX11_felt_113
set_option maxRecDepth 100000 in
theorem mX11_felt_J33 {K : zK} (C : zC K cX11_felt yX11_felt.cls 7 4 86 cW) {S : zM} {v1 : Int32} {v2 : Int32} {s0 : Int32} {r : Int32} {S' : zM}  (hR : zR K cX11_felt (some .int) S' (some (.int r))) (h : gX11_felt_J33 S v1 v2 s0 = some (r, S')) : V K 33 [some (.ref 0), some (.int v1), some (.int v2), none, none, none, none] [.int s0, .ref 0] S := by
  unfold gX11_felt_J33 at h
  obtain ⟨r5, S6, er5, h⟩ := b2_some h
  refine V_callV (As := [.int s0]) (pc := 33) C (mX11_passes _ er5) zm_X11_passes zi_X11_passes ml_RX11_71 z1_cW_11 rfl ⟨Nat.le_of_ble_eq_true rfl, Nat.le_of_ble_eq_true rfl⟩ rfl rfl (Nat.le_of_ble_eq_true rfl) dX11_felt_33 ?_
  show V K 36 [some (.ref 0), some (.int v1), some (.int v2), none, none, none, none] [.int r5] S6
  refine V_if_ne (tgt := 41) (pc := 36) C dX11_felt_36 (by decide) (fun hc => ?_) (fun hc => ?_)
  · have h := it_f hc h
    refine V_aload_n (pc := 41) C dX11_felt_41 rfl rfl ?_
    obtain ⟨k7, h⟩ := ck_some h
    refine V_getR (pc := 42) C z1_cW_11 fl_RX11_52 rfl dX11_felt_42 ?_
    refine V_getF (p1 := ((gR S6 0 8) + 2)) (pc := 45) C (zob_of k7) fl_RX11_132 rfl (zf_cW_3_1 (zob_of k7)) dX11_felt_45 ?_
    refine V_iload_n (pc := 48) C dX11_felt_48 rfl rfl ?_
    obtain ⟨k8, h⟩ := ck_some h
    refine V_aald (p1 := ((gR S6 0 8) + 193 + 2 * ix v1)) (pc := 49) C (za_cW_3_1 (zob_of k7)) (fun _ => rfl) k8 (ze_cW_3_1 (zob_of k7) k8) dX11_felt_49 ?_
    refine V_astore_n (L' := [some (.ref 0), some (.int v1), some (.int v2), some (.ref ((gR S6 0 8) + 193 + 2 * ix v1)), none, none, none]) (pc := 50) C dX11_felt_50 rfl (by decide) rfl ?_
    refine V_aload_n (pc := 51) C dX11_felt_51 rfl rfl ?_
    refine V_aload_n (pc := 52) C dX11_felt_52 rfl rfl ?_
    obtain ⟨r9, er9, h⟩ := b1_some h
    refine V_callV (As := [.ref ((gR S6 0 8) + 193 + 2 * ix v1)]) (pc := 53) C (mX11_senseOf _ (zx_cW_3_1 (zob_of k7) k8) er9) zm_X11_senseOf zi_X11_senseOf ml_RX11_337 z1_cW_11 rfl ⟨Nat.le_of_ble_eq_true rfl, Nat.le_of_ble_eq_true rfl⟩ rfl rfl (Nat.le_of_ble_eq_true rfl) dX11_felt_53 ?_
    show V K 56 [some (.ref 0), some (.int v1), some (.int v2), some (.ref ((gR S6 0 8) + 193 + 2 * ix v1)), none, none, none] [.ref r9] S6
    obtain ⟨r10, er10, h⟩ := b1_some h
    refine V_callV (As := []) (pc := 56) C (mX9_fresh _ (mX11_senseOf_f (zx_cW_3_1 (zob_of k7) k8) er9) er10) zm_X9_fresh zi_X9_fresh ml_RX11_120 (mX11_senseOf_f (zx_cW_3_1 (zob_of k7) k8) er9) rfl ⟨Nat.le_of_ble_eq_true rfl, Nat.le_of_ble_eq_true rfl⟩ rfl rfl (Nat.le_of_ble_eq_true rfl) dX11_felt_56 ?_
    show V K 59 [some (.ref 0), some (.int v1), some (.int v2), some (.ref ((gR S6 0 8) + 193 + 2 * ix v1)), none, none, none] [.ref r10] S6
    refine V_astore (L' := [some (.ref 0), some (.int v1), some (.int v2), some (.ref ((gR S6 0 8) + 193 + 2 * ix v1)), some (.ref r10), none, none]) (pc := 59) C dX11_felt_59 (by decide) rfl ?_
    refine V_aload_n (pc := 61) C dX11_felt_61 rfl rfl ?_
    refine V_aload_n (pc := 62) C dX11_felt_62 rfl rfl ?_
    refine V_iconst (pc := 63) C dX11_felt_63 kc_i_0 ?_
    refine V_aload_n (pc := 64) C dX11_felt_64 rfl rfl ?_
    refine V_getI (pc := 65) C (zx_cW_3_1 (zob_of k7) k8) fl_RX11_141 (by decide) dX11_felt_65 ?_
    obtain ⟨r11, er11, h⟩ := b1_some h
    refine V_callV (As := [.ref ((gR S6 0 8) + 193 + 2 * ix v1), .int (0 : Int32), .int (gI S6 ((gR S6 0 8) + 193 + 2 * ix v1) 2)]) (pc := 68) C (mX11_freshOnes _ (zx_cW_3_1 (zob_of k7) k8) er11) zm_X11_freshOnes zi_X11_freshOnes ml_RX11_341 z1_cW_11 rfl ⟨Nat.le_of_ble_eq_true rfl, Nat.le_of_ble_eq_true rfl⟩ rfl rfl (Nat.le_of_ble_eq_true rfl) dX11_felt_68 ?_
    show V K 71 [some (.ref 0), some (.int v1), some (.int v2), some (.ref ((gR S6 0 8) + 193 + 2 * ix v1)), some (.ref r10), none, none] [.int r11] S6
    refine V_istore (L' := [some (.ref 0), some (.int v1), some (.int v2), some (.ref ((gR S6 0 8) + 193 + 2 * ix v1)), some (.ref r10), some (.int r11), none]) (pc := 71) C dX11_felt_71 (by decide) rfl ?_
    refine V_iconst (pc := 73) C dX11_felt_73 kc_i_1 ?_
    refine V_istore (L' := [some (.ref 0), some (.int v1), some (.int v2), some (.ref ((gR S6 0 8) + 193 + 2 * ix v1)), some (.ref r10), some (.int r11), some (.int (1 : Int32))]) (pc := 74) C dX11_felt_74 (by decide) rfl ?_
    exact V_mask [true, false, true, true, true, true, true] (mX11_felt_L76 C (zx_cW_3_1 (zob_of k7) k8) (mX9_fresh_f (mX11_senseOf_f (zx_cW_3_1 (zob_of k7) k8) er9) er10) FU _ _ _ h hR)
  · have h := it_t hc h
    refine V_iconst (pc := 39) C dX11_felt_39 kc_i_m1 ?_
    cases h
    exact hR 40 _ ⟨_, rfl, rfl⟩ dX11_felt_40
set_option maxRecDepth 100000 in
theorem mX11_felt_J14 {K : zK} (C : zC K cX11_felt yX11_felt.cls 7 4 86 cW) {S : zM} {v1 : Int32} {v2 : Int32} {s0 : Int32} {r : Int32} {S' : zM}  (hR : zR K cX11_felt (some .int) S' (some (.int r))) (h : gX11_felt_J14 S v1 v2 s0 = some (r, S')) : V K 14 [some (.ref 0), some (.int v1), some (.int v2), none, none, none, none] [.int s0, .ref 0] S := by
  unfold gX11_felt_J14 at h
  obtain ⟨r2, S3, er2, h⟩ := b2_some h
  refine V_callV (As := [.int s0]) (pc := 14) C (mX11_passes _ er2) zm_X11_passes zi_X11_passes ml_RX11_71 z1_cW_11 rfl ⟨Nat.le_of_ble_eq_true rfl, Nat.le_of_ble_eq_true rfl⟩ rfl rfl (Nat.le_of_ble_eq_true rfl) dX11_felt_14 ?_
  show V K 17 [some (.ref 0), some (.int v1), some (.int v2), none, none, none, none] [.int r2] S3
  refine V_if_eq (tgt := 39) (pc := 17) C dX11_felt_17 (by decide) (fun hc => ?_) (fun hc => ?_)
  · have h := it_t hc h
    refine V_iconst (pc := 39) C dX11_felt_39 kc_i_m1 ?_
    cases h
    exact hR 40 _ ⟨_, rfl, rfl⟩ dX11_felt_40
  · have h := it_f hc h
    refine V_aload_n (pc := 20) C dX11_felt_20 rfl rfl ?_
    refine V_iload_n (pc := 21) C dX11_felt_21 rfl rfl ?_
    obtain ⟨r4, er4, h⟩ := b1_some h
    refine V_callS (As := [.int v2]) (pc := 22) C (mX11_isPercent _ er4) zm_X11_isPercent zs_X11_isPercent ml_RX11_327 ⟨Nat.le_of_ble_eq_true rfl, Nat.le_of_ble_eq_true rfl⟩ rfl rfl (Nat.le_of_ble_eq_true rfl) dX11_felt_22 ?_
    show V K 25 [some (.ref 0), some (.int v1), some (.int v2), none, none, none, none] [.int r4, .ref 0] S3
    refine V_if_eq (tgt := 32) (pc := 25) C dX11_felt_25 (by decide) (fun hc => ?_) (fun hc => ?_)
    · have h := it_t hc h
      refine V_iconst (pc := 32) C dX11_felt_32 kc_i_2 ?_
      exact V_mask [true, true, true, false, false, false, false] (mX11_felt_J33 C  hR h)
    · have h := it_f hc h
      refine V_iconst (pc := 28) C dX11_felt_28 kc_i_0 ?_
      refine V_goto (tgt := 33) (pc := 29) C dX11_felt_29 (by decide) ?_
      exact V_mask [true, true, true, false, false, false, false] (mX11_felt_J33 C  hR h)
set_option maxRecDepth 100000 in
theorem mX11_felt (l : Launch) {S : zM} {a1 : Int32} {a2 : Int32} {r : Int32} {S' : zM}  (h : gX11_felt S a1 a2 = some (r, S')) : zMet l cW zS0 yX11_felt cX11_felt 7 (some .int) 4 86 [.ref 0, .int a1, .int a2] S (some (.int r)) S' := by
  refine zmeth (by decide +kernel) (by rfl) (fun K hKl C hR => ?_)
  show V K 0 [some (.ref 0), some (.int a1), some (.int a2), none, none, none, none] [] S
  unfold gX11_felt at h
  refine V_aload_n (pc := 0) C dX11_felt_0 rfl rfl ?_
  refine V_aload_n (pc := 1) C dX11_felt_1 rfl rfl ?_
  refine V_iload_n (pc := 2) C dX11_felt_2 rfl rfl ?_
  obtain ⟨r1, er1, h⟩ := b1_some h
  refine V_callV (As := [.int a1]) (pc := 3) C (mX11_isSayer _ er1) zm_X11_isSayer zi_X11_isSayer ml_RX11_129 z1_cW_11 rfl ⟨Nat.le_of_ble_eq_true rfl, Nat.le_of_ble_eq_true rfl⟩ rfl rfl (Nat.le_of_ble_eq_true rfl) dX11_felt_3 ?_
  show V K 6 [some (.ref 0), some (.int a1), some (.int a2), none, none, none, none] [.int r1, .ref 0] S
  refine V_if_eq (tgt := 13) (pc := 6) C dX11_felt_6 (by decide) (fun hc => ?_) (fun hc => ?_)
  · have h := it_t hc h
    refine V_iconst (pc := 13) C dX11_felt_13 kc_i_1 ?_
    exact V_mask [true, true, true, false, false, false, false] (mX11_felt_J14 C  hR h)
  · have h := it_f hc h
    refine V_iconst (pc := 9) C dX11_felt_9 kc_i_0 ?_
    refine V_goto (tgt := 14) (pc := 10) C dX11_felt_10 (by decide) ?_
    exact V_mask [true, true, true, false, false, false, false] (mX11_felt_J14 C  hR h)
set_option maxRecDepth 100000 in
theorem mX11_isPay (l : Launch) {S : zM} {a1 : Int32} {r : Int32}  (h : gX11_isPay S a1 = some r) : zMet l cW zS0 yX11_isPay cX11_isPay 2 (some .boolean) 0 0 [.ref 0, .int a1] S (some (.int r)) S := by
  refine zmeth (by decide +kernel) (by rfl) (fun K hKl C hR => ?_)
  show V K 0 [some (.ref 0), some (.int a1)] [] S
  unfold gX11_isPay at h
  refine V_iload_n (pc := 0) C dX11_isPay_0 rfl rfl ?_
  refine V_if_lt (tgt := 19) (pc := 1) C dX11_isPay_1 (by decide) (fun hc => ?_) (fun hc => ?_)
  · have h := it_t hc h
    refine V_iconst (pc := 19) C dX11_isPay_19 kc_i_0 ?_
    cases h
    exact hR 20 _ ⟨_, rfl, zB0⟩ dX11_isPay_20
  · have h := it_f hc h
    refine V_iload_n (pc := 4) C dX11_isPay_4 rfl rfl ?_
    refine V_aload_n (pc := 5) C dX11_isPay_5 rfl rfl ?_
    obtain ⟨k1, h⟩ := ck_some h
    refine V_getR (pc := 6) C z1_cW_11 fl_RX11_52 rfl dX11_isPay_6 ?_
    refine V_getI (pc := 9) C (zob_of k1) fl_RX11_460 (by decide) dX11_isPay_9 ?_
    refine V_icmp_ge (tgt := 19) (pc := 12) C dX11_isPay_12 (by decide) (fun hc => ?_) (fun hc => ?_)
    · have h := it_t hc h
      refine V_iconst (pc := 19) C dX11_isPay_19 kc_i_0 ?_
      cases h
      exact hR 20 _ ⟨_, rfl, zB0⟩ dX11_isPay_20
    · have h := it_f hc h
      refine V_iconst (pc := 15) C dX11_isPay_15 kc_i_1 ?_
      refine V_goto (tgt := 20) (pc := 16) C dX11_isPay_16 (by decide) ?_
      cases h
      exact hR 20 _ ⟨_, rfl, zB1⟩ dX11_isPay_20
set_option maxRecDepth 100000 in
theorem mX11_gained (l : Launch) {S : zM} {a1 : Nat} {a2 : Nat} {a3 : Int32} {a4 : Int32} {r : Int64} (ha1 : zob cW 5 a1) (ha2 : zob cW 8 a2) (h : gX11_gained S a1 a2 a3 a4 = some r) : zMet l cW zS0 yX11_gained cX11_gained 14 (some .long) 4 86 [.ref 0, .ref a1, .ref a2, .int a3, .int a4] S (some (.long r)) S := by
  refine zmeth (by decide +kernel) (by rfl) (fun K hKl C hR => ?_)
  show V K 0 [some (.ref 0), some (.ref a1), some (.ref a2), some (.int a3), some (.int a4), none, none, none, none, none, none, none, none, none] [] S
  unfold gX11_gained at h
  refine V_aload_n (pc := 0) C dX11_gained_0 rfl rfl ?_
  refine V_aload_n (pc := 1) C dX11_gained_1 rfl rfl ?_
  obtain ⟨r1, er1, h⟩ := b1_some h
  refine V_callV (As := [.ref a2]) (pc := 2) C (mX11_senseOf _ ha2 er1) zm_X11_senseOf zi_X11_senseOf ml_RX11_337 z1_cW_11 rfl ⟨Nat.le_of_ble_eq_true rfl, Nat.le_of_ble_eq_true rfl⟩ rfl rfl (Nat.le_of_ble_eq_true rfl) dX11_gained_2 ?_
  show V K 5 [some (.ref 0), some (.ref a1), some (.ref a2), some (.int a3), some (.int a4), none, none, none, none, none, none, none, none, none] [.ref r1] S
  obtain ⟨r2, er2, h⟩ := b1_some h
  refine V_callV (As := []) (pc := 5) C (mX9_fresh _ (mX11_senseOf_f ha2 er1) er2) zm_X9_fresh zi_X9_fresh ml_RX11_120 (mX11_senseOf_f ha2 er1) rfl ⟨Nat.le_of_ble_eq_true rfl, Nat.le_of_ble_eq_true rfl⟩ rfl rfl (Nat.le_of_ble_eq_true rfl) dX11_gained_5 ?_
  show V K 8 [some (.ref 0), some (.ref a1), some (.ref a2), some (.int a3), some (.int a4), none, none, none, none, none, none, none, none, none] [.ref r2] S
  refine V_getI (pc := 8) C (mX9_fresh_f (mX11_senseOf_f ha2 er1) er2) fl_RX11_165 (by decide) dX11_gained_8 ?_
  refine V_istore (L' := [some (.ref 0), some (.ref a1), some (.ref a2), some (.int a3), some (.int a4), some (.int (gI S r2 3)), none, none, none, none, none, none, none, none]) (pc := 11) C dX11_gained_11 (by decide) rfl ?_
  refine V_aload_n (pc := 13) C dX11_gained_13 rfl rfl ?_
  refine V_aload_n (pc := 14) C dX11_gained_14 rfl rfl ?_
  refine V_iload_n (pc := 15) C dX11_gained_15 rfl rfl ?_
  refine V_iload (pc := 16) C dX11_gained_16 rfl ?_
  obtain ⟨r3, er3, h⟩ := b1_some h
  refine V_callV (As := [.ref a2, .int a3, .int a4]) (pc := 18) C (mX11_freshOnes _ ha2 er3) zm_X11_freshOnes zi_X11_freshOnes ml_RX11_341 z1_cW_11 rfl ⟨Nat.le_of_ble_eq_true rfl, Nat.le_of_ble_eq_true rfl⟩ rfl rfl (Nat.le_of_ble_eq_true rfl) dX11_gained_18 ?_
  show V K 21 [some (.ref 0), some (.ref a1), some (.ref a2), some (.int a3), some (.int a4), some (.int (gI S r2 3)), none, none, none, none, none, none, none, none] [.int r3] S
  refine V_i2l (pc := 21) C dX11_gained_21 ?_
  refine V_lstore (L' := [some (.ref 0), some (.ref a1), some (.ref a2), some (.int a3), some (.int a4), some (.int (gI S r2 3)), some (.long r3.toInt64), none, none, none, none, none, none, none]) (pc := 22) C dX11_gained_22 (by decide) rfl ?_
  refine V_aload_n (pc := 24) C dX11_gained_24 rfl rfl ?_
  refine V_aload_n (pc := 25) C dX11_gained_25 rfl rfl ?_
  refine V_iconst (pc := 26) C dX11_gained_26 kc_i_0 ?_
  refine V_iload (pc := 27) C dX11_gained_27 rfl ?_
  obtain ⟨r4, er4, h⟩ := b1_some h
  refine V_callV (As := [.ref a2, .int (0 : Int32), .int a4]) (pc := 29) C (mX11_freshOnes _ ha2 er4) zm_X11_freshOnes zi_X11_freshOnes ml_RX11_341 z1_cW_11 rfl ⟨Nat.le_of_ble_eq_true rfl, Nat.le_of_ble_eq_true rfl⟩ rfl rfl (Nat.le_of_ble_eq_true rfl) dX11_gained_29 ?_
  show V K 32 [some (.ref 0), some (.ref a1), some (.ref a2), some (.int a3), some (.int a4), some (.int (gI S r2 3)), some (.long r3.toInt64), none, none, none, none, none, none, none] [.int r4] S
  refine V_i2l (pc := 32) C dX11_gained_32 ?_
  refine V_lstore (L' := [some (.ref 0), some (.ref a1), some (.ref a2), some (.int a3), some (.int a4), some (.int (gI S r2 3)), some (.long r3.toInt64), none, some (.long r4.toInt64), none, none, none, none, none]) (pc := 33) C dX11_gained_33 (by decide) rfl ?_
  refine V_lload (pc := 35) C dX11_gained_35 rfl ?_
  refine V_aload_n (pc := 37) C dX11_gained_37 rfl rfl ?_
  refine V_getI (pc := 38) C ha1 fl_RX11_371 (by decide) dX11_gained_38 ?_
  refine V_i2l (pc := 41) C dX11_gained_41 ?_
  refine V_lmul (pc := 42) C dX11_gained_42 ?_
  refine V_iload (pc := 43) C dX11_gained_43 rfl ?_
  refine V_i2l (pc := 45) C dX11_gained_45 ?_
  refine V_lload (pc := 46) C dX11_gained_46 rfl ?_
  refine V_lsub (pc := 48) C dX11_gained_48 ?_
  refine V_aload_n (pc := 49) C dX11_gained_49 rfl rfl ?_
  refine V_getI (pc := 50) C ha1 fl_RX11_376 (by decide) dX11_gained_50 ?_
  refine V_i2l (pc := 53) C dX11_gained_53 ?_
  refine V_lmul (pc := 54) C dX11_gained_54 ?_
  refine V_ladd (pc := 55) C dX11_gained_55 ?_
  obtain ⟨x5, ex5, h⟩ := lt_some h
  refine V_nmJ ex5 ?_
  refine V_lstore (L' := [some (.ref 0), some (.ref a1), some (.ref a2), some (.int a3), some (.int a4), some (.int (gI S r2 3)), some (.long r3.toInt64), none, some (.long r4.toInt64), none, some (.long x5), none, none, none]) (pc := 56) C dX11_gained_56 (by decide) rfl ?_
  refine V_lload (pc := 58) C dX11_gained_58 rfl ?_
  refine V_aload_n (pc := 60) C dX11_gained_60 rfl rfl ?_
  refine V_getI (pc := 61) C ha1 fl_RX11_379 (by decide) dX11_gained_61 ?_
  refine V_i2l (pc := 64) C dX11_gained_64 ?_
  refine V_lmul (pc := 65) C dX11_gained_65 ?_
  refine V_iload (pc := 66) C dX11_gained_66 rfl ?_
  refine V_i2l (pc := 68) C dX11_gained_68 ?_
  refine V_lload (pc := 69) C dX11_gained_69 rfl ?_
  refine V_lsub (pc := 71) C dX11_gained_71 ?_
  refine V_aload_n (pc := 72) C dX11_gained_72 rfl rfl ?_
  refine V_getI (pc := 73) C ha1 fl_RX11_382 (by decide) dX11_gained_73 ?_
  refine V_i2l (pc := 76) C dX11_gained_76 ?_
  refine V_lmul (pc := 77) C dX11_gained_77 ?_
  refine V_ladd (pc := 78) C dX11_gained_78 ?_
  obtain ⟨x6, ex6, h⟩ := lt_some h
  refine V_nmJ ex6 ?_
  refine V_lstore (L' := [some (.ref 0), some (.ref a1), some (.ref a2), some (.int a3), some (.int a4), some (.int (gI S r2 3)), some (.long r3.toInt64), none, some (.long r4.toInt64), none, some (.long x5), none, some (.long x6), none]) (pc := 79) C dX11_gained_79 (by decide) rfl ?_
  refine V_aload_n (pc := 81) C dX11_gained_81 rfl rfl ?_
  refine V_getI (pc := 82) C ha1 fl_RX11_385 (by decide) dX11_gained_82 ?_
  refine V_i2l (pc := 85) C dX11_gained_85 ?_
  refine V_lload (pc := 86) C dX11_gained_86 rfl ?_
  refine V_lmul (pc := 88) C dX11_gained_88 ?_
  refine V_bipush (pc := 89) C dX11_gained_89 kc_b_100 ?_
  refine V_aload_n (pc := 91) C dX11_gained_91 rfl rfl ?_
  refine V_getI (pc := 92) C ha1 fl_RX11_385 (by decide) dX11_gained_92 ?_
  refine V_isub (pc := 95) C dX11_gained_95 ?_
  refine V_i2l (pc := 96) C dX11_gained_96 ?_
  refine V_lload (pc := 97) C dX11_gained_97 rfl ?_
  refine V_lmul (pc := 99) C dX11_gained_99 ?_
  refine V_ladd (pc := 100) C dX11_gained_100 ?_
  cases h
  exact hR 101 _ rfl dX11_gained_101
set_option maxRecDepth 100000 in
theorem mX11_gain_J49 {K : zK} (C : zC K cX11_gain yX11_gain.cls 5 5 119 cW) {S : zM} {v1 : Int32} {v2 : Int32} {v3 : Int32} {v4 : Int32} {s0 : Int32} {r : Int64} {S' : zM}  (hR : zR K cX11_gain (some .long) S' (some (.long r))) (h : gX11_gain_J49 S v1 v2 v3 v4 s0 = some (r, S')) : V K 49 [some (.ref 0), some (.int v1), some (.int v2), some (.int v3), some (.int v4)] [.int s0, .ref 0] S := by
  unfold gX11_gain_J49 at h
  obtain ⟨r5, S6, er5, h⟩ := b2_some h
  refine V_callV (As := [.int s0]) (pc := 49) C (mX11_passes _ er5) zm_X11_passes zi_X11_passes ml_RX11_71 z1_cW_11 rfl ⟨Nat.le_of_ble_eq_true rfl, Nat.le_of_ble_eq_true rfl⟩ rfl rfl (Nat.le_of_ble_eq_true rfl) dX11_gain_49 ?_
  show V K 52 [some (.ref 0), some (.int v1), some (.int v2), some (.int v3), some (.int v4)] [.int r5] S6
  refine V_if_ne (tgt := 59) (pc := 52) C dX11_gain_52 (by decide) (fun hc => ?_) (fun hc => ?_)
  · have h := it_f hc h
    refine V_aload_n (pc := 59) C dX11_gain_59 rfl rfl ?_
    refine V_aload_n (pc := 60) C dX11_gain_60 rfl rfl ?_
    obtain ⟨k7, h⟩ := ck_some h
    refine V_getR (pc := 61) C z1_cW_11 fl_RX11_52 rfl dX11_gain_61 ?_
    refine V_getF (p1 := ((gR S6 0 8) + 4)) (pc := 64) C (zob_of k7) fl_RX11_359 rfl (zf_cW_3_3 (zob_of k7)) dX11_gain_64 ?_
    refine V_iload_n (pc := 67) C dX11_gain_67 rfl rfl ?_
    obtain ⟨k8, h⟩ := ck_some h
    refine V_aald (p1 := ((gR S6 0 8) + 209 + 1 * ix v1)) (pc := 68) C (za_cW_3_3 (zob_of k7)) (fun _ => rfl) k8 (ze_cW_3_3 (zob_of k7) k8) dX11_gain_68 ?_
    refine V_aload_n (pc := 69) C dX11_gain_69 rfl rfl ?_
    obtain ⟨k9, h⟩ := ck_some h
    refine V_getR (pc := 70) C z1_cW_11 fl_RX11_52 rfl dX11_gain_70 ?_
    refine V_getF (p1 := ((gR S6 0 8) + 2)) (pc := 73) C (zob_of k9) fl_RX11_132 rfl (zf_cW_3_1 (zob_of k9)) dX11_gain_73 ?_
    refine V_iload_n (pc := 76) C dX11_gain_76 rfl rfl ?_
    obtain ⟨k10, h⟩ := ck_some h
    refine V_aald (p1 := ((gR S6 0 8) + 193 + 2 * ix v2)) (pc := 77) C (za_cW_3_1 (zob_of k9)) (fun _ => rfl) k10 (ze_cW_3_1 (zob_of k9) k10) dX11_gain_77 ?_
    refine V_iload_n (pc := 78) C dX11_gain_78 rfl rfl ?_
    refine V_iload (pc := 79) C dX11_gain_79 rfl ?_
    obtain ⟨r11, er11, h⟩ := b1_some h
    refine V_callV (As := [.ref ((gR S6 0 8) + 209 + 1 * ix v1), .ref ((gR S6 0 8) + 193 + 2 * ix v2), .int v3, .int v4]) (pc := 81) C (mX11_gained _ (zx_cW_3_3 (zob_of k7) k8) (zx_cW_3_1 (zob_of k9) k10) er11) zm_X11_gained zi_X11_gained ml_RX11_363 z1_cW_11 rfl ⟨Nat.le_of_ble_eq_true rfl, Nat.le_of_ble_eq_true rfl⟩ rfl rfl (Nat.le_of_ble_eq_true rfl) dX11_gain_81 ?_
    show V K 84 [some (.ref 0), some (.int v1), some (.int v2), some (.int v3), some (.int v4)] [.long r11] S6
    cases h
    exact hR 84 _ rfl dX11_gain_84
  · have h := it_t hc h
    refine V_ldc2 (pc := 55) C dX11_gain_55 kl_RX11_357 ?_
    cases h
    exact hR 58 _ rfl dX11_gain_58
set_option maxRecDepth 100000 in
theorem mX11_gain_J22 {K : zK} (C : zC K cX11_gain yX11_gain.cls 5 5 119 cW) {S : zM} {v1 : Int32} {v2 : Int32} {v3 : Int32} {v4 : Int32} {s0 : Int32} {r : Int64} {S' : zM}  (hR : zR K cX11_gain (some .long) S' (some (.long r))) (h : gX11_gain_J22 S v1 v2 v3 v4 s0 = some (r, S')) : V K 22 [some (.ref 0), some (.int v1), some (.int v2), some (.int v3), some (.int v4)] [.int s0, .ref 0] S := by
  unfold gX11_gain_J22 at h
  obtain ⟨r2, S3, er2, h⟩ := b2_some h
  refine V_callV (As := [.int s0]) (pc := 22) C (mX11_passes _ er2) zm_X11_passes zi_X11_passes ml_RX11_71 z1_cW_11 rfl ⟨Nat.le_of_ble_eq_true rfl, Nat.le_of_ble_eq_true rfl⟩ rfl rfl (Nat.le_of_ble_eq_true rfl) dX11_gain_22 ?_
  show V K 25 [some (.ref 0), some (.int v1), some (.int v2), some (.int v3), some (.int v4)] [.int r2] S3
  refine V_if_eq (tgt := 55) (pc := 25) C dX11_gain_25 (by decide) (fun hc => ?_) (fun hc => ?_)
  · have h := it_t hc h
    refine V_ldc2 (pc := 55) C dX11_gain_55 kl_RX11_357 ?_
    cases h
    exact hR 58 _ rfl dX11_gain_58
  · have h := it_f hc h
    refine V_aload_n (pc := 28) C dX11_gain_28 rfl rfl ?_
    refine V_iload_n (pc := 29) C dX11_gain_29 rfl rfl ?_
    obtain ⟨r4, er4, h⟩ := b1_some h
    refine V_callS (As := [.int v3]) (pc := 30) C (mX11_isSize _ er4) zm_X11_isSize zs_X11_isSize ml_RX11_242 ⟨Nat.le_of_ble_eq_true rfl, Nat.le_of_ble_eq_true rfl⟩ rfl rfl (Nat.le_of_ble_eq_true rfl) dX11_gain_30 ?_
    show V K 33 [some (.ref 0), some (.int v1), some (.int v2), some (.int v3), some (.int v4)] [.int r4, .ref 0] S3
    refine V_if_eq (tgt := 48) (pc := 33) C dX11_gain_33 (by decide) (fun hc => ?_) (fun hc => ?_)
    · have h := it_t hc h
      refine V_iconst (pc := 48) C dX11_gain_48 kc_i_2 ?_
      exact V_mask [true, true, true, true, true] (mX11_gain_J49 C  hR h)
    · have h := it_f hc h
      refine V_iload (pc := 36) C dX11_gain_36 rfl ?_
      obtain ⟨r12, er12, h⟩ := b1_some h
      refine V_callS (As := [.int v4]) (pc := 38) C (mX11_isFar _ er12) zm_X11_isFar zs_X11_isFar ml_RX11_291 ⟨Nat.le_of_ble_eq_true rfl, Nat.le_of_ble_eq_true rfl⟩ rfl rfl (Nat.le_of_ble_eq_true rfl) dX11_gain_38 ?_
      show V K 41 [some (.ref 0), some (.int v1), some (.int v2), some (.int v3), some (.int v4)] [.int r12, .ref 0] S3
      refine V_if_eq (tgt := 48) (pc := 41) C dX11_gain_41 (by decide) (fun hc => ?_) (fun hc => ?_)
      · have h := it_t hc h
        refine V_iconst (pc := 48) C dX11_gain_48 kc_i_2 ?_
        exact V_mask [true, true, true, true, true] (mX11_gain_J49 C  hR h)
      · have h := it_f hc h
        refine V_iconst (pc := 44) C dX11_gain_44 kc_i_0 ?_
        refine V_goto (tgt := 49) (pc := 45) C dX11_gain_45 (by decide) ?_
        exact V_mask [true, true, true, true, true] (mX11_gain_J49 C  hR h)
set_option maxRecDepth 100000 in
theorem mX11_gain (l : Launch) {S : zM} {a1 : Int32} {a2 : Int32} {a3 : Int32} {a4 : Int32} {r : Int64} {S' : zM}  (h : gX11_gain S a1 a2 a3 a4 = some (r, S')) : zMet l cW zS0 yX11_gain cX11_gain 5 (some .long) 5 119 [.ref 0, .int a1, .int a2, .int a3, .int a4] S (some (.long r)) S' := by
  refine zmeth (by decide +kernel) (by rfl) (fun K hKl C hR => ?_)
  show V K 0 [some (.ref 0), some (.int a1), some (.int a2), some (.int a3), some (.int a4)] [] S
  unfold gX11_gain at h
  refine V_aload_n (pc := 0) C dX11_gain_0 rfl rfl ?_
  refine V_aload_n (pc := 1) C dX11_gain_1 rfl rfl ?_
  refine V_iload_n (pc := 2) C dX11_gain_2 rfl rfl ?_
  obtain ⟨r1, er1, h⟩ := b1_some h
  refine V_callV (As := [.int a1]) (pc := 3) C (mX11_isPay _ er1) zm_X11_isPay zi_X11_isPay ml_RX11_354 z1_cW_11 rfl ⟨Nat.le_of_ble_eq_true rfl, Nat.le_of_ble_eq_true rfl⟩ rfl rfl (Nat.le_of_ble_eq_true rfl) dX11_gain_3 ?_
  show V K 6 [some (.ref 0), some (.int a1), some (.int a2), some (.int a3), some (.int a4)] [.int r1, .ref 0] S
  refine V_if_eq (tgt := 21) (pc := 6) C dX11_gain_6 (by decide) (fun hc => ?_) (fun hc => ?_)
  · have h := it_t hc h
    refine V_iconst (pc := 21) C dX11_gain_21 kc_i_1 ?_
    exact V_mask [true, true, true, true, true] (mX11_gain_J22 C  hR h)
  · have h := it_f hc h
    refine V_aload_n (pc := 9) C dX11_gain_9 rfl rfl ?_
    refine V_iload_n (pc := 10) C dX11_gain_10 rfl rfl ?_
    obtain ⟨r13, er13, h⟩ := b1_some h
    refine V_callV (As := [.int a2]) (pc := 11) C (mX11_isSayer _ er13) zm_X11_isSayer zi_X11_isSayer ml_RX11_129 z1_cW_11 rfl ⟨Nat.le_of_ble_eq_true rfl, Nat.le_of_ble_eq_true rfl⟩ rfl rfl (Nat.le_of_ble_eq_true rfl) dX11_gain_11 ?_
    show V K 14 [some (.ref 0), some (.int a1), some (.int a2), some (.int a3), some (.int a4)] [.int r13, .ref 0] S
    refine V_if_eq (tgt := 21) (pc := 14) C dX11_gain_14 (by decide) (fun hc => ?_) (fun hc => ?_)
    · have h := it_t hc h
      refine V_iconst (pc := 21) C dX11_gain_21 kc_i_1 ?_
      exact V_mask [true, true, true, true, true] (mX11_gain_J22 C  hR h)
    · have h := it_f hc h
      refine V_iconst (pc := 17) C dX11_gain_17 kc_i_0 ?_
      refine V_goto (tgt := 22) (pc := 18) C dX11_gain_18 (by decide) ?_
      exact V_mask [true, true, true, true, true] (mX11_gain_J22 C  hR h)
set_option maxRecDepth 100000 in
theorem mX11_bestLine_L19 {K : zK} (C : zC K cX11_bestLine yX11_bestLine.cls 10 5 119 cW) {S : zM} {v1 : Nat} {v2 : Nat} {v3 : Int32} (hv1 : zob cW 5 v1) (hv2 : zob cW 8 v2) : ∀ (f : Nat) (v4 : Int32) (v5 : Int64) (v7 : Int32) (r : Int32), gX11_bestLine_L19 S v1 v2 v3 f v4 v5 v7 = some r → zR K cX11_bestLine (some .int) S (some (.int r)) → V K 19 [some (.ref 0), some (.ref v1), some (.ref v2), some (.int v3), some (.int v4), some (.long v5), none, some (.int v7), none, none] [] S := by
  intro f
  induction f with
  | zero => intro v4 v5 v7 r h hR; cases h
  | succ n ih =>
    intro v4 v5 v7 r h hR
    unfold gX11_bestLine_L19 at h
    refine V_iload (pc := 19) C dX11_bestLine_19 rfl ?_
    refine V_bipush (pc := 21) C dX11_bestLine_21 kc_b_50 ?_
    refine V_icmp_gt (tgt := 59) (pc := 23) C dX11_bestLine_23 (by decide) (fun hc => ?_) (fun hc => ?_)
    · have h := it_t hc h
      refine V_iload (pc := 59) C dX11_bestLine_59 rfl ?_
      cases h
      exact hR 61 _ ⟨_, rfl, rfl⟩ dX11_bestLine_61
    · have h := it_f hc h
      refine V_aload_n (pc := 26) C dX11_bestLine_26 rfl rfl ?_
      refine V_aload_n (pc := 27) C dX11_bestLine_27 rfl rfl ?_
      refine V_aload_n (pc := 28) C dX11_bestLine_28 rfl rfl ?_
      refine V_iload_n (pc := 29) C dX11_bestLine_29 rfl rfl ?_
      refine V_iload (pc := 30) C dX11_bestLine_30 rfl ?_
      obtain ⟨r2, er2, h⟩ := b1_some h
      refine V_callV (As := [.ref v1, .ref v2, .int v3, .int v7]) (pc := 32) C (mX11_gained _ hv1 hv2 er2) zm_X11_gained zi_X11_gained ml_RX11_363 z1_cW_11 rfl ⟨Nat.le_of_ble_eq_true rfl, Nat.le_of_ble_eq_true rfl⟩ rfl rfl (Nat.le_of_ble_eq_true rfl) dX11_bestLine_32 ?_
      show V K 35 [some (.ref 0), some (.ref v1), some (.ref v2), some (.int v3), some (.int v4), some (.long v5), none, some (.int v7), none, none] [.long r2] S
      refine V_lstore (L' := [some (.ref 0), some (.ref v1), some (.ref v2), some (.int v3), some (.int v4), some (.long v5), none, some (.int v7), some (.long r2), none]) (pc := 35) C dX11_bestLine_35 (by decide) rfl ?_
      refine V_lload (pc := 37) C dX11_bestLine_37 rfl ?_
      refine V_lload (pc := 39) C dX11_bestLine_39 rfl ?_
      refine V_lcmp_le (tgt := 53) (pc := 41) C dX11_bestLine_41 dX11_bestLine_42 (by decide) (fun hc => ?_) (fun hc => ?_)
      · have h := it_t hc h
        refine V_iinc (L' := [some (.ref 0), some (.ref v1), some (.ref v2), some (.int v3), some (.int v4), some (.long v5), none, some (.int (v7 + (1 : Int32))), some (.long r2), none]) (v := (v7 + (1 : Int32))) (pc := 53) C dX11_bestLine_53 rfl (congrArg (v7 + ·) kc_i_1) (by decide) rfl ?_
        refine V_goto (tgt := 19) (pc := 56) C dX11_bestLine_56 (by decide) ?_
        exact V_mask [true, true, true, true, true, true, false, true, false, false] (ih _ _ _ _ h hR)
      · have h := it_f hc h
        refine V_lload (pc := 45) C dX11_bestLine_45 rfl ?_
        refine V_lstore (L' := [some (.ref 0), some (.ref v1), some (.ref v2), some (.int v3), some (.int v4), some (.long r2), none, some (.int v7), some (.long r2), none]) (pc := 47) C dX11_bestLine_47 (by decide) rfl ?_
        refine V_iload (pc := 49) C dX11_bestLine_49 rfl ?_
        refine V_istore (L' := [some (.ref 0), some (.ref v1), some (.ref v2), some (.int v3), some (.int v7), some (.long r2), none, some (.int v7), some (.long r2), none]) (pc := 51) C dX11_bestLine_51 (by decide) rfl ?_
        refine V_iinc (L' := [some (.ref 0), some (.ref v1), some (.ref v2), some (.int v3), some (.int v7), some (.long r2), none, some (.int (v7 + (1 : Int32))), some (.long r2), none]) (v := (v7 + (1 : Int32))) (pc := 53) C dX11_bestLine_53 rfl (congrArg (v7 + ·) kc_i_1) (by decide) rfl ?_
        refine V_goto (tgt := 19) (pc := 56) C dX11_bestLine_56 (by decide) ?_
        exact V_mask [true, true, true, true, true, true, false, true, false, false] (ih _ _ _ _ h hR)
set_option maxRecDepth 100000 in
theorem mX11_bestLine (l : Launch) {S : zM} {a1 : Nat} {a2 : Nat} {a3 : Int32} {r : Int32} (ha1 : zob cW 5 a1) (ha2 : zob cW 8 a2) (h : gX11_bestLine S a1 a2 a3 = some r) : zMet l cW zS0 yX11_bestLine cX11_bestLine 10 (some .int) 5 119 [.ref 0, .ref a1, .ref a2, .int a3] S (some (.int r)) S := by
  refine zmeth (by decide +kernel) (by rfl) (fun K hKl C hR => ?_)
  show V K 0 [some (.ref 0), some (.ref a1), some (.ref a2), some (.int a3), none, none, none, none, none, none] [] S
  unfold gX11_bestLine at h
  refine V_bipush (pc := 0) C dX11_bestLine_0 kc_b_m50 ?_
  refine V_istore (L' := [some (.ref 0), some (.ref a1), some (.ref a2), some (.int a3), some (.int (-50 : Int32)), none, none, none, none, none]) (pc := 2) C dX11_bestLine_2 (by decide) rfl ?_
  refine V_aload_n (pc := 4) C dX11_bestLine_4 rfl rfl ?_
  refine V_aload_n (pc := 5) C dX11_bestLine_5 rfl rfl ?_
  refine V_aload_n (pc := 6) C dX11_bestLine_6 rfl rfl ?_
  refine V_iload_n (pc := 7) C dX11_bestLine_7 rfl rfl ?_
  refine V_iload (pc := 8) C dX11_bestLine_8 rfl ?_
  obtain ⟨r1, er1, h⟩ := b1_some h
  refine V_callV (As := [.ref a1, .ref a2, .int a3, .int (-50 : Int32)]) (pc := 10) C (mX11_gained _ ha1 ha2 er1) zm_X11_gained zi_X11_gained ml_RX11_363 z1_cW_11 rfl ⟨Nat.le_of_ble_eq_true rfl, Nat.le_of_ble_eq_true rfl⟩ rfl rfl (Nat.le_of_ble_eq_true rfl) dX11_bestLine_10 ?_
  show V K 13 [some (.ref 0), some (.ref a1), some (.ref a2), some (.int a3), some (.int (-50 : Int32)), none, none, none, none, none] [.long r1] S
  refine V_lstore (L' := [some (.ref 0), some (.ref a1), some (.ref a2), some (.int a3), some (.int (-50 : Int32)), some (.long r1), none, none, none, none]) (pc := 13) C dX11_bestLine_13 (by decide) rfl ?_
  refine V_bipush (pc := 15) C dX11_bestLine_15 kc_b_m49 ?_
  refine V_istore (L' := [some (.ref 0), some (.ref a1), some (.ref a2), some (.int a3), some (.int (-50 : Int32)), some (.long r1), none, some (.int (-49 : Int32)), none, none]) (pc := 17) C dX11_bestLine_17 (by decide) rfl ?_
  exact V_mask [true, true, true, true, true, true, false, true, false, false] (mX11_bestLine_L19 C ha1 ha2 FU _ _ _ _ h hR)
set_option maxRecDepth 100000 in
theorem mX11_best_J41 {K : zK} (C : zC K cX11_best yX11_best.cls 4 6 148 cW) {S : zM} {v1 : Int32} {v2 : Int32} {v3 : Int32} {s0 : Int32} {r : Int32} {S' : zM}  (hR : zR K cX11_best (some .int) S' (some (.int r))) (h : gX11_best_J41 S v1 v2 v3 s0 = some (r, S')) : V K 41 [some (.ref 0), some (.int v1), some (.int v2), some (.int v3)] [.int s0, .ref 0] S := by
  unfold gX11_best_J41 at h
  obtain ⟨r5, S6, er5, h⟩ := b2_some h
  refine V_callV (As := [.int s0]) (pc := 41) C (mX11_passes _ er5) zm_X11_passes zi_X11_passes ml_RX11_71 z1_cW_11 rfl ⟨Nat.le_of_ble_eq_true rfl, Nat.le_of_ble_eq_true rfl⟩ rfl rfl (Nat.le_of_ble_eq_true rfl) dX11_best_41 ?_
  show V K 44 [some (.ref 0), some (.int v1), some (.int v2), some (.int v3)] [.int r5] S6
  refine V_if_ne (tgt := 51) (pc := 44) C dX11_best_44 (by decide) (fun hc => ?_) (fun hc => ?_)
  · have h := it_f hc h
    refine V_aload_n (pc := 51) C dX11_best_51 rfl rfl ?_
    refine V_aload_n (pc := 52) C dX11_best_52 rfl rfl ?_
    obtain ⟨k7, h⟩ := ck_some h
    refine V_getR (pc := 53) C z1_cW_11 fl_RX11_52 rfl dX11_best_53 ?_
    refine V_getF (p1 := ((gR S6 0 8) + 4)) (pc := 56) C (zob_of k7) fl_RX11_359 rfl (zf_cW_3_3 (zob_of k7)) dX11_best_56 ?_
    refine V_iload_n (pc := 59) C dX11_best_59 rfl rfl ?_
    obtain ⟨k8, h⟩ := ck_some h
    refine V_aald (p1 := ((gR S6 0 8) + 209 + 1 * ix v1)) (pc := 60) C (za_cW_3_3 (zob_of k7)) (fun _ => rfl) k8 (ze_cW_3_3 (zob_of k7) k8) dX11_best_60 ?_
    refine V_aload_n (pc := 61) C dX11_best_61 rfl rfl ?_
    obtain ⟨k9, h⟩ := ck_some h
    refine V_getR (pc := 62) C z1_cW_11 fl_RX11_52 rfl dX11_best_62 ?_
    refine V_getF (p1 := ((gR S6 0 8) + 2)) (pc := 65) C (zob_of k9) fl_RX11_132 rfl (zf_cW_3_1 (zob_of k9)) dX11_best_65 ?_
    refine V_iload_n (pc := 68) C dX11_best_68 rfl rfl ?_
    obtain ⟨k10, h⟩ := ck_some h
    refine V_aald (p1 := ((gR S6 0 8) + 193 + 2 * ix v2)) (pc := 69) C (za_cW_3_1 (zob_of k9)) (fun _ => rfl) k10 (ze_cW_3_1 (zob_of k9) k10) dX11_best_69 ?_
    refine V_iload_n (pc := 70) C dX11_best_70 rfl rfl ?_
    obtain ⟨r11, er11, h⟩ := b1_some h
    refine V_callV (As := [.ref ((gR S6 0 8) + 209 + 1 * ix v1), .ref ((gR S6 0 8) + 193 + 2 * ix v2), .int v3]) (pc := 71) C (mX11_bestLine _ (zx_cW_3_3 (zob_of k7) k8) (zx_cW_3_1 (zob_of k9) k10) er11) zm_X11_bestLine zi_X11_bestLine ml_RX11_367 z1_cW_11 rfl ⟨Nat.le_of_ble_eq_true rfl, Nat.le_of_ble_eq_true rfl⟩ rfl rfl (Nat.le_of_ble_eq_true rfl) dX11_best_71 ?_
    show V K 74 [some (.ref 0), some (.int v1), some (.int v2), some (.int v3)] [.int r11] S6
    cases h
    exact hR 74 _ ⟨_, rfl, rfl⟩ dX11_best_74
  · have h := it_t hc h
    refine V_sipush (pc := 47) C dX11_best_47 kc_s_m1000 ?_
    cases h
    exact hR 50 _ ⟨_, rfl, rfl⟩ dX11_best_50
set_option maxRecDepth 100000 in
theorem mX11_best_J22 {K : zK} (C : zC K cX11_best yX11_best.cls 4 6 148 cW) {S : zM} {v1 : Int32} {v2 : Int32} {v3 : Int32} {s0 : Int32} {r : Int32} {S' : zM}  (hR : zR K cX11_best (some .int) S' (some (.int r))) (h : gX11_best_J22 S v1 v2 v3 s0 = some (r, S')) : V K 22 [some (.ref 0), some (.int v1), some (.int v2), some (.int v3)] [.int s0, .ref 0] S := by
  unfold gX11_best_J22 at h
  obtain ⟨r2, S3, er2, h⟩ := b2_some h
  refine V_callV (As := [.int s0]) (pc := 22) C (mX11_passes _ er2) zm_X11_passes zi_X11_passes ml_RX11_71 z1_cW_11 rfl ⟨Nat.le_of_ble_eq_true rfl, Nat.le_of_ble_eq_true rfl⟩ rfl rfl (Nat.le_of_ble_eq_true rfl) dX11_best_22 ?_
  show V K 25 [some (.ref 0), some (.int v1), some (.int v2), some (.int v3)] [.int r2] S3
  refine V_if_eq (tgt := 47) (pc := 25) C dX11_best_25 (by decide) (fun hc => ?_) (fun hc => ?_)
  · have h := it_t hc h
    refine V_sipush (pc := 47) C dX11_best_47 kc_s_m1000 ?_
    cases h
    exact hR 50 _ ⟨_, rfl, rfl⟩ dX11_best_50
  · have h := it_f hc h
    refine V_aload_n (pc := 28) C dX11_best_28 rfl rfl ?_
    refine V_iload_n (pc := 29) C dX11_best_29 rfl rfl ?_
    obtain ⟨r4, er4, h⟩ := b1_some h
    refine V_callS (As := [.int v3]) (pc := 30) C (mX11_isSize _ er4) zm_X11_isSize zs_X11_isSize ml_RX11_242 ⟨Nat.le_of_ble_eq_true rfl, Nat.le_of_ble_eq_true rfl⟩ rfl rfl (Nat.le_of_ble_eq_true rfl) dX11_best_30 ?_
    show V K 33 [some (.ref 0), some (.int v1), some (.int v2), some (.int v3)] [.int r4, .ref 0] S3
    refine V_if_eq (tgt := 40) (pc := 33) C dX11_best_33 (by decide) (fun hc => ?_) (fun hc => ?_)
    · have h := it_t hc h
      refine V_iconst (pc := 40) C dX11_best_40 kc_i_2 ?_
      exact V_mask [true, true, true, true] (mX11_best_J41 C  hR h)
    · have h := it_f hc h
      refine V_iconst (pc := 36) C dX11_best_36 kc_i_0 ?_
      refine V_goto (tgt := 41) (pc := 37) C dX11_best_37 (by decide) ?_
      exact V_mask [true, true, true, true] (mX11_best_J41 C  hR h)
set_option maxRecDepth 100000 in
theorem mX11_best (l : Launch) {S : zM} {a1 : Int32} {a2 : Int32} {a3 : Int32} {r : Int32} {S' : zM}  (h : gX11_best S a1 a2 a3 = some (r, S')) : zMet l cW zS0 yX11_best cX11_best 4 (some .int) 6 148 [.ref 0, .int a1, .int a2, .int a3] S (some (.int r)) S' := by
  refine zmeth (by decide +kernel) (by rfl) (fun K hKl C hR => ?_)
  show V K 0 [some (.ref 0), some (.int a1), some (.int a2), some (.int a3)] [] S
  unfold gX11_best at h
  refine V_aload_n (pc := 0) C dX11_best_0 rfl rfl ?_
  refine V_aload_n (pc := 1) C dX11_best_1 rfl rfl ?_
  refine V_iload_n (pc := 2) C dX11_best_2 rfl rfl ?_
  obtain ⟨r1, er1, h⟩ := b1_some h
  refine V_callV (As := [.int a1]) (pc := 3) C (mX11_isPay _ er1) zm_X11_isPay zi_X11_isPay ml_RX11_354 z1_cW_11 rfl ⟨Nat.le_of_ble_eq_true rfl, Nat.le_of_ble_eq_true rfl⟩ rfl rfl (Nat.le_of_ble_eq_true rfl) dX11_best_3 ?_
  show V K 6 [some (.ref 0), some (.int a1), some (.int a2), some (.int a3)] [.int r1, .ref 0] S
  refine V_if_eq (tgt := 21) (pc := 6) C dX11_best_6 (by decide) (fun hc => ?_) (fun hc => ?_)
  · have h := it_t hc h
    refine V_iconst (pc := 21) C dX11_best_21 kc_i_1 ?_
    exact V_mask [true, true, true, true] (mX11_best_J22 C  hR h)
  · have h := it_f hc h
    refine V_aload_n (pc := 9) C dX11_best_9 rfl rfl ?_
    refine V_iload_n (pc := 10) C dX11_best_10 rfl rfl ?_
    obtain ⟨r12, er12, h⟩ := b1_some h
    refine V_callV (As := [.int a2]) (pc := 11) C (mX11_isSayer _ er12) zm_X11_isSayer zi_X11_isSayer ml_RX11_129 z1_cW_11 rfl ⟨Nat.le_of_ble_eq_true rfl, Nat.le_of_ble_eq_true rfl⟩ rfl rfl (Nat.le_of_ble_eq_true rfl) dX11_best_11 ?_
    show V K 14 [some (.ref 0), some (.int a1), some (.int a2), some (.int a3)] [.int r12, .ref 0] S
    refine V_if_eq (tgt := 21) (pc := 14) C dX11_best_14 (by decide) (fun hc => ?_) (fun hc => ?_)
    · have h := it_t hc h
      refine V_iconst (pc := 21) C dX11_best_21 kc_i_1 ?_
      exact V_mask [true, true, true, true] (mX11_best_J22 C  hR h)
    · have h := it_f hc h
      refine V_iconst (pc := 17) C dX11_best_17 kc_i_0 ?_
      refine V_goto (tgt := 22) (pc := 18) C dX11_best_18 (by decide) ?_
      exact V_mask [true, true, true, true] (mX11_best_J22 C  hR h)
set_option maxRecDepth 100000 in
theorem mX11_moves_J41 {K : zK} (C : zC K cX11_moves yX11_moves.cls 6 6 148 cW) {S : zM} {v1 : Int32} {v2 : Int32} {v3 : Int32} {s0 : Int32} {r : Int32} {S' : zM}  (hR : zR K cX11_moves (some .int) S' (some (.int r))) (h : gX11_moves_J41 S v1 v2 v3 s0 = some (r, S')) : V K 41 [some (.ref 0), some (.int v1), some (.int v2), some (.int v3), none, none] [.int s0, .ref 0] S := by
  unfold gX11_moves_J41 at h
  obtain ⟨r5, S6, er5, h⟩ := b2_some h
  refine V_callV (As := [.int s0]) (pc := 41) C (mX11_passes _ er5) zm_X11_passes zi_X11_passes ml_RX11_71 z1_cW_11 rfl ⟨Nat.le_of_ble_eq_true rfl, Nat.le_of_ble_eq_true rfl⟩ rfl rfl (Nat.le_of_ble_eq_true rfl) dX11_moves_41 ?_
  show V K 44 [some (.ref 0), some (.int v1), some (.int v2), some (.int v3), none, none] [.int r5] S6
  refine V_if_ne (tgt := 51) (pc := 44) C dX11_moves_44 (by decide) (fun hc => ?_) (fun hc => ?_)
  · have h := it_f hc h
    refine V_aload_n (pc := 51) C dX11_moves_51 rfl rfl ?_
    obtain ⟨k7, h⟩ := ck_some h
    refine V_getR (pc := 52) C z1_cW_11 fl_RX11_52 rfl dX11_moves_52 ?_
    refine V_getF (p1 := ((gR S6 0 8) + 2)) (pc := 55) C (zob_of k7) fl_RX11_132 rfl (zf_cW_3_1 (zob_of k7)) dX11_moves_55 ?_
    refine V_iload_n (pc := 58) C dX11_moves_58 rfl rfl ?_
    obtain ⟨k8, h⟩ := ck_some h
    refine V_aald (p1 := ((gR S6 0 8) + 193 + 2 * ix v2)) (pc := 59) C (za_cW_3_1 (zob_of k7)) (fun _ => rfl) k8 (ze_cW_3_1 (zob_of k7) k8) dX11_moves_59 ?_
    refine V_astore (L' := [some (.ref 0), some (.int v1), some (.int v2), some (.int v3), some (.ref ((gR S6 0 8) + 193 + 2 * ix v2)), none]) (pc := 60) C dX11_moves_60 (by decide) rfl ?_
    refine V_aload (pc := 62) C dX11_moves_62 rfl ?_
    refine V_getI (pc := 64) C (zx_cW_3_1 (zob_of k7) k8) fl_RX11_141 (by decide) dX11_moves_64 ?_
    obtain ⟨x9, ex9, h⟩ := lt_some h
    refine V_nmI ex9 ?_
    refine V_istore (L' := [some (.ref 0), some (.int v1), some (.int v2), some (.int v3), some (.ref ((gR S6 0 8) + 193 + 2 * ix v2)), some (.int x9)]) (pc := 67) C dX11_moves_67 (by decide) rfl ?_
    refine V_aload (pc := 69) C dX11_moves_69 rfl ?_
    refine V_aload_n (pc := 71) C dX11_moves_71 rfl rfl ?_
    refine V_aload_n (pc := 72) C dX11_moves_72 rfl rfl ?_
    obtain ⟨k10, h⟩ := ck_some h
    refine V_getR (pc := 73) C z1_cW_11 fl_RX11_52 rfl dX11_moves_73 ?_
    refine V_getF (p1 := ((gR S6 0 8) + 4)) (pc := 76) C (zob_of k10) fl_RX11_359 rfl (zf_cW_3_3 (zob_of k10)) dX11_moves_76 ?_
    refine V_iload_n (pc := 79) C dX11_moves_79 rfl rfl ?_
    obtain ⟨k11, h⟩ := ck_some h
    refine V_aald (p1 := ((gR S6 0 8) + 209 + 1 * ix v1)) (pc := 80) C (za_cW_3_3 (zob_of k10)) (fun _ => rfl) k11 (ze_cW_3_3 (zob_of k10) k11) dX11_moves_80 ?_
    refine V_aload (pc := 81) C dX11_moves_81 rfl ?_
    refine V_iload_n (pc := 83) C dX11_moves_83 rfl rfl ?_
    obtain ⟨r12, er12, h⟩ := b1_some h
    refine V_callV (As := [.ref ((gR S6 0 8) + 209 + 1 * ix v1), .ref ((gR S6 0 8) + 193 + 2 * ix v2), .int v3]) (pc := 84) C (mX11_bestLine _ (zx_cW_3_3 (zob_of k10) k11) (zx_cW_3_1 (zob_of k7) k8) er12) zm_X11_bestLine zi_X11_bestLine ml_RX11_367 z1_cW_11 rfl ⟨Nat.le_of_ble_eq_true rfl, Nat.le_of_ble_eq_true rfl⟩ rfl rfl (Nat.le_of_ble_eq_true rfl) dX11_moves_84 ?_
    show V K 87 [some (.ref 0), some (.int v1), some (.int v2), some (.int v3), some (.ref ((gR S6 0 8) + 193 + 2 * ix v2)), some (.int x9)] [.int r12, .ref ((gR S6 0 8) + 193 + 2 * ix v2)] S6
    refine V_putI (pc := 87) C (zx_cW_3_1 (zob_of k7) k8) fp_RX11_141 rfl rfl dX11_moves_87 ?_
    refine V_aload (pc := 90) C dX11_moves_90 rfl ?_
    refine V_getI (pc := 92) C (zx_cW_3_1 (zob_of k7) k8) fl_RX11_141 (by decide) dX11_moves_92 ?_
    refine V_iload (pc := 95) C dX11_moves_95 rfl ?_
    refine V_isub (pc := 97) C dX11_moves_97 ?_
    cases h
    exact hR 98 _ ⟨_, rfl, rfl⟩ dX11_moves_98
  · have h := it_t hc h
    refine V_sipush (pc := 47) C dX11_moves_47 kc_s_m1000 ?_
    cases h
    exact hR 50 _ ⟨_, rfl, rfl⟩ dX11_moves_50
set_option maxRecDepth 100000 in
theorem mX11_moves_J22 {K : zK} (C : zC K cX11_moves yX11_moves.cls 6 6 148 cW) {S : zM} {v1 : Int32} {v2 : Int32} {v3 : Int32} {s0 : Int32} {r : Int32} {S' : zM}  (hR : zR K cX11_moves (some .int) S' (some (.int r))) (h : gX11_moves_J22 S v1 v2 v3 s0 = some (r, S')) : V K 22 [some (.ref 0), some (.int v1), some (.int v2), some (.int v3), none, none] [.int s0, .ref 0] S := by
  unfold gX11_moves_J22 at h
  obtain ⟨r2, S3, er2, h⟩ := b2_some h
  refine V_callV (As := [.int s0]) (pc := 22) C (mX11_passes _ er2) zm_X11_passes zi_X11_passes ml_RX11_71 z1_cW_11 rfl ⟨Nat.le_of_ble_eq_true rfl, Nat.le_of_ble_eq_true rfl⟩ rfl rfl (Nat.le_of_ble_eq_true rfl) dX11_moves_22 ?_
  show V K 25 [some (.ref 0), some (.int v1), some (.int v2), some (.int v3), none, none] [.int r2] S3
  refine V_if_eq (tgt := 47) (pc := 25) C dX11_moves_25 (by decide) (fun hc => ?_) (fun hc => ?_)
  · have h := it_t hc h
    refine V_sipush (pc := 47) C dX11_moves_47 kc_s_m1000 ?_
    cases h
    exact hR 50 _ ⟨_, rfl, rfl⟩ dX11_moves_50
  · have h := it_f hc h
    refine V_aload_n (pc := 28) C dX11_moves_28 rfl rfl ?_
    refine V_iload_n (pc := 29) C dX11_moves_29 rfl rfl ?_
    obtain ⟨r4, er4, h⟩ := b1_some h
    refine V_callS (As := [.int v3]) (pc := 30) C (mX11_isSize _ er4) zm_X11_isSize zs_X11_isSize ml_RX11_242 ⟨Nat.le_of_ble_eq_true rfl, Nat.le_of_ble_eq_true rfl⟩ rfl rfl (Nat.le_of_ble_eq_true rfl) dX11_moves_30 ?_
    show V K 33 [some (.ref 0), some (.int v1), some (.int v2), some (.int v3), none, none] [.int r4, .ref 0] S3
    refine V_if_eq (tgt := 40) (pc := 33) C dX11_moves_33 (by decide) (fun hc => ?_) (fun hc => ?_)
    · have h := it_t hc h
      refine V_iconst (pc := 40) C dX11_moves_40 kc_i_2 ?_
      exact V_mask [true, true, true, true, false, false] (mX11_moves_J41 C  hR h)
    · have h := it_f hc h
      refine V_iconst (pc := 36) C dX11_moves_36 kc_i_0 ?_
      refine V_goto (tgt := 41) (pc := 37) C dX11_moves_37 (by decide) ?_
      exact V_mask [true, true, true, true, false, false] (mX11_moves_J41 C  hR h)
set_option maxRecDepth 100000 in
theorem mX11_moves (l : Launch) {S : zM} {a1 : Int32} {a2 : Int32} {a3 : Int32} {r : Int32} {S' : zM}  (h : gX11_moves S a1 a2 a3 = some (r, S')) : zMet l cW zS0 yX11_moves cX11_moves 6 (some .int) 6 148 [.ref 0, .int a1, .int a2, .int a3] S (some (.int r)) S' := by
  refine zmeth (by decide +kernel) (by rfl) (fun K hKl C hR => ?_)
  show V K 0 [some (.ref 0), some (.int a1), some (.int a2), some (.int a3), none, none] [] S
  unfold gX11_moves at h
  refine V_aload_n (pc := 0) C dX11_moves_0 rfl rfl ?_
  refine V_aload_n (pc := 1) C dX11_moves_1 rfl rfl ?_
  refine V_iload_n (pc := 2) C dX11_moves_2 rfl rfl ?_
  obtain ⟨r1, er1, h⟩ := b1_some h
  refine V_callV (As := [.int a1]) (pc := 3) C (mX11_isPay _ er1) zm_X11_isPay zi_X11_isPay ml_RX11_354 z1_cW_11 rfl ⟨Nat.le_of_ble_eq_true rfl, Nat.le_of_ble_eq_true rfl⟩ rfl rfl (Nat.le_of_ble_eq_true rfl) dX11_moves_3 ?_
  show V K 6 [some (.ref 0), some (.int a1), some (.int a2), some (.int a3), none, none] [.int r1, .ref 0] S
  refine V_if_eq (tgt := 21) (pc := 6) C dX11_moves_6 (by decide) (fun hc => ?_) (fun hc => ?_)
  · have h := it_t hc h
    refine V_iconst (pc := 21) C dX11_moves_21 kc_i_1 ?_
    exact V_mask [true, true, true, true, false, false] (mX11_moves_J22 C  hR h)
  · have h := it_f hc h
    refine V_aload_n (pc := 9) C dX11_moves_9 rfl rfl ?_
    refine V_iload_n (pc := 10) C dX11_moves_10 rfl rfl ?_
    obtain ⟨r13, er13, h⟩ := b1_some h
    refine V_callV (As := [.int a2]) (pc := 11) C (mX11_isSayer _ er13) zm_X11_isSayer zi_X11_isSayer ml_RX11_129 z1_cW_11 rfl ⟨Nat.le_of_ble_eq_true rfl, Nat.le_of_ble_eq_true rfl⟩ rfl rfl (Nat.le_of_ble_eq_true rfl) dX11_moves_11 ?_
    show V K 14 [some (.ref 0), some (.int a1), some (.int a2), some (.int a3), none, none] [.int r13, .ref 0] S
    refine V_if_eq (tgt := 21) (pc := 14) C dX11_moves_14 (by decide) (fun hc => ?_) (fun hc => ?_)
    · have h := it_t hc h
      refine V_iconst (pc := 21) C dX11_moves_21 kc_i_1 ?_
      exact V_mask [true, true, true, true, false, false] (mX11_moves_J22 C  hR h)
    · have h := it_f hc h
      refine V_iconst (pc := 17) C dX11_moves_17 kc_i_0 ?_
      refine V_goto (tgt := 22) (pc := 18) C dX11_moves_18 (by decide) ?_
      exact V_mask [true, true, true, true, false, false] (mX11_moves_J22 C  hR h)
set_option maxRecDepth 100000 in
theorem mX11_leadPlace (l : Launch) {S : zM} {a0 : Int32} {a1 : Int32} {r : Int32}  (h : gX11_leadPlace a0 a1 = some r) : zMet l cW zS0 yX11_leadPlace cX11_leadPlace 5 (some .int) 1 21 [.int a0, .int a1] S (some (.int r)) S := by
  refine zmeth (by decide +kernel) (by rfl) (fun K hKl C hR => ?_)
  show V K 0 [some (.int a0), some (.int a1), none, none, none] [] S
  unfold gX11_leadPlace at h
  refine V_bipush (pc := 0) C dX11_leadPlace_0 kc_b_11 ?_
  refine V_istore_n (L' := [some (.int a0), some (.int a1), some (.int (11 : Int32)), none, none]) (pc := 2) C dX11_leadPlace_2 rfl (by decide) rfl ?_
  refine V_iload_n (pc := 3) C dX11_leadPlace_3 rfl rfl ?_
  refine V_ineg (pc := 4) C dX11_leadPlace_4 ?_
  refine V_iload_n (pc := 5) C dX11_leadPlace_5 rfl rfl ?_
  refine V_iload_n (pc := 6) C dX11_leadPlace_6 rfl rfl ?_
  refine V_min (pc := 7) C ml_RX11_219 mt_min.1 mt_min.2.1 mt_min.2.2 ⟨Nat.le_of_ble_eq_true rfl, Nat.le_of_ble_eq_true rfl⟩ dX11_leadPlace_7 ?_
  refine V_max (pc := 10) C ml_RX11_282 mt_max.1 mt_max.2.1 mt_max.2.2 ⟨Nat.le_of_ble_eq_true rfl, Nat.le_of_ble_eq_true rfl⟩ dX11_leadPlace_10 ?_
  refine V_iload_n (pc := 13) C dX11_leadPlace_13 rfl rfl ?_
  refine V_iadd (pc := 14) C dX11_leadPlace_14 ?_
  obtain ⟨x1, ex1, h⟩ := lt_some h
  refine V_nmI ex1 ?_
  refine V_istore_n (L' := [some (.int a0), some (.int a1), some (.int (11 : Int32)), some (.int x1), none]) (pc := 15) C dX11_leadPlace_15 rfl (by decide) rfl ?_
  refine V_iload_n (pc := 16) C dX11_leadPlace_16 rfl rfl ?_
  refine V_ineg (pc := 17) C dX11_leadPlace_17 ?_
  refine V_iload_n (pc := 18) C dX11_leadPlace_18 rfl rfl ?_
  refine V_iload_n (pc := 19) C dX11_leadPlace_19 rfl rfl ?_
  refine V_min (pc := 20) C ml_RX11_219 mt_min.1 mt_min.2.1 mt_min.2.2 ⟨Nat.le_of_ble_eq_true rfl, Nat.le_of_ble_eq_true rfl⟩ dX11_leadPlace_20 ?_
  refine V_max (pc := 23) C ml_RX11_282 mt_max.1 mt_max.2.1 mt_max.2.2 ⟨Nat.le_of_ble_eq_true rfl, Nat.le_of_ble_eq_true rfl⟩ dX11_leadPlace_23 ?_
  refine V_iload_n (pc := 26) C dX11_leadPlace_26 rfl rfl ?_
  refine V_iadd (pc := 27) C dX11_leadPlace_27 ?_
  obtain ⟨x2, ex2, h⟩ := lt_some h
  refine V_nmI ex2 ?_
  refine V_istore (L' := [some (.int a0), some (.int a1), some (.int (11 : Int32)), some (.int x1), some (.int x2)]) (pc := 28) C dX11_leadPlace_28 (by decide) rfl ?_
  refine V_iload_n (pc := 30) C dX11_leadPlace_30 rfl rfl ?_
  refine V_iconst (pc := 31) C dX11_leadPlace_31 kc_i_2 ?_
  refine V_iload_n (pc := 32) C dX11_leadPlace_32 rfl rfl ?_
  refine V_imul (pc := 33) C dX11_leadPlace_33 ?_
  refine V_iconst (pc := 34) C dX11_leadPlace_34 kc_i_1 ?_
  refine V_iadd (pc := 35) C dX11_leadPlace_35 ?_
  refine V_imul (pc := 36) C dX11_leadPlace_36 ?_
  refine V_iload (pc := 37) C dX11_leadPlace_37 rfl ?_
  refine V_iadd (pc := 39) C dX11_leadPlace_39 ?_
  cases h
  exact hR 40 _ ⟨_, rfl, rfl⟩ dX11_leadPlace_40
