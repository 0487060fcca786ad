set_option maxRecDepth 100000 in
theorem mX0_put_J32 {K : zK} (C : zC K cX0_put yX0_put.cls 6 0 0 cW) {S : zM} {v2 : Int32} {v5 : Int32} {s0 : Int32} {S' : zM}  (hR : zR K cX0_put (none) S' none) (h : gX0_put_J32 S v2 v5 s0 = some S') : V K 32 [some (.ref 456), none, some (.int v2), none, none, some (.int v5)] [.int s0, .ref 456] S := by
  unfold gX0_put_J32 at h
  refine V_putI (pc := 32) C z1_cW_0 fp_RX0_38 rfl rfl dX0_put_32 ?_
  refine V_aload_n (pc := 35) C dX0_put_35 rfl rfl ?_
  refine V_iload_n (pc := 36) C dX0_put_36 rfl rfl ?_
  refine V_iconst (pc := 37) C dX0_put_37 kc_i_2 ?_
  refine V_icmp_eq (tgt := 46) (pc := 38) C dX0_put_38 (by decide) (fun hc => ?_) (fun hc => ?_)
  · have h := it_t hc h
    refine V_iload (pc := 46) C dX0_put_46 rfl ?_
    refine V_goto (tgt := 52) (pc := 48) C dX0_put_48 (by decide) ?_
    refine V_putI (pc := 52) C z1_cW_0 fp_RX0_41 rfl rfl dX0_put_52 ?_
    cases h
    exact hR 55 _ rfl dX0_put_55
  · have h := it_f hc h
    refine V_iload_n (pc := 41) C dX0_put_41 rfl rfl ?_
    refine V_iconst (pc := 42) C dX0_put_42 kc_i_5 ?_
    refine V_icmp_ne (tgt := 51) (pc := 43) C dX0_put_43 (by decide) (fun hc => ?_) (fun hc => ?_)
    · have h := it_f hc h
      refine V_iconst (pc := 51) C dX0_put_51 kc_i_0 ?_
      refine V_putI (pc := 52) C z1_cW_0 fp_RX0_41 rfl rfl dX0_put_52 ?_
      cases h
      exact hR 55 _ rfl dX0_put_55
    · have h := it_t hc h
      refine V_iload (pc := 46) C dX0_put_46 rfl ?_
      refine V_goto (tgt := 52) (pc := 48) C dX0_put_48 (by decide) ?_
      refine V_putI (pc := 52) C z1_cW_0 fp_RX0_41 rfl rfl dX0_put_52 ?_
      cases h
      exact hR 55 _ rfl dX0_put_55
set_option maxRecDepth 100000 in
theorem mX0_put (l : Launch) {S : zM} {a1 : Int32} {a2 : Int32} {a3 : Int32} {a4 : Int32} {a5 : Int32} {S' : zM}  (h : gX0_put S a1 a2 a3 a4 a5 = some S') : zMet l cW zS0 yX0_put cX0_put 6 (none) 0 0 [.ref 456, .int a1, .int a2, .int a3, .int a4, .int a5] S none S' := by
  refine zmeth (by decide +kernel) (by rfl) (fun K hKl C hR => ?_)
  show V K 0 [some (.ref 456), some (.int a1), some (.int a2), some (.int a3), some (.int a4), some (.int a5)] [] S
  unfold gX0_put at h
  refine V_aload_n (pc := 0) C dX0_put_0 rfl rfl ?_
  refine V_iload_n (pc := 1) C dX0_put_1 rfl rfl ?_
  refine V_putI (pc := 2) C z1_cW_0 fp_RX0_28 rfl rfl dX0_put_2 ?_
  refine V_aload_n (pc := 5) C dX0_put_5 rfl rfl ?_
  refine V_iload_n (pc := 6) C dX0_put_6 rfl rfl ?_
  refine V_putI (pc := 7) C z1_cW_0 fp_RX0_32 rfl rfl dX0_put_7 ?_
  refine V_aload_n (pc := 10) C dX0_put_10 rfl rfl ?_
  refine V_iload_n (pc := 11) C dX0_put_11 rfl rfl ?_
  refine V_putI (pc := 12) C z1_cW_0 fp_RX0_35 rfl rfl dX0_put_12 ?_
  refine V_aload_n (pc := 15) C dX0_put_15 rfl rfl ?_
  refine V_iload_n (pc := 16) C dX0_put_16 rfl rfl ?_
  refine V_iconst (pc := 17) C dX0_put_17 kc_i_1 ?_
  refine V_icmp_eq (tgt := 26) (pc := 18) C dX0_put_18 (by decide) (fun hc => ?_) (fun hc => ?_)
  · have h := it_t hc h
    refine V_iconst (pc := 26) C dX0_put_26 kc_i_0 ?_
    refine V_goto (tgt := 32) (pc := 27) C dX0_put_27 (by decide) ?_
    exact V_mask [true, false, true, false, false, true] (mX0_put_J32 C  hR h)
  · have h := it_f hc h
    refine V_iload_n (pc := 21) C dX0_put_21 rfl rfl ?_
    refine V_iconst (pc := 22) C dX0_put_22 kc_i_3 ?_
    refine V_icmp_ne (tgt := 30) (pc := 23) C dX0_put_23 (by decide) (fun hc => ?_) (fun hc => ?_)
    · have h := it_f hc h
      refine V_iload (pc := 30) C dX0_put_30 rfl ?_
      exact V_mask [true, false, true, false, false, true] (mX0_put_J32 C  hR h)
    · have h := it_t hc h
      refine V_iconst (pc := 26) C dX0_put_26 kc_i_0 ?_
      refine V_goto (tgt := 32) (pc := 27) C dX0_put_27 (by decide) ?_
      exact V_mask [true, false, true, false, false, true] (mX0_put_J32 C  hR h)
set_option maxRecDepth 100000 in
theorem mX11_isSize (l : Launch) {S : zM} {a0 : Int32} {r : Int32}  (h : gX11_isSize a0 = some r) : zMet l cW zS0 yX11_isSize cX11_isSize 1 (some .boolean) 0 0 [.int a0] S (some (.int r)) S := by
  refine zmeth (by decide +kernel) (by rfl) (fun K hKl C hR => ?_)
  show V K 0 [some (.int a0)] [] S
  unfold gX11_isSize at h
  refine V_iload_n (pc := 0) C dX11_isSize_0 rfl rfl ?_
  refine V_iconst (pc := 1) C dX11_isSize_1 kc_i_1 ?_
  refine V_icmp_lt (tgt := 16) (pc := 2) C dX11_isSize_2 (by decide) (fun hc => ?_) (fun hc => ?_)
  · have h := it_t hc h
    refine V_iconst (pc := 16) C dX11_isSize_16 kc_i_0 ?_
    cases h
    exact hR 17 _ ⟨_, rfl, zB0⟩ dX11_isSize_17
  · have h := it_f hc h
    refine V_iload_n (pc := 5) C dX11_isSize_5 rfl rfl ?_
    refine V_sipush (pc := 6) C dX11_isSize_6 kc_s_400 ?_
    refine V_icmp_gt (tgt := 16) (pc := 9) C dX11_isSize_9 (by decide) (fun hc => ?_) (fun hc => ?_)
    · have h := it_t hc h
      refine V_iconst (pc := 16) C dX11_isSize_16 kc_i_0 ?_
      cases h
      exact hR 17 _ ⟨_, rfl, zB0⟩ dX11_isSize_17
    · have h := it_f hc h
      refine V_iconst (pc := 12) C dX11_isSize_12 kc_i_1 ?_
      refine V_goto (tgt := 17) (pc := 13) C dX11_isSize_13 (by decide) ?_
      cases h
      exact hR 17 _ ⟨_, rfl, zB1⟩ dX11_isSize_17
set_option maxRecDepth 100000 in
theorem mX0_isInBounds_J105 {K : zK} (C : zC K cX0_isInBounds yX0_isInBounds.cls 4 1 20 cW) {S : zM} {v1 : Int32} {v2 : Int32} {s0 : Int32} {r : Int32}  (hR : zR K cX0_isInBounds (some .boolean) S (some (.int r))) (h : gX0_isInBounds_J105 S v1 v2 s0 = some r) : V K 105 [some (.ref 456), some (.int v1), some (.int v2), none] [.int s0] S := by
  unfold gX0_isInBounds_J105 at h
  refine V_istore_n (L' := [some (.ref 456), some (.int v1), some (.int v2), some (.int s0)]) (pc := 105) C dX0_isInBounds_105 rfl (by decide) rfl ?_
  refine V_iload_n (pc := 106) C dX0_isInBounds_106 rfl rfl ?_
  refine V_if_eq (tgt := 133) (pc := 107) C dX0_isInBounds_107 (by decide) (fun hc => ?_) (fun hc => ?_)
  · have h := it_t hc h
    refine V_iconst (pc := 133) C dX0_isInBounds_133 kc_i_0 ?_
    cases h
    exact hR 134 _ ⟨_, rfl, zB0⟩ dX0_isInBounds_134
  · have h := it_f hc h
    refine V_iload_n (pc := 110) C dX0_isInBounds_110 rfl rfl ?_
    refine V_if_eq (tgt := 133) (pc := 111) C dX0_isInBounds_111 (by decide) (fun hc => ?_) (fun hc => ?_)
    · have h := it_t hc h
      refine V_iconst (pc := 133) C dX0_isInBounds_133 kc_i_0 ?_
      cases h
      exact hR 134 _ ⟨_, rfl, zB0⟩ dX0_isInBounds_134
    · have h := it_f hc h
      refine V_aload_n (pc := 114) C dX0_isInBounds_114 rfl rfl ?_
      refine V_getI (pc := 115) C z1_cW_0 fl_RX0_41 (by decide) dX0_isInBounds_115 ?_
      refine V_if_lt (tgt := 133) (pc := 118) C dX0_isInBounds_118 (by decide) (fun hc => ?_) (fun hc => ?_)
      · have h := it_t hc h
        refine V_iconst (pc := 133) C dX0_isInBounds_133 kc_i_0 ?_
        cases h
        exact hR 134 _ ⟨_, rfl, zB0⟩ dX0_isInBounds_134
      · have h := it_f hc h
        refine V_aload_n (pc := 121) C dX0_isInBounds_121 rfl rfl ?_
        refine V_getI (pc := 122) C z1_cW_0 fl_RX0_41 (by decide) dX0_isInBounds_122 ?_
        refine V_iload_n (pc := 125) C dX0_isInBounds_125 rfl rfl ?_
        refine V_icmp_gt (tgt := 133) (pc := 126) C dX0_isInBounds_126 (by decide) (fun hc => ?_) (fun hc => ?_)
        · have h := it_t hc h
          refine V_iconst (pc := 133) C dX0_isInBounds_133 kc_i_0 ?_
          cases h
          exact hR 134 _ ⟨_, rfl, zB0⟩ dX0_isInBounds_134
        · have h := it_f hc h
          refine V_iconst (pc := 129) C dX0_isInBounds_129 kc_i_1 ?_
          refine V_goto (tgt := 134) (pc := 130) C dX0_isInBounds_130 (by decide) ?_
          cases h
          exact hR 134 _ ⟨_, rfl, zB1⟩ dX0_isInBounds_134
set_option maxRecDepth 100000 in
theorem mX0_isInBounds_J79 {K : zK} (C : zC K cX0_isInBounds yX0_isInBounds.cls 4 1 20 cW) {S : zM} {v1 : Int32} {s0 : Int32} {r : Int32}  (hR : zR K cX0_isInBounds (some .boolean) S (some (.int r))) (h : gX0_isInBounds_J79 S v1 s0 = some r) : V K 79 [some (.ref 456), some (.int v1), none, none] [.int s0] S := by
  unfold gX0_isInBounds_J79 at h
  refine V_istore_n (L' := [some (.ref 456), some (.int v1), some (.int s0), none]) (pc := 79) C dX0_isInBounds_79 rfl (by decide) rfl ?_
  refine V_aload_n (pc := 80) C dX0_isInBounds_80 rfl rfl ?_
  refine V_getI (pc := 81) C z1_cW_0 fl_RX0_32 (by decide) dX0_isInBounds_81 ?_
  refine V_iconst (pc := 84) C dX0_isInBounds_84 kc_i_2 ?_
  refine V_icmp_ne (tgt := 92) (pc := 85) C dX0_isInBounds_85 (by decide) (fun hc => ?_) (fun hc => ?_)
  · have h := it_f hc h
    refine V_aload_n (pc := 92) C dX0_isInBounds_92 rfl rfl ?_
    refine V_getI (pc := 93) C z1_cW_0 fl_RX0_32 (by decide) dX0_isInBounds_93 ?_
    refine V_iconst (pc := 96) C dX0_isInBounds_96 kc_i_5 ?_
    refine V_icmp_ne (tgt := 104) (pc := 97) C dX0_isInBounds_97 (by decide) (fun hc => ?_) (fun hc => ?_)
    · have h := it_f hc h
      refine V_iconst (pc := 104) C dX0_isInBounds_104 kc_i_0 ?_
      exact V_mask [true, true, true, false] (mX0_isInBounds_J105 C  hR h)
    · have h := it_t hc h
      refine V_iconst (pc := 100) C dX0_isInBounds_100 kc_i_1 ?_
      refine V_goto (tgt := 105) (pc := 101) C dX0_isInBounds_101 (by decide) ?_
      exact V_mask [true, true, true, false] (mX0_isInBounds_J105 C  hR h)
  · have h := it_t hc h
    refine V_iconst (pc := 88) C dX0_isInBounds_88 kc_i_2 ?_
    refine V_goto (tgt := 105) (pc := 89) C dX0_isInBounds_89 (by decide) ?_
    exact V_mask [true, true, true, false] (mX0_isInBounds_J105 C  hR h)
set_option maxRecDepth 100000 in
theorem mX0_isInBounds_J40 {K : zK} (C : zC K cX0_isInBounds yX0_isInBounds.cls 4 1 20 cW) {S : zM} {s0 : Int32} {r : Int32}  (hR : zR K cX0_isInBounds (some .boolean) S (some (.int r))) (h : gX0_isInBounds_J40 S s0 = some r) : V K 40 [some (.ref 456), none, none, none] [.int s0] S := by
  unfold gX0_isInBounds_J40 at h
  refine V_istore_n (L' := [some (.ref 456), some (.int s0), none, none]) (pc := 40) C dX0_isInBounds_40 rfl (by decide) rfl ?_
  refine V_aload_n (pc := 41) C dX0_isInBounds_41 rfl rfl ?_
  refine V_getI (pc := 42) C z1_cW_0 fl_RX0_32 (by decide) dX0_isInBounds_42 ?_
  refine V_if_eq (tgt := 64) (pc := 45) C dX0_isInBounds_45 (by decide) (fun hc => ?_) (fun hc => ?_)
  · have h := it_t hc h
    refine V_aload_n (pc := 64) C dX0_isInBounds_64 rfl rfl ?_
    refine V_getI (pc := 65) C z1_cW_0 fl_RX0_38 (by decide) dX0_isInBounds_65 ?_
    obtain ⟨r2, er2, h⟩ := b1_some h
    refine V_callSN (As := [.int (gI S 456 6)]) (pc := 68) C (mX11_isSize _ er2) zm_X11_isSize zs_X11_isSize ml_RX0_44 ⟨Nat.le_of_ble_eq_true rfl, Nat.le_of_ble_eq_true rfl⟩ rfl rfl (Nat.le_of_ble_eq_true rfl) dX0_isInBounds_68 ?_
    show V K 71 [some (.ref 456), some (.int s0), none, none] [.int r2] S
    refine V_if_eq (tgt := 78) (pc := 71) C dX0_isInBounds_71 (by decide) (fun hc => ?_) (fun hc => ?_)
    · have h := it_t hc h
      refine V_iconst (pc := 78) C dX0_isInBounds_78 kc_i_0 ?_
      exact V_mask [true, true, false, false] (mX0_isInBounds_J79 C  hR h)
    · have h := it_f hc h
      refine V_iconst (pc := 74) C dX0_isInBounds_74 kc_i_1 ?_
      refine V_goto (tgt := 79) (pc := 75) C dX0_isInBounds_75 (by decide) ?_
      exact V_mask [true, true, false, false] (mX0_isInBounds_J79 C  hR h)
  · have h := it_f hc h
    refine V_aload_n (pc := 48) C dX0_isInBounds_48 rfl rfl ?_
    refine V_getI (pc := 49) C z1_cW_0 fl_RX0_32 (by decide) dX0_isInBounds_49 ?_
    refine V_iconst (pc := 52) C dX0_isInBounds_52 kc_i_2 ?_
    refine V_icmp_eq (tgt := 64) (pc := 53) C dX0_isInBounds_53 (by decide) (fun hc => ?_) (fun hc => ?_)
    · have h := it_t hc h
      refine V_aload_n (pc := 64) C dX0_isInBounds_64 rfl rfl ?_
      refine V_getI (pc := 65) C z1_cW_0 fl_RX0_38 (by decide) dX0_isInBounds_65 ?_
      obtain ⟨r3, er3, h⟩ := b1_some h
      refine V_callSN (As := [.int (gI S 456 6)]) (pc := 68) C (mX11_isSize _ er3) zm_X11_isSize zs_X11_isSize ml_RX0_44 ⟨Nat.le_of_ble_eq_true rfl, Nat.le_of_ble_eq_true rfl⟩ rfl rfl (Nat.le_of_ble_eq_true rfl) dX0_isInBounds_68 ?_
      show V K 71 [some (.ref 456), some (.int s0), none, none] [.int r3] S
      refine V_if_eq (tgt := 78) (pc := 71) C dX0_isInBounds_71 (by decide) (fun hc => ?_) (fun hc => ?_)
      · have h := it_t hc h
        refine V_iconst (pc := 78) C dX0_isInBounds_78 kc_i_0 ?_
        exact V_mask [true, true, false, false] (mX0_isInBounds_J79 C  hR h)
      · have h := it_f hc h
        refine V_iconst (pc := 74) C dX0_isInBounds_74 kc_i_1 ?_
        refine V_goto (tgt := 79) (pc := 75) C dX0_isInBounds_75 (by decide) ?_
        exact V_mask [true, true, false, false] (mX0_isInBounds_J79 C  hR h)
    · have h := it_f hc h
      refine V_aload_n (pc := 56) C dX0_isInBounds_56 rfl rfl ?_
      refine V_getI (pc := 57) C z1_cW_0 fl_RX0_32 (by decide) dX0_isInBounds_57 ?_
      refine V_iconst (pc := 60) C dX0_isInBounds_60 kc_i_5 ?_
      refine V_icmp_ne (tgt := 74) (pc := 61) C dX0_isInBounds_61 (by decide) (fun hc => ?_) (fun hc => ?_)
      · have h := it_f hc h
        refine V_iconst (pc := 74) C dX0_isInBounds_74 kc_i_1 ?_
        refine V_goto (tgt := 79) (pc := 75) C dX0_isInBounds_75 (by decide) ?_
        exact V_mask [true, true, false, false] (mX0_isInBounds_J79 C  hR h)
      · have h := it_t hc h
        refine V_aload_n (pc := 64) C dX0_isInBounds_64 rfl rfl ?_
        refine V_getI (pc := 65) C z1_cW_0 fl_RX0_38 (by decide) dX0_isInBounds_65 ?_
        obtain ⟨r4, er4, h⟩ := b1_some h
        refine V_callSN (As := [.int (gI S 456 6)]) (pc := 68) C (mX11_isSize _ er4) zm_X11_isSize zs_X11_isSize ml_RX0_44 ⟨Nat.le_of_ble_eq_true rfl, Nat.le_of_ble_eq_true rfl⟩ rfl rfl (Nat.le_of_ble_eq_true rfl) dX0_isInBounds_68 ?_
        show V K 71 [some (.ref 456), some (.int s0), none, none] [.int r4] S
        refine V_if_eq (tgt := 78) (pc := 71) C dX0_isInBounds_71 (by decide) (fun hc => ?_) (fun hc => ?_)
        · have h := it_t hc h
          refine V_iconst (pc := 78) C dX0_isInBounds_78 kc_i_0 ?_
          exact V_mask [true, true, false, false] (mX0_isInBounds_J79 C  hR h)
        · have h := it_f hc h
          refine V_iconst (pc := 74) C dX0_isInBounds_74 kc_i_1 ?_
          refine V_goto (tgt := 79) (pc := 75) C dX0_isInBounds_75 (by decide) ?_
          exact V_mask [true, true, false, false] (mX0_isInBounds_J79 C  hR h)
set_option maxRecDepth 100000 in
theorem mX0_isInBounds (l : Launch) {S : zM}  {r : Int32}  (h : gX0_isInBounds S = some r) : zMet l cW zS0 yX0_isInBounds cX0_isInBounds 4 (some .boolean) 1 20 [.ref 456] S (some (.int r)) S := by
  refine zmeth (by decide +kernel) (by rfl) (fun K hKl C hR => ?_)
  show V K 0 [some (.ref 456), none, none, none] [] S
  unfold gX0_isInBounds at h
  refine V_aload_n (pc := 0) C dX0_isInBounds_0 rfl rfl ?_
  refine V_getI (pc := 1) C z1_cW_0 fl_RX0_32 (by decide) dX0_isInBounds_1 ?_
  refine V_iconst (pc := 4) C dX0_isInBounds_4 kc_i_1 ?_
  refine V_icmp_ne (tgt := 33) (pc := 5) C dX0_isInBounds_5 (by decide) (fun hc => ?_) (fun hc => ?_)
  · have h := it_f hc h
    refine V_aload_n (pc := 33) C dX0_isInBounds_33 rfl rfl ?_
    refine V_getI (pc := 34) C z1_cW_0 fl_RX0_35 (by decide) dX0_isInBounds_34 ?_
    obtain ⟨r1, er1, h⟩ := b1_some h
    refine V_callSN (As := [.int (gI S 456 5)]) (pc := 37) C (mX11_isSize _ er1) zm_X11_isSize zs_X11_isSize ml_RX0_44 ⟨Nat.le_of_ble_eq_true rfl, Nat.le_of_ble_eq_true rfl⟩ rfl rfl (Nat.le_of_ble_eq_true rfl) dX0_isInBounds_37 ?_
    show V K 40 [some (.ref 456), none, none, none] [.int r1] S
    exact V_mask [true, false, false, false] (mX0_isInBounds_J40 C  hR h)
  · have h := it_t hc h
    refine V_aload_n (pc := 8) C dX0_isInBounds_8 rfl rfl ?_
    refine V_getI (pc := 9) C z1_cW_0 fl_RX0_35 (by decide) dX0_isInBounds_9 ?_
    refine V_if_lt (tgt := 29) (pc := 12) C dX0_isInBounds_12 (by decide) (fun hc => ?_) (fun hc => ?_)
    · have h := it_t hc h
      refine V_iconst (pc := 29) C dX0_isInBounds_29 kc_i_0 ?_
      refine V_goto (tgt := 40) (pc := 30) C dX0_isInBounds_30 (by decide) ?_
      exact V_mask [true, false, false, false] (mX0_isInBounds_J40 C  hR h)
    · have h := it_f hc h
      refine V_aload_n (pc := 15) C dX0_isInBounds_15 rfl rfl ?_
      refine V_getI (pc := 16) C z1_cW_0 fl_RX0_35 (by decide) dX0_isInBounds_16 ?_
      refine V_sipush (pc := 19) C dX0_isInBounds_19 kc_s_400 ?_
      refine V_icmp_gt (tgt := 29) (pc := 22) C dX0_isInBounds_22 (by decide) (fun hc => ?_) (fun hc => ?_)
      · have h := it_t hc h
        refine V_iconst (pc := 29) C dX0_isInBounds_29 kc_i_0 ?_
        refine V_goto (tgt := 40) (pc := 30) C dX0_isInBounds_30 (by decide) ?_
        exact V_mask [true, false, false, false] (mX0_isInBounds_J40 C  hR h)
      · have h := it_f hc h
        refine V_iconst (pc := 25) C dX0_isInBounds_25 kc_i_1 ?_
        refine V_goto (tgt := 40) (pc := 26) C dX0_isInBounds_26 (by decide) ?_
        exact V_mask [true, false, false, false] (mX0_isInBounds_J40 C  hR h)
set_option maxRecDepth 100000 in
theorem mX0_canBe_J42 {K : zK} (C : zC K cX0_canBe yX0_canBe.cls 4 0 0 cW) {S : zM} {v1 : Int32} {v2 : Int32} {s0 : Int32} {r : Int32}  (hR : zR K cX0_canBe (some .boolean) S (some (.int r))) (h : gX0_canBe_J42 S v1 v2 s0 = some r) : V K 42 [none, some (.int v1), some (.int v2), none] [.int s0] S := by
  unfold gX0_canBe_J42 at h
  refine V_istore_n (L' := [none, some (.int v1), some (.int v2), some (.int s0)]) (pc := 42) C dX0_canBe_42 rfl (by decide) rfl ?_
  refine V_iload_n (pc := 43) C dX0_canBe_43 rfl rfl ?_
  refine V_if_lt (tgt := 60) (pc := 44) C dX0_canBe_44 (by decide) (fun hc => ?_) (fun hc => ?_)
  · have h := it_t hc h
    refine V_iconst (pc := 60) C dX0_canBe_60 kc_i_0 ?_
    cases h
    exact hR 61 _ ⟨_, rfl, zB0⟩ dX0_canBe_61
  · have h := it_f hc h
    refine V_iload_n (pc := 47) C dX0_canBe_47 rfl rfl ?_
    refine V_if_ne (tgt := 56) (pc := 48) C dX0_canBe_48 (by decide) (fun hc => ?_) (fun hc => ?_)
    · have h := it_f hc h
      refine V_iconst (pc := 56) C dX0_canBe_56 kc_i_1 ?_
      refine V_goto (tgt := 61) (pc := 57) C dX0_canBe_57 (by decide) ?_
      cases h
      exact hR 61 _ ⟨_, rfl, zB1⟩ dX0_canBe_61
    · have h := it_t hc h
      refine V_iload_n (pc := 51) C dX0_canBe_51 rfl rfl ?_
      refine V_iload_n (pc := 52) C dX0_canBe_52 rfl rfl ?_
      refine V_icmp_gt (tgt := 60) (pc := 53) C dX0_canBe_53 (by decide) (fun hc => ?_) (fun hc => ?_)
      · have h := it_t hc h
        refine V_iconst (pc := 60) C dX0_canBe_60 kc_i_0 ?_
        cases h
        exact hR 61 _ ⟨_, rfl, zB0⟩ dX0_canBe_61
      · have h := it_f hc h
        refine V_iconst (pc := 56) C dX0_canBe_56 kc_i_1 ?_
        refine V_goto (tgt := 61) (pc := 57) C dX0_canBe_57 (by decide) ?_
        cases h
        exact hR 61 _ ⟨_, rfl, zB1⟩ dX0_canBe_61
set_option maxRecDepth 100000 in
theorem mX0_canBe_J21 {K : zK} (C : zC K cX0_canBe yX0_canBe.cls 4 0 0 cW) {S : zM} {v1 : Int32} {s0 : Int32} {r : Int32}  (hR : zR K cX0_canBe (some .boolean) S (some (.int r))) (h : gX0_canBe_J21 S v1 s0 = some r) : V K 21 [some (.ref 456), some (.int v1), none, none] [.int s0] S := by
  unfold gX0_canBe_J21 at h
  refine V_istore_n (L' := [some (.ref 456), some (.int v1), some (.int s0), none]) (pc := 21) C dX0_canBe_21 rfl (by decide) rfl ?_
  refine V_aload_n (pc := 22) C dX0_canBe_22 rfl rfl ?_
  refine V_getI (pc := 23) C z1_cW_0 fl_RX0_32 (by decide) dX0_canBe_23 ?_
  refine V_if_eq (tgt := 37) (pc := 26) C dX0_canBe_26 (by decide) (fun hc => ?_) (fun hc => ?_)
  · have h := it_t hc h
    refine V_iconst (pc := 37) C dX0_canBe_37 kc_i_2 ?_
    refine V_goto (tgt := 42) (pc := 38) C dX0_canBe_38 (by decide) ?_
    exact V_mask [false, true, true, false] (mX0_canBe_J42 C  hR h)
  · have h := it_f hc h
    refine V_aload_n (pc := 29) C dX0_canBe_29 rfl rfl ?_
    refine V_getI (pc := 30) C z1_cW_0 fl_RX0_32 (by decide) dX0_canBe_30 ?_
    refine V_iconst (pc := 33) C dX0_canBe_33 kc_i_2 ?_
    refine V_icmp_ne (tgt := 41) (pc := 34) C dX0_canBe_34 (by decide) (fun hc => ?_) (fun hc => ?_)
    · have h := it_f hc h
      refine V_iconst (pc := 41) C dX0_canBe_41 kc_i_1 ?_
      exact V_mask [false, true, true, false] (mX0_canBe_J42 C  hR h)
    · have h := it_t hc h
      refine V_iconst (pc := 37) C dX0_canBe_37 kc_i_2 ?_
      refine V_goto (tgt := 42) (pc := 38) C dX0_canBe_38 (by decide) ?_
      exact V_mask [false, true, true, false] (mX0_canBe_J42 C  hR h)
set_option maxRecDepth 100000 in
theorem mX0_canBe (l : Launch) {S : zM} {a1 : Int32} {r : Int32}  (h : gX0_canBe S a1 = some r) : zMet l cW zS0 yX0_canBe cX0_canBe 4 (some .boolean) 0 0 [.ref 456, .int a1] S (some (.int r)) S := by
  refine zmeth (by decide +kernel) (by rfl) (fun K hKl C hR => ?_)
  show V K 0 [some (.ref 456), some (.int a1), none, none] [] S
  unfold gX0_canBe at h
  refine V_aload_n (pc := 0) C dX0_canBe_0 rfl rfl ?_
  refine V_getI (pc := 1) C z1_cW_0 fl_RX0_32 (by decide) dX0_canBe_1 ?_
  refine V_iconst (pc := 4) C dX0_canBe_4 kc_i_3 ?_
  refine V_icmp_eq (tgt := 16) (pc := 5) C dX0_canBe_5 (by decide) (fun hc => ?_) (fun hc => ?_)
  · have h := it_t hc h
    refine V_iconst (pc := 16) C dX0_canBe_16 kc_i_1 ?_
    refine V_goto (tgt := 21) (pc := 17) C dX0_canBe_17 (by decide) ?_
    exact V_mask [true, true, false, false] (mX0_canBe_J21 C  hR h)
  · have h := it_f hc h
    refine V_aload_n (pc := 8) C dX0_canBe_8 rfl rfl ?_
    refine V_getI (pc := 9) C z1_cW_0 fl_RX0_32 (by decide) dX0_canBe_9 ?_
    refine V_iconst (pc := 12) C dX0_canBe_12 kc_i_4 ?_
    refine V_icmp_ne (tgt := 20) (pc := 13) C dX0_canBe_13 (by decide) (fun hc => ?_) (fun hc => ?_)
    · have h := it_f hc h
      refine V_iconst (pc := 20) C dX0_canBe_20 kc_i_0 ?_
      exact V_mask [true, true, false, false] (mX0_canBe_J21 C  hR h)
    · have h := it_t hc h
      refine V_iconst (pc := 16) C dX0_canBe_16 kc_i_1 ?_
      refine V_goto (tgt := 21) (pc := 17) C dX0_canBe_17 (by decide) ?_
      exact V_mask [true, true, false, false] (mX0_canBe_J21 C  hR h)
set_option maxRecDepth 100000 in
theorem mX0_feelings (l : Launch) {S : zM}  {r : Int32}  (h : gX0_feelings S = some r) : zMet l cW zS0 yX0_feelings cX0_feelings 1 (some .int) 0 0 [.ref 456] S (some (.int r)) S := by
  refine zmeth (by decide +kernel) (by rfl) (fun K hKl C hR => ?_)
  show V K 0 [some (.ref 456)] [] S
  unfold gX0_feelings at h
  refine V_aload_n (pc := 0) C dX0_feelings_0 rfl rfl ?_
  refine V_getI (pc := 1) C z1_cW_0 fl_RX0_32 (by decide) dX0_feelings_1 ?_
  refine V_iconst (pc := 4) C dX0_feelings_4 kc_i_2 ?_
  refine V_icmp_ne (tgt := 12) (pc := 5) C dX0_feelings_5 (by decide) (fun hc => ?_) (fun hc => ?_)
  · have h := it_f hc h
    refine V_aload_n (pc := 12) C dX0_feelings_12 rfl rfl ?_
    refine V_getI (pc := 13) C z1_cW_0 fl_RX0_32 (by decide) dX0_feelings_13 ?_
    refine V_if_eq (tgt := 27) (pc := 16) C dX0_feelings_16 (by decide) (fun hc => ?_) (fun hc => ?_)
    · have h := it_t hc h
      refine V_iconst (pc := 27) C dX0_feelings_27 kc_i_2 ?_
      refine V_goto (tgt := 32) (pc := 28) C dX0_feelings_28 (by decide) ?_
      cases h
      exact hR 32 _ ⟨_, rfl, rfl⟩ dX0_feelings_32
    · have h := it_f hc h
      refine V_aload_n (pc := 19) C dX0_feelings_19 rfl rfl ?_
      refine V_getI (pc := 20) C z1_cW_0 fl_RX0_32 (by decide) dX0_feelings_20 ?_
      refine V_iconst (pc := 23) C dX0_feelings_23 kc_i_5 ?_
      refine V_icmp_ne (tgt := 31) (pc := 24) C dX0_feelings_24 (by decide) (fun hc => ?_) (fun hc => ?_)
      · have h := it_f hc h
        refine V_iconst (pc := 31) C dX0_feelings_31 kc_i_1 ?_
        cases h
        exact hR 32 _ ⟨_, rfl, rfl⟩ dX0_feelings_32
      · have h := it_t hc h
        refine V_iconst (pc := 27) C dX0_feelings_27 kc_i_2 ?_
        refine V_goto (tgt := 32) (pc := 28) C dX0_feelings_28 (by decide) ?_
        cases h
        exact hR 32 _ ⟨_, rfl, rfl⟩ dX0_feelings_32
  · have h := it_t hc h
    refine V_iconst (pc := 8) C dX0_feelings_8 kc_i_3 ?_
    refine V_goto (tgt := 32) (pc := 9) C dX0_feelings_9 (by decide) ?_
    cases h
    exact hR 32 _ ⟨_, rfl, rfl⟩ dX0_feelings_32
set_option maxRecDepth 100000 in
theorem mX9_levelAt (l : Launch) {S : zM} {q : Nat} {a1 : Int32} {r : Int32} (hq : zob cW 9 q) (h : gX9_levelAt S q a1 = some r) : zMet l cW zS0 yX9_levelAt cX9_levelAt 2 (some .int) 0 0 [.ref q, .int a1] S (some (.int r)) S := by
  refine zmeth (by decide +kernel) (by rfl) (fun K hKl C hR => ?_)
  show V K 0 [some (.ref q), some (.int a1)] [] S
  unfold gX9_levelAt at h
  refine V_iload_n (pc := 0) C dX9_levelAt_0 rfl rfl ?_
  refine V_if_lt (tgt := 11) (pc := 1) C dX9_levelAt_1 (by decide) (fun hc => ?_) (fun hc => ?_)
  · have h := it_t hc h
    refine V_iconst (pc := 11) C dX9_levelAt_11 kc_i_0 ?_
    refine V_goto (tgt := 21) (pc := 12) C dX9_levelAt_12 (by decide) ?_
    cases h
    exact hR 21 _ ⟨_, rfl, rfl⟩ dX9_levelAt_21
  · have h := it_f hc h
    refine V_iload_n (pc := 4) C dX9_levelAt_4 rfl rfl ?_
    refine V_sipush (pc := 5) C dX9_levelAt_5 kc_s_400 ?_
    refine V_icmp_le (tgt := 15) (pc := 8) C dX9_levelAt_8 (by decide) (fun hc => ?_) (fun hc => ?_)
    · have h := it_t hc h
      refine V_aload_n (pc := 15) C dX9_levelAt_15 rfl rfl ?_
      refine V_getF (p1 := (q + 5)) (pc := 16) C hq fl_RX9_24 rfl (zf_cW_9_4 hq) dX9_levelAt_16 ?_
      refine V_iload_n (pc := 19) C dX9_levelAt_19 rfl rfl ?_
      obtain ⟨k1, h⟩ := ck_some h
      refine V_iald (pc := 20) C (za_cW_9_4 hq) k1 dX9_levelAt_20 ?_
      cases h
      exact hR 21 _ ⟨_, rfl, rfl⟩ dX9_levelAt_21
    · have h := it_f hc h
      refine V_iconst (pc := 11) C dX9_levelAt_11 kc_i_0 ?_
      refine V_goto (tgt := 21) (pc := 12) C dX9_levelAt_12 (by decide) ?_
      cases h
      exact hR 21 _ ⟨_, rfl, rfl⟩ dX9_levelAt_21
set_option maxRecDepth 100000 in
theorem mX0_levelOf_J34 {K : zK} (C : zC K cX0_levelOf yX0_levelOf.cls 3 1 21 cW) {S : zM} {s0 : Int32} {r : Int32}  (hR : zR K cX0_levelOf (some .int) S (some (.int r))) (h : gX0_levelOf_J34 S s0 = some r) : V K 34 [some (.ref 456), none, none] [.int s0] S := by
  unfold gX0_levelOf_J34 at h
  refine V_istore_n (L' := [some (.ref 456), none, some (.int s0)]) (pc := 34) C dX0_levelOf_34 rfl (by decide) rfl ?_
  refine V_aload_n (pc := 35) C dX0_levelOf_35 rfl rfl ?_
  obtain ⟨k1, h⟩ := ck_some h
  refine V_getR (pc := 36) C z1_cW_0 fl_RX0_21 rfl dX0_levelOf_36 ?_
  refine V_iload_n (pc := 39) C dX0_levelOf_39 rfl rfl ?_
  refine V_if_eq (tgt := 50) (pc := 40) C dX0_levelOf_40 (by decide) (fun hc => ?_) (fun hc => ?_)
  · have h := it_t hc h
    refine V_aload_n (pc := 50) C dX0_levelOf_50 rfl rfl ?_
    refine V_getI (pc := 51) C z1_cW_0 fl_RX0_35 (by decide) dX0_levelOf_51 ?_
    obtain ⟨r2, er2, h⟩ := b1_some h
    refine V_callV (As := [.int (gI S 456 5)]) (pc := 54) C (mX9_levelAt _ (zob_of k1) er2) zm_X9_levelAt zi_X9_levelAt ml_RX0_48 (zob_of k1) rfl ⟨Nat.le_of_ble_eq_true rfl, Nat.le_of_ble_eq_true rfl⟩ rfl rfl (Nat.le_of_ble_eq_true rfl) dX0_levelOf_54 ?_
    show V K 57 [some (.ref 456), none, some (.int s0)] [.int r2] S
    cases h
    exact hR 57 _ ⟨_, rfl, rfl⟩ dX0_levelOf_57
  · have h := it_f hc h
    refine V_aload_n (pc := 43) C dX0_levelOf_43 rfl rfl ?_
    refine V_getI (pc := 44) C z1_cW_0 fl_RX0_38 (by decide) dX0_levelOf_44 ?_
    refine V_goto (tgt := 54) (pc := 47) C dX0_levelOf_47 (by decide) ?_
    obtain ⟨r3, er3, h⟩ := b1_some h
    refine V_callV (As := [.int (gI S 456 6)]) (pc := 54) C (mX9_levelAt _ (zob_of k1) er3) zm_X9_levelAt zi_X9_levelAt ml_RX0_48 (zob_of k1) rfl ⟨Nat.le_of_ble_eq_true rfl, Nat.le_of_ble_eq_true rfl⟩ rfl rfl (Nat.le_of_ble_eq_true rfl) dX0_levelOf_54 ?_
    show V K 57 [some (.ref 456), none, some (.int s0)] [.int r3] S
    cases h
    exact hR 57 _ ⟨_, rfl, rfl⟩ dX0_levelOf_57
set_option maxRecDepth 100000 in
theorem mX0_levelOf (l : Launch) {S : zM} {a1 : Int32} {r : Int32}  (h : gX0_levelOf S a1 = some r) : zMet l cW zS0 yX0_levelOf cX0_levelOf 3 (some .int) 1 21 [.ref 456, .int a1] S (some (.int r)) S := by
  refine zmeth (by decide +kernel) (by rfl) (fun K hKl C hR => ?_)
  show V K 0 [some (.ref 456), some (.int a1), none] [] S
  unfold gX0_levelOf at h
  refine V_aload_n (pc := 0) C dX0_levelOf_0 rfl rfl ?_
  refine V_getI (pc := 1) C z1_cW_0 fl_RX0_32 (by decide) dX0_levelOf_1 ?_
  refine V_iconst (pc := 4) C dX0_levelOf_4 kc_i_2 ?_
  refine V_icmp_ne (tgt := 24) (pc := 5) C dX0_levelOf_5 (by decide) (fun hc => ?_) (fun hc => ?_)
  · have h := it_f hc h
    refine V_iload_n (pc := 24) C dX0_levelOf_24 rfl rfl ?_
    refine V_iconst (pc := 25) C dX0_levelOf_25 kc_i_1 ?_
    refine V_icmp_ne (tgt := 33) (pc := 26) C dX0_levelOf_26 (by decide) (fun hc => ?_) (fun hc => ?_)
    · have h := it_f hc h
      refine V_iconst (pc := 33) C dX0_levelOf_33 kc_i_0 ?_
      exact V_mask [true, false, false] (mX0_levelOf_J34 C  hR h)
    · have h := it_t hc h
      refine V_iconst (pc := 29) C dX0_levelOf_29 kc_i_1 ?_
      refine V_goto (tgt := 34) (pc := 30) C dX0_levelOf_30 (by decide) ?_
      exact V_mask [true, false, false] (mX0_levelOf_J34 C  hR h)
  · have h := it_t hc h
    refine V_iload_n (pc := 8) C dX0_levelOf_8 rfl rfl ?_
    refine V_aload_n (pc := 9) C dX0_levelOf_9 rfl rfl ?_
    refine V_getI (pc := 10) C z1_cW_0 fl_RX0_41 (by decide) dX0_levelOf_10 ?_
    refine V_icmp_ne (tgt := 20) (pc := 13) C dX0_levelOf_13 (by decide) (fun hc => ?_) (fun hc => ?_)
    · have h := it_f hc h
      refine V_iconst (pc := 20) C dX0_levelOf_20 kc_i_0 ?_
      refine V_goto (tgt := 34) (pc := 21) C dX0_levelOf_21 (by decide) ?_
      exact V_mask [true, false, false] (mX0_levelOf_J34 C  hR h)
    · have h := it_t hc h
      refine V_iconst (pc := 16) C dX0_levelOf_16 kc_i_1 ?_
      refine V_goto (tgt := 34) (pc := 17) C dX0_levelOf_17 (by decide) ?_
      exact V_mask [true, false, false] (mX0_levelOf_J34 C  hR h)
set_option maxRecDepth 100000 in
theorem mX8_tired (l : Launch) {S : zM} {q : Nat} {r : Int32} (hq : zob cW 8 q) (h : gX8_tired S q = some r) : zMet l cW zS0 yX8_tired cX8_tired 1 (some .int) 0 0 [.ref q] S (some (.int r)) S := by
  refine zmeth (by decide +kernel) (by rfl) (fun K hKl C hR => ?_)
  show V K 0 [some (.ref q)] [] S
  unfold gX8_tired at h
  refine V_aload_n (pc := 0) C dX8_tired_0 rfl rfl ?_
  refine V_getI (pc := 1) C hq fl_RX8_25 (by decide) dX8_tired_1 ?_
  refine V_iconst (pc := 4) C dX8_tired_4 kc_i_1 ?_
  refine V_icmp_ge (tgt := 12) (pc := 5) C dX8_tired_5 (by decide) (fun hc => ?_) (fun hc => ?_)
  · have h := it_t hc h
    refine V_aload_n (pc := 12) C dX8_tired_12 rfl rfl ?_
    refine V_getI (pc := 13) C hq fl_RX8_41 (by decide) dX8_tired_13 ?_
    refine V_aload_n (pc := 16) C dX8_tired_16 rfl rfl ?_
    refine V_getI (pc := 17) C hq fl_RX8_25 (by decide) dX8_tired_17 ?_
    obtain ⟨k1, h⟩ := ck_some h
    refine V_idiv (pc := 20) C dX8_tired_20 (of_decide_eq_true k1) ?_
    cases h
    exact hR 21 _ ⟨_, rfl, rfl⟩ dX8_tired_21
  · have h := it_f hc h
    refine V_iconst (pc := 8) C dX8_tired_8 kc_i_0 ?_
    refine V_goto (tgt := 21) (pc := 9) C dX8_tired_9 (by decide) ?_
    cases h
    exact hR 21 _ ⟨_, rfl, rfl⟩ dX8_tired_21
set_option maxRecDepth 100000 in
theorem mX0_knownSaid_J14 {K : zK} (C : zC K cX0_knownSaid yX0_knownSaid.cls 3 0 0 cW) {S : zM} {s0 : Int32} {r : Int32}  (hR : zR K cX0_knownSaid (some .int) S (some (.int r))) (h : gX0_knownSaid_J14 S s0 = some r) : V K 14 [some (.ref 456), none, none] [.int s0] S := by
  unfold gX0_knownSaid_J14 at h
  refine V_istore_n (L' := [some (.ref 456), none, some (.int s0)]) (pc := 14) C dX0_knownSaid_14 rfl (by decide) rfl ?_
  refine V_iload_n (pc := 15) C dX0_knownSaid_15 rfl rfl ?_
  refine V_iconst (pc := 16) C dX0_knownSaid_16 kc_i_2 ?_
  refine V_icmp_le (tgt := 29) (pc := 17) C dX0_knownSaid_17 (by decide) (fun hc => ?_) (fun hc => ?_)
  · have h := it_t hc h
    refine V_aload_n (pc := 29) C dX0_knownSaid_29 rfl rfl ?_
    refine V_getI (pc := 30) C z1_cW_0 fl_RX0_41 (by decide) dX0_knownSaid_30 ?_
    cases h
    exact hR 33 _ ⟨_, rfl, rfl⟩ dX0_knownSaid_33
  · have h := it_f hc h
    refine V_iconst (pc := 20) C dX0_knownSaid_20 kc_i_1 ?_
    refine V_aload_n (pc := 21) C dX0_knownSaid_21 rfl rfl ?_
    refine V_getI (pc := 22) C z1_cW_0 fl_RX0_41 (by decide) dX0_knownSaid_22 ?_
    refine V_isub (pc := 25) C dX0_knownSaid_25 ?_
    refine V_goto (tgt := 33) (pc := 26) C dX0_knownSaid_26 (by decide) ?_
    cases h
    exact hR 33 _ ⟨_, rfl, rfl⟩ dX0_knownSaid_33
set_option maxRecDepth 100000 in
theorem mX0_knownSaid (l : Launch) {S : zM} {a1 : Int32} {r : Int32}  (h : gX0_knownSaid S a1 = some r) : zMet l cW zS0 yX0_knownSaid cX0_knownSaid 3 (some .int) 0 0 [.ref 456, .int a1] S (some (.int r)) S := by
  refine zmeth (by decide +kernel) (by rfl) (fun K hKl C hR => ?_)
  show V K 0 [some (.ref 456), some (.int a1), none] [] S
  unfold gX0_knownSaid at h
  refine V_aload_n (pc := 0) C dX0_knownSaid_0 rfl rfl ?_
  refine V_getI (pc := 1) C z1_cW_0 fl_RX0_41 (by decide) dX0_knownSaid_1 ?_
  refine V_iconst (pc := 4) C dX0_knownSaid_4 kc_i_1 ?_
  refine V_icmp_ne (tgt := 13) (pc := 5) C dX0_knownSaid_5 (by decide) (fun hc => ?_) (fun hc => ?_)
  · have h := it_f hc h
    refine V_iload_n (pc := 13) C dX0_knownSaid_13 rfl rfl ?_
    exact V_mask [true, false, false] (mX0_knownSaid_J14 C  hR h)
  · have h := it_t hc h
    refine V_iload_n (pc := 8) C dX0_knownSaid_8 rfl rfl ?_
    refine V_ineg (pc := 9) C dX0_knownSaid_9 ?_
    refine V_goto (tgt := 14) (pc := 10) C dX0_knownSaid_10 (by decide) ?_
    exact V_mask [true, false, false] (mX0_knownSaid_J14 C  hR h)
set_option maxRecDepth 100000 in
theorem mX0_pairSaid (l : Launch) {S : zM} {a1 : Int32} {r : Int32}  (h : gX0_pairSaid S a1 = some r) : zMet l cW zS0 yX0_pairSaid cX0_pairSaid 2 (some .int) 0 0 [.ref 456, .int a1] S (some (.int r)) S := by
  refine zmeth (by decide +kernel) (by rfl) (fun K hKl C hR => ?_)
  show V K 0 [some (.ref 456), some (.int a1)] [] S
  unfold gX0_pairSaid at h
  refine V_iload_n (pc := 0) C dX0_pairSaid_0 rfl rfl ?_
  refine V_if_ne (tgt := 20) (pc := 1) C dX0_pairSaid_1 (by decide) (fun hc => ?_) (fun hc => ?_)
  · have h := it_f hc h
    refine V_iload_n (pc := 20) C dX0_pairSaid_20 rfl rfl ?_
    refine V_if_le (tgt := 28) (pc := 21) C dX0_pairSaid_21 (by decide) (fun hc => ?_) (fun hc => ?_)
    · have h := it_t hc h
      refine V_iconst (pc := 28) C dX0_pairSaid_28 kc_i_0 ?_
      cases h
      exact hR 29 _ ⟨_, rfl, rfl⟩ dX0_pairSaid_29
    · have h := it_f hc h
      refine V_iconst (pc := 24) C dX0_pairSaid_24 kc_i_1 ?_
      refine V_goto (tgt := 29) (pc := 25) C dX0_pairSaid_25 (by decide) ?_
      cases h
      exact hR 29 _ ⟨_, rfl, rfl⟩ dX0_pairSaid_29
  · have h := it_t hc h
    refine V_aload_n (pc := 4) C dX0_pairSaid_4 rfl rfl ?_
    obtain ⟨k1, h⟩ := ck_some h
    refine V_getR (pc := 5) C z1_cW_0 fl_RX0_12 rfl dX0_pairSaid_5 ?_
    refine V_getI (pc := 8) C (zob_of k1) fl_RX0_84 (by decide) dX0_pairSaid_8 ?_
    refine V_if_eq (tgt := 18) (pc := 11) C dX0_pairSaid_11 (by decide) (fun hc => ?_) (fun hc => ?_)
    · have h := it_t hc h
      refine V_iconst (pc := 18) C dX0_pairSaid_18 kc_i_2 ?_
      cases h
      exact hR 19 _ ⟨_, rfl, rfl⟩ dX0_pairSaid_19
    · have h := it_f hc h
      refine V_iconst (pc := 14) C dX0_pairSaid_14 kc_i_1 ?_
      refine V_goto (tgt := 19) (pc := 15) C dX0_pairSaid_15 (by decide) ?_
      cases h
      exact hR 19 _ ⟨_, rfl, rfl⟩ dX0_pairSaid_19
set_option maxRecDepth 100000 in
theorem mX0_oddPlace (l : Launch) {S : zM} {a0 : Int32} {a1 : Int32} {a2 : Int32} {r : Int32}  (h : gX0_oddPlace a0 a1 a2 = some r) : zMet l cW zS0 yX0_oddPlace cX0_oddPlace 8 (some .int) 1 21 [.int a0, .int a1, .int a2] S (some (.int r)) S := by
  refine zmeth (by decide +kernel) (by rfl) (fun K hKl C hR => ?_)
  show V K 0 [some (.int a0), some (.int a1), some (.int a2), none, none, none, none, none] [] S
  unfold gX0_oddPlace at h
  refine V_iload_n (pc := 0) C dX0_oddPlace_0 rfl rfl ?_
  refine V_iload_n (pc := 1) C dX0_oddPlace_1 rfl rfl ?_
  refine V_iadd (pc := 2) C dX0_oddPlace_2 ?_
  refine V_iload_n (pc := 3) C dX0_oddPlace_3 rfl rfl ?_
  refine V_iadd (pc := 4) C dX0_oddPlace_4 ?_
  refine V_istore_n (L' := [some (.int a0), some (.int a1), some (.int a2), some (.int ((a0 + a1) + a2)), none, none, none, none]) (pc := 5) C dX0_oddPlace_5 rfl (by decide) rfl ?_
  refine V_iconst (pc := 6) C dX0_oddPlace_6 kc_i_3 ?_
  refine V_iload_n (pc := 7) C dX0_oddPlace_7 rfl rfl ?_
  refine V_imul (pc := 8) C dX0_oddPlace_8 ?_
  refine V_iload_n (pc := 9) C dX0_oddPlace_9 rfl rfl ?_
  refine V_isub (pc := 10) C dX0_oddPlace_10 ?_
  refine V_abs (pc := 11) C ml_RX0_88 mt_abs.1 mt_abs.2.1 mt_abs.2.2 ⟨Nat.le_of_ble_eq_true rfl, Nat.le_of_ble_eq_true rfl⟩ dX0_oddPlace_11 ?_
  obtain ⟨x1, ex1, h⟩ := lt_some h
  refine V_nmI ex1 ?_
  refine V_istore (L' := [some (.int a0), some (.int a1), some (.int a2), some (.int ((a0 + a1) + a2)), some (.int x1), none, none, none]) (pc := 14) C dX0_oddPlace_14 (by decide) rfl ?_
  refine V_iconst (pc := 16) C dX0_oddPlace_16 kc_i_3 ?_
  refine V_iload_n (pc := 17) C dX0_oddPlace_17 rfl rfl ?_
  refine V_imul (pc := 18) C dX0_oddPlace_18 ?_
  refine V_iload_n (pc := 19) C dX0_oddPlace_19 rfl rfl ?_
  refine V_isub (pc := 20) C dX0_oddPlace_20 ?_
  refine V_abs (pc := 21) C ml_RX0_88 mt_abs.1 mt_abs.2.1 mt_abs.2.2 ⟨Nat.le_of_ble_eq_true rfl, Nat.le_of_ble_eq_true rfl⟩ dX0_oddPlace_21 ?_
  obtain ⟨x2, ex2, h⟩ := lt_some h
  refine V_nmI ex2 ?_
  refine V_istore (L' := [some (.int a0), some (.int a1), some (.int a2), some (.int ((a0 + a1) + a2)), some (.int x1), some (.int x2), none, none]) (pc := 24) C dX0_oddPlace_24 (by decide) rfl ?_
  refine V_iconst (pc := 26) C dX0_oddPlace_26 kc_i_3 ?_
  refine V_iload_n (pc := 27) C dX0_oddPlace_27 rfl rfl ?_
  refine V_imul (pc := 28) C dX0_oddPlace_28 ?_
  refine V_iload_n (pc := 29) C dX0_oddPlace_29 rfl rfl ?_
  refine V_isub (pc := 30) C dX0_oddPlace_30 ?_
  refine V_abs (pc := 31) C ml_RX0_88 mt_abs.1 mt_abs.2.1 mt_abs.2.2 ⟨Nat.le_of_ble_eq_true rfl, Nat.le_of_ble_eq_true rfl⟩ dX0_oddPlace_31 ?_
  obtain ⟨x3, ex3, h⟩ := lt_some h
  refine V_nmI ex3 ?_
  refine V_istore (L' := [some (.int a0), some (.int a1), some (.int a2), some (.int ((a0 + a1) + a2)), some (.int x1), some (.int x2), some (.int x3), none]) (pc := 34) C dX0_oddPlace_34 (by decide) rfl ?_
  refine V_iload (pc := 36) C dX0_oddPlace_36 rfl ?_
  refine V_iload (pc := 38) C dX0_oddPlace_38 rfl ?_
  refine V_icmp_le (tgt := 47) (pc := 40) C dX0_oddPlace_40 (by decide) (fun hc => ?_) (fun hc => ?_)
  · have h := it_t hc h
    refine V_iconst (pc := 47) C dX0_oddPlace_47 kc_i_0 ?_
    refine V_istore (L' := [some (.int a0), some (.int a1), some (.int a2), some (.int ((a0 + a1) + a2)), some (.int x1), some (.int x2), some (.int x3), some (.int (0 : Int32))]) (pc := 48) C dX0_oddPlace_48 (by decide) rfl ?_
    refine V_iload (pc := 50) C dX0_oddPlace_50 rfl ?_
    refine V_iload (pc := 52) C dX0_oddPlace_52 rfl ?_
    refine V_iload (pc := 54) C dX0_oddPlace_54 rfl ?_
    refine V_max (pc := 56) C ml_RX0_69 mt_max.1 mt_max.2.1 mt_max.2.2 ⟨Nat.le_of_ble_eq_true rfl, Nat.le_of_ble_eq_true rfl⟩ dX0_oddPlace_56 ?_
    refine V_icmp_le (tgt := 66) (pc := 59) C dX0_oddPlace_59 (by decide) (fun hc => ?_) (fun hc => ?_)
    · have h := it_t hc h
      refine V_iload (pc := 66) C dX0_oddPlace_66 rfl ?_
      cases h
      exact hR 68 _ ⟨_, rfl, rfl⟩ dX0_oddPlace_68
    · have h := it_f hc h
      refine V_iconst (pc := 62) C dX0_oddPlace_62 kc_i_2 ?_
      refine V_goto (tgt := 68) (pc := 63) C dX0_oddPlace_63 (by decide) ?_
      cases h
      exact hR 68 _ ⟨_, rfl, rfl⟩ dX0_oddPlace_68
  · have h := it_f hc h
    refine V_iconst (pc := 43) C dX0_oddPlace_43 kc_i_1 ?_
    refine V_goto (tgt := 48) (pc := 44) C dX0_oddPlace_44 (by decide) ?_
    refine V_istore (L' := [some (.int a0), some (.int a1), some (.int a2), some (.int ((a0 + a1) + a2)), some (.int x1), some (.int x2), some (.int x3), some (.int (1 : Int32))]) (pc := 48) C dX0_oddPlace_48 (by decide) rfl ?_
    refine V_iload (pc := 50) C dX0_oddPlace_50 rfl ?_
    refine V_iload (pc := 52) C dX0_oddPlace_52 rfl ?_
    refine V_iload (pc := 54) C dX0_oddPlace_54 rfl ?_
    refine V_max (pc := 56) C ml_RX0_69 mt_max.1 mt_max.2.1 mt_max.2.2 ⟨Nat.le_of_ble_eq_true rfl, Nat.le_of_ble_eq_true rfl⟩ dX0_oddPlace_56 ?_
    refine V_icmp_le (tgt := 66) (pc := 59) C dX0_oddPlace_59 (by decide) (fun hc => ?_) (fun hc => ?_)
    · have h := it_t hc h
      refine V_iload (pc := 66) C dX0_oddPlace_66 rfl ?_
      cases h
      exact hR 68 _ ⟨_, rfl, rfl⟩ dX0_oddPlace_68
    · have h := it_f hc h
      refine V_iconst (pc := 62) C dX0_oddPlace_62 kc_i_2 ?_
      refine V_goto (tgt := 68) (pc := 63) C dX0_oddPlace_63 (by decide) ?_
      cases h
      exact hR 68 _ ⟨_, rfl, rfl⟩ dX0_oddPlace_68
set_option maxRecDepth 100000 in
theorem mX8_inLikedNumbers_L21 {K : zK} (C : zC K cX8_inLikedNumbers yX8_inLikedNumbers.cls 6 1 21 cW) {S : zM} {v0 : Nat} {v1 : Int32} (hv0 : zob cW 8 v0) : ∀ (f : Nat) (v2 : Int32) (v3 : Int32) (r : Int32), gX8_inLikedNumbers_L21 S v0 v1 f v2 v3 = some r → zR K cX8_inLikedNumbers (some .int) S (some (.int r)) → V K 21 [some (.ref v0), some (.int v1), some (.int v2), some (.int v3), none, none] [] S := by
  intro f
  induction f with
  | zero => intro v2 v3 r h hR; cases h
  | succ n ih =>
    intro v2 v3 r h hR
    unfold gX8_inLikedNumbers_L21 at h
    refine V_iload_n (pc := 21) C dX8_inLikedNumbers_21 rfl rfl ?_
    refine V_aload_n (pc := 22) C dX8_inLikedNumbers_22 rfl rfl ?_
    refine V_getI (pc := 23) C hv0 fl_RX8_35 (by decide) dX8_inLikedNumbers_23 ?_
    refine V_icmp_ge (tgt := 93) (pc := 26) C dX8_inLikedNumbers_26 (by decide) (fun hc => ?_) (fun hc => ?_)
    · have h := it_t hc h
      refine V_iload_n (pc := 93) C dX8_inLikedNumbers_93 rfl rfl ?_
      cases h
      exact hR 94 _ ⟨_, rfl, rfl⟩ dX8_inLikedNumbers_94
    · have h := it_f hc h
      refine V_iload_n (pc := 29) C dX8_inLikedNumbers_29 rfl rfl ?_
      refine V_bipush (pc := 30) C dX8_inLikedNumbers_30 kc_b_6 ?_
      refine V_icmp_ge (tgt := 93) (pc := 32) C dX8_inLikedNumbers_32 (by decide) (fun hc => ?_) (fun hc => ?_)
      · have h := it_t hc h
        refine V_iload_n (pc := 93) C dX8_inLikedNumbers_93 rfl rfl ?_
        cases h
        exact hR 94 _ ⟨_, rfl, rfl⟩ dX8_inLikedNumbers_94
      · have h := it_f hc h
        refine V_aload_n (pc := 35) C dX8_inLikedNumbers_35 rfl rfl ?_
        refine V_getF (p1 := (v0 + 1)) (pc := 36) C hv0 fl_RX8_9 rfl (zf_cW_8_0 hv0) dX8_inLikedNumbers_36 ?_
        refine V_iload_n (pc := 39) C dX8_inLikedNumbers_39 rfl rfl ?_
        obtain ⟨k3, h⟩ := ck_some h
        refine V_iald (pc := 40) C (za_cW_8_0 hv0) k3 dX8_inLikedNumbers_40 ?_
        refine V_iload_n (pc := 41) C dX8_inLikedNumbers_41 rfl rfl ?_
        refine V_isub (pc := 42) C dX8_inLikedNumbers_42 ?_
        refine V_abs (pc := 43) C ml_RX8_50 mt_abs.1 mt_abs.2.1 mt_abs.2.2 ⟨Nat.le_of_ble_eq_true rfl, Nat.le_of_ble_eq_true rfl⟩ dX8_inLikedNumbers_43 ?_
        obtain ⟨x4, ex4, h⟩ := lt_some h
        refine V_nmI ex4 ?_
        refine V_istore (L' := [some (.ref v0), some (.int v1), some (.int v2), some (.int v3), some (.int x4), none]) (pc := 46) C dX8_inLikedNumbers_46 (by decide) rfl ?_
        refine V_iload_n (pc := 48) C dX8_inLikedNumbers_48 rfl rfl ?_
        refine V_iload_n (pc := 49) C dX8_inLikedNumbers_49 rfl rfl ?_
        refine V_isub (pc := 50) C dX8_inLikedNumbers_50 ?_
        refine V_abs (pc := 51) C ml_RX8_50 mt_abs.1 mt_abs.2.1 mt_abs.2.2 ⟨Nat.le_of_ble_eq_true rfl, Nat.le_of_ble_eq_true rfl⟩ dX8_inLikedNumbers_51 ?_
        refine V_istore (L' := [some (.ref v0), some (.int v1), some (.int v2), some (.int v3), some (.int x4), some (.int (jabs (v2 - v1)))]) (pc := 54) C dX8_inLikedNumbers_54 (by decide) rfl ?_
        refine V_iload (pc := 56) C dX8_inLikedNumbers_56 rfl ?_
        refine V_iload (pc := 58) C dX8_inLikedNumbers_58 rfl ?_
        refine V_icmp_lt (tgt := 80) (pc := 60) C dX8_inLikedNumbers_60 (by decide) (fun hc => ?_) (fun hc => ?_)
        · have h := it_t hc h
          refine V_aload_n (pc := 80) C dX8_inLikedNumbers_80 rfl rfl ?_
          refine V_getF (p1 := (v0 + 1)) (pc := 81) C hv0 fl_RX8_9 rfl (zf_cW_8_0 hv0) dX8_inLikedNumbers_81 ?_
          refine V_iload_n (pc := 84) C dX8_inLikedNumbers_84 rfl rfl ?_
          obtain ⟨k5, h⟩ := ck_some h
          refine V_iald (pc := 85) C (za_cW_8_0 hv0) k5 dX8_inLikedNumbers_85 ?_
          refine V_istore_n (L' := [some (.ref v0), some (.int v1), some (.int (gI S (v0 + 1) (ix v3))), some (.int v3), some (.int x4), some (.int (jabs (v2 - v1)))]) (pc := 86) C dX8_inLikedNumbers_86 rfl (by decide) rfl ?_
          refine V_iinc (L' := [some (.ref v0), some (.int v1), some (.int (gI S (v0 + 1) (ix v3))), some (.int (v3 + (1 : Int32))), some (.int x4), some (.int (jabs (v2 - v1)))]) (v := (v3 + (1 : Int32))) (pc := 87) C dX8_inLikedNumbers_87 rfl (congrArg (v3 + ·) kc_i_1) (by decide) rfl ?_
          refine V_goto (tgt := 21) (pc := 90) C dX8_inLikedNumbers_90 (by decide) ?_
          exact V_mask [true, true, true, true, false, false] (ih _ _ _ h hR)
        · have h := it_f hc h
          refine V_iload (pc := 63) C dX8_inLikedNumbers_63 rfl ?_
          refine V_iload (pc := 65) C dX8_inLikedNumbers_65 rfl ?_
          refine V_icmp_ne (tgt := 87) (pc := 67) C dX8_inLikedNumbers_67 (by decide) (fun hc => ?_) (fun hc => ?_)
          · have h := it_f hc h
            refine V_iinc (L' := [some (.ref v0), some (.int v1), some (.int v2), some (.int (v3 + (1 : Int32))), some (.int x4), some (.int (jabs (v2 - v1)))]) (v := (v3 + (1 : Int32))) (pc := 87) C dX8_inLikedNumbers_87 rfl (congrArg (v3 + ·) kc_i_1) (by decide) rfl ?_
            refine V_goto (tgt := 21) (pc := 90) C dX8_inLikedNumbers_90 (by decide) ?_
            exact V_mask [true, true, true, true, false, false] (ih _ _ _ h hR)
          · have h := it_t hc h
            refine V_aload_n (pc := 70) C dX8_inLikedNumbers_70 rfl rfl ?_
            refine V_getF (p1 := (v0 + 1)) (pc := 71) C hv0 fl_RX8_9 rfl (zf_cW_8_0 hv0) dX8_inLikedNumbers_71 ?_
            refine V_iload_n (pc := 74) C dX8_inLikedNumbers_74 rfl rfl ?_
            obtain ⟨k6, h⟩ := ck_some h
            refine V_iald (pc := 75) C (za_cW_8_0 hv0) k6 dX8_inLikedNumbers_75 ?_
            refine V_iload_n (pc := 76) C dX8_inLikedNumbers_76 rfl rfl ?_
            refine V_icmp_ge (tgt := 87) (pc := 77) C dX8_inLikedNumbers_77 (by decide) (fun hc => ?_) (fun hc => ?_)
            · have h := it_t hc h
              refine V_iinc (L' := [some (.ref v0), some (.int v1), some (.int v2), some (.int (v3 + (1 : Int32))), some (.int x4), some (.int (jabs (v2 - v1)))]) (v := (v3 + (1 : Int32))) (pc := 87) C dX8_inLikedNumbers_87 rfl (congrArg (v3 + ·) kc_i_1) (by decide) rfl ?_
              refine V_goto (tgt := 21) (pc := 90) C dX8_inLikedNumbers_90 (by decide) ?_
              exact V_mask [true, true, true, true, false, false] (ih _ _ _ h hR)
            · have h := it_f hc h
              refine V_aload_n (pc := 80) C dX8_inLikedNumbers_80 rfl rfl ?_
              refine V_getF (p1 := (v0 + 1)) (pc := 81) C hv0 fl_RX8_9 rfl (zf_cW_8_0 hv0) dX8_inLikedNumbers_81 ?_
              refine V_iload_n (pc := 84) C dX8_inLikedNumbers_84 rfl rfl ?_
              obtain ⟨k7, h⟩ := ck_some h
              refine V_iald (pc := 85) C (za_cW_8_0 hv0) k7 dX8_inLikedNumbers_85 ?_
              refine V_istore_n (L' := [some (.ref v0), some (.int v1), some (.int (gI S (v0 + 1) (ix v3))), some (.int v3), some (.int x4), some (.int (jabs (v2 - v1)))]) (pc := 86) C dX8_inLikedNumbers_86 rfl (by decide) rfl ?_
              refine V_iinc (L' := [some (.ref v0), some (.int v1), some (.int (gI S (v0 + 1) (ix v3))), some (.int (v3 + (1 : Int32))), some (.int x4), some (.int (jabs (v2 - v1)))]) (v := (v3 + (1 : Int32))) (pc := 87) C dX8_inLikedNumbers_87 rfl (congrArg (v3 + ·) kc_i_1) (by decide) rfl ?_
              refine V_goto (tgt := 21) (pc := 90) C dX8_inLikedNumbers_90 (by decide) ?_
              exact V_mask [true, true, true, true, false, false] (ih _ _ _ h hR)
set_option maxRecDepth 100000 in
theorem mX8_inLikedNumbers (l : Launch) {S : zM} {q : Nat} {a1 : Int32} {r : Int32} (hq : zob cW 8 q) (h : gX8_inLikedNumbers S q a1 = some r) : zMet l cW zS0 yX8_inLikedNumbers cX8_inLikedNumbers 6 (some .int) 1 21 [.ref q, .int a1] S (some (.int r)) S := by
  refine zmeth (by decide +kernel) (by rfl) (fun K hKl C hR => ?_)
  show V K 0 [some (.ref q), some (.int a1), none, none, none, none] [] S
  unfold gX8_inLikedNumbers at h
  refine V_aload_n (pc := 0) C dX8_inLikedNumbers_0 rfl rfl ?_
  refine V_getI (pc := 1) C hq fl_RX8_35 (by decide) dX8_inLikedNumbers_1 ?_
  refine V_iconst (pc := 4) C dX8_inLikedNumbers_4 kc_i_1 ?_
  refine V_icmp_ge (tgt := 12) (pc := 5) C dX8_inLikedNumbers_5 (by decide) (fun hc => ?_) (fun hc => ?_)
  · have h := it_t hc h
    refine V_aload_n (pc := 12) C dX8_inLikedNumbers_12 rfl rfl ?_
    refine V_getF (p1 := (q + 1)) (pc := 13) C hq fl_RX8_9 rfl (zf_cW_8_0 hq) dX8_inLikedNumbers_13 ?_
    refine V_iconst (pc := 16) C dX8_inLikedNumbers_16 kc_i_0 ?_
    obtain ⟨k1, h⟩ := ck_some h
    refine V_iald (pc := 17) C (za_cW_8_0 hq) k1 dX8_inLikedNumbers_17 ?_
    obtain ⟨x2, ex2, h⟩ := lt_some h
    refine V_nmI ex2 ?_
    refine V_istore_n (L' := [some (.ref q), some (.int a1), some (.int x2), none, none, none]) (pc := 18) C dX8_inLikedNumbers_18 rfl (by decide) rfl ?_
    refine V_iconst (pc := 19) C dX8_inLikedNumbers_19 kc_i_1 ?_
    refine V_istore_n (L' := [some (.ref q), some (.int a1), some (.int x2), some (.int (1 : Int32)), none, none]) (pc := 20) C dX8_inLikedNumbers_20 rfl (by decide) rfl ?_
    exact V_mask [true, true, true, true, false, false] (mX8_inLikedNumbers_L21 C hq FU _ _ _ h hR)
  · have h := it_f hc h
    refine V_iload_n (pc := 8) C dX8_inLikedNumbers_8 rfl rfl ?_
    refine V_goto (tgt := 18) (pc := 9) C dX8_inLikedNumbers_9 (by decide) ?_
    refine V_istore_n (L' := [some (.ref q), some (.int a1), some (.int a1), none, none, none]) (pc := 18) C dX8_inLikedNumbers_18 rfl (by decide) rfl ?_
    refine V_iconst (pc := 19) C dX8_inLikedNumbers_19 kc_i_1 ?_
    refine V_istore_n (L' := [some (.ref q), some (.int a1), some (.int a1), some (.int (1 : Int32)), none, none]) (pc := 20) C dX8_inLikedNumbers_20 rfl (by decide) rfl ?_
    exact V_mask [true, true, true, true, false, false] (mX8_inLikedNumbers_L21 C hq FU _ _ _ h hR)
set_option maxRecDepth 100000 in
theorem mX9_nearest_L4 {K : zK} (C : zC K cX9_nearest yX9_nearest.cls 4 1 21 cW) {S : zM} {v0 : Nat} {v1 : Int32} (hv0 : zob cW 9 v0) : ∀ (f : Nat) (v2 : Int32) (v3 : Int32) (r : Int32), gX9_nearest_L4 S v0 v1 f v2 v3 = some r → zR K cX9_nearest (some .int) S (some (.int r)) → V K 4 [some (.ref v0), some (.int v1), some (.int v2), some (.int v3)] [] S := by
  intro f
  induction f with
  | zero => intro v2 v3 r h hR; cases h
  | succ n ih =>
    intro v2 v3 r h hR
    unfold gX9_nearest_L4 at h
    refine V_iload_n (pc := 4) C dX9_nearest_4 rfl rfl ?_
    refine V_sipush (pc := 5) C dX9_nearest_5 kc_s_400 ?_
    refine V_icmp_gt (tgt := 44) (pc := 8) C dX9_nearest_8 (by decide) (fun hc => ?_) (fun hc => ?_)
    · have h := it_t hc h
      refine V_iload_n (pc := 44) C dX9_nearest_44 rfl rfl ?_
      cases h
      exact hR 45 _ ⟨_, rfl, rfl⟩ dX9_nearest_45
    · have h := it_f hc h
      refine V_aload_n (pc := 11) C dX9_nearest_11 rfl rfl ?_
      refine V_getF (p1 := (v0 + 5)) (pc := 12) C hv0 fl_RX9_24 rfl (zf_cW_9_4 hv0) dX9_nearest_12 ?_
      refine V_iload_n (pc := 15) C dX9_nearest_15 rfl rfl ?_
      obtain ⟨k1, h⟩ := ck_some h
      refine V_iald (pc := 16) C (za_cW_9_4 hv0) k1 dX9_nearest_16 ?_
      refine V_iload_n (pc := 17) C dX9_nearest_17 rfl rfl ?_
      refine V_isub (pc := 18) C dX9_nearest_18 ?_
      refine V_abs (pc := 19) C ml_RX9_70 mt_abs.1 mt_abs.2.1 mt_abs.2.2 ⟨Nat.le_of_ble_eq_true rfl, Nat.le_of_ble_eq_true rfl⟩ dX9_nearest_19 ?_
      refine V_aload_n (pc := 22) C dX9_nearest_22 rfl rfl ?_
      refine V_getF (p1 := (v0 + 5)) (pc := 23) C hv0 fl_RX9_24 rfl (zf_cW_9_4 hv0) dX9_nearest_23 ?_
      refine V_iload_n (pc := 26) C dX9_nearest_26 rfl rfl ?_
      obtain ⟨k2, h⟩ := ck_some h
      refine V_iald (pc := 27) C (za_cW_9_4 hv0) k2 dX9_nearest_27 ?_
      refine V_iload_n (pc := 28) C dX9_nearest_28 rfl rfl ?_
      refine V_isub (pc := 29) C dX9_nearest_29 ?_
      refine V_abs (pc := 30) C ml_RX9_70 mt_abs.1 mt_abs.2.1 mt_abs.2.2 ⟨Nat.le_of_ble_eq_true rfl, Nat.le_of_ble_eq_true rfl⟩ dX9_nearest_30 ?_
      refine V_icmp_ge (tgt := 38) (pc := 33) C dX9_nearest_33 (by decide) (fun hc => ?_) (fun hc => ?_)
      · have h := it_t hc h
        refine V_iinc (L' := [some (.ref v0), some (.int v1), some (.int v2), some (.int (v3 + (1 : Int32)))]) (v := (v3 + (1 : Int32))) (pc := 38) C dX9_nearest_38 rfl (congrArg (v3 + ·) kc_i_1) (by decide) rfl ?_
        refine V_goto (tgt := 4) (pc := 41) C dX9_nearest_41 (by decide) ?_
        exact V_mask [true, true, true, true] (ih _ _ _ h hR)
      · have h := it_f hc h
        refine V_iload_n (pc := 36) C dX9_nearest_36 rfl rfl ?_
        refine V_istore_n (L' := [some (.ref v0), some (.int v1), some (.int v3), some (.int v3)]) (pc := 37) C dX9_nearest_37 rfl (by decide) rfl ?_
        refine V_iinc (L' := [some (.ref v0), some (.int v1), some (.int v3), some (.int (v3 + (1 : Int32)))]) (v := (v3 + (1 : Int32))) (pc := 38) C dX9_nearest_38 rfl (congrArg (v3 + ·) kc_i_1) (by decide) rfl ?_
        refine V_goto (tgt := 4) (pc := 41) C dX9_nearest_41 (by decide) ?_
        exact V_mask [true, true, true, true] (ih _ _ _ h hR)
set_option maxRecDepth 100000 in
theorem mX9_nearest (l : Launch) {S : zM} {q : Nat} {a1 : Int32} {r : Int32} (hq : zob cW 9 q) (h : gX9_nearest S q a1 = some r) : zMet l cW zS0 yX9_nearest cX9_nearest 4 (some .int) 1 21 [.ref q, .int a1] S (some (.int r)) S := by
  refine zmeth (by decide +kernel) (by rfl) (fun K hKl C hR => ?_)
  show V K 0 [some (.ref q), some (.int a1), none, none] [] S
  unfold gX9_nearest at h
  refine V_iconst (pc := 0) C dX9_nearest_0 kc_i_1 ?_
  refine V_istore_n (L' := [some (.ref q), some (.int a1), some (.int (1 : Int32)), none]) (pc := 1) C dX9_nearest_1 rfl (by decide) rfl ?_
  refine V_iconst (pc := 2) C dX9_nearest_2 kc_i_2 ?_
  refine V_istore_n (L' := [some (.ref q), some (.int a1), some (.int (1 : Int32)), some (.int (2 : Int32))]) (pc := 3) C dX9_nearest_3 rfl (by decide) rfl ?_
  exact V_mask [true, true, true, true] (mX9_nearest_L4 C hq FU _ _ _ h hR)
set_option maxRecDepth 100000 in
theorem mX0_said (l : Launch) {S : zM} {a1 : Int32} {a2 : Int32} {a3 : Int32} {r : Int32}  (h : gX0_said S a1 a2 a3 = some r) : zMet l cW zS0 yX0_said cX0_said 4 (some .int) 2 48 [.ref 456, .int a1, .int a2, .int a3] S (some (.int r)) S := by
  refine zmeth (by decide +kernel) (by rfl) (fun K hKl C hR => ?_)
  show V K 0 [some (.ref 456), some (.int a1), some (.int a2), some (.int a3)] [] S
  unfold gX0_said at h
  refine V_aload_n (pc := 0) C dX0_said_0 rfl rfl ?_
  refine V_getI (pc := 1) C z1_cW_0 fl_RX0_32 (by decide) dX0_said_1 ?_
  by_cases c4_0 : (gI S 456 4) = (0 : Int32)
  · have h := it_t c4_0 h
    refine V_case (tgt := 40) (off := (36)) (pc := 4) C dX0_said_4 c4_0 (by decide +kernel) (by decide) ?_
    refine V_aload_n (pc := 40) C dX0_said_40 rfl rfl ?_
    refine V_iload_n (pc := 41) C dX0_said_41 rfl rfl ?_
    refine V_aload_n (pc := 42) C dX0_said_42 rfl rfl ?_
    obtain ⟨k1, h⟩ := ck_some h
    refine V_getR (pc := 43) C z1_cW_0 fl_RX0_12 rfl dX0_said_43 ?_
    refine V_getI (pc := 46) C (zob_of k1) fl_RX0_52 (by decide) dX0_said_46 ?_
    refine V_iadd (pc := 49) C dX0_said_49 ?_
    refine V_aload_n (pc := 50) C dX0_said_50 rfl rfl ?_
    obtain ⟨k2, h⟩ := ck_some h
    refine V_getR (pc := 51) C z1_cW_0 fl_RX0_12 rfl dX0_said_51 ?_
    obtain ⟨r3, er3, h⟩ := b1_some h
    refine V_callV (As := []) (pc := 54) C (mX8_tired _ (zob_of k2) er3) zm_X8_tired zi_X8_tired ml_RX0_55 (zob_of k2) rfl ⟨Nat.le_of_ble_eq_true rfl, Nat.le_of_ble_eq_true rfl⟩ rfl rfl (Nat.le_of_ble_eq_true rfl) dX0_said_54 ?_
    show V K 57 [some (.ref 456), some (.int a1), some (.int a2), some (.int a3)] [.int r3, .int (a2 + (gI S (gR S 456 0) 3)), .ref 456] S
    refine V_iadd (pc := 57) C dX0_said_57 ?_
    refine V_iload_n (pc := 58) C dX0_said_58 rfl rfl ?_
    refine V_isub (pc := 59) C dX0_said_59 ?_
    obtain ⟨r4, er4, h⟩ := b1_some h
    refine V_callV (As := [.int (((a2 + (gI S (gR S 456 0) 3)) + r3) - a1)]) (pc := 60) C (mX0_pairSaid _ er4) zm_X0_pairSaid zi_X0_pairSaid ml_RX0_59 z1_cW_0 rfl ⟨Nat.le_of_ble_eq_true rfl, Nat.le_of_ble_eq_true rfl⟩ rfl rfl (Nat.le_of_ble_eq_true rfl) dX0_said_60 ?_
    show V K 63 [some (.ref 456), some (.int a1), some (.int a2), some (.int a3)] [.int r4] S
    cases h
    exact hR 63 _ ⟨_, rfl, rfl⟩ dX0_said_63
  · have h := it_f c4_0 h
    by_cases c4_1 : (gI S 456 4) = (1 : Int32)
    · have h := it_t c4_1 h
      refine V_case (tgt := 64) (off := (60)) (pc := 4) C dX0_said_4 c4_1 (by decide +kernel) (by decide) ?_
      refine V_iload_n (pc := 64) C dX0_said_64 rfl rfl ?_
      refine V_aload_n (pc := 65) C dX0_said_65 rfl rfl ?_
      obtain ⟨k5, h⟩ := ck_some h
      refine V_getR (pc := 66) C z1_cW_0 fl_RX0_12 rfl dX0_said_66 ?_
      refine V_getI (pc := 69) C (zob_of k5) fl_RX0_62 (by decide) dX0_said_69 ?_
      refine V_aload_n (pc := 72) C dX0_said_72 rfl rfl ?_
      obtain ⟨k6, h⟩ := ck_some h
      refine V_getR (pc := 73) C z1_cW_0 fl_RX0_12 rfl dX0_said_73 ?_
      obtain ⟨r7, er7, h⟩ := b1_some h
      refine V_callV (As := []) (pc := 76) C (mX8_tired _ (zob_of k6) er7) zm_X8_tired zi_X8_tired ml_RX0_55 (zob_of k6) rfl ⟨Nat.le_of_ble_eq_true rfl, Nat.le_of_ble_eq_true rfl⟩ rfl rfl (Nat.le_of_ble_eq_true rfl) dX0_said_76 ?_
      show V K 79 [some (.ref 456), some (.int a1), some (.int a2), some (.int a3)] [.int r7, .int (gI S (gR S 456 0) 2), .int a1] S
      refine V_iadd (pc := 79) C dX0_said_79 ?_
      refine V_icmp_le (tgt := 87) (pc := 80) C dX0_said_80 (by decide) (fun hc => ?_) (fun hc => ?_)
      · have h := it_t hc h
        refine V_iconst (pc := 87) C dX0_said_87 kc_i_0 ?_
        cases h
        exact hR 88 _ ⟨_, rfl, rfl⟩ dX0_said_88
      · have h := it_f hc h
        refine V_iconst (pc := 83) C dX0_said_83 kc_i_1 ?_
        refine V_goto (tgt := 88) (pc := 84) C dX0_said_84 (by decide) ?_
        cases h
        exact hR 88 _ ⟨_, rfl, rfl⟩ dX0_said_88
    · have h := it_f c4_1 h
      by_cases c4_2 : (gI S 456 4) = (2 : Int32)
      · have h := it_t c4_2 h
        refine V_case (tgt := 89) (off := (85)) (pc := 4) C dX0_said_4 c4_2 (by decide +kernel) (by decide) ?_
        refine V_iload_n (pc := 89) C dX0_said_89 rfl rfl ?_
        refine V_iload_n (pc := 90) C dX0_said_90 rfl rfl ?_
        refine V_iload_n (pc := 91) C dX0_said_91 rfl rfl ?_
        obtain ⟨r8, er8, h⟩ := b1_some h
        refine V_callS (As := [.int a1, .int a2, .int a3]) (pc := 92) C (mX0_oddPlace _ er8) zm_X0_oddPlace zs_X0_oddPlace ml_RX0_65 ⟨Nat.le_of_ble_eq_true rfl, Nat.le_of_ble_eq_true rfl⟩ rfl rfl (Nat.le_of_ble_eq_true rfl) dX0_said_92 ?_
        show V K 95 [some (.ref 456), some (.int a1), some (.int a2), some (.int a3)] [.int r8] S
        cases h
        exact hR 95 _ ⟨_, rfl, rfl⟩ dX0_said_95
      · have h := it_f c4_2 h
        by_cases c4_3 : (gI S 456 4) = (3 : Int32)
        · have h := it_t c4_3 h
          refine V_case (tgt := 96) (off := (92)) (pc := 4) C dX0_said_4 c4_3 (by decide +kernel) (by decide) ?_
          refine V_aload_n (pc := 96) C dX0_said_96 rfl rfl ?_
          obtain ⟨k9, h⟩ := ck_some h
          refine V_getR (pc := 97) C z1_cW_0 fl_RX0_12 rfl dX0_said_97 ?_
          refine V_iconst (pc := 100) C dX0_said_100 kc_i_0 ?_
          refine V_iload_n (pc := 101) C dX0_said_101 rfl rfl ?_
          refine V_max (pc := 102) C ml_RX0_69 mt_max.1 mt_max.2.1 mt_max.2.2 ⟨Nat.le_of_ble_eq_true rfl, Nat.le_of_ble_eq_true rfl⟩ dX0_said_102 ?_
          obtain ⟨r10, er10, h⟩ := b1_some h
          refine V_callV (As := [.int (jmax (0 : Int32) a1)]) (pc := 105) C (mX8_inLikedNumbers _ (zob_of k9) er10) zm_X8_inLikedNumbers zi_X8_inLikedNumbers ml_RX0_75 (zob_of k9) rfl ⟨Nat.le_of_ble_eq_true rfl, Nat.le_of_ble_eq_true rfl⟩ rfl rfl (Nat.le_of_ble_eq_true rfl) dX0_said_105 ?_
          show V K 108 [some (.ref 456), some (.int a1), some (.int a2), some (.int a3)] [.int r10] S
          cases h
          exact hR 108 _ ⟨_, rfl, rfl⟩ dX0_said_108
        · have h := it_f c4_3 h
          by_cases c4_4 : (gI S 456 4) = (4 : Int32)
          · have h := it_t c4_4 h
            refine V_case (tgt := 109) (off := (105)) (pc := 4) C dX0_said_4 c4_4 (by decide +kernel) (by decide) ?_
            refine V_aload_n (pc := 109) C dX0_said_109 rfl rfl ?_
            obtain ⟨k11, h⟩ := ck_some h
            refine V_getR (pc := 110) C z1_cW_0 fl_RX0_25 rfl dX0_said_110 ?_
            refine V_iload_n (pc := 113) C dX0_said_113 rfl rfl ?_
            obtain ⟨r12, er12, h⟩ := b1_some h
            refine V_callV (As := [.int a1]) (pc := 114) C (mX9_nearest _ (zob_of k11) er12) zm_X9_nearest zi_X9_nearest ml_RX0_78 (zob_of k11) rfl ⟨Nat.le_of_ble_eq_true rfl, Nat.le_of_ble_eq_true rfl⟩ rfl rfl (Nat.le_of_ble_eq_true rfl) dX0_said_114 ?_
            show V K 117 [some (.ref 456), some (.int a1), some (.int a2), some (.int a3)] [.int r12] S
            cases h
            exact hR 117 _ ⟨_, rfl, rfl⟩ dX0_said_117
          · have h := it_f c4_4 h
            refine V_dflt (tgt := 118) (m := 5) (pc := 4) C dX0_said_4 (by decide) (fun i hi => match i, hi with | 0, _ => c4_0 | 1, _ => c4_1 | 2, _ => c4_2 | 3, _ => c4_3 | 4, _ => c4_4 | k + 5, hi => absurd hi (by omega)) (by decide) ?_
            refine V_aload_n (pc := 118) C dX0_said_118 rfl rfl ?_
            refine V_iload_n (pc := 119) C dX0_said_119 rfl rfl ?_
            refine V_aload_n (pc := 120) C dX0_said_120 rfl rfl ?_
            obtain ⟨k13, h⟩ := ck_some h
            refine V_getR (pc := 121) C z1_cW_0 fl_RX0_12 rfl dX0_said_121 ?_
            refine V_getI (pc := 124) C (zob_of k13) fl_RX0_52 (by decide) dX0_said_124 ?_
            refine V_iadd (pc := 127) C dX0_said_127 ?_
            refine V_aload_n (pc := 128) C dX0_said_128 rfl rfl ?_
            obtain ⟨k14, h⟩ := ck_some h
            refine V_getR (pc := 129) C z1_cW_0 fl_RX0_12 rfl dX0_said_129 ?_
            obtain ⟨r15, er15, h⟩ := b1_some h
            refine V_callV (As := []) (pc := 132) C (mX8_tired _ (zob_of k14) er15) zm_X8_tired zi_X8_tired ml_RX0_55 (zob_of k14) rfl ⟨Nat.le_of_ble_eq_true rfl, Nat.le_of_ble_eq_true rfl⟩ rfl rfl (Nat.le_of_ble_eq_true rfl) dX0_said_132 ?_
            show V K 135 [some (.ref 456), some (.int a1), some (.int a2), some (.int a3)] [.int r15, .int (a2 + (gI S (gR S 456 0) 3)), .ref 456] S
            refine V_iadd (pc := 135) C dX0_said_135 ?_
            refine V_iload_n (pc := 136) C dX0_said_136 rfl rfl ?_
            refine V_isub (pc := 137) C dX0_said_137 ?_
            obtain ⟨r16, er16, h⟩ := b1_some h
            refine V_callV (As := [.int (((a2 + (gI S (gR S 456 0) 3)) + r15) - a1)]) (pc := 138) C (mX0_knownSaid _ er16) zm_X0_knownSaid zi_X0_knownSaid ml_RX0_81 z1_cW_0 rfl ⟨Nat.le_of_ble_eq_true rfl, Nat.le_of_ble_eq_true rfl⟩ rfl rfl (Nat.le_of_ble_eq_true rfl) dX0_said_138 ?_
            show V K 141 [some (.ref 456), some (.int a1), some (.int a2), some (.int a3)] [.int r16] S
            cases h
            exact hR 141 _ ⟨_, rfl, rfl⟩ dX0_said_141
set_option maxRecDepth 100000 in
theorem mX0_wholeOdds_L4 {K : zK} (C : zC K cX0_wholeOdds yX0_wholeOdds.cls 4 1 20 cW) {S : zM} {v1 : Nat} (hv1 : zob cW 4 v1) : ∀ (f : Nat) (v2 : Int32) (v3 : Int32) (r : Int32), gX0_wholeOdds_L4 S v1 f v2 v3 = some r → zR K cX0_wholeOdds (some .int) S (some (.int r)) → V K 4 [some (.ref 456), some (.ref v1), some (.int v2), some (.int v3)] [] S := by
  intro f
  induction f with
  | zero => intro v2 v3 r h hR; cases h
  | succ n ih =>
    intro v2 v3 r h hR
    unfold gX0_wholeOdds_L4 at h
    refine V_iload_n (pc := 4) C dX0_wholeOdds_4 rfl rfl ?_
    refine V_aload_n (pc := 5) C dX0_wholeOdds_5 rfl rfl ?_
    obtain ⟨r1, er1, h⟩ := b1_some h
    refine V_callV (As := []) (pc := 6) C (mX0_feelings _ er1) zm_X0_feelings zi_X0_feelings ml_RX0_91 z1_cW_0 rfl ⟨Nat.le_of_ble_eq_true rfl, Nat.le_of_ble_eq_true rfl⟩ rfl rfl (Nat.le_of_ble_eq_true rfl) dX0_wholeOdds_6 ?_
    show V K 9 [some (.ref 456), some (.ref v1), some (.int v2), some (.int v3)] [.int r1, .int v3] S
    refine V_icmp_ge (tgt := 25) (pc := 9) C dX0_wholeOdds_9 (by decide) (fun hc => ?_) (fun hc => ?_)
    · have h := it_t hc h
      refine V_iload_n (pc := 25) C dX0_wholeOdds_25 rfl rfl ?_
      cases h
      exact hR 26 _ ⟨_, rfl, rfl⟩ dX0_wholeOdds_26
    · have h := it_f hc h
      refine V_iload_n (pc := 12) C dX0_wholeOdds_12 rfl rfl ?_
      refine V_aload_n (pc := 13) C dX0_wholeOdds_13 rfl rfl ?_
      refine V_getI (pc := 14) C hv1 fl_RX0_94 (by decide) dX0_wholeOdds_14 ?_
      refine V_imul (pc := 17) C dX0_wholeOdds_17 ?_
      refine V_istore_n (L' := [some (.ref 456), some (.ref v1), some (.int (v2 * (gI S v1 3))), some (.int v3)]) (pc := 18) C dX0_wholeOdds_18 rfl (by decide) rfl ?_
      refine V_iinc (L' := [some (.ref 456), some (.ref v1), some (.int (v2 * (gI S v1 3))), some (.int (v3 + (1 : Int32)))]) (v := (v3 + (1 : Int32))) (pc := 19) C dX0_wholeOdds_19 rfl (congrArg (v3 + ·) kc_i_1) (by decide) rfl ?_
      refine V_goto (tgt := 4) (pc := 22) C dX0_wholeOdds_22 (by decide) ?_
      exact V_mask [true, true, true, true] (ih _ _ _ h hR)
set_option maxRecDepth 100000 in
theorem mX0_wholeOdds (l : Launch) {S : zM} {a1 : Nat} {r : Int32} (ha1 : zob cW 4 a1) (h : gX0_wholeOdds S a1 = some r) : zMet l cW zS0 yX0_wholeOdds cX0_wholeOdds 4 (some .int) 1 20 [.ref 456, .ref a1] S (some (.int r)) S := by
  refine zmeth (by decide +kernel) (by rfl) (fun K hKl C hR => ?_)
  show V K 0 [some (.ref 456), some (.ref a1), none, none] [] S
  unfold gX0_wholeOdds at h
  refine V_iconst (pc := 0) C dX0_wholeOdds_0 kc_i_1 ?_
  refine V_istore_n (L' := [some (.ref 456), some (.ref a1), some (.int (1 : Int32)), none]) (pc := 1) C dX0_wholeOdds_1 rfl (by decide) rfl ?_
  refine V_iconst (pc := 2) C dX0_wholeOdds_2 kc_i_0 ?_
  refine V_istore_n (L' := [some (.ref 456), some (.ref a1), some (.int (1 : Int32)), some (.int (0 : Int32))]) (pc := 3) C dX0_wholeOdds_3 rfl (by decide) rfl ?_
  exact V_mask [true, true, true, true] (mX0_wholeOdds_L4 C ha1 FU _ _ _ h hR)
set_option maxRecDepth 100000 in
theorem mX4_oftenAt (l : Launch) {S : zM} {q : Nat} {a1 : Int32} {r : Int32} (hq : zob cW 4 q) (h : gX4_oftenAt S q a1 = some r) : zMet l cW zS0 yX4_oftenAt cX4_oftenAt 2 (some .int) 0 0 [.ref q, .int a1] S (some (.int r)) S := by
  refine zmeth (by decide +kernel) (by rfl) (fun K hKl C hR => ?_)
  show V K 0 [some (.ref q), some (.int a1)] [] S
  unfold gX4_oftenAt at h
  refine V_iload_n (pc := 0) C dX4_oftenAt_0 rfl rfl ?_
  refine V_bipush (pc := 1) C dX4_oftenAt_1 kc_b_m5 ?_
  refine V_icmp_lt (tgt := 11) (pc := 3) C dX4_oftenAt_3 (by decide) (fun hc => ?_) (fun hc => ?_)
  · have h := it_t hc h
    refine V_iconst (pc := 11) C dX4_oftenAt_11 kc_i_0 ?_
    refine V_goto (tgt := 23) (pc := 12) C dX4_oftenAt_12 (by decide) ?_
    cases h
    exact hR 23 _ ⟨_, rfl, rfl⟩ dX4_oftenAt_23
  · have h := it_f hc h
    refine V_iload_n (pc := 6) C dX4_oftenAt_6 rfl rfl ?_
    refine V_iconst (pc := 7) C dX4_oftenAt_7 kc_i_5 ?_
    refine V_icmp_le (tgt := 15) (pc := 8) C dX4_oftenAt_8 (by decide) (fun hc => ?_) (fun hc => ?_)
    · have h := it_t hc h
      refine V_aload_n (pc := 15) C dX4_oftenAt_15 rfl rfl ?_
      refine V_getF (p1 := (q + 1)) (pc := 16) C hq fl_RX4_9 rfl (zf_cW_4_0 hq) dX4_oftenAt_16 ?_
      refine V_iload_n (pc := 19) C dX4_oftenAt_19 rfl rfl ?_
      refine V_iconst (pc := 20) C dX4_oftenAt_20 kc_i_5 ?_
      refine V_iadd (pc := 21) C dX4_oftenAt_21 ?_
      obtain ⟨k1, h⟩ := ck_some h
      refine V_iald (pc := 22) C (za_cW_4_0 hq) k1 dX4_oftenAt_22 ?_
      cases h
      exact hR 23 _ ⟨_, rfl, rfl⟩ dX4_oftenAt_23
    · have h := it_f hc h
      refine V_iconst (pc := 11) C dX4_oftenAt_11 kc_i_0 ?_
      refine V_goto (tgt := 23) (pc := 12) C dX4_oftenAt_12 (by decide) ?_
      cases h
      exact hR 23 _ ⟨_, rfl, rfl⟩ dX4_oftenAt_23
set_option maxRecDepth 100000 in
theorem mX0_oftenAt (l : Launch) {S : zM} {a1 : Nat} {a2 : Int32} {a3 : Int32} {r : Int32} (ha1 : zob cW 4 a1) (h : gX0_oftenAt S a1 a2 a3 = some r) : zMet l cW zS0 yX0_oftenAt cX0_oftenAt 4 (some .int) 1 21 [.ref 456, .ref a1, .int a2, .int a3] S (some (.int r)) S := by
  refine zmeth (by decide +kernel) (by rfl) (fun K hKl C hR => ?_)
  show V K 0 [some (.ref 456), some (.ref a1), some (.int a2), some (.int a3)] [] S
  unfold gX0_oftenAt at h
  refine V_iload_n (pc := 0) C dX0_oftenAt_0 rfl rfl ?_
  refine V_aload_n (pc := 1) C dX0_oftenAt_1 rfl rfl ?_
  obtain ⟨r1, er1, h⟩ := b1_some h
  refine V_callV (As := []) (pc := 2) C (mX0_feelings _ er1) zm_X0_feelings zi_X0_feelings ml_RX0_91 z1_cW_0 rfl ⟨Nat.le_of_ble_eq_true rfl, Nat.le_of_ble_eq_true rfl⟩ rfl rfl (Nat.le_of_ble_eq_true rfl) dX0_oftenAt_2 ?_
  show V K 5 [some (.ref 456), some (.ref a1), some (.int a2), some (.int a3)] [.int r1, .int a2] S
  refine V_icmp_ge (tgt := 14) (pc := 5) C dX0_oftenAt_5 (by decide) (fun hc => ?_) (fun hc => ?_)
  · have h := it_t hc h
    refine V_iload_n (pc := 14) C dX0_oftenAt_14 rfl rfl ?_
    refine V_if_ne (tgt := 22) (pc := 15) C dX0_oftenAt_15 (by decide) (fun hc => ?_) (fun hc => ?_)
    · have h := it_f hc h
      refine V_iconst (pc := 22) C dX0_oftenAt_22 kc_i_0 ?_
      cases h
      exact hR 23 _ ⟨_, rfl, rfl⟩ dX0_oftenAt_23
    · have h := it_t hc h
      refine V_iconst (pc := 18) C dX0_oftenAt_18 kc_i_1 ?_
      refine V_goto (tgt := 23) (pc := 19) C dX0_oftenAt_19 (by decide) ?_
      cases h
      exact hR 23 _ ⟨_, rfl, rfl⟩ dX0_oftenAt_23
  · have h := it_f hc h
    refine V_aload_n (pc := 8) C dX0_oftenAt_8 rfl rfl ?_
    refine V_iload_n (pc := 9) C dX0_oftenAt_9 rfl rfl ?_
    obtain ⟨r2, er2, h⟩ := b1_some h
    refine V_callV (As := [.int a3]) (pc := 10) C (mX4_oftenAt _ ha1 er2) zm_X4_oftenAt zi_X4_oftenAt ml_RX0_99 ha1 rfl ⟨Nat.le_of_ble_eq_true rfl, Nat.le_of_ble_eq_true rfl⟩ rfl rfl (Nat.le_of_ble_eq_true rfl) dX0_oftenAt_10 ?_
    show V K 13 [some (.ref 456), some (.ref a1), some (.int a2), some (.int a3)] [.int r2] S
    cases h
    exact hR 13 _ ⟨_, rfl, rfl⟩ dX0_oftenAt_13
set_option maxRecDepth 100000 in
theorem mX0_lastOdds_L7 {K : zK} (C : zC K cX0_lastOdds yX0_lastOdds.cls 8 3 71 cW) {S : zM} {v1 : Nat} {v2 : Int32} {v3 : Int32} {v4 : Int32} (hv1 : zob cW 4 v1) : ∀ (f : Nat) (v5 : Int32) (v6 : Int32) (r : Int32), gX0_lastOdds_L7 S v1 v2 v3 v4 f v5 v6 = some r → zR K cX0_lastOdds (some .int) S (some (.int r)) → V K 7 [some (.ref 456), some (.ref v1), some (.int v2), some (.int v3), some (.int v4), some (.int v5), some (.int v6), none] [] S := by
  intro f
  induction f with
  | zero => intro v5 v6 r h hR; cases h
  | succ n ih =>
    intro v5 v6 r h hR
    unfold gX0_lastOdds_L7 at h
    refine V_iload (pc := 7) C dX0_lastOdds_7 rfl ?_
    refine V_iconst (pc := 9) C dX0_lastOdds_9 kc_i_5 ?_
    refine V_icmp_gt (tgt := 60) (pc := 10) C dX0_lastOdds_10 (by decide) (fun hc => ?_) (fun hc => ?_)
    · have h := it_t hc h
      refine V_iload (pc := 60) C dX0_lastOdds_60 rfl ?_
      cases h
      exact hR 62 _ ⟨_, rfl, rfl⟩ dX0_lastOdds_62
    · have h := it_f hc h
      refine V_aload_n (pc := 13) C dX0_lastOdds_13 rfl rfl ?_
      refine V_aload_n (pc := 14) C dX0_lastOdds_14 rfl rfl ?_
      refine V_iconst (pc := 15) C dX0_lastOdds_15 kc_i_2 ?_
      refine V_iload (pc := 16) C dX0_lastOdds_16 rfl ?_
      obtain ⟨r1, er1, h⟩ := b1_some h
      refine V_callV (As := [.ref v1, .int (2 : Int32), .int v6]) (pc := 18) C (mX0_oftenAt _ hv1 er1) zm_X0_oftenAt zi_X0_oftenAt ml_RX0_102 z1_cW_0 rfl ⟨Nat.le_of_ble_eq_true rfl, Nat.le_of_ble_eq_true rfl⟩ rfl rfl (Nat.le_of_ble_eq_true rfl) dX0_lastOdds_18 ?_
      show V K 21 [some (.ref 456), some (.ref v1), some (.int v2), some (.int v3), some (.int v4), some (.int v5), some (.int v6), none] [.int r1] S
      refine V_istore (L' := [some (.ref 456), some (.ref v1), some (.int v2), some (.int v3), some (.int v4), some (.int v5), some (.int v6), some (.int r1)]) (pc := 21) C dX0_lastOdds_21 (by decide) rfl ?_
      refine V_iload (pc := 23) C dX0_lastOdds_23 rfl ?_
      refine V_if_le (tgt := 54) (pc := 25) C dX0_lastOdds_25 (by decide) (fun hc => ?_) (fun hc => ?_)
      · have h := it_t hc h
        refine V_iinc (L' := [some (.ref 456), some (.ref v1), some (.int v2), some (.int v3), some (.int v4), some (.int v5), some (.int (v6 + (1 : Int32))), some (.int r1)]) (v := (v6 + (1 : Int32))) (pc := 54) C dX0_lastOdds_54 rfl (congrArg (v6 + ·) kc_i_1) (by decide) rfl ?_
        refine V_goto (tgt := 7) (pc := 57) C dX0_lastOdds_57 (by decide) ?_
        exact V_mask [true, true, true, true, true, true, true, false] (ih _ _ _ h hR)
      · have h := it_f hc h
        refine V_aload_n (pc := 28) C dX0_lastOdds_28 rfl rfl ?_
        refine V_iload_n (pc := 29) C dX0_lastOdds_29 rfl rfl ?_
        refine V_iload (pc := 30) C dX0_lastOdds_30 rfl ?_
        refine V_aload_n (pc := 32) C dX0_lastOdds_32 rfl rfl ?_
        refine V_iconst (pc := 33) C dX0_lastOdds_33 kc_i_2 ?_
        obtain ⟨r2, er2, h⟩ := b1_some h
        refine V_callV (As := [.int (2 : Int32)]) (pc := 34) C (mX0_levelOf _ er2) zm_X0_levelOf zi_X0_levelOf ml_RX0_105 z1_cW_0 rfl ⟨Nat.le_of_ble_eq_true rfl, Nat.le_of_ble_eq_true rfl⟩ rfl rfl (Nat.le_of_ble_eq_true rfl) dX0_lastOdds_34 ?_
        show V K 37 [some (.ref 456), some (.ref v1), some (.int v2), some (.int v3), some (.int v4), some (.int v5), some (.int v6), some (.int r1)] [.int r2, .int v4, .int v3, .ref 456] S
        refine V_iload (pc := 37) C dX0_lastOdds_37 rfl ?_
        refine V_iadd (pc := 39) C dX0_lastOdds_39 ?_
        obtain ⟨r3, er3, h⟩ := b1_some h
        refine V_callV (As := [.int v3, .int v4, .int (r2 + v6)]) (pc := 40) C (mX0_said _ er3) zm_X0_said zi_X0_said ml_RX0_112 z1_cW_0 rfl ⟨Nat.le_of_ble_eq_true rfl, Nat.le_of_ble_eq_true rfl⟩ rfl rfl (Nat.le_of_ble_eq_true rfl) dX0_lastOdds_40 ?_
        show V K 43 [some (.ref 456), some (.ref v1), some (.int v2), some (.int v3), some (.int v4), some (.int v5), some (.int v6), some (.int r1)] [.int r3] S
        refine V_iload_n (pc := 43) C dX0_lastOdds_43 rfl rfl ?_
        refine V_icmp_ne (tgt := 54) (pc := 44) C dX0_lastOdds_44 (by decide) (fun hc => ?_) (fun hc => ?_)
        · have h := it_f hc h
          refine V_iinc (L' := [some (.ref 456), some (.ref v1), some (.int v2), some (.int v3), some (.int v4), some (.int v5), some (.int (v6 + (1 : Int32))), some (.int r1)]) (v := (v6 + (1 : Int32))) (pc := 54) C dX0_lastOdds_54 rfl (congrArg (v6 + ·) kc_i_1) (by decide) rfl ?_
          refine V_goto (tgt := 7) (pc := 57) C dX0_lastOdds_57 (by decide) ?_
          exact V_mask [true, true, true, true, true, true, true, false] (ih _ _ _ h hR)
        · have h := it_t hc h
          refine V_iload (pc := 47) C dX0_lastOdds_47 rfl ?_
          refine V_iload (pc := 49) C dX0_lastOdds_49 rfl ?_
          refine V_iadd (pc := 51) C dX0_lastOdds_51 ?_
          refine V_istore (L' := [some (.ref 456), some (.ref v1), some (.int v2), some (.int v3), some (.int v4), some (.int (v5 + r1)), some (.int v6), some (.int r1)]) (pc := 52) C dX0_lastOdds_52 (by decide) rfl ?_
          refine V_iinc (L' := [some (.ref 456), some (.ref v1), some (.int v2), some (.int v3), some (.int v4), some (.int (v5 + r1)), some (.int (v6 + (1 : Int32))), some (.int r1)]) (v := (v6 + (1 : Int32))) (pc := 54) C dX0_lastOdds_54 rfl (congrArg (v6 + ·) kc_i_1) (by decide) rfl ?_
          refine V_goto (tgt := 7) (pc := 57) C dX0_lastOdds_57 (by decide) ?_
          exact V_mask [true, true, true, true, true, true, true, false] (ih _ _ _ h hR)
set_option maxRecDepth 100000 in
theorem mX0_lastOdds (l : Launch) {S : zM} {a1 : Nat} {a2 : Int32} {a3 : Int32} {a4 : Int32} {r : Int32} (ha1 : zob cW 4 a1) (h : gX0_lastOdds S a1 a2 a3 a4 = some r) : zMet l cW zS0 yX0_lastOdds cX0_lastOdds 8 (some .int) 3 71 [.ref 456, .ref a1, .int a2, .int a3, .int a4] S (some (.int r)) S := by
  refine zmeth (by decide +kernel) (by rfl) (fun K hKl C hR => ?_)
  show V K 0 [some (.ref 456), some (.ref a1), some (.int a2), some (.int a3), some (.int a4), none, none, none] [] S
  unfold gX0_lastOdds at h
  refine V_iconst (pc := 0) C dX0_lastOdds_0 kc_i_0 ?_
  refine V_istore (L' := [some (.ref 456), some (.ref a1), some (.int a2), some (.int a3), some (.int a4), some (.int (0 : Int32)), none, none]) (pc := 1) C dX0_lastOdds_1 (by decide) rfl ?_
  refine V_bipush (pc := 3) C dX0_lastOdds_3 kc_b_m5 ?_
  refine V_istore (L' := [some (.ref 456), some (.ref a1), some (.int a2), some (.int a3), some (.int a4), some (.int (0 : Int32)), some (.int (-5 : Int32)), none]) (pc := 5) C dX0_lastOdds_5 (by decide) rfl ?_
  exact V_mask [true, true, true, true, true, true, true, false] (mX0_lastOdds_L7 C ha1 FU _ _ _ h hR)
set_option maxRecDepth 100000 in
theorem mX0_oddsOf_L26 {K : zK} (C : zC K cX0_oddsOf yX0_oddsOf.cls 8 4 98 cW) {S : zM} {v1 : Nat} {v2 : Int32} {v4 : Int32} {v5 : Int32} (hv1 : zob cW 4 v1) : ∀ (f : Nat) (v3 : Int32) (v6 : Int32) (o3 : Int32), gX0_oddsOf_L26 S v1 v2 v4 v5 f v3 v6 = some o3 → V K 89 [some (.ref 456), some (.ref v1), some (.int v2), some (.int o3), some (.int v4), none, none, none] [] S → V K 26 [some (.ref 456), some (.ref v1), some (.int v2), some (.int v3), some (.int v4), some (.int v5), some (.int v6), none] [] S := by
  intro f
  induction f with
  | zero => intro v3 v6 o3 h hx; cases h
  | succ n ih =>
    intro v3 v6 o3 h hx
    unfold gX0_oddsOf_L26 at h
    refine V_iload (pc := 26) C dX0_oddsOf_26 rfl ?_
    refine V_if_le (tgt := 89) (pc := 28) C dX0_oddsOf_28 (by decide) (fun hc => ?_) (fun hc => ?_)
    · have h := it_t hc h
      cases h
      exact V_mask [true, true, true, true, true, false, false, false] hx
    · have h := it_f hc h
      refine V_iload (pc := 31) C dX0_oddsOf_31 rfl ?_
      refine V_iconst (pc := 33) C dX0_oddsOf_33 kc_i_5 ?_
      refine V_icmp_gt (tgt := 89) (pc := 34) C dX0_oddsOf_34 (by decide) (fun hc => ?_) (fun hc => ?_)
      · have h := it_t hc h
        cases h
        exact V_mask [true, true, true, true, true, false, false, false] hx
      · have h := it_f hc h
        refine V_iload (pc := 37) C dX0_oddsOf_37 rfl ?_
        refine V_aload_n (pc := 39) C dX0_oddsOf_39 rfl rfl ?_
        refine V_aload_n (pc := 40) C dX0_oddsOf_40 rfl rfl ?_
        refine V_iconst (pc := 41) C dX0_oddsOf_41 kc_i_1 ?_
        refine V_iload (pc := 42) C dX0_oddsOf_42 rfl ?_
        obtain ⟨r2, er2, h⟩ := b1_some h
        refine V_callV (As := [.ref v1, .int (1 : Int32), .int v6]) (pc := 44) C (mX0_oftenAt _ hv1 er2) zm_X0_oftenAt zi_X0_oftenAt ml_RX0_102 z1_cW_0 rfl ⟨Nat.le_of_ble_eq_true rfl, Nat.le_of_ble_eq_true rfl⟩ rfl rfl (Nat.le_of_ble_eq_true rfl) dX0_oddsOf_44 ?_
        show V K 47 [some (.ref 456), some (.ref v1), some (.int v2), some (.int v3), some (.int v4), some (.int v5), some (.int v6), none] [.int r2, .int v5] S
        refine V_imul (pc := 47) C dX0_oddsOf_47 ?_
        refine V_istore (L' := [some (.ref 456), some (.ref v1), some (.int v2), some (.int v3), some (.int v4), some (.int v5), some (.int v6), some (.int (v5 * r2))]) (pc := 48) C dX0_oddsOf_48 (by decide) rfl ?_
        refine V_iload (pc := 50) C dX0_oddsOf_50 rfl ?_
        refine V_if_le (tgt := 83) (pc := 52) C dX0_oddsOf_52 (by decide) (fun hc => ?_) (fun hc => ?_)
        · have h := it_t hc h
          refine V_iinc (L' := [some (.ref 456), some (.ref v1), some (.int v2), some (.int v3), some (.int v4), some (.int v5), some (.int (v6 + (1 : Int32))), some (.int (v5 * r2))]) (v := (v6 + (1 : Int32))) (pc := 83) C dX0_oddsOf_83 rfl (congrArg (v6 + ·) kc_i_1) (by decide) rfl ?_
          refine V_goto (tgt := 26) (pc := 86) C dX0_oddsOf_86 (by decide) ?_
          exact V_mask [true, true, true, true, true, true, true, false] (ih _ _ _ h hx)
        · have h := it_f hc h
          refine V_iload_n (pc := 55) C dX0_oddsOf_55 rfl rfl ?_
          refine V_iload (pc := 56) C dX0_oddsOf_56 rfl ?_
          refine V_aload_n (pc := 58) C dX0_oddsOf_58 rfl rfl ?_
          refine V_aload_n (pc := 59) C dX0_oddsOf_59 rfl rfl ?_
          refine V_iload_n (pc := 60) C dX0_oddsOf_60 rfl rfl ?_
          refine V_aload_n (pc := 61) C dX0_oddsOf_61 rfl rfl ?_
          refine V_iconst (pc := 62) C dX0_oddsOf_62 kc_i_0 ?_
          obtain ⟨r3, er3, h⟩ := b1_some h
          refine V_callV (As := [.int (0 : Int32)]) (pc := 63) C (mX0_levelOf _ er3) zm_X0_levelOf zi_X0_levelOf ml_RX0_105 z1_cW_0 rfl ⟨Nat.le_of_ble_eq_true rfl, Nat.le_of_ble_eq_true rfl⟩ rfl rfl (Nat.le_of_ble_eq_true rfl) dX0_oddsOf_63 ?_
          show V K 66 [some (.ref 456), some (.ref v1), some (.int v2), some (.int v3), some (.int v4), some (.int v5), some (.int v6), some (.int (v5 * r2))] [.int r3, .int v2, .ref v1, .ref 456, .int (v5 * r2), .int v3] S
          refine V_iload (pc := 66) C dX0_oddsOf_66 rfl ?_
          refine V_iadd (pc := 68) C dX0_oddsOf_68 ?_
          refine V_aload_n (pc := 69) C dX0_oddsOf_69 rfl rfl ?_
          refine V_iconst (pc := 70) C dX0_oddsOf_70 kc_i_1 ?_
          obtain ⟨r4, er4, h⟩ := b1_some h
          refine V_callV (As := [.int (1 : Int32)]) (pc := 71) C (mX0_levelOf _ er4) zm_X0_levelOf zi_X0_levelOf ml_RX0_105 z1_cW_0 rfl ⟨Nat.le_of_ble_eq_true rfl, Nat.le_of_ble_eq_true rfl⟩ rfl rfl (Nat.le_of_ble_eq_true rfl) dX0_oddsOf_71 ?_
          show V K 74 [some (.ref 456), some (.ref v1), some (.int v2), some (.int v3), some (.int v4), some (.int v5), some (.int v6), some (.int (v5 * r2))] [.int r4, .int (r3 + v4), .int v2, .ref v1, .ref 456, .int (v5 * r2), .int v3] S
          refine V_iload (pc := 74) C dX0_oddsOf_74 rfl ?_
          refine V_iadd (pc := 76) C dX0_oddsOf_76 ?_
          obtain ⟨r5, er5, h⟩ := b1_some h
          refine V_callV (As := [.ref v1, .int v2, .int (r3 + v4), .int (r4 + v6)]) (pc := 77) C (mX0_lastOdds _ hv1 er5) zm_X0_lastOdds zi_X0_lastOdds ml_RX0_108 z1_cW_0 rfl ⟨Nat.le_of_ble_eq_true rfl, Nat.le_of_ble_eq_true rfl⟩ rfl rfl (Nat.le_of_ble_eq_true rfl) dX0_oddsOf_77 ?_
          show V K 80 [some (.ref 456), some (.ref v1), some (.int v2), some (.int v3), some (.int v4), some (.int v5), some (.int v6), some (.int (v5 * r2))] [.int r5, .int (v5 * r2), .int v3] S
          refine V_imul (pc := 80) C dX0_oddsOf_80 ?_
          refine V_iadd (pc := 81) C dX0_oddsOf_81 ?_
          refine V_istore_n (L' := [some (.ref 456), some (.ref v1), some (.int v2), some (.int (v3 + ((v5 * r2) * r5))), some (.int v4), some (.int v5), some (.int v6), some (.int (v5 * r2))]) (pc := 82) C dX0_oddsOf_82 rfl (by decide) rfl ?_
          refine V_iinc (L' := [some (.ref 456), some (.ref v1), some (.int v2), some (.int (v3 + ((v5 * r2) * r5))), some (.int v4), some (.int v5), some (.int (v6 + (1 : Int32))), some (.int (v5 * r2))]) (v := (v6 + (1 : Int32))) (pc := 83) C dX0_oddsOf_83 rfl (congrArg (v6 + ·) kc_i_1) (by decide) rfl ?_
          refine V_goto (tgt := 26) (pc := 86) C dX0_oddsOf_86 (by decide) ?_
          exact V_mask [true, true, true, true, true, true, true, false] (ih _ _ _ h hx)
set_option maxRecDepth 100000 in
theorem mX0_oddsOf_L6 {K : zK} (C : zC K cX0_oddsOf yX0_oddsOf.cls 8 4 98 cW) {S : zM} {v1 : Nat} {v2 : Int32} (hv1 : zob cW 4 v1) : ∀ (f : Nat) (v3 : Int32) (v4 : Int32) (r : Int32), gX0_oddsOf_L6 S v1 v2 f v3 v4 = some r → zR K cX0_oddsOf (some .int) S (some (.int r)) → V K 6 [some (.ref 456), some (.ref v1), some (.int v2), some (.int v3), some (.int v4), none, none, none] [] S := by
  intro f
  induction f with
  | zero => intro v3 v4 r h hR; cases h
  | succ n ih =>
    intro v3 v4 r h hR
    unfold gX0_oddsOf_L6 at h
    refine V_iload (pc := 6) C dX0_oddsOf_6 rfl ?_
    refine V_iconst (pc := 8) C dX0_oddsOf_8 kc_i_5 ?_
    refine V_icmp_gt (tgt := 95) (pc := 9) C dX0_oddsOf_9 (by decide) (fun hc => ?_) (fun hc => ?_)
    · have h := it_t hc h
      refine V_iload_n (pc := 95) C dX0_oddsOf_95 rfl rfl ?_
      cases h
      exact hR 96 _ ⟨_, rfl, rfl⟩ dX0_oddsOf_96
    · have h := it_f hc h
      refine V_aload_n (pc := 12) C dX0_oddsOf_12 rfl rfl ?_
      refine V_aload_n (pc := 13) C dX0_oddsOf_13 rfl rfl ?_
      refine V_iconst (pc := 14) C dX0_oddsOf_14 kc_i_0 ?_
      refine V_iload (pc := 15) C dX0_oddsOf_15 rfl ?_
      obtain ⟨r1, er1, h⟩ := b1_some h
      refine V_callV (As := [.ref v1, .int (0 : Int32), .int v4]) (pc := 17) C (mX0_oftenAt _ hv1 er1) zm_X0_oftenAt zi_X0_oftenAt ml_RX0_102 z1_cW_0 rfl ⟨Nat.le_of_ble_eq_true rfl, Nat.le_of_ble_eq_true rfl⟩ rfl rfl (Nat.le_of_ble_eq_true rfl) dX0_oddsOf_17 ?_
      show V K 20 [some (.ref 456), some (.ref v1), some (.int v2), some (.int v3), some (.int v4), none, none, none] [.int r1] S
      refine V_istore (L' := [some (.ref 456), some (.ref v1), some (.int v2), some (.int v3), some (.int v4), some (.int r1), none, none]) (pc := 20) C dX0_oddsOf_20 (by decide) rfl ?_
      refine V_bipush (pc := 22) C dX0_oddsOf_22 kc_b_m5 ?_
      refine V_istore (L' := [some (.ref 456), some (.ref v1), some (.int v2), some (.int v3), some (.int v4), some (.int r1), some (.int (-5 : Int32)), none]) (pc := 24) C dX0_oddsOf_24 (by decide) rfl ?_
      obtain ⟨w6, e26, h⟩ := b1_some h
      refine V_mask [true, true, true, true, true, true, true, false] (mX0_oddsOf_L26 C hv1 FU _ _ _ e26 ?_)
      refine V_iinc (L' := [some (.ref 456), some (.ref v1), some (.int v2), some (.int w6), some (.int (v4 + (1 : Int32))), none, none, none]) (v := (v4 + (1 : Int32))) (pc := 89) C dX0_oddsOf_89 rfl (congrArg (v4 + ·) kc_i_1) (by decide) rfl ?_
      refine V_goto (tgt := 6) (pc := 92) C dX0_oddsOf_92 (by decide) ?_
      exact V_mask [true, true, true, true, true, false, false, false] (ih _ _ _ h hR)
set_option maxRecDepth 100000 in
theorem mX0_oddsOf (l : Launch) {S : zM} {a1 : Nat} {a2 : Int32} {r : Int32} (ha1 : zob cW 4 a1) (h : gX0_oddsOf S a1 a2 = some r) : zMet l cW zS0 yX0_oddsOf cX0_oddsOf 8 (some .int) 4 98 [.ref 456, .ref a1, .int a2] S (some (.int r)) S := by
  refine zmeth (by decide +kernel) (by rfl) (fun K hKl C hR => ?_)
  show V K 0 [some (.ref 456), some (.ref a1), some (.int a2), none, none, none, none, none] [] S
  unfold gX0_oddsOf at h
  refine V_iconst (pc := 0) C dX0_oddsOf_0 kc_i_0 ?_
  refine V_istore_n (L' := [some (.ref 456), some (.ref a1), some (.int a2), some (.int (0 : Int32)), none, none, none, none]) (pc := 1) C dX0_oddsOf_1 rfl (by decide) rfl ?_
  refine V_bipush (pc := 2) C dX0_oddsOf_2 kc_b_m5 ?_
  refine V_istore (L' := [some (.ref 456), some (.ref a1), some (.int a2), some (.int (0 : Int32)), some (.int (-5 : Int32)), none, none, none]) (pc := 4) C dX0_oddsOf_4 (by decide) rfl ?_
  exact V_mask [true, true, true, true, true, false, false, false] (mX0_oddsOf_L6 C ha1 FU _ _ _ h hR)
set_option maxRecDepth 100000 in
theorem mX1_holds (l : Launch) {S : zM} {a1 : Int32} {r : Int32}  (h : gX1_holds S a1 = some r) : zMet l cW zS0 yX1_holds cX1_holds 2 (some .boolean) 0 0 [.ref 219, .int a1] S (some (.int r)) S := by
  refine zmeth (by decide +kernel) (by rfl) (fun K hKl C hR => ?_)
  show V K 0 [some (.ref 219), some (.int a1)] [] S
  unfold gX1_holds at h
  refine V_aload_n (pc := 0) C dX1_holds_0 rfl rfl ?_
  refine V_getI (pc := 1) C z1_cW_1 fl_RX1_22 (by decide) dX1_holds_1 ?_
  refine V_iload_n (pc := 4) C dX1_holds_4 rfl rfl ?_
  refine V_iadd (pc := 5) C dX1_holds_5 ?_
  refine V_sipush (pc := 6) C dX1_holds_6 kc_s_1000 ?_
  refine V_icmp_gt (tgt := 16) (pc := 9) C dX1_holds_9 (by decide) (fun hc => ?_) (fun hc => ?_)
  · have h := it_t hc h
    refine V_iconst (pc := 16) C dX1_holds_16 kc_i_0 ?_
    cases h
    exact hR 17 _ ⟨_, rfl, zB0⟩ dX1_holds_17
  · have h := it_f hc h
    refine V_iconst (pc := 12) C dX1_holds_12 kc_i_1 ?_
    refine V_goto (tgt := 17) (pc := 13) C dX1_holds_13 (by decide) ?_
    cases h
    exact hR 17 _ ⟨_, rfl, zB1⟩ dX1_holds_17
set_option maxRecDepth 100000 in
theorem mJ7_fill_53178_L5 {K : zK} (C : zC K cJ7_fill_53178 yJ7_fill_53178.cls 4 0 0 cW) {v0 : Nat} {nv0 : Nat} {v1 : Int32} {v3 : Int32} (hv0 : zar cW 1 0 nv0 v0) : ∀ (f : Nat) (S : zM) (v2 : Int32) (S' : zM), gJ7_fill_53178_L5 v0 nv0 v1 v3 f S v2 = some S' → zR K cJ7_fill_53178 (none) S' none → V K 5 [some (.ref v0), some (.int v1), some (.int v2), some (.int v3)] [] S := by
  intro f
  induction f with
  | zero => intro S v2 S' h hR; cases h
  | succ n ih =>
    intro S v2 S' h hR
    unfold gJ7_fill_53178_L5 at h
    refine V_iload_n (pc := 5) C dJ7_fill_53178_5 rfl rfl ?_
    refine V_iload_n (pc := 6) C dJ7_fill_53178_6 rfl rfl ?_
    refine V_icmp_ge (tgt := 20) (pc := 7) C dJ7_fill_53178_7 (by decide) (fun hc => ?_) (fun hc => ?_)
    · have h := it_t hc h
      cases h
      exact hR 20 _ rfl dJ7_fill_53178_20
    · have h := it_f hc h
      refine V_aload_n (pc := 10) C dJ7_fill_53178_10 rfl rfl ?_
      refine V_iload_n (pc := 11) C dJ7_fill_53178_11 rfl rfl ?_
      refine V_iload_n (pc := 12) C dJ7_fill_53178_12 rfl rfl ?_
      obtain ⟨k1, h⟩ := ck_some h
      refine V_iast (pc := 13) C hv0 k1 dJ7_fill_53178_13 ?_
      refine V_iinc (L' := [some (.ref v0), some (.int v1), some (.int (v2 + (1 : Int32))), some (.int v3)]) (v := (v2 + (1 : Int32))) (pc := 14) C dJ7_fill_53178_14 rfl (congrArg (v2 + ·) kc_i_1) (by decide) rfl ?_
      refine V_goto (tgt := 5) (pc := 17) C dJ7_fill_53178_17 (by decide) ?_
      exact V_mask [true, true, true, true] (ih _ _ _ h hR)
set_option maxRecDepth 100000 in
theorem mJ7_fill_53178 (l : Launch) {S : zM} {a0 : Nat} {na0 : Nat} {a1 : Int32} {S' : zM} (ha0 : zar cW 1 0 na0 a0) (h : gJ7_fill_53178 S a0 na0 a1 = some S') : zMet l cW zS0 yJ7_fill_53178 cJ7_fill_53178 4 (none) 0 0 [.ref a0, .int a1] S none S' := by
  refine zmeth (by decide +kernel) (by rfl) (fun K hKl C hR => ?_)
  show V K 0 [some (.ref a0), some (.int a1), none, none] [] S
  unfold gJ7_fill_53178 at h
  refine V_iconst (pc := 0) C dJ7_fill_53178_0 kc_i_0 ?_
  refine V_istore_n (L' := [some (.ref a0), some (.int a1), some (.int (0 : Int32)), none]) (pc := 1) C dJ7_fill_53178_1 rfl (by decide) rfl ?_
  refine V_aload_n (pc := 2) C dJ7_fill_53178_2 rfl rfl ?_
  refine V_alen (v := (Int32.ofNat na0)) (pc := 3) C ha0 (by decide) (fun _ => rfl) rfl dJ7_fill_53178_3 ?_
  refine V_istore_n (L' := [some (.ref a0), some (.int a1), some (.int (0 : Int32)), some (.int (Int32.ofNat na0))]) (pc := 4) C dJ7_fill_53178_4 rfl (by decide) rfl ?_
  exact V_mask [true, true, true, true] (mJ7_fill_53178_L5 C ha0 FU _ _ _ h hR)
set_option maxRecDepth 100000 in
theorem mX2_empty (l : Launch) {S : zM}  {S' : zM}  (h : gX2_empty S = some S') : zMet l cW zS0 yX2_empty cX2_empty 1 (none) 1 23 [.ref 221] S none S' := by
  refine zmeth (by decide +kernel) (by rfl) (fun K hKl C hR => ?_)
  show V K 0 [some (.ref 221)] [] S
  unfold gX2_empty at h
  refine V_aload_n (pc := 0) C dX2_empty_0 rfl rfl ?_
  refine V_iconst (pc := 1) C dX2_empty_1 kc_i_0 ?_
  refine V_putI (pc := 2) C z1_cW_2 fp_RX2_45 rfl rfl dX2_empty_2 ?_
  refine V_aload_n (pc := 5) C dX2_empty_5 rfl rfl ?_
  refine V_getF (p1 := 222) (pc := 6) C z1_cW_2 fl_RX2_11 rfl (zf_cW_2_0 z1_cW_2) dX2_empty_6 ?_
  refine V_iconst (pc := 9) C dX2_empty_9 kc_i_0 ?_
  obtain ⟨S2, euS2, h⟩ := b1_some h
  refine V_callS (As := [.ref 222, .int (0 : Int32)]) (pc := 10) C (mJ7_fill_53178 _ (za_cW_2_0 z1_cW_2) euS2) zm_J7_fill_53178 zs_J7_fill_53178 ml_RX2_49 ⟨Nat.le_of_ble_eq_true rfl, Nat.le_of_ble_eq_true rfl⟩ rfl rfl (Nat.le_of_ble_eq_true rfl) dX2_empty_10 ?_
  show V K 13 [some (.ref 221)] [] S2
  cases h
  exact hR 13 _ rfl dX2_empty_13
set_option maxRecDepth 100000 in
theorem mX1_empty (l : Launch) {S : zM}  {S' : zM}  (h : gX1_empty S = some S') : zMet l cW zS0 yX1_empty cX1_empty 1 (none) 2 43 [.ref 219] S none S' := by
  refine zmeth (by decide +kernel) (by rfl) (fun K hKl C hR => ?_)
  show V K 0 [some (.ref 219)] [] S
  unfold gX1_empty at h
  refine V_aload_n (pc := 0) C dX1_empty_0 rfl rfl ?_
  refine V_iconst (pc := 1) C dX1_empty_1 kc_i_0 ?_
  refine V_putI (pc := 2) C z1_cW_1 fp_RX1_22 rfl rfl dX1_empty_2 ?_
  refine V_aload_n (pc := 5) C dX1_empty_5 rfl rfl ?_
  refine V_getF (p1 := 221) (pc := 6) C z1_cW_1 fl_RX1_18 rfl (zf_cW_1_1 z1_cW_1) dX1_empty_6 ?_
  obtain ⟨S2, euS2, h⟩ := b1_some h
  refine V_callV (As := []) (pc := 9) C (mX2_empty _ euS2) zm_X2_empty zi_X2_empty ml_RX1_26 z1_cW_2 rfl ⟨Nat.le_of_ble_eq_true rfl, Nat.le_of_ble_eq_true rfl⟩ rfl rfl (Nat.le_of_ble_eq_true rfl) dX1_empty_9 ?_
  show V K 12 [some (.ref 219)] [] S2
  cases h
  exact hR 12 _ rfl dX1_empty_12
set_option maxRecDepth 100000 in
theorem mJ9_floorMod_7cf53 (l : Launch) {w : zWd} {S : zM} {a0 : Int32} {a1 : Int32} {r : Int32}  (h : gJ9_floorMod_7cf53 a0 a1 = some r) : zMet l w zS0 yJ9_floorMod_7cf53 cJ9_floorMod_7cf53 3 (some .int) 0 0 [.int a0, .int a1] S (some (.int r)) S := by
  refine zmeth (by decide +kernel) (by rfl) (fun K hKl C hR => ?_)
  show V K 0 [some (.int a0), some (.int a1), none] [] S
  unfold gJ9_floorMod_7cf53 at h
  refine V_iload_n (pc := 0) C dJ9_floorMod_7cf53_0 rfl rfl ?_
  refine V_iload_n (pc := 1) C dJ9_floorMod_7cf53_1 rfl rfl ?_
  obtain ⟨k1, h⟩ := ck_some h
  refine V_irem (pc := 2) C dJ9_floorMod_7cf53_2 (of_decide_eq_true k1) ?_
  refine V_istore_n (L' := [some (.int a0), some (.int a1), some (.int (a0 - a0 / a1 * a1))]) (pc := 3) C dJ9_floorMod_7cf53_3 rfl (by decide) rfl ?_
  refine V_iload_n (pc := 4) C dJ9_floorMod_7cf53_4 rfl rfl ?_
  refine V_iload_n (pc := 5) C dJ9_floorMod_7cf53_5 rfl rfl ?_
  refine V_ixor (pc := 6) C dJ9_floorMod_7cf53_6 ?_
  refine V_if_ge (tgt := 18) (pc := 7) C dJ9_floorMod_7cf53_7 (by decide) (fun hc => ?_) (fun hc => ?_)
  · have h := it_t hc h
    refine V_iload_n (pc := 18) C dJ9_floorMod_7cf53_18 rfl rfl ?_
    cases h
    exact hR 19 _ ⟨_, rfl, rfl⟩ dJ9_floorMod_7cf53_19
  · have h := it_f hc h
    refine V_iload_n (pc := 10) C dJ9_floorMod_7cf53_10 rfl rfl ?_
    refine V_if_eq (tgt := 18) (pc := 11) C dJ9_floorMod_7cf53_11 (by decide) (fun hc => ?_) (fun hc => ?_)
    · have h := it_t hc h
      refine V_iload_n (pc := 18) C dJ9_floorMod_7cf53_18 rfl rfl ?_
      cases h
      exact hR 19 _ ⟨_, rfl, rfl⟩ dJ9_floorMod_7cf53_19
    · have h := it_f hc h
      refine V_iload_n (pc := 14) C dJ9_floorMod_7cf53_14 rfl rfl ?_
      refine V_iload_n (pc := 15) C dJ9_floorMod_7cf53_15 rfl rfl ?_
      refine V_iadd (pc := 16) C dJ9_floorMod_7cf53_16 ?_
      cases h
      exact hR 17 _ ⟨_, rfl, rfl⟩ dJ9_floorMod_7cf53_17
set_option maxRecDepth 100000 in
theorem mX2_isOf (l : Launch) {S : zM} {a2 : Int32} {r : Int32}  (h : gX2_isOf S a2 = some r) : zMet l cW zS0 yX2_isOf cX2_isOf 3 (some .boolean) 0 0 [.ref 221, .ref 456, .int a2] S (some (.int r)) S := by
  refine zmeth (by decide +kernel) (by rfl) (fun K hKl C hR => ?_)
  show V K 0 [some (.ref 221), some (.ref 456), some (.int a2)] [] S
  unfold gX2_isOf at h
  refine V_iload_n (pc := 0) C dX2_isOf_0 rfl rfl ?_
  refine V_if_lt (tgt := 67) (pc := 1) C dX2_isOf_1 (by decide) (fun hc => ?_) (fun hc => ?_)
  · have h := it_t hc h
    refine V_iconst (pc := 67) C dX2_isOf_67 kc_i_0 ?_
    cases h
    exact hR 68 _ ⟨_, rfl, zB0⟩ dX2_isOf_68
  · have h := it_f hc h
    refine V_iload_n (pc := 4) C dX2_isOf_4 rfl rfl ?_
    refine V_sipush (pc := 5) C dX2_isOf_5 kc_s_1000 ?_
    refine V_icmp_ge (tgt := 67) (pc := 8) C dX2_isOf_8 (by decide) (fun hc => ?_) (fun hc => ?_)
    · have h := it_t hc h
      refine V_iconst (pc := 67) C dX2_isOf_67 kc_i_0 ?_
      cases h
      exact hR 68 _ ⟨_, rfl, zB0⟩ dX2_isOf_68
    · have h := it_f hc h
      refine V_aload_n (pc := 11) C dX2_isOf_11 rfl rfl ?_
      refine V_getF (p1 := 223) (pc := 12) C z1_cW_2 fl_RX2_15 rfl (zf_cW_2_1 z1_cW_2) dX2_isOf_12 ?_
      refine V_iload_n (pc := 15) C dX2_isOf_15 rfl rfl ?_
      obtain ⟨k1, h⟩ := ck_some h
      refine V_iald (pc := 16) C (za_cW_2_1 z1_cW_2) k1 dX2_isOf_16 ?_
      refine V_aload_n (pc := 17) C dX2_isOf_17 rfl rfl ?_
      refine V_getI (pc := 18) C z1_cW_0 fl_RX2_63 (by decide) dX2_isOf_18 ?_
      refine V_icmp_ne (tgt := 67) (pc := 21) C dX2_isOf_21 (by decide) (fun hc => ?_) (fun hc => ?_)
      · have h := it_f hc h
        refine V_iconst (pc := 67) C dX2_isOf_67 kc_i_0 ?_
        cases h
        exact hR 68 _ ⟨_, rfl, zB0⟩ dX2_isOf_68
      · have h := it_t hc h
        refine V_aload_n (pc := 24) C dX2_isOf_24 rfl rfl ?_
        refine V_getF (p1 := 224) (pc := 25) C z1_cW_2 fl_RX2_18 rfl (zf_cW_2_2 z1_cW_2) dX2_isOf_25 ?_
        refine V_iload_n (pc := 28) C dX2_isOf_28 rfl rfl ?_
        obtain ⟨k2, h⟩ := ck_some h
        refine V_iald (pc := 29) C (za_cW_2_2 z1_cW_2) k2 dX2_isOf_29 ?_
        refine V_aload_n (pc := 30) C dX2_isOf_30 rfl rfl ?_
        refine V_getI (pc := 31) C z1_cW_0 fl_RX2_68 (by decide) dX2_isOf_31 ?_
        refine V_icmp_ne (tgt := 67) (pc := 34) C dX2_isOf_34 (by decide) (fun hc => ?_) (fun hc => ?_)
        · have h := it_f hc h
          refine V_iconst (pc := 67) C dX2_isOf_67 kc_i_0 ?_
          cases h
          exact hR 68 _ ⟨_, rfl, zB0⟩ dX2_isOf_68
        · have h := it_t hc h
          refine V_aload_n (pc := 37) C dX2_isOf_37 rfl rfl ?_
          refine V_getF (p1 := 225) (pc := 38) C z1_cW_2 fl_RX2_21 rfl (zf_cW_2_3 z1_cW_2) dX2_isOf_38 ?_
          refine V_iload_n (pc := 41) C dX2_isOf_41 rfl rfl ?_
          obtain ⟨k3, h⟩ := ck_some h
          refine V_iald (pc := 42) C (za_cW_2_3 z1_cW_2) k3 dX2_isOf_42 ?_
          refine V_aload_n (pc := 43) C dX2_isOf_43 rfl rfl ?_
          refine V_getI (pc := 44) C z1_cW_0 fl_RX2_71 (by decide) dX2_isOf_44 ?_
          refine V_icmp_ne (tgt := 67) (pc := 47) C dX2_isOf_47 (by decide) (fun hc => ?_) (fun hc => ?_)
          · have h := it_f hc h
            refine V_iconst (pc := 67) C dX2_isOf_67 kc_i_0 ?_
            cases h
            exact hR 68 _ ⟨_, rfl, zB0⟩ dX2_isOf_68
          · have h := it_t hc h
            refine V_aload_n (pc := 50) C dX2_isOf_50 rfl rfl ?_
            refine V_getF (p1 := 226) (pc := 51) C z1_cW_2 fl_RX2_24 rfl (zf_cW_2_4 z1_cW_2) dX2_isOf_51 ?_
            refine V_iload_n (pc := 54) C dX2_isOf_54 rfl rfl ?_
            obtain ⟨k4, h⟩ := ck_some h
            refine V_iald (pc := 55) C (za_cW_2_4 z1_cW_2) k4 dX2_isOf_55 ?_
            refine V_aload_n (pc := 56) C dX2_isOf_56 rfl rfl ?_
            refine V_getI (pc := 57) C z1_cW_0 fl_RX2_74 (by decide) dX2_isOf_57 ?_
            refine V_icmp_ne (tgt := 67) (pc := 60) C dX2_isOf_60 (by decide) (fun hc => ?_) (fun hc => ?_)
            · have h := it_f hc h
              refine V_iconst (pc := 67) C dX2_isOf_67 kc_i_0 ?_
              cases h
              exact hR 68 _ ⟨_, rfl, zB0⟩ dX2_isOf_68
            · have h := it_t hc h
              refine V_iconst (pc := 63) C dX2_isOf_63 kc_i_1 ?_
              refine V_goto (tgt := 68) (pc := 64) C dX2_isOf_64 (by decide) ?_
              cases h
              exact hR 68 _ ⟨_, rfl, zB1⟩ dX2_isOf_68
set_option maxRecDepth 100000 in
theorem mX2_slotOf_L44 {K : zK} (C : zC K cX2_slotOf yX2_slotOf.cls 5 1 22 cW) {S : zM}   : ∀ (f : Nat) (v3 : Int32) (v4 : Int32) (r : Int32), gX2_slotOf_L44 S f v3 v4 = some r → zR K cX2_slotOf (some .int) S (some (.int r)) → V K 44 [some (.ref 221), some (.ref 456), none, some (.int v3), some (.int v4)] [] S := by
  intro f
  induction f with
  | zero => intro v3 v4 r h hR; cases h
  | succ n ih =>
    intro v3 v4 r h hR
    unfold gX2_slotOf_L44 at h
    refine V_iload (pc := 44) C dX2_slotOf_44 rfl ?_
    refine V_sipush (pc := 46) C dX2_slotOf_46 kc_s_2048 ?_
    refine V_icmp_ge (tgt := 93) (pc := 49) C dX2_slotOf_49 (by decide) (fun hc => ?_) (fun hc => ?_)
    · have h := it_t hc h
      refine V_iconst (pc := 93) C dX2_slotOf_93 kc_i_m1 ?_
      cases h
      exact hR 94 _ ⟨_, rfl, rfl⟩ dX2_slotOf_94
    · have h := it_f hc h
      refine V_aload_n (pc := 52) C dX2_slotOf_52 rfl rfl ?_
      refine V_getF (p1 := 222) (pc := 53) C z1_cW_2 fl_RX2_11 rfl (zf_cW_2_0 z1_cW_2) dX2_slotOf_53 ?_
      refine V_iload_n (pc := 56) C dX2_slotOf_56 rfl rfl ?_
      obtain ⟨k3, h⟩ := ck_some h
      refine V_iald (pc := 57) C (za_cW_2_0 z1_cW_2) k3 dX2_slotOf_57 ?_
      refine V_if_eq (tgt := 77) (pc := 58) C dX2_slotOf_58 (by decide) (fun hc => ?_) (fun hc => ?_)
      · have h := it_t hc h
        refine V_iload_n (pc := 77) C dX2_slotOf_77 rfl rfl ?_
        cases h
        exact hR 78 _ ⟨_, rfl, rfl⟩ dX2_slotOf_78
      · have h := it_f hc h
        refine V_aload_n (pc := 61) C dX2_slotOf_61 rfl rfl ?_
        refine V_aload_n (pc := 62) C dX2_slotOf_62 rfl rfl ?_
        refine V_aload_n (pc := 63) C dX2_slotOf_63 rfl rfl ?_
        refine V_getF (p1 := 222) (pc := 64) C z1_cW_2 fl_RX2_11 rfl (zf_cW_2_0 z1_cW_2) dX2_slotOf_64 ?_
        refine V_iload_n (pc := 67) C dX2_slotOf_67 rfl rfl ?_
        obtain ⟨k4, h⟩ := ck_some h
        refine V_iald (pc := 68) C (za_cW_2_0 z1_cW_2) k4 dX2_slotOf_68 ?_
        refine V_iconst (pc := 69) C dX2_slotOf_69 kc_i_1 ?_
        refine V_isub (pc := 70) C dX2_slotOf_70 ?_
        obtain ⟨r5, er5, h⟩ := b1_some h
        refine V_callV (As := [.ref 456, .int ((gI S 222 (ix v3)) - (1 : Int32))]) (pc := 71) C (mX2_isOf _ er5) zm_X2_isOf zi_X2_isOf ml_RX2_83 z1_cW_2 rfl ⟨Nat.le_of_ble_eq_true rfl, Nat.le_of_ble_eq_true rfl⟩ rfl rfl (Nat.le_of_ble_eq_true rfl) dX2_slotOf_71 ?_
        show V K 74 [some (.ref 221), some (.ref 456), none, some (.int v3), some (.int v4)] [.int r5] S
        refine V_if_eq (tgt := 79) (pc := 74) C dX2_slotOf_74 (by decide) (fun hc => ?_) (fun hc => ?_)
        · have h := it_t hc h
          refine V_iload_n (pc := 79) C dX2_slotOf_79 rfl rfl ?_
          refine V_iconst (pc := 80) C dX2_slotOf_80 kc_i_1 ?_
          refine V_iadd (pc := 81) C dX2_slotOf_81 ?_
          refine V_sipush (pc := 82) C dX2_slotOf_82 kc_s_2048 ?_
          refine V_irem (pc := 85) C dX2_slotOf_85 (by decide) ?_
          obtain ⟨x6, ex6, h⟩ := lt_some h
          refine V_nmI ex6 ?_
          refine V_istore_n (L' := [some (.ref 221), some (.ref 456), none, some (.int x6), some (.int v4)]) (pc := 86) C dX2_slotOf_86 rfl (by decide) rfl ?_
          refine V_iinc (L' := [some (.ref 221), some (.ref 456), none, some (.int x6), some (.int (v4 + (1 : Int32)))]) (v := (v4 + (1 : Int32))) (pc := 87) C dX2_slotOf_87 rfl (congrArg (v4 + ·) kc_i_1) (by decide) rfl ?_
          refine V_goto (tgt := 44) (pc := 90) C dX2_slotOf_90 (by decide) ?_
          exact V_mask [true, true, false, true, true] (ih _ _ _ h hR)
        · have h := it_f hc h
          refine V_iload_n (pc := 77) C dX2_slotOf_77 rfl rfl ?_
          cases h
          exact hR 78 _ ⟨_, rfl, rfl⟩ dX2_slotOf_78
set_option maxRecDepth 100000 in
theorem mX2_slotOf (l : Launch) {S : zM}  {r : Int32}  (h : gX2_slotOf S = some r) : zMet l cW zS0 yX2_slotOf cX2_slotOf 5 (some .int) 1 22 [.ref 221, .ref 456] S (some (.int r)) S := by
  refine zmeth (by decide +kernel) (by rfl) (fun K hKl C hR => ?_)
  show V K 0 [some (.ref 221), some (.ref 456), none, none, none] [] S
  unfold gX2_slotOf at h
  refine V_aload_n (pc := 0) C dX2_slotOf_0 rfl rfl ?_
  refine V_getI (pc := 1) C z1_cW_0 fl_RX2_63 (by decide) dX2_slotOf_1 ?_
  refine V_iconst (pc := 4) C dX2_slotOf_4 kc_i_2 ?_
  refine V_imul (pc := 5) C dX2_slotOf_5 ?_
  refine V_aload_n (pc := 6) C dX2_slotOf_6 rfl rfl ?_
  refine V_getI (pc := 7) C z1_cW_0 fl_RX2_68 (by decide) dX2_slotOf_7 ?_
  refine V_iadd (pc := 10) C dX2_slotOf_10 ?_
  refine V_sipush (pc := 11) C dX2_slotOf_11 kc_s_401 ?_
  refine V_imul (pc := 14) C dX2_slotOf_14 ?_
  refine V_aload_n (pc := 15) C dX2_slotOf_15 rfl rfl ?_
  refine V_getI (pc := 16) C z1_cW_0 fl_RX2_71 (by decide) dX2_slotOf_16 ?_
  refine V_iadd (pc := 19) C dX2_slotOf_19 ?_
  refine V_sipush (pc := 20) C dX2_slotOf_20 kc_s_401 ?_
  refine V_imul (pc := 23) C dX2_slotOf_23 ?_
  refine V_aload_n (pc := 24) C dX2_slotOf_24 rfl rfl ?_
  refine V_getI (pc := 25) C z1_cW_0 fl_RX2_74 (by decide) dX2_slotOf_25 ?_
  refine V_iadd (pc := 28) C dX2_slotOf_28 ?_
  obtain ⟨x1, ex1, h⟩ := lt_some h
  refine V_nmI ex1 ?_
  refine V_istore_n (L' := [some (.ref 221), some (.ref 456), some (.int x1), none, none]) (pc := 29) C dX2_slotOf_29 rfl (by decide) rfl ?_
  refine V_iload_n (pc := 30) C dX2_slotOf_30 rfl rfl ?_
  refine V_bipush (pc := 31) C dX2_slotOf_31 kc_b_31 ?_
  refine V_imul (pc := 33) C dX2_slotOf_33 ?_
  refine V_sipush (pc := 34) C dX2_slotOf_34 kc_s_2048 ?_
  obtain ⟨r2, er2, h⟩ := b1_some h
  refine V_callS (As := [.int (x1 * (31 : Int32)), .int (2048 : Int32)]) (pc := 37) C (mJ9_floorMod_7cf53 _ er2) zm_J9_floorMod_7cf53 zs_J9_floorMod_7cf53 ml_RX2_77 ⟨Nat.le_of_ble_eq_true rfl, Nat.le_of_ble_eq_true rfl⟩ rfl rfl (Nat.le_of_ble_eq_true rfl) dX2_slotOf_37 ?_
  show V K 40 [some (.ref 221), some (.ref 456), some (.int x1), none, none] [.int r2] S
  refine V_istore_n (L' := [some (.ref 221), some (.ref 456), some (.int x1), some (.int r2), none]) (pc := 40) C dX2_slotOf_40 rfl (by decide) rfl ?_
  refine V_iconst (pc := 41) C dX2_slotOf_41 kc_i_0 ?_
  refine V_istore (L' := [some (.ref 221), some (.ref 456), some (.int x1), some (.int r2), some (.int (0 : Int32))]) (pc := 42) C dX2_slotOf_42 (by decide) rfl ?_
  exact V_mask [true, true, false, true, true] (mX2_slotOf_L44 C  FU _ _ _ h hR)
set_option maxRecDepth 100000 in
theorem mX2_open_L86 {K : zK} (C : zC K cX2_open yX2_open.cls 5 0 0 cW) {v3 : Int32}  : ∀ (f : Nat) (S : zM) (v4 : Int32) (S' : zM), gX2_open_L86 v3 f S v4 = some S' → zR K cX2_open (none) S' none → V K 86 [some (.ref 221), none, none, some (.int v3), some (.int v4)] [] S := by
  intro f
  induction f with
  | zero => intro S v4 S' h hR; cases h
  | succ n ih =>
    intro S v4 S' h hR
    unfold gX2_open_L86 at h
    refine V_iload (pc := 86) C dX2_open_86 rfl ?_
    refine V_iconst (pc := 88) C dX2_open_88 kc_i_3 ?_
    refine V_icmp_ge (tgt := 110) (pc := 89) C dX2_open_89 (by decide) (fun hc => ?_) (fun hc => ?_)
    · have h := it_t hc h
      cases h
      exact hR 110 _ rfl dX2_open_110
    · have h := it_f hc h
      refine V_aload_n (pc := 92) C dX2_open_92 rfl rfl ?_
      refine V_getF (p1 := 228) (pc := 93) C z1_cW_2 fl_RX2_30 rfl (zf_cW_2_6 z1_cW_2) dX2_open_93 ?_
      refine V_iload_n (pc := 96) C dX2_open_96 rfl rfl ?_
      refine V_iconst (pc := 97) C dX2_open_97 kc_i_3 ?_
      refine V_imul (pc := 98) C dX2_open_98 ?_
      refine V_iload (pc := 99) C dX2_open_99 rfl ?_
      refine V_iadd (pc := 101) C dX2_open_101 ?_
      refine V_iconst (pc := 102) C dX2_open_102 kc_i_0 ?_
      obtain ⟨k10, h⟩ := ck_some h
      refine V_iast (pc := 103) C (za_cW_2_6 z1_cW_2) k10 dX2_open_103 ?_
      refine V_iinc (L' := [some (.ref 221), none, none, some (.int v3), some (.int (v4 + (1 : Int32)))]) (v := (v4 + (1 : Int32))) (pc := 104) C dX2_open_104 rfl (congrArg (v4 + ·) kc_i_1) (by decide) rfl ?_
      refine V_goto (tgt := 86) (pc := 107) C dX2_open_107 (by decide) ?_
      exact V_mask [true, false, false, true, true] (ih _ _ _ h hR)
set_option maxRecDepth 100000 in
theorem mX2_open (l : Launch) {S : zM} {a2 : Int32} {S' : zM}  (h : gX2_open S a2 = some S') : zMet l cW zS0 yX2_open cX2_open 5 (none) 0 0 [.ref 221, .ref 456, .int a2] S none S' := by
  refine zmeth (by decide +kernel) (by rfl) (fun K hKl C hR => ?_)
  show V K 0 [some (.ref 221), some (.ref 456), some (.int a2), none, none] [] S
  unfold gX2_open at h
  refine V_aload_n (pc := 0) C dX2_open_0 rfl rfl ?_
  refine V_getI (pc := 1) C z1_cW_2 fl_RX2_45 (by decide) dX2_open_1 ?_
  refine V_sipush (pc := 4) C dX2_open_4 kc_s_1000 ?_
  refine V_icmp_lt (tgt := 11) (pc := 7) C dX2_open_7 (by decide) (fun hc => ?_) (fun hc => ?_)
  · have h := it_t hc h
    refine V_aload_n (pc := 11) C dX2_open_11 rfl rfl ?_
    refine V_getI (pc := 12) C z1_cW_2 fl_RX2_45 (by decide) dX2_open_12 ?_
    refine V_istore_n (L' := [some (.ref 221), some (.ref 456), some (.int a2), some (.int (gI S 221 7)), none]) (pc := 15) C dX2_open_15 rfl (by decide) rfl ?_
    refine V_aload_n (pc := 16) C dX2_open_16 rfl rfl ?_
    refine V_dup (pc := 17) C dX2_open_17 rfl ?_
    refine V_getI (pc := 18) C z1_cW_2 fl_RX2_45 (by decide) dX2_open_18 ?_
    refine V_iconst (pc := 21) C dX2_open_21 kc_i_1 ?_
    refine V_iadd (pc := 22) C dX2_open_22 ?_
    refine V_putI (pc := 23) C z1_cW_2 fp_RX2_45 rfl rfl dX2_open_23 ?_
    refine V_aload_n (pc := 26) C dX2_open_26 rfl rfl ?_
    refine V_getF (p1 := 222) (pc := 27) C z1_cW_2 fl_RX2_11 rfl (zf_cW_2_0 z1_cW_2) dX2_open_27 ?_
    refine V_iload_n (pc := 30) C dX2_open_30 rfl rfl ?_
    refine V_aload_n (pc := 31) C dX2_open_31 rfl rfl ?_
    refine V_getI (pc := 32) C z1_cW_2 fl_RX2_45 (by decide) dX2_open_32 ?_
    obtain ⟨k1, h⟩ := ck_some h
    refine V_iast (pc := 35) C (za_cW_2_0 z1_cW_2) k1 dX2_open_35 ?_
    obtain ⟨S2, eS2, h⟩ := lt_some h
    refine V_nmS eS2 ?_
    refine V_aload_n (pc := 36) C dX2_open_36 rfl rfl ?_
    refine V_getF (p1 := 223) (pc := 37) C z1_cW_2 fl_RX2_15 rfl (zf_cW_2_1 z1_cW_2) dX2_open_37 ?_
    refine V_iload_n (pc := 40) C dX2_open_40 rfl rfl ?_
    refine V_aload_n (pc := 41) C dX2_open_41 rfl rfl ?_
    refine V_getI (pc := 42) C z1_cW_0 fl_RX2_63 (by decide) dX2_open_42 ?_
    obtain ⟨k3, h⟩ := ck_some h
    refine V_iast (pc := 45) C (za_cW_2_1 z1_cW_2) k3 dX2_open_45 ?_
    refine V_aload_n (pc := 46) C dX2_open_46 rfl rfl ?_
    refine V_getF (p1 := 224) (pc := 47) C z1_cW_2 fl_RX2_18 rfl (zf_cW_2_2 z1_cW_2) dX2_open_47 ?_
    refine V_iload_n (pc := 50) C dX2_open_50 rfl rfl ?_
    refine V_aload_n (pc := 51) C dX2_open_51 rfl rfl ?_
    refine V_getI (pc := 52) C z1_cW_0 fl_RX2_68 (by decide) dX2_open_52 ?_
    obtain ⟨k4, h⟩ := ck_some h
    refine V_iast (pc := 55) C (za_cW_2_2 z1_cW_2) k4 dX2_open_55 ?_
    obtain ⟨S5, eS5, h⟩ := lt_some h
    refine V_nmS eS5 ?_
    refine V_aload_n (pc := 56) C dX2_open_56 rfl rfl ?_
    refine V_getF (p1 := 225) (pc := 57) C z1_cW_2 fl_RX2_21 rfl (zf_cW_2_3 z1_cW_2) dX2_open_57 ?_
    refine V_iload_n (pc := 60) C dX2_open_60 rfl rfl ?_
    refine V_aload_n (pc := 61) C dX2_open_61 rfl rfl ?_
    refine V_getI (pc := 62) C z1_cW_0 fl_RX2_71 (by decide) dX2_open_62 ?_
    obtain ⟨k6, h⟩ := ck_some h
    refine V_iast (pc := 65) C (za_cW_2_3 z1_cW_2) k6 dX2_open_65 ?_
    refine V_aload_n (pc := 66) C dX2_open_66 rfl rfl ?_
    refine V_getF (p1 := 226) (pc := 67) C z1_cW_2 fl_RX2_24 rfl (zf_cW_2_4 z1_cW_2) dX2_open_67 ?_
    refine V_iload_n (pc := 70) C dX2_open_70 rfl rfl ?_
    refine V_aload_n (pc := 71) C dX2_open_71 rfl rfl ?_
    refine V_getI (pc := 72) C z1_cW_0 fl_RX2_74 (by decide) dX2_open_72 ?_
    obtain ⟨k7, h⟩ := ck_some h
    refine V_iast (pc := 75) C (za_cW_2_4 z1_cW_2) k7 dX2_open_75 ?_
    obtain ⟨S8, eS8, h⟩ := lt_some h
    refine V_nmS eS8 ?_
    refine V_aload_n (pc := 76) C dX2_open_76 rfl rfl ?_
    refine V_getF (p1 := 227) (pc := 77) C z1_cW_2 fl_RX2_27 rfl (zf_cW_2_5 z1_cW_2) dX2_open_77 ?_
    refine V_iload_n (pc := 80) C dX2_open_80 rfl rfl ?_
    refine V_iconst (pc := 81) C dX2_open_81 kc_i_0 ?_
    obtain ⟨k9, h⟩ := ck_some h
    refine V_iast (pc := 82) C (za_cW_2_5 z1_cW_2) k9 dX2_open_82 ?_
    refine V_iconst (pc := 83) C dX2_open_83 kc_i_0 ?_
    refine V_istore (L' := [some (.ref 221), some (.ref 456), some (.int a2), some (.int (gI S 221 7)), some (.int (0 : Int32))]) (pc := 84) C dX2_open_84 (by decide) rfl ?_
    exact V_mask [true, false, false, true, true] (mX2_open_L86 C  FU _ _ _ h hR)
  · have h := it_f hc h
    cases h
    exact hR 10 _ rfl dX2_open_10
set_option maxRecDepth 100000 in
theorem mX2_put_J35 {K : zK} (C : zC K cX2_put yX2_put.cls 5 2 46 cW) {S : zM} {v2 : Int32} {v3 : Int32} {S' : zM}  (hR : zR K cX2_put (none) S' none) (h : gX2_put_J35 S v2 v3 = some S') : V K 35 [some (.ref 221), none, some (.int v2), some (.int v3), none] [] S := by
  unfold gX2_put_J35 at h
  refine V_aload_n (pc := 35) C dX2_put_35 rfl rfl ?_
  refine V_getF (p1 := 222) (pc := 36) C z1_cW_2 fl_RX2_11 rfl (zf_cW_2_0 z1_cW_2) dX2_put_36 ?_
  refine V_iload_n (pc := 39) C dX2_put_39 rfl rfl ?_
  obtain ⟨k12, h⟩ := ck_some h
  refine V_iald (pc := 40) C (za_cW_2_0 z1_cW_2) k12 dX2_put_40 ?_
  refine V_iconst (pc := 41) C dX2_put_41 kc_i_1 ?_
  refine V_isub (pc := 42) C dX2_put_42 ?_
  obtain ⟨x13, ex13, h⟩ := lt_some h
  refine V_nmI ex13 ?_
  refine V_istore (L' := [some (.ref 221), none, some (.int v2), some (.int v3), some (.int x13)]) (pc := 43) C dX2_put_43 (by decide) rfl ?_
  refine V_iload (pc := 45) C dX2_put_45 rfl ?_
  refine V_if_lt (tgt := 76) (pc := 47) C dX2_put_47 (by decide) (fun hc => ?_) (fun hc => ?_)
  · have h := it_t hc h
    cases h
    exact hR 76 _ rfl dX2_put_76
  · have h := it_f hc h
    refine V_aload_n (pc := 50) C dX2_put_50 rfl rfl ?_
    refine V_getF (p1 := 227) (pc := 51) C z1_cW_2 fl_RX2_27 rfl (zf_cW_2_5 z1_cW_2) dX2_put_51 ?_
    refine V_iload (pc := 54) C dX2_put_54 rfl ?_
    refine V_dup2 (pc := 56) C dX2_put_56 rfl rfl ?_
    obtain ⟨k14, h⟩ := ck_some h
    refine V_iald (pc := 57) C (za_cW_2_5 z1_cW_2) k14 dX2_put_57 ?_
    refine V_iconst (pc := 58) C dX2_put_58 kc_i_1 ?_
    refine V_iadd (pc := 59) C dX2_put_59 ?_
    obtain ⟨k15, h⟩ := ck_some h
    refine V_iast (pc := 60) C (za_cW_2_5 z1_cW_2) k15 dX2_put_60 ?_
    refine V_aload_n (pc := 61) C dX2_put_61 rfl rfl ?_
    refine V_getF (p1 := 228) (pc := 62) C z1_cW_2 fl_RX2_30 rfl (zf_cW_2_6 z1_cW_2) dX2_put_62 ?_
    refine V_iload (pc := 65) C dX2_put_65 rfl ?_
    refine V_iconst (pc := 67) C dX2_put_67 kc_i_3 ?_
    refine V_imul (pc := 68) C dX2_put_68 ?_
    refine V_iload_n (pc := 69) C dX2_put_69 rfl rfl ?_
    refine V_iadd (pc := 70) C dX2_put_70 ?_
    refine V_dup2 (pc := 71) C dX2_put_71 rfl rfl ?_
    obtain ⟨k16, h⟩ := ck_some h
    refine V_iald (pc := 72) C (za_cW_2_6 z1_cW_2) k16 dX2_put_72 ?_
    refine V_iconst (pc := 73) C dX2_put_73 kc_i_1 ?_
    refine V_iadd (pc := 74) C dX2_put_74 ?_
    obtain ⟨k17, h⟩ := ck_some h
    refine V_iast (pc := 75) C (za_cW_2_6 z1_cW_2) k17 dX2_put_75 ?_
    obtain ⟨S18, eS18, h⟩ := lt_some h
    refine V_nmS eS18 ?_
    cases h
    exact hR 76 _ rfl dX2_put_76
set_option maxRecDepth 100000 in
theorem mX2_put (l : Launch) {S : zM} {a2 : Int32} {S' : zM}  (h : gX2_put S a2 = some S') : zMet l cW zS0 yX2_put cX2_put 5 (none) 2 46 [.ref 221, .ref 456, .int a2] S none S' := by
  refine zmeth (by decide +kernel) (by rfl) (fun K hKl C hR => ?_)
  show V K 0 [some (.ref 221), some (.ref 456), some (.int a2), none, none] [] S
  unfold gX2_put at h
  refine V_aload_n (pc := 0) C dX2_put_0 rfl rfl ?_
  refine V_aload_n (pc := 1) C dX2_put_1 rfl rfl ?_
  obtain ⟨r1, er1, h⟩ := b1_some h
  refine V_callV (As := [.ref 456]) (pc := 2) C (mX2_slotOf _ er1) zm_X2_slotOf zi_X2_slotOf ml_RX2_55 z1_cW_2 rfl ⟨Nat.le_of_ble_eq_true rfl, Nat.le_of_ble_eq_true rfl⟩ rfl rfl (Nat.le_of_ble_eq_true rfl) dX2_put_2 ?_
  show V K 5 [some (.ref 221), some (.ref 456), some (.int a2), none, none] [.int r1] S
  refine V_istore_n (L' := [some (.ref 221), some (.ref 456), some (.int a2), some (.int r1), none]) (pc := 5) C dX2_put_5 rfl (by decide) rfl ?_
  refine V_iload_n (pc := 6) C dX2_put_6 rfl rfl ?_
  refine V_if_lt (tgt := 19) (pc := 7) C dX2_put_7 (by decide) (fun hc => ?_) (fun hc => ?_)
  · have h := it_t hc h
    cases h
    exact hR 19 _ rfl dX2_put_19
  · have h := it_f hc h
    refine V_iload_n (pc := 10) C dX2_put_10 rfl rfl ?_
    refine V_if_lt (tgt := 19) (pc := 11) C dX2_put_11 (by decide) (fun hc => ?_) (fun hc => ?_)
    · have h := it_t hc h
      cases h
      exact hR 19 _ rfl dX2_put_19
    · have h := it_f hc h
      refine V_iload_n (pc := 14) C dX2_put_14 rfl rfl ?_
      refine V_iconst (pc := 15) C dX2_put_15 kc_i_3 ?_
      refine V_icmp_lt (tgt := 20) (pc := 16) C dX2_put_16 (by decide) (fun hc => ?_) (fun hc => ?_)
      · have h := it_t hc h
        refine V_aload_n (pc := 20) C dX2_put_20 rfl rfl ?_
        refine V_getF (p1 := 222) (pc := 21) C z1_cW_2 fl_RX2_11 rfl (zf_cW_2_0 z1_cW_2) dX2_put_21 ?_
        refine V_iload_n (pc := 24) C dX2_put_24 rfl rfl ?_
        obtain ⟨k2, h⟩ := ck_some h
        refine V_iald (pc := 25) C (za_cW_2_0 z1_cW_2) k2 dX2_put_25 ?_
        refine V_if_ne (tgt := 35) (pc := 26) C dX2_put_26 (by decide) (fun hc => ?_) (fun hc => ?_)
        · have h := it_f hc h
          refine V_aload_n (pc := 35) C dX2_put_35 rfl rfl ?_
          refine V_getF (p1 := 222) (pc := 36) C z1_cW_2 fl_RX2_11 rfl (zf_cW_2_0 z1_cW_2) dX2_put_36 ?_
          refine V_iload_n (pc := 39) C dX2_put_39 rfl rfl ?_
          obtain ⟨k3, h⟩ := ck_some h
          refine V_iald (pc := 40) C (za_cW_2_0 z1_cW_2) k3 dX2_put_40 ?_
          refine V_iconst (pc := 41) C dX2_put_41 kc_i_1 ?_
          refine V_isub (pc := 42) C dX2_put_42 ?_
          obtain ⟨x4, ex4, h⟩ := lt_some h
          refine V_nmI ex4 ?_
          refine V_istore (L' := [some (.ref 221), some (.ref 456), some (.int a2), some (.int r1), some (.int x4)]) (pc := 43) C dX2_put_43 (by decide) rfl ?_
          refine V_iload (pc := 45) C dX2_put_45 rfl ?_
          refine V_if_lt (tgt := 76) (pc := 47) C dX2_put_47 (by decide) (fun hc => ?_) (fun hc => ?_)
          · have h := it_t hc h
            cases h
            exact hR 76 _ rfl dX2_put_76
          · have h := it_f hc h
            refine V_aload_n (pc := 50) C dX2_put_50 rfl rfl ?_
            refine V_getF (p1 := 227) (pc := 51) C z1_cW_2 fl_RX2_27 rfl (zf_cW_2_5 z1_cW_2) dX2_put_51 ?_
            refine V_iload (pc := 54) C dX2_put_54 rfl ?_
            refine V_dup2 (pc := 56) C dX2_put_56 rfl rfl ?_
            obtain ⟨k5, h⟩ := ck_some h
            refine V_iald (pc := 57) C (za_cW_2_5 z1_cW_2) k5 dX2_put_57 ?_
            refine V_iconst (pc := 58) C dX2_put_58 kc_i_1 ?_
            refine V_iadd (pc := 59) C dX2_put_59 ?_
            obtain ⟨k6, h⟩ := ck_some h
            refine V_iast (pc := 60) C (za_cW_2_5 z1_cW_2) k6 dX2_put_60 ?_
            refine V_aload_n (pc := 61) C dX2_put_61 rfl rfl ?_
            refine V_getF (p1 := 228) (pc := 62) C z1_cW_2 fl_RX2_30 rfl (zf_cW_2_6 z1_cW_2) dX2_put_62 ?_
            refine V_iload (pc := 65) C dX2_put_65 rfl ?_
            refine V_iconst (pc := 67) C dX2_put_67 kc_i_3 ?_
            refine V_imul (pc := 68) C dX2_put_68 ?_
            refine V_iload_n (pc := 69) C dX2_put_69 rfl rfl ?_
            refine V_iadd (pc := 70) C dX2_put_70 ?_
            refine V_dup2 (pc := 71) C dX2_put_71 rfl rfl ?_
            obtain ⟨k7, h⟩ := ck_some h
            refine V_iald (pc := 72) C (za_cW_2_6 z1_cW_2) k7 dX2_put_72 ?_
            refine V_iconst (pc := 73) C dX2_put_73 kc_i_1 ?_
            refine V_iadd (pc := 74) C dX2_put_74 ?_
            obtain ⟨k8, h⟩ := ck_some h
            refine V_iast (pc := 75) C (za_cW_2_6 z1_cW_2) k8 dX2_put_75 ?_
            obtain ⟨S9, eS9, h⟩ := lt_some h
            refine V_nmS eS9 ?_
            cases h
            exact hR 76 _ rfl dX2_put_76
        · have h := it_t hc h
          refine V_aload_n (pc := 29) C dX2_put_29 rfl rfl ?_
          refine V_aload_n (pc := 30) C dX2_put_30 rfl rfl ?_
          refine V_iload_n (pc := 31) C dX2_put_31 rfl rfl ?_
          obtain ⟨S11, euS11, h⟩ := b1_some h
          refine V_callV (As := [.ref 456, .int r1]) (pc := 32) C (mX2_open _ euS11) zm_X2_open zi_X2_open ml_RX2_59 z1_cW_2 rfl ⟨Nat.le_of_ble_eq_true rfl, Nat.le_of_ble_eq_true rfl⟩ rfl rfl (Nat.le_of_ble_eq_true rfl) dX2_put_32 ?_
          show V K 35 [some (.ref 221), some (.ref 456), some (.int a2), some (.int r1), none] [] S11
          exact V_mask [true, false, true, true, false] (mX2_put_J35 C  hR h)
      · have h := it_f hc h
        cases h
        exact hR 19 _ rfl dX2_put_19
set_option maxRecDepth 100000 in
theorem mX1_put (l : Launch) {S : zM} {a2 : Int32} {S' : zM}  (h : gX1_put S a2 = some S') : zMet l cW zS0 yX1_put cX1_put 4 (none) 3 70 [.ref 219, .ref 456, .int a2] S none S' := by
  refine zmeth (by decide +kernel) (by rfl) (fun K hKl C hR => ?_)
  show V K 0 [some (.ref 219), some (.ref 456), some (.int a2), none] [] S
  unfold gX1_put at h
  refine V_aload_n (pc := 0) C dX1_put_0 rfl rfl ?_
  refine V_iconst (pc := 1) C dX1_put_1 kc_i_1 ?_
  obtain ⟨r1, er1, h⟩ := b1_some h
  refine V_callV (As := [.int (1 : Int32)]) (pc := 2) C (mX1_holds _ er1) zm_X1_holds zi_X1_holds ml_RX1_29 z1_cW_1 rfl ⟨Nat.le_of_ble_eq_true rfl, Nat.le_of_ble_eq_true rfl⟩ rfl rfl (Nat.le_of_ble_eq_true rfl) dX1_put_2 ?_
  show V K 5 [some (.ref 219), some (.ref 456), some (.int a2), none] [.int r1] S
  refine V_if_ne (tgt := 9) (pc := 5) C dX1_put_5 (by decide) (fun hc => ?_) (fun hc => ?_)
  · have h := it_f hc h
    refine V_aload_n (pc := 9) C dX1_put_9 rfl rfl ?_
    refine V_getI (pc := 10) C z1_cW_1 fl_RX1_22 (by decide) dX1_put_10 ?_
    refine V_bipush (pc := 13) C dX1_put_13 kc_b_6 ?_
    refine V_imul (pc := 15) C dX1_put_15 ?_
    refine V_istore_n (L' := [some (.ref 219), some (.ref 456), some (.int a2), some (.int ((gI S 219 2) * (6 : Int32)))]) (pc := 16) C dX1_put_16 rfl (by decide) rfl ?_
    refine V_aload_n (pc := 17) C dX1_put_17 rfl rfl ?_
    refine V_getF (p1 := 220) (pc := 18) C z1_cW_1 fl_RX1_11 rfl (zf_cW_1_0 z1_cW_1) dX1_put_18 ?_
    refine V_iload_n (pc := 21) C dX1_put_21 rfl rfl ?_
    refine V_aload_n (pc := 22) C dX1_put_22 rfl rfl ?_
    refine V_getI (pc := 23) C z1_cW_0 fl_RX1_33 (by decide) dX1_put_23 ?_
    obtain ⟨k2, h⟩ := ck_some h
    refine V_iast (pc := 26) C (za_cW_1_0 z1_cW_1) k2 dX1_put_26 ?_
    refine V_aload_n (pc := 27) C dX1_put_27 rfl rfl ?_
    refine V_getF (p1 := 220) (pc := 28) C z1_cW_1 fl_RX1_11 rfl (zf_cW_1_0 z1_cW_1) dX1_put_28 ?_
    refine V_iload_n (pc := 31) C dX1_put_31 rfl rfl ?_
    refine V_iconst (pc := 32) C dX1_put_32 kc_i_1 ?_
    refine V_iadd (pc := 33) C dX1_put_33 ?_
    refine V_aload_n (pc := 34) C dX1_put_34 rfl rfl ?_
    refine V_getI (pc := 35) C z1_cW_0 fl_RX1_38 (by decide) dX1_put_35 ?_
    obtain ⟨k3, h⟩ := ck_some h
    refine V_iast (pc := 38) C (za_cW_1_0 z1_cW_1) k3 dX1_put_38 ?_
    obtain ⟨S4, eS4, h⟩ := lt_some h
    refine V_nmS eS4 ?_
    refine V_aload_n (pc := 39) C dX1_put_39 rfl rfl ?_
    refine V_getF (p1 := 220) (pc := 40) C z1_cW_1 fl_RX1_11 rfl (zf_cW_1_0 z1_cW_1) dX1_put_40 ?_
    refine V_iload_n (pc := 43) C dX1_put_43 rfl rfl ?_
    refine V_iconst (pc := 44) C dX1_put_44 kc_i_2 ?_
    refine V_iadd (pc := 45) C dX1_put_45 ?_
    refine V_aload_n (pc := 46) C dX1_put_46 rfl rfl ?_
    refine V_getI (pc := 47) C z1_cW_0 fl_RX1_41 (by decide) dX1_put_47 ?_
    obtain ⟨k5, h⟩ := ck_some h
    refine V_iast (pc := 50) C (za_cW_1_0 z1_cW_1) k5 dX1_put_50 ?_
    refine V_aload_n (pc := 51) C dX1_put_51 rfl rfl ?_
    refine V_getF (p1 := 220) (pc := 52) C z1_cW_1 fl_RX1_11 rfl (zf_cW_1_0 z1_cW_1) dX1_put_52 ?_
    refine V_iload_n (pc := 55) C dX1_put_55 rfl rfl ?_
    refine V_iconst (pc := 56) C dX1_put_56 kc_i_3 ?_
    refine V_iadd (pc := 57) C dX1_put_57 ?_
    refine V_aload_n (pc := 58) C dX1_put_58 rfl rfl ?_
    refine V_getI (pc := 59) C z1_cW_0 fl_RX1_44 (by decide) dX1_put_59 ?_
    obtain ⟨k6, h⟩ := ck_some h
    refine V_iast (pc := 62) C (za_cW_1_0 z1_cW_1) k6 dX1_put_62 ?_
    obtain ⟨S7, eS7, h⟩ := lt_some h
    refine V_nmS eS7 ?_
    refine V_aload_n (pc := 63) C dX1_put_63 rfl rfl ?_
    refine V_getF (p1 := 220) (pc := 64) C z1_cW_1 fl_RX1_11 rfl (zf_cW_1_0 z1_cW_1) dX1_put_64 ?_
    refine V_iload_n (pc := 67) C dX1_put_67 rfl rfl ?_
    refine V_iconst (pc := 68) C dX1_put_68 kc_i_4 ?_
    refine V_iadd (pc := 69) C dX1_put_69 ?_
    refine V_aload_n (pc := 70) C dX1_put_70 rfl rfl ?_
    refine V_getI (pc := 71) C z1_cW_0 fl_RX1_47 (by decide) dX1_put_71 ?_
    obtain ⟨k8, h⟩ := ck_some h
    refine V_iast (pc := 74) C (za_cW_1_0 z1_cW_1) k8 dX1_put_74 ?_
    refine V_aload_n (pc := 75) C dX1_put_75 rfl rfl ?_
    refine V_getF (p1 := 220) (pc := 76) C z1_cW_1 fl_RX1_11 rfl (zf_cW_1_0 z1_cW_1) dX1_put_76 ?_
    refine V_iload_n (pc := 79) C dX1_put_79 rfl rfl ?_
    refine V_iconst (pc := 80) C dX1_put_80 kc_i_5 ?_
    refine V_iadd (pc := 81) C dX1_put_81 ?_
    refine V_iload_n (pc := 82) C dX1_put_82 rfl rfl ?_
    obtain ⟨k9, h⟩ := ck_some h
    refine V_iast (pc := 83) C (za_cW_1_0 z1_cW_1) k9 dX1_put_83 ?_
    obtain ⟨S10, eS10, h⟩ := lt_some h
    refine V_nmS eS10 ?_
    refine V_aload_n (pc := 84) C dX1_put_84 rfl rfl ?_
    refine V_dup (pc := 85) C dX1_put_85 rfl ?_
    refine V_getI (pc := 86) C z1_cW_1 fl_RX1_22 (by decide) dX1_put_86 ?_
    refine V_iconst (pc := 89) C dX1_put_89 kc_i_1 ?_
    refine V_iadd (pc := 90) C dX1_put_90 ?_
    refine V_putI (pc := 91) C z1_cW_1 fp_RX1_22 rfl rfl dX1_put_91 ?_
    refine V_aload_n (pc := 94) C dX1_put_94 rfl rfl ?_
    refine V_getI (pc := 95) C z1_cW_0 fl_RX1_38 (by decide) dX1_put_95 ?_
    refine V_if_eq (tgt := 109) (pc := 98) C dX1_put_98 (by decide) (fun hc => ?_) (fun hc => ?_)
    · have h := it_t hc h
      refine V_aload_n (pc := 109) C dX1_put_109 rfl rfl ?_
      refine V_getF (p1 := 221) (pc := 110) C z1_cW_1 fl_RX1_18 rfl (zf_cW_1_1 z1_cW_1) dX1_put_110 ?_
      refine V_aload_n (pc := 113) C dX1_put_113 rfl rfl ?_
      refine V_iload_n (pc := 114) C dX1_put_114 rfl rfl ?_
      obtain ⟨S12, euS12, h⟩ := b1_some h
      refine V_callV (As := [.ref 456, .int a2]) (pc := 115) C (mX2_put _ euS12) zm_X2_put zi_X2_put ml_RX1_50 z1_cW_2 rfl ⟨Nat.le_of_ble_eq_true rfl, Nat.le_of_ble_eq_true rfl⟩ rfl rfl (Nat.le_of_ble_eq_true rfl) dX1_put_115 ?_
      show V K 118 [some (.ref 219), some (.ref 456), some (.int a2), some (.int ((gI S 219 2) * (6 : Int32)))] [] S12
      cases h
      exact hR 118 _ rfl dX1_put_118
    · have h := it_f hc h
      refine V_aload_n (pc := 101) C dX1_put_101 rfl rfl ?_
      refine V_getI (pc := 102) C z1_cW_0 fl_RX1_38 (by decide) dX1_put_102 ?_
      refine V_iconst (pc := 105) C dX1_put_105 kc_i_1 ?_
      refine V_icmp_ne (tgt := 118) (pc := 106) C dX1_put_106 (by decide) (fun hc => ?_) (fun hc => ?_)
      · have h := it_f hc h
        cases h
        exact hR 118 _ rfl dX1_put_118
      · have h := it_t hc h
        refine V_aload_n (pc := 109) C dX1_put_109 rfl rfl ?_
        refine V_getF (p1 := 221) (pc := 110) C z1_cW_1 fl_RX1_18 rfl (zf_cW_1_1 z1_cW_1) dX1_put_110 ?_
        refine V_aload_n (pc := 113) C dX1_put_113 rfl rfl ?_
        refine V_iload_n (pc := 114) C dX1_put_114 rfl rfl ?_
        obtain ⟨S14, euS14, h⟩ := b1_some h
        refine V_callV (As := [.ref 456, .int a2]) (pc := 115) C (mX2_put _ euS14) zm_X2_put zi_X2_put ml_RX1_50 z1_cW_2 rfl ⟨Nat.le_of_ble_eq_true rfl, Nat.le_of_ble_eq_true rfl⟩ rfl rfl (Nat.le_of_ble_eq_true rfl) dX1_put_115 ?_
        show V K 118 [some (.ref 219), some (.ref 456), some (.int a2), some (.int ((gI S 219 2) * (6 : Int32)))] [] S14
        cases h
        exact hR 118 _ rfl dX1_put_118
  · have h := it_t hc h
    cases h
    exact hR 8 _ rfl dX1_put_8
set_option maxRecDepth 100000 in
theorem mX1_rowAt (l : Launch) {S : zM} {a1 : Int32} {a2 : Int32} {r : Int32}  (h : gX1_rowAt S a1 a2 = some r) : zMet l cW zS0 yX1_rowAt cX1_rowAt 3 (some .int) 0 0 [.ref 219, .int a1, .int a2] S (some (.int r)) S := by
  refine zmeth (by decide +kernel) (by rfl) (fun K hKl C hR => ?_)
  show V K 0 [some (.ref 219), some (.int a1), some (.int a2)] [] S
  unfold gX1_rowAt at h
  refine V_iload_n (pc := 0) C dX1_rowAt_0 rfl rfl ?_
  refine V_if_lt (tgt := 22) (pc := 1) C dX1_rowAt_1 (by decide) (fun hc => ?_) (fun hc => ?_)
  · have h := it_t hc h
    refine V_iconst (pc := 22) C dX1_rowAt_22 kc_i_m1 ?_
    refine V_goto (tgt := 37) (pc := 23) C dX1_rowAt_23 (by decide) ?_
    cases h
    exact hR 37 _ ⟨_, rfl, rfl⟩ dX1_rowAt_37
  · have h := it_f hc h
    refine V_iload_n (pc := 4) C dX1_rowAt_4 rfl rfl ?_
    refine V_aload_n (pc := 5) C dX1_rowAt_5 rfl rfl ?_
    refine V_getI (pc := 6) C z1_cW_1 fl_RX1_22 (by decide) dX1_rowAt_6 ?_
    refine V_icmp_ge (tgt := 22) (pc := 9) C dX1_rowAt_9 (by decide) (fun hc => ?_) (fun hc => ?_)
    · have h := it_t hc h
      refine V_iconst (pc := 22) C dX1_rowAt_22 kc_i_m1 ?_
      refine V_goto (tgt := 37) (pc := 23) C dX1_rowAt_23 (by decide) ?_
      cases h
      exact hR 37 _ ⟨_, rfl, rfl⟩ dX1_rowAt_37
    · have h := it_f hc h
      refine V_iload_n (pc := 12) C dX1_rowAt_12 rfl rfl ?_
      refine V_if_lt (tgt := 22) (pc := 13) C dX1_rowAt_13 (by decide) (fun hc => ?_) (fun hc => ?_)
      · have h := it_t hc h
        refine V_iconst (pc := 22) C dX1_rowAt_22 kc_i_m1 ?_
        refine V_goto (tgt := 37) (pc := 23) C dX1_rowAt_23 (by decide) ?_
        cases h
        exact hR 37 _ ⟨_, rfl, rfl⟩ dX1_rowAt_37
      · have h := it_f hc h
        refine V_iload_n (pc := 16) C dX1_rowAt_16 rfl rfl ?_
        refine V_bipush (pc := 17) C dX1_rowAt_17 kc_b_6 ?_
        refine V_icmp_lt (tgt := 26) (pc := 19) C dX1_rowAt_19 (by decide) (fun hc => ?_) (fun hc => ?_)
        · have h := it_t hc h
          refine V_aload_n (pc := 26) C dX1_rowAt_26 rfl rfl ?_
          refine V_getF (p1 := 220) (pc := 27) C z1_cW_1 fl_RX1_11 rfl (zf_cW_1_0 z1_cW_1) dX1_rowAt_27 ?_
          refine V_iload_n (pc := 30) C dX1_rowAt_30 rfl rfl ?_
          refine V_bipush (pc := 31) C dX1_rowAt_31 kc_b_6 ?_
          refine V_imul (pc := 33) C dX1_rowAt_33 ?_
          refine V_iload_n (pc := 34) C dX1_rowAt_34 rfl rfl ?_
          refine V_iadd (pc := 35) C dX1_rowAt_35 ?_
          obtain ⟨k1, h⟩ := ck_some h
          refine V_iald (pc := 36) C (za_cW_1_0 z1_cW_1) k1 dX1_rowAt_36 ?_
          cases h
          exact hR 37 _ ⟨_, rfl, rfl⟩ dX1_rowAt_37
        · have h := it_f hc h
          refine V_iconst (pc := 22) C dX1_rowAt_22 kc_i_m1 ?_
          refine V_goto (tgt := 37) (pc := 23) C dX1_rowAt_23 (by decide) ?_
          cases h
          exact hR 37 _ ⟨_, rfl, rfl⟩ dX1_rowAt_37
set_option maxRecDepth 100000 in
theorem mX1_isOf (l : Launch) {S : zM} {a2 : Int32} {r : Int32}  (h : gX1_isOf S a2 = some r) : zMet l cW zS0 yX1_isOf cX1_isOf 3 (some .boolean) 0 0 [.ref 219, .ref 456, .int a2] S (some (.int r)) S := by
  refine zmeth (by decide +kernel) (by rfl) (fun K hKl C hR => ?_)
  show V K 0 [some (.ref 219), some (.ref 456), some (.int a2)] [] S
  unfold gX1_isOf at h
  refine V_iload_n (pc := 0) C dX1_isOf_0 rfl rfl ?_
  refine V_if_lt (tgt := 92) (pc := 1) C dX1_isOf_1 (by decide) (fun hc => ?_) (fun hc => ?_)
  · have h := it_t hc h
    refine V_iconst (pc := 92) C dX1_isOf_92 kc_i_0 ?_
    cases h
    exact hR 93 _ ⟨_, rfl, zB0⟩ dX1_isOf_93
  · have h := it_f hc h
    refine V_iload_n (pc := 4) C dX1_isOf_4 rfl rfl ?_
    refine V_iconst (pc := 5) C dX1_isOf_5 kc_i_5 ?_
    refine V_iadd (pc := 6) C dX1_isOf_6 ?_
    refine V_aload_n (pc := 7) C dX1_isOf_7 rfl rfl ?_
    refine V_getF (p1 := 220) (pc := 8) C z1_cW_1 fl_RX1_11 rfl (zf_cW_1_0 z1_cW_1) dX1_isOf_8 ?_
    refine V_alen (v := (6000 : Int32)) (pc := 11) C (za_cW_1_0 z1_cW_1) (by decide) (fun _ => rfl) (by decide) dX1_isOf_11 ?_
    refine V_icmp_ge (tgt := 92) (pc := 12) C dX1_isOf_12 (by decide) (fun hc => ?_) (fun hc => ?_)
    · have h := it_t hc h
      refine V_iconst (pc := 92) C dX1_isOf_92 kc_i_0 ?_
      cases h
      exact hR 93 _ ⟨_, rfl, zB0⟩ dX1_isOf_93
    · have h := it_f hc h
      refine V_aload_n (pc := 15) C dX1_isOf_15 rfl rfl ?_
      refine V_getF (p1 := 220) (pc := 16) C z1_cW_1 fl_RX1_11 rfl (zf_cW_1_0 z1_cW_1) dX1_isOf_16 ?_
      refine V_iload_n (pc := 19) C dX1_isOf_19 rfl rfl ?_
      obtain ⟨k1, h⟩ := ck_some h
      refine V_iald (pc := 20) C (za_cW_1_0 z1_cW_1) k1 dX1_isOf_20 ?_
      refine V_aload_n (pc := 21) C dX1_isOf_21 rfl rfl ?_
      refine V_getI (pc := 22) C z1_cW_0 fl_RX1_33 (by decide) dX1_isOf_22 ?_
      refine V_icmp_ne (tgt := 92) (pc := 25) C dX1_isOf_25 (by decide) (fun hc => ?_) (fun hc => ?_)
      · have h := it_f hc h
        refine V_iconst (pc := 92) C dX1_isOf_92 kc_i_0 ?_
        cases h
        exact hR 93 _ ⟨_, rfl, zB0⟩ dX1_isOf_93
      · have h := it_t hc h
        refine V_aload_n (pc := 28) C dX1_isOf_28 rfl rfl ?_
        refine V_getF (p1 := 220) (pc := 29) C z1_cW_1 fl_RX1_11 rfl (zf_cW_1_0 z1_cW_1) dX1_isOf_29 ?_
        refine V_iload_n (pc := 32) C dX1_isOf_32 rfl rfl ?_
        refine V_iconst (pc := 33) C dX1_isOf_33 kc_i_1 ?_
        refine V_iadd (pc := 34) C dX1_isOf_34 ?_
        obtain ⟨k2, h⟩ := ck_some h
        refine V_iald (pc := 35) C (za_cW_1_0 z1_cW_1) k2 dX1_isOf_35 ?_
        refine V_aload_n (pc := 36) C dX1_isOf_36 rfl rfl ?_
        refine V_getI (pc := 37) C z1_cW_0 fl_RX1_38 (by decide) dX1_isOf_37 ?_
        refine V_icmp_ne (tgt := 92) (pc := 40) C dX1_isOf_40 (by decide) (fun hc => ?_) (fun hc => ?_)
        · have h := it_f hc h
          refine V_iconst (pc := 92) C dX1_isOf_92 kc_i_0 ?_
          cases h
          exact hR 93 _ ⟨_, rfl, zB0⟩ dX1_isOf_93
        · have h := it_t hc h
          refine V_aload_n (pc := 43) C dX1_isOf_43 rfl rfl ?_
          refine V_getF (p1 := 220) (pc := 44) C z1_cW_1 fl_RX1_11 rfl (zf_cW_1_0 z1_cW_1) dX1_isOf_44 ?_
          refine V_iload_n (pc := 47) C dX1_isOf_47 rfl rfl ?_
          refine V_iconst (pc := 48) C dX1_isOf_48 kc_i_2 ?_
          refine V_iadd (pc := 49) C dX1_isOf_49 ?_
          obtain ⟨k3, h⟩ := ck_some h
          refine V_iald (pc := 50) C (za_cW_1_0 z1_cW_1) k3 dX1_isOf_50 ?_
          refine V_aload_n (pc := 51) C dX1_isOf_51 rfl rfl ?_
          refine V_getI (pc := 52) C z1_cW_0 fl_RX1_41 (by decide) dX1_isOf_52 ?_
          refine V_icmp_ne (tgt := 92) (pc := 55) C dX1_isOf_55 (by decide) (fun hc => ?_) (fun hc => ?_)
          · have h := it_f hc h
            refine V_iconst (pc := 92) C dX1_isOf_92 kc_i_0 ?_
            cases h
            exact hR 93 _ ⟨_, rfl, zB0⟩ dX1_isOf_93
          · have h := it_t hc h
            refine V_aload_n (pc := 58) C dX1_isOf_58 rfl rfl ?_
            refine V_getF (p1 := 220) (pc := 59) C z1_cW_1 fl_RX1_11 rfl (zf_cW_1_0 z1_cW_1) dX1_isOf_59 ?_
            refine V_iload_n (pc := 62) C dX1_isOf_62 rfl rfl ?_
            refine V_iconst (pc := 63) C dX1_isOf_63 kc_i_3 ?_
            refine V_iadd (pc := 64) C dX1_isOf_64 ?_
            obtain ⟨k4, h⟩ := ck_some h
            refine V_iald (pc := 65) C (za_cW_1_0 z1_cW_1) k4 dX1_isOf_65 ?_
            refine V_aload_n (pc := 66) C dX1_isOf_66 rfl rfl ?_
            refine V_getI (pc := 67) C z1_cW_0 fl_RX1_44 (by decide) dX1_isOf_67 ?_
            refine V_icmp_ne (tgt := 92) (pc := 70) C dX1_isOf_70 (by decide) (fun hc => ?_) (fun hc => ?_)
            · have h := it_f hc h
              refine V_iconst (pc := 92) C dX1_isOf_92 kc_i_0 ?_
              cases h
              exact hR 93 _ ⟨_, rfl, zB0⟩ dX1_isOf_93
            · have h := it_t hc h
              refine V_aload_n (pc := 73) C dX1_isOf_73 rfl rfl ?_
              refine V_getF (p1 := 220) (pc := 74) C z1_cW_1 fl_RX1_11 rfl (zf_cW_1_0 z1_cW_1) dX1_isOf_74 ?_
              refine V_iload_n (pc := 77) C dX1_isOf_77 rfl rfl ?_
              refine V_iconst (pc := 78) C dX1_isOf_78 kc_i_4 ?_
              refine V_iadd (pc := 79) C dX1_isOf_79 ?_
              obtain ⟨k5, h⟩ := ck_some h
              refine V_iald (pc := 80) C (za_cW_1_0 z1_cW_1) k5 dX1_isOf_80 ?_
              refine V_aload_n (pc := 81) C dX1_isOf_81 rfl rfl ?_
              refine V_getI (pc := 82) C z1_cW_0 fl_RX1_47 (by decide) dX1_isOf_82 ?_
              refine V_icmp_ne (tgt := 92) (pc := 85) C dX1_isOf_85 (by decide) (fun hc => ?_) (fun hc => ?_)
              · have h := it_f hc h
                refine V_iconst (pc := 92) C dX1_isOf_92 kc_i_0 ?_
                cases h
                exact hR 93 _ ⟨_, rfl, zB0⟩ dX1_isOf_93
              · have h := it_t hc h
                refine V_iconst (pc := 88) C dX1_isOf_88 kc_i_1 ?_
                refine V_goto (tgt := 93) (pc := 89) C dX1_isOf_89 (by decide) ?_
                cases h
                exact hR 93 _ ⟨_, rfl, zB1⟩ dX1_isOf_93
set_option maxRecDepth 100000 in
theorem mX1_timesOf_L5 {K : zK} (C : zC K cX1_timesOf yX1_timesOf.cls 5 1 22 cW) {S : zM} {v2 : Int32}  : ∀ (f : Nat) (v3 : Int32) (v4 : Int32) (r : Int32), gX1_timesOf_L5 S v2 f v3 v4 = some r → zR K cX1_timesOf (some .int) S (some (.int r)) → V K 5 [some (.ref 219), some (.ref 456), some (.int v2), some (.int v3), some (.int v4)] [] S := by
  intro f
  induction f with
  | zero => intro v3 v4 r h hR; cases h
  | succ n ih =>
    intro v3 v4 r h hR
    unfold gX1_timesOf_L5 at h
    refine V_iload (pc := 5) C dX1_timesOf_5 rfl ?_
    refine V_aload_n (pc := 7) C dX1_timesOf_7 rfl rfl ?_
    refine V_getI (pc := 8) C z1_cW_1 fl_RX1_22 (by decide) dX1_timesOf_8 ?_
    refine V_icmp_ge (tgt := 57) (pc := 11) C dX1_timesOf_11 (by decide) (fun hc => ?_) (fun hc => ?_)
    · have h := it_t hc h
      refine V_iload_n (pc := 57) C dX1_timesOf_57 rfl rfl ?_
      cases h
      exact hR 58 _ ⟨_, rfl, rfl⟩ dX1_timesOf_58
    · have h := it_f hc h
      refine V_aload_n (pc := 14) C dX1_timesOf_14 rfl rfl ?_
      refine V_aload_n (pc := 15) C dX1_timesOf_15 rfl rfl ?_
      refine V_iload (pc := 16) C dX1_timesOf_16 rfl ?_
      refine V_bipush (pc := 18) C dX1_timesOf_18 kc_b_6 ?_
      refine V_imul (pc := 20) C dX1_timesOf_20 ?_
      obtain ⟨r1, er1, h⟩ := b1_some h
      refine V_callV (As := [.ref 456, .int (v4 * (6 : Int32))]) (pc := 21) C (mX1_isOf _ er1) zm_X1_isOf zi_X1_isOf ml_RX1_54 z1_cW_1 rfl ⟨Nat.le_of_ble_eq_true rfl, Nat.le_of_ble_eq_true rfl⟩ rfl rfl (Nat.le_of_ble_eq_true rfl) dX1_timesOf_21 ?_
      show V K 24 [some (.ref 219), some (.ref 456), some (.int v2), some (.int v3), some (.int v4)] [.int r1] S
      refine V_if_eq (tgt := 51) (pc := 24) C dX1_timesOf_24 (by decide) (fun hc => ?_) (fun hc => ?_)
      · have h := it_t hc h
        refine V_iinc (L' := [some (.ref 219), some (.ref 456), some (.int v2), some (.int v3), some (.int (v4 + (1 : Int32)))]) (v := (v4 + (1 : Int32))) (pc := 51) C dX1_timesOf_51 rfl (congrArg (v4 + ·) kc_i_1) (by decide) rfl ?_
        refine V_goto (tgt := 5) (pc := 54) C dX1_timesOf_54 (by decide) ?_
        exact V_mask [true, true, true, true, true] (ih _ _ _ h hR)
      · have h := it_f hc h
        refine V_iload_n (pc := 27) C dX1_timesOf_27 rfl rfl ?_
        refine V_iconst (pc := 28) C dX1_timesOf_28 kc_i_m1 ?_
        refine V_icmp_eq (tgt := 48) (pc := 29) C dX1_timesOf_29 (by decide) (fun hc => ?_) (fun hc => ?_)
        · have h := it_t hc h
          refine V_iinc (L' := [some (.ref 219), some (.ref 456), some (.int v2), some (.int (v3 + (1 : Int32))), some (.int v4)]) (v := (v3 + (1 : Int32))) (pc := 48) C dX1_timesOf_48 rfl (congrArg (v3 + ·) kc_i_1) (by decide) rfl ?_
          refine V_iinc (L' := [some (.ref 219), some (.ref 456), some (.int v2), some (.int (v3 + (1 : Int32))), some (.int (v4 + (1 : Int32)))]) (v := (v4 + (1 : Int32))) (pc := 51) C dX1_timesOf_51 rfl (congrArg (v4 + ·) kc_i_1) (by decide) rfl ?_
          refine V_goto (tgt := 5) (pc := 54) C dX1_timesOf_54 (by decide) ?_
          exact V_mask [true, true, true, true, true] (ih _ _ _ h hR)
        · have h := it_f hc h
          refine V_aload_n (pc := 32) C dX1_timesOf_32 rfl rfl ?_
          refine V_getF (p1 := 220) (pc := 33) C z1_cW_1 fl_RX1_11 rfl (zf_cW_1_0 z1_cW_1) dX1_timesOf_33 ?_
          refine V_iload (pc := 36) C dX1_timesOf_36 rfl ?_
          refine V_bipush (pc := 38) C dX1_timesOf_38 kc_b_6 ?_
          refine V_imul (pc := 40) C dX1_timesOf_40 ?_
          refine V_iconst (pc := 41) C dX1_timesOf_41 kc_i_5 ?_
          refine V_iadd (pc := 42) C dX1_timesOf_42 ?_
          obtain ⟨k2, h⟩ := ck_some h
          refine V_iald (pc := 43) C (za_cW_1_0 z1_cW_1) k2 dX1_timesOf_43 ?_
          refine V_iload_n (pc := 44) C dX1_timesOf_44 rfl rfl ?_
          refine V_icmp_ne (tgt := 51) (pc := 45) C dX1_timesOf_45 (by decide) (fun hc => ?_) (fun hc => ?_)
          · have h := it_f hc h
            refine V_iinc (L' := [some (.ref 219), some (.ref 456), some (.int v2), some (.int v3), some (.int (v4 + (1 : Int32)))]) (v := (v4 + (1 : Int32))) (pc := 51) C dX1_timesOf_51 rfl (congrArg (v4 + ·) kc_i_1) (by decide) rfl ?_
            refine V_goto (tgt := 5) (pc := 54) C dX1_timesOf_54 (by decide) ?_
            exact V_mask [true, true, true, true, true] (ih _ _ _ h hR)
          · have h := it_t hc h
            refine V_iinc (L' := [some (.ref 219), some (.ref 456), some (.int v2), some (.int (v3 + (1 : Int32))), some (.int v4)]) (v := (v3 + (1 : Int32))) (pc := 48) C dX1_timesOf_48 rfl (congrArg (v3 + ·) kc_i_1) (by decide) rfl ?_
            refine V_iinc (L' := [some (.ref 219), some (.ref 456), some (.int v2), some (.int (v3 + (1 : Int32))), some (.int (v4 + (1 : Int32)))]) (v := (v4 + (1 : Int32))) (pc := 51) C dX1_timesOf_51 rfl (congrArg (v4 + ·) kc_i_1) (by decide) rfl ?_
            refine V_goto (tgt := 5) (pc := 54) C dX1_timesOf_54 (by decide) ?_
            exact V_mask [true, true, true, true, true] (ih _ _ _ h hR)
set_option maxRecDepth 100000 in
theorem mX1_timesOf (l : Launch) {S : zM} {a2 : Int32} {r : Int32}  (h : gX1_timesOf S a2 = some r) : zMet l cW zS0 yX1_timesOf cX1_timesOf 5 (some .int) 1 22 [.ref 219, .ref 456, .int a2] S (some (.int r)) S := by
  refine zmeth (by decide +kernel) (by rfl) (fun K hKl C hR => ?_)
  show V K 0 [some (.ref 219), some (.ref 456), some (.int a2), none, none] [] S
  unfold gX1_timesOf at h
  refine V_iconst (pc := 0) C dX1_timesOf_0 kc_i_0 ?_
  refine V_istore_n (L' := [some (.ref 219), some (.ref 456), some (.int a2), some (.int (0 : Int32)), none]) (pc := 1) C dX1_timesOf_1 rfl (by decide) rfl ?_
  refine V_iconst (pc := 2) C dX1_timesOf_2 kc_i_0 ?_
  refine V_istore (L' := [some (.ref 219), some (.ref 456), some (.int a2), some (.int (0 : Int32)), some (.int (0 : Int32))]) (pc := 3) C dX1_timesOf_3 (by decide) rfl ?_
  exact V_mask [true, true, true, true, true] (mX1_timesOf_L5 C  FU _ _ _ h hR)
set_option maxRecDepth 100000 in
theorem mX1_rowOf_L5 {K : zK} (C : zC K cX1_rowOf yX1_rowOf.cls 5 1 22 cW) {S : zM} {v1 : Int32} {v2 : Int32}  : ∀ (f : Nat) (v3 : Int32) (v4 : Int32) (r : Int32), gX1_rowOf_L5 S v1 v2 f v3 v4 = some r → zR K cX1_rowOf (some .int) S (some (.int r)) → V K 5 [some (.ref 219), some (.int v1), some (.int v2), some (.int v3), some (.int v4)] [] S := by
  intro f
  induction f with
  | zero => intro v3 v4 r h hR; cases h
  | succ n ih =>
    intro v3 v4 r h hR
    unfold gX1_rowOf_L5 at h
    refine V_iload (pc := 5) C dX1_rowOf_5 rfl ?_
    refine V_aload_n (pc := 7) C dX1_rowOf_7 rfl rfl ?_
    refine V_getI (pc := 8) C z1_cW_1 fl_RX1_22 (by decide) dX1_rowOf_8 ?_
    refine V_icmp_ge (tgt := 42) (pc := 11) C dX1_rowOf_11 (by decide) (fun hc => ?_) (fun hc => ?_)
    · have h := it_t hc h
      refine V_iconst (pc := 42) C dX1_rowOf_42 kc_i_m1 ?_
      cases h
      exact hR 43 _ ⟨_, rfl, rfl⟩ dX1_rowOf_43
    · have h := it_f hc h
      refine V_aload_n (pc := 14) C dX1_rowOf_14 rfl rfl ?_
      refine V_iload (pc := 15) C dX1_rowOf_15 rfl ?_
      refine V_iconst (pc := 17) C dX1_rowOf_17 kc_i_0 ?_
      obtain ⟨r1, er1, h⟩ := b1_some h
      refine V_callV (As := [.int v4, .int (0 : Int32)]) (pc := 18) C (mX1_rowAt _ er1) zm_X1_rowAt zi_X1_rowAt ml_RX1_58 z1_cW_1 rfl ⟨Nat.le_of_ble_eq_true rfl, Nat.le_of_ble_eq_true rfl⟩ rfl rfl (Nat.le_of_ble_eq_true rfl) dX1_rowOf_18 ?_
      show V K 21 [some (.ref 219), some (.int v1), some (.int v2), some (.int v3), some (.int v4)] [.int r1] S
      refine V_iload_n (pc := 21) C dX1_rowOf_21 rfl rfl ?_
      refine V_icmp_ne (tgt := 36) (pc := 22) C dX1_rowOf_22 (by decide) (fun hc => ?_) (fun hc => ?_)
      · have h := it_f hc h
        refine V_iinc (L' := [some (.ref 219), some (.int v1), some (.int v2), some (.int v3), some (.int (v4 + (1 : Int32)))]) (v := (v4 + (1 : Int32))) (pc := 36) C dX1_rowOf_36 rfl (congrArg (v4 + ·) kc_i_1) (by decide) rfl ?_
        refine V_goto (tgt := 5) (pc := 39) C dX1_rowOf_39 (by decide) ?_
        exact V_mask [true, true, true, true, true] (ih _ _ _ h hR)
      · have h := it_t hc h
        refine V_iload_n (pc := 25) C dX1_rowOf_25 rfl rfl ?_
        refine V_iload_n (pc := 26) C dX1_rowOf_26 rfl rfl ?_
        refine V_icmp_ne (tgt := 33) (pc := 27) C dX1_rowOf_27 (by decide) (fun hc => ?_) (fun hc => ?_)
        · have h := it_f hc h
          refine V_iinc (L' := [some (.ref 219), some (.int v1), some (.int v2), some (.int (v3 + (1 : Int32))), some (.int v4)]) (v := (v3 + (1 : Int32))) (pc := 33) C dX1_rowOf_33 rfl (congrArg (v3 + ·) kc_i_1) (by decide) rfl ?_
          refine V_iinc (L' := [some (.ref 219), some (.int v1), some (.int v2), some (.int (v3 + (1 : Int32))), some (.int (v4 + (1 : Int32)))]) (v := (v4 + (1 : Int32))) (pc := 36) C dX1_rowOf_36 rfl (congrArg (v4 + ·) kc_i_1) (by decide) rfl ?_
          refine V_goto (tgt := 5) (pc := 39) C dX1_rowOf_39 (by decide) ?_
          exact V_mask [true, true, true, true, true] (ih _ _ _ h hR)
        · have h := it_t hc h
          refine V_iload (pc := 30) C dX1_rowOf_30 rfl ?_
          cases h
          exact hR 32 _ ⟨_, rfl, rfl⟩ dX1_rowOf_32
set_option maxRecDepth 100000 in
theorem mX1_rowOf (l : Launch) {S : zM} {a1 : Int32} {a2 : Int32} {r : Int32}  (h : gX1_rowOf S a1 a2 = some r) : zMet l cW zS0 yX1_rowOf cX1_rowOf 5 (some .int) 1 22 [.ref 219, .int a1, .int a2] S (some (.int r)) S := by
  refine zmeth (by decide +kernel) (by rfl) (fun K hKl C hR => ?_)
  show V K 0 [some (.ref 219), some (.int a1), some (.int a2), none, none] [] S
  unfold gX1_rowOf at h
  refine V_iconst (pc := 0) C dX1_rowOf_0 kc_i_0 ?_
  refine V_istore_n (L' := [some (.ref 219), some (.int a1), some (.int a2), some (.int (0 : Int32)), none]) (pc := 1) C dX1_rowOf_1 rfl (by decide) rfl ?_
  refine V_iconst (pc := 2) C dX1_rowOf_2 kc_i_0 ?_
  refine V_istore (L' := [some (.ref 219), some (.int a1), some (.int a2), some (.int (0 : Int32)), some (.int (0 : Int32))]) (pc := 3) C dX1_rowOf_3 (by decide) rfl ?_
  exact V_mask [true, true, true, true, true] (mX1_rowOf_L5 C  FU _ _ _ h hR)
