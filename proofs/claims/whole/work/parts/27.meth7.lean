set_option maxRecDepth 100000 in
theorem mX12_thrown (l : Launch) {S : zM}  {r : Int32}  (h : gX12_thrown S = some r) : zMet l mW zS0 yX12_thrown cX12_thrown 1 (some .int) 0 0 [.ref 0] S (some (.int r)) S := by
  refine zmeth (by decide +kernel) (by rfl) (fun K hKl C hR => ?_)
  show V K 0 [some (.ref 0)] [] S
  unfold gX12_thrown at h
  refine V_aload_n (pc := 0) C dX12_thrown_0 rfl rfl ?_
  refine V_getI (pc := 1) C z1_mW_12 fl_RX12_103 (by decide) dX12_thrown_1 ?_
  cases h
  exact hR 4 _ ⟨_, rfl, rfl⟩ dX12_thrown_4
set_option maxRecDepth 100000 in
theorem mX12_good (l : Launch) {S : zM}  {S' : zM}  (h : gX12_good S = some S') : zMet l mW zS0 yX12_good cX12_good 1 (none) 0 0 [.ref 0] S none S' := by
  refine zmeth (by decide +kernel) (by rfl) (fun K hKl C hR => ?_)
  show V K 0 [some (.ref 0)] [] S
  unfold gX12_good at h
  refine V_aload_n (pc := 0) C dX12_good_0 rfl rfl ?_
  refine V_iconst (pc := 1) C dX12_good_1 kc_i_0 ?_
  refine V_putI (pc := 2) C z1_mW_12 fp_RX12_103 rfl rfl dX12_good_2 ?_
  refine V_aload_n (pc := 5) C dX12_good_5 rfl rfl ?_
  refine V_iconst (pc := 6) C dX12_good_6 kc_i_0 ?_
  refine V_putI (pc := 7) C z1_mW_12 fp_RX12_106 rfl rfl dX12_good_7 ?_
  cases h
  exact hR 10 _ rfl dX12_good_10
set_option maxRecDepth 100000 in
theorem mX12_no (l : Launch) {S : zM} {a1 : Int32} {r : Int32} {S' : zM}  (h : gX12_no S a1 = some (r, S')) : zMet l mW zS0 yX12_no cX12_no 2 (some .int) 0 0 [.ref 0, .int a1] S (some (.int r)) S' := by
  refine zmeth (by decide +kernel) (by rfl) (fun K hKl C hR => ?_)
  show V K 0 [some (.ref 0), some (.int a1)] [] S
  unfold gX12_no at h
  refine V_aload_n (pc := 0) C dX12_no_0 rfl rfl ?_
  refine V_iload_n (pc := 1) C dX12_no_1 rfl rfl ?_
  refine V_putI (pc := 2) C z1_mW_12 fp_RX12_106 rfl rfl dX12_no_2 ?_
  refine V_iconst (pc := 5) C dX12_no_5 kc_i_m1 ?_
  cases h
  exact hR 6 _ ⟨_, rfl, rfl⟩ dX12_no_6
set_option maxRecDepth 100000 in
theorem mX12_not (l : Launch) {S : zM} {a1 : Int32} {r : Int32} {S' : zM}  (h : gX12_not S a1 = some (r, S')) : zMet l mW zS0 yX12_not cX12_not 2 (some .int) 0 0 [.ref 0, .int a1] S (some (.int r)) S' := by
  refine zmeth (by decide +kernel) (by rfl) (fun K hKl C hR => ?_)
  show V K 0 [some (.ref 0), some (.int a1)] [] S
  unfold gX12_not at h
  refine V_aload_n (pc := 0) C dX12_not_0 rfl rfl ?_
  refine V_iload_n (pc := 1) C dX12_not_1 rfl rfl ?_
  refine V_putI (pc := 2) C z1_mW_12 fp_RX12_106 rfl rfl dX12_not_2 ?_
  refine V_sipush (pc := 5) C dX12_not_5 kc_s_m1000 ?_
  cases h
  exact hR 8 _ ⟨_, rfl, rfl⟩ dX12_not_8
set_option maxRecDepth 100000 in
theorem mX12_none (l : Launch) {S : zM} {a1 : Int32} {r : Int64} {S' : zM}  (h : gX12_none S a1 = some (r, S')) : zMet l mW zS0 yX12_none cX12_none 2 (some .long) 0 0 [.ref 0, .int a1] S (some (.long r)) S' := by
  refine zmeth (by decide +kernel) (by rfl) (fun K hKl C hR => ?_)
  show V K 0 [some (.ref 0), some (.int a1)] [] S
  unfold gX12_none at h
  refine V_aload_n (pc := 0) C dX12_none_0 rfl rfl ?_
  refine V_iload_n (pc := 1) C dX12_none_1 rfl rfl ?_
  refine V_putI (pc := 2) C z1_mW_12 fp_RX12_106 rfl rfl dX12_none_2 ?_
  refine V_ldc2 (pc := 5) C dX12_none_5 kl_RX12_109 ?_
  cases h
  exact hR 8 _ rfl dX12_none_8
set_option maxRecDepth 100000 in
theorem mX12_isNot (l : Launch) {S : zM} {a1 : Int32} {r : Int32} {S' : zM}  (h : gX12_isNot S a1 = some (r, S')) : zMet l mW zS0 yX12_isNot cX12_isNot 2 (some .boolean) 0 0 [.ref 0, .int a1] S (some (.int r)) S' := by
  refine zmeth (by decide +kernel) (by rfl) (fun K hKl C hR => ?_)
  show V K 0 [some (.ref 0), some (.int a1)] [] S
  unfold gX12_isNot at h
  refine V_aload_n (pc := 0) C dX12_isNot_0 rfl rfl ?_
  refine V_iload_n (pc := 1) C dX12_isNot_1 rfl rfl ?_
  refine V_putI (pc := 2) C z1_mW_12 fp_RX12_106 rfl rfl dX12_isNot_2 ?_
  refine V_iconst (pc := 5) C dX12_isNot_5 kc_i_0 ?_
  cases h
  exact hR 6 _ ⟨_, rfl, zB0⟩ dX12_isNot_6
set_option maxRecDepth 100000 in
theorem mX12_within (l : Launch) {S : zM} {a0 : Int32} {a1 : Int32} {a2 : Int32} {r : Int32}  (h : gX12_within a0 a1 a2 = some r) : zMet l mW zS0 yX12_within cX12_within 3 (some .boolean) 0 0 [.int a0, .int a1, .int a2] S (some (.int r)) S := by
  refine zmeth (by decide +kernel) (by rfl) (fun K hKl C hR => ?_)
  show V K 0 [some (.int a0), some (.int a1), some (.int a2)] [] S
  unfold gX12_within at h
  refine V_iload_n (pc := 0) C dX12_within_0 rfl rfl ?_
  refine V_iload_n (pc := 1) C dX12_within_1 rfl rfl ?_
  refine V_icmp_lt (tgt := 14) (pc := 2) C dX12_within_2 (by decide) (fun hc => ?_) (fun hc => ?_)
  · have h := it_t hc h
    refine V_iconst (pc := 14) C dX12_within_14 kc_i_0 ?_
    cases h
    exact hR 15 _ ⟨_, rfl, zB0⟩ dX12_within_15
  · have h := it_f hc h
    refine V_iload_n (pc := 5) C dX12_within_5 rfl rfl ?_
    refine V_iload_n (pc := 6) C dX12_within_6 rfl rfl ?_
    refine V_icmp_gt (tgt := 14) (pc := 7) C dX12_within_7 (by decide) (fun hc => ?_) (fun hc => ?_)
    · have h := it_t hc h
      refine V_iconst (pc := 14) C dX12_within_14 kc_i_0 ?_
      cases h
      exact hR 15 _ ⟨_, rfl, zB0⟩ dX12_within_15
    · have h := it_f hc h
      refine V_iconst (pc := 10) C dX12_within_10 kc_i_1 ?_
      refine V_goto (tgt := 15) (pc := 11) C dX12_within_11 (by decide) ?_
      cases h
      exact hR 15 _ ⟨_, rfl, zB1⟩ dX12_within_15
set_option maxRecDepth 100000 in
theorem mX12_feed_J76 {K : zK} (C : zC K cX12_feed yX12_feed.cls 8 0 0 mW) {S : zM} {v1 : Int32} {v2 : Int32} {v3 : Int32} {v4 : Int32} {v5 : Int32} {v6 : Int32} {s0 : Int32} {out : (Int32 × zM) ⊕ (Int32 × zM)}  (h : gX12_feed_J76 S v1 v2 v3 v4 v5 v6 s0 = some out) (hb : ∀ (b6 : Int32) (S' : zM), out = .inr (b6, S') → V K 23 [some (.ref 0), some (.int v1), some (.int v2), some (.int v3), some (.int v4), some (.int v5), some (.int b6), none] [] S') : V K 76 [some (.ref 0), some (.int v1), some (.int v2), some (.int v3), some (.int v4), some (.int v5), some (.int v6), none] [.int s0] S := by
  unfold gX12_feed_J76 at h
  refine V_istore (L' := [some (.ref 0), some (.int v1), some (.int v2), some (.int v3), some (.int v4), some (.int v5), some (.int v6), some (.int s0)]) (pc := 76) C dX12_feed_76 (by decide) rfl ?_
  refine V_aload_n (pc := 78) C dX12_feed_78 rfl rfl ?_
  refine V_getF (p1 := 1) (pc := 79) C z1_mW_12 fl_RX12_7 rfl (zf_mW_12_1 z1_mW_12) dX12_feed_79 ?_
  refine V_aload_n (pc := 82) C dX12_feed_82 rfl rfl ?_
  refine V_getI (pc := 83) C z1_mW_12 fl_RX12_111 (by decide) dX12_feed_83 ?_
  refine V_iload (pc := 86) C dX12_feed_86 rfl ?_
  refine V_bipush (pc := 88) C dX12_feed_88 kc_b_24 ?_
  refine V_bipush (pc := 90) C dX12_feed_90 kc_b_8 ?_
  refine V_iload (pc := 92) C dX12_feed_92 rfl ?_
  refine V_iconst (pc := 94) C dX12_feed_94 kc_i_4 ?_
  refine V_irem (pc := 95) C dX12_feed_95 (by decide) ?_
  refine V_imul (pc := 96) C dX12_feed_96 ?_
  refine V_isub (pc := 97) C dX12_feed_97 ?_
  refine V_ishr (pc := 98) C dX12_feed_98 ?_
  refine V_sipush (pc := 99) C dX12_feed_99 kc_s_255 ?_
  refine V_iand (pc := 102) C dX12_feed_102 ?_
  obtain ⟨k1, h⟩ := ck_some h
  refine V_iast (pc := 103) C (za_mW_12_1 z1_mW_12) k1 dX12_feed_103 ?_
  obtain ⟨S2, eS2, h⟩ := lt_some h
  refine V_nmS eS2 ?_
  refine V_aload_n (pc := 104) C dX12_feed_104 rfl rfl ?_
  refine V_dup (pc := 105) C dX12_feed_105 rfl ?_
  refine V_getI (pc := 106) C z1_mW_12 fl_RX12_111 (by decide) dX12_feed_106 ?_
  refine V_iconst (pc := 109) C dX12_feed_109 kc_i_1 ?_
  refine V_iadd (pc := 110) C dX12_feed_110 ?_
  refine V_putI (pc := 111) C z1_mW_12 fp_RX12_111 rfl rfl dX12_feed_111 ?_
  refine V_iinc (L' := [some (.ref 0), some (.int v1), some (.int v2), some (.int v3), some (.int v4), some (.int v5), some (.int (v6 + (1 : Int32))), some (.int s0)]) (v := (v6 + (1 : Int32))) (pc := 114) C dX12_feed_114 rfl (congrArg (v6 + ·) kc_i_1) (by decide) rfl ?_
  refine V_goto (tgt := 23) (pc := 117) C dX12_feed_117 (by decide) ?_
  cases h
  exact V_mask [true, true, true, true, true, true, true, false] (hb _ _ rfl)
set_option maxRecDepth 100000 in
theorem mX12_feed_L23 {K : zK} (C : zC K cX12_feed yX12_feed.cls 8 0 0 mW) {v1 : Int32} {v2 : Int32} {v3 : Int32} {v4 : Int32} {v5 : Int32}  : ∀ (f : Nat) (S : zM) (v6 : Int32) (r : Int32) (S' : zM), gX12_feed_L23 v1 v2 v3 v4 v5 f S v6 = some (r, S') → zR K cX12_feed (some .int) S' (some (.int r)) → V K 23 [some (.ref 0), some (.int v1), some (.int v2), some (.int v3), some (.int v4), some (.int v5), some (.int v6), none] [] S := by
  intro f
  induction f with
  | zero => intro S v6 r S' h hR; cases h
  | succ n ih =>
    intro S v6 r S' h hR
    unfold gX12_feed_L23 at h
    refine V_iload (pc := 23) C dX12_feed_23 rfl ?_
    refine V_bipush (pc := 25) C dX12_feed_25 kc_b_20 ?_
    refine V_icmp_ge (tgt := 120) (pc := 27) C dX12_feed_27 (by decide) (fun hc => ?_) (fun hc => ?_)
    · have h := it_t hc h
      refine V_aload_n (pc := 120) C dX12_feed_120 rfl rfl ?_
      refine V_getI (pc := 121) C z1_mW_12 fl_RX12_111 (by decide) dX12_feed_121 ?_
      cases h
      exact hR 124 _ ⟨_, rfl, rfl⟩ dX12_feed_124
    · have h := it_f hc h
      refine V_iload (pc := 30) C dX12_feed_30 rfl ?_
      refine V_iconst (pc := 32) C dX12_feed_32 kc_i_4 ?_
      refine V_icmp_ge (tgt := 40) (pc := 33) C dX12_feed_33 (by decide) (fun hc => ?_) (fun hc => ?_)
      · have h := it_t hc h
        refine V_iload (pc := 40) C dX12_feed_40 rfl ?_
        refine V_bipush (pc := 42) C dX12_feed_42 kc_b_8 ?_
        refine V_icmp_ge (tgt := 51) (pc := 44) C dX12_feed_44 (by decide) (fun hc => ?_) (fun hc => ?_)
        · have h := it_t hc h
          refine V_iload (pc := 51) C dX12_feed_51 rfl ?_
          refine V_bipush (pc := 53) C dX12_feed_53 kc_b_12 ?_
          refine V_icmp_ge (tgt := 62) (pc := 55) C dX12_feed_55 (by decide) (fun hc => ?_) (fun hc => ?_)
          · have h := it_t hc h
            refine V_iload (pc := 62) C dX12_feed_62 rfl ?_
            refine V_bipush (pc := 64) C dX12_feed_64 kc_b_16 ?_
            refine V_icmp_ge (tgt := 74) (pc := 66) C dX12_feed_66 (by decide) (fun hc => ?_) (fun hc => ?_)
            · have h := it_t hc h
              refine V_iload (pc := 74) C dX12_feed_74 rfl ?_
              obtain ⟨out', e76, hi, hb⟩ := lm_some h
              refine V_mask [true, true, true, true, true, true, true, false] (mX12_feed_J76 C  e76 ?_)
              · intro v6 S eo
                have h := hb _ eo
                exact ih _ _ _ _ h hR
            · have h := it_f hc h
              refine V_iload (pc := 69) C dX12_feed_69 rfl ?_
              refine V_goto (tgt := 76) (pc := 71) C dX12_feed_71 (by decide) ?_
              obtain ⟨out', e76, hi, hb⟩ := lm_some h
              refine V_mask [true, true, true, true, true, true, true, false] (mX12_feed_J76 C  e76 ?_)
              · intro v6 S eo
                have h := hb _ eo
                exact ih _ _ _ _ h hR
          · have h := it_f hc h
            refine V_iload_n (pc := 58) C dX12_feed_58 rfl rfl ?_
            refine V_goto (tgt := 76) (pc := 59) C dX12_feed_59 (by decide) ?_
            obtain ⟨out', e76, hi, hb⟩ := lm_some h
            refine V_mask [true, true, true, true, true, true, true, false] (mX12_feed_J76 C  e76 ?_)
            · intro v6 S eo
              have h := hb _ eo
              exact ih _ _ _ _ h hR
        · have h := it_f hc h
          refine V_iload_n (pc := 47) C dX12_feed_47 rfl rfl ?_
          refine V_goto (tgt := 76) (pc := 48) C dX12_feed_48 (by decide) ?_
          obtain ⟨out', e76, hi, hb⟩ := lm_some h
          refine V_mask [true, true, true, true, true, true, true, false] (mX12_feed_J76 C  e76 ?_)
          · intro v6 S eo
            have h := hb _ eo
            exact ih _ _ _ _ h hR
      · have h := it_f hc h
        refine V_iload_n (pc := 36) C dX12_feed_36 rfl rfl ?_
        refine V_goto (tgt := 76) (pc := 37) C dX12_feed_37 (by decide) ?_
        obtain ⟨out', e76, hi, hb⟩ := lm_some h
        refine V_mask [true, true, true, true, true, true, true, false] (mX12_feed_J76 C  e76 ?_)
        · intro v6 S eo
          have h := hb _ eo
          exact ih _ _ _ _ h hR
set_option maxRecDepth 100000 in
theorem mX12_feed (l : Launch) {S : zM} {a1 : Int32} {a2 : Int32} {a3 : Int32} {a4 : Int32} {a5 : Int32} {r : Int32} {S' : zM}  (h : gX12_feed S a1 a2 a3 a4 a5 = some (r, S')) : zMet l mW zS0 yX12_feed cX12_feed 8 (some .int) 0 0 [.ref 0, .int a1, .int a2, .int a3, .int a4, .int a5] S (some (.int r)) S' := by
  refine zmeth (by decide +kernel) (by rfl) (fun K hKl C hR => ?_)
  show V K 0 [some (.ref 0), some (.int a1), some (.int a2), some (.int a3), some (.int a4), some (.int a5), none, none] [] S
  unfold gX12_feed at h
  refine V_aload_n (pc := 0) C dX12_feed_0 rfl rfl ?_
  refine V_iconst (pc := 1) C dX12_feed_1 kc_i_0 ?_
  refine V_putI (pc := 2) C z1_mW_12 fp_RX12_103 rfl rfl dX12_feed_2 ?_
  refine V_aload_n (pc := 5) C dX12_feed_5 rfl rfl ?_
  refine V_getI (pc := 6) C z1_mW_12 fl_RX12_111 (by decide) dX12_feed_6 ?_
  refine V_bipush (pc := 9) C dX12_feed_9 kc_b_20 ?_
  refine V_iadd (pc := 11) C dX12_feed_11 ?_
  refine V_sipush (pc := 12) C dX12_feed_12 kc_s_700 ?_
  refine V_icmp_le (tgt := 20) (pc := 15) C dX12_feed_15 (by decide) (fun hc => ?_) (fun hc => ?_)
  · have h := it_t hc h
    refine V_iconst (pc := 20) C dX12_feed_20 kc_i_0 ?_
    refine V_istore (L' := [some (.ref 0), some (.int a1), some (.int a2), some (.int a3), some (.int a4), some (.int a5), some (.int (0 : Int32)), none]) (pc := 21) C dX12_feed_21 (by decide) rfl ?_
    exact V_mask [true, true, true, true, true, true, true, false] (mX12_feed_L23 C  FU _ _ _ _ h hR)
  · have h := it_f hc h
    refine V_iconst (pc := 18) C dX12_feed_18 kc_i_m1 ?_
    cases h
    exact hR 19 _ ⟨_, rfl, rfl⟩ dX12_feed_19
set_option maxRecDepth 100000 in
theorem mX12_look (l : Launch) {S : zM} {a1 : Int32} {r : Int32}  (h : gX12_look S a1 = some r) : zMet l mW zS0 yX12_look cX12_look 2 (some .int) 0 0 [.ref 0, .int a1] S (some (.int r)) S := by
  refine zmeth (by decide +kernel) (by rfl) (fun K hKl C hR => ?_)
  show V K 0 [some (.ref 0), some (.int a1)] [] S
  unfold gX12_look at h
  refine V_iload_n (pc := 0) C dX12_look_0 rfl rfl ?_
  refine V_aload_n (pc := 1) C dX12_look_1 rfl rfl ?_
  refine V_getI (pc := 2) C z1_mW_12 fl_RX12_114 (by decide) dX12_look_2 ?_
  refine V_icmp_ge (tgt := 17) (pc := 5) C dX12_look_5 (by decide) (fun hc => ?_) (fun hc => ?_)
  · have h := it_t hc h
    refine V_iconst (pc := 17) C dX12_look_17 kc_i_m1 ?_
    cases h
    exact hR 18 _ ⟨_, rfl, rfl⟩ dX12_look_18
  · have h := it_f hc h
    refine V_aload_n (pc := 8) C dX12_look_8 rfl rfl ?_
    refine V_getF (p1 := 1) (pc := 9) C z1_mW_12 fl_RX12_7 rfl (zf_mW_12_1 z1_mW_12) dX12_look_9 ?_
    refine V_iload_n (pc := 12) C dX12_look_12 rfl rfl ?_
    obtain ⟨k1, h⟩ := ck_some h
    refine V_iald (pc := 13) C (za_mW_12_1 z1_mW_12) k1 dX12_look_13 ?_
    refine V_goto (tgt := 18) (pc := 14) C dX12_look_14 (by decide) ?_
    cases h
    exact hR 18 _ ⟨_, rfl, rfl⟩ dX12_look_18
set_option maxRecDepth 100000 in
theorem mX12_isSmall (l : Launch) {S : zM} {a0 : Int32} {r : Int32}  (h : gX12_isSmall a0 = some r) : zMet l mW zS0 yX12_isSmall cX12_isSmall 1 (some .boolean) 0 0 [.int a0] S (some (.int r)) S := by
  refine zmeth (by decide +kernel) (by rfl) (fun K hKl C hR => ?_)
  show V K 0 [some (.int a0)] [] S
  unfold gX12_isSmall at h
  refine V_iload_n (pc := 0) C dX12_isSmall_0 rfl rfl ?_
  refine V_bipush (pc := 1) C dX12_isSmall_1 kc_b_97 ?_
  refine V_icmp_lt (tgt := 16) (pc := 3) C dX12_isSmall_3 (by decide) (fun hc => ?_) (fun hc => ?_)
  · have h := it_t hc h
    refine V_iconst (pc := 16) C dX12_isSmall_16 kc_i_0 ?_
    cases h
    exact hR 17 _ ⟨_, rfl, zB0⟩ dX12_isSmall_17
  · have h := it_f hc h
    refine V_iload_n (pc := 6) C dX12_isSmall_6 rfl rfl ?_
    refine V_bipush (pc := 7) C dX12_isSmall_7 kc_b_122 ?_
    refine V_icmp_gt (tgt := 16) (pc := 9) C dX12_isSmall_9 (by decide) (fun hc => ?_) (fun hc => ?_)
    · have h := it_t hc h
      refine V_iconst (pc := 16) C dX12_isSmall_16 kc_i_0 ?_
      cases h
      exact hR 17 _ ⟨_, rfl, zB0⟩ dX12_isSmall_17
    · have h := it_f hc h
      refine V_iconst (pc := 12) C dX12_isSmall_12 kc_i_1 ?_
      refine V_goto (tgt := 17) (pc := 13) C dX12_isSmall_13 (by decide) ?_
      cases h
      exact hR 17 _ ⟨_, rfl, zB1⟩ dX12_isSmall_17
set_option maxRecDepth 100000 in
theorem mX12_isDigit (l : Launch) {S : zM} {a0 : Int32} {r : Int32}  (h : gX12_isDigit a0 = some r) : zMet l mW zS0 yX12_isDigit cX12_isDigit 1 (some .boolean) 0 0 [.int a0] S (some (.int r)) S := by
  refine zmeth (by decide +kernel) (by rfl) (fun K hKl C hR => ?_)
  show V K 0 [some (.int a0)] [] S
  unfold gX12_isDigit at h
  refine V_iload_n (pc := 0) C dX12_isDigit_0 rfl rfl ?_
  refine V_bipush (pc := 1) C dX12_isDigit_1 kc_b_48 ?_
  refine V_icmp_lt (tgt := 16) (pc := 3) C dX12_isDigit_3 (by decide) (fun hc => ?_) (fun hc => ?_)
  · have h := it_t hc h
    refine V_iconst (pc := 16) C dX12_isDigit_16 kc_i_0 ?_
    cases h
    exact hR 17 _ ⟨_, rfl, zB0⟩ dX12_isDigit_17
  · have h := it_f hc h
    refine V_iload_n (pc := 6) C dX12_isDigit_6 rfl rfl ?_
    refine V_bipush (pc := 7) C dX12_isDigit_7 kc_b_57 ?_
    refine V_icmp_gt (tgt := 16) (pc := 9) C dX12_isDigit_9 (by decide) (fun hc => ?_) (fun hc => ?_)
    · have h := it_t hc h
      refine V_iconst (pc := 16) C dX12_isDigit_16 kc_i_0 ?_
      cases h
      exact hR 17 _ ⟨_, rfl, zB0⟩ dX12_isDigit_17
    · have h := it_f hc h
      refine V_iconst (pc := 12) C dX12_isDigit_12 kc_i_1 ?_
      refine V_goto (tgt := 17) (pc := 13) C dX12_isDigit_13 (by decide) ?_
      cases h
      exact hR 17 _ ⟨_, rfl, zB1⟩ dX12_isDigit_17
set_option maxRecDepth 100000 in
theorem mX12_next_L5 {K : zK} (C : zC K cX12_next yX12_next.cls 4 1 21 mW) {S : zM}   : ∀ (f : Nat) (v1 : Int32) (o1 : Int32), gX12_next_L5 S f v1 = some o1 → V K 21 [some (.ref 0), some (.int o1), none, none] [] S → V K 5 [some (.ref 0), some (.int v1), none, none] [] S := by
  intro f
  induction f with
  | zero => intro v1 o1 h hx; cases h
  | succ n ih =>
    intro v1 o1 h hx
    unfold gX12_next_L5 at h
    refine V_aload_n (pc := 5) C dX12_next_5 rfl rfl ?_
    refine V_iload_n (pc := 6) C dX12_next_6 rfl rfl ?_
    obtain ⟨r1, er1, h⟩ := b1_some h
    refine V_callV (As := [.int v1]) (pc := 7) C (mX12_look _ er1) zm_X12_look zi_X12_look ml_RX12_120 z1_mW_12 rfl ⟨Nat.le_of_ble_eq_true rfl, Nat.le_of_ble_eq_true rfl⟩ rfl rfl (Nat.le_of_ble_eq_true rfl) dX12_next_7 ?_
    show V K 10 [some (.ref 0), some (.int v1), none, none] [.int r1] S
    refine V_bipush (pc := 10) C dX12_next_10 kc_b_32 ?_
    refine V_icmp_ne (tgt := 21) (pc := 12) C dX12_next_12 (by decide) (fun hc => ?_) (fun hc => ?_)
    · have h := it_f hc h
      cases h
      exact V_mask [true, true, false, false] hx
    · have h := it_t hc h
      refine V_iinc (L' := [some (.ref 0), some (.int (v1 + (1 : Int32))), none, none]) (v := (v1 + (1 : Int32))) (pc := 15) C dX12_next_15 rfl (congrArg (v1 + ·) kc_i_1) (by decide) rfl ?_
      refine V_goto (tgt := 5) (pc := 18) C dX12_next_18 (by decide) ?_
      exact V_mask [true, true, false, false] (ih _ _ h hx)
set_option maxRecDepth 100000 in
theorem mX12_next_L152 {K : zK} (C : zC K cX12_next yX12_next.cls 4 1 21 mW)   : ∀ (f : Nat) (S : zM) (v1 : Int32) (v3 : Int32) (S' : zM), gX12_next_L152 f S v1 v3 = some S' → zR K cX12_next (none) S' none → V K 152 [some (.ref 0), some (.int v1), none, some (.int v3)] [] S := by
  intro f
  induction f with
  | zero => intro S v1 v3 S' h hR; cases h
  | succ n ih =>
    intro S v1 v3 S' h hR
    unfold gX12_next_L152 at h
    refine V_aload_n (pc := 152) C dX12_next_152 rfl rfl ?_
    refine V_iload_n (pc := 153) C dX12_next_153 rfl rfl ?_
    obtain ⟨r10, er10, h⟩ := b1_some h
    refine V_callV (As := [.int v1]) (pc := 154) C (mX12_look _ er10) zm_X12_look zi_X12_look ml_RX12_120 z1_mW_12 rfl ⟨Nat.le_of_ble_eq_true rfl, Nat.le_of_ble_eq_true rfl⟩ rfl rfl (Nat.le_of_ble_eq_true rfl) dX12_next_154 ?_
    show V K 157 [some (.ref 0), some (.int v1), none, some (.int v3)] [.int r10] S
    obtain ⟨r11, er11, h⟩ := b1_some h
    refine V_callS (As := [.int r10]) (pc := 157) C (mX12_isDigit _ er11) zm_X12_isDigit zs_X12_isDigit ml_RX12_140 ⟨Nat.le_of_ble_eq_true rfl, Nat.le_of_ble_eq_true rfl⟩ rfl rfl (Nat.le_of_ble_eq_true rfl) dX12_next_157 ?_
    show V K 160 [some (.ref 0), some (.int v1), none, some (.int v3)] [.int r11] S
    refine V_if_eq (tgt := 197) (pc := 160) C dX12_next_160 (by decide) (fun hc => ?_) (fun hc => ?_)
    · have h := it_t hc h
      refine V_aload_n (pc := 197) C dX12_next_197 rfl rfl ?_
      refine V_iload_n (pc := 198) C dX12_next_198 rfl rfl ?_
      refine V_putI (pc := 199) C z1_mW_12 fp_RX12_117 rfl rfl dX12_next_199 ?_
      refine V_aload_n (pc := 202) C dX12_next_202 rfl rfl ?_
      refine V_iload_n (pc := 203) C dX12_next_203 rfl rfl ?_
      refine V_iconst (pc := 204) C dX12_next_204 kc_i_3 ?_
      refine V_icmp_le (tgt := 212) (pc := 205) C dX12_next_205 (by decide) (fun hc => ?_) (fun hc => ?_)
      · have h := it_t hc h
        refine V_iconst (pc := 212) C dX12_next_212 kc_i_3 ?_
        refine V_putI (pc := 213) C z1_mW_12 fp_RX12_133 rfl rfl dX12_next_213 ?_
        refine V_goto (tgt := 253) (pc := 216) C dX12_next_216 (by decide) ?_
        cases h
        exact hR 253 _ rfl dX12_next_253
      · have h := it_f hc h
        refine V_iconst (pc := 208) C dX12_next_208 kc_i_1 ?_
        refine V_goto (tgt := 213) (pc := 209) C dX12_next_209 (by decide) ?_
        refine V_putI (pc := 213) C z1_mW_12 fp_RX12_133 rfl rfl dX12_next_213 ?_
        refine V_goto (tgt := 253) (pc := 216) C dX12_next_216 (by decide) ?_
        cases h
        exact hR 253 _ rfl dX12_next_253
    · have h := it_f hc h
      refine V_iload_n (pc := 163) C dX12_next_163 rfl rfl ?_
      refine V_iconst (pc := 164) C dX12_next_164 kc_i_3 ?_
      refine V_icmp_ge (tgt := 188) (pc := 165) C dX12_next_165 (by decide) (fun hc => ?_) (fun hc => ?_)
      · have h := it_t hc h
        refine V_iinc (L' := [some (.ref 0), some (.int v1), none, some (.int (v3 + (1 : Int32)))]) (v := (v3 + (1 : Int32))) (pc := 188) C dX12_next_188 rfl (congrArg (v3 + ·) kc_i_1) (by decide) rfl ?_
        refine V_iinc (L' := [some (.ref 0), some (.int (v1 + (1 : Int32))), none, some (.int (v3 + (1 : Int32)))]) (v := (v1 + (1 : Int32))) (pc := 191) C dX12_next_191 rfl (congrArg (v1 + ·) kc_i_1) (by decide) rfl ?_
        refine V_goto (tgt := 152) (pc := 194) C dX12_next_194 (by decide) ?_
        exact V_mask [true, true, false, true] (ih _ _ _ _ h hR)
      · have h := it_f hc h
        refine V_aload_n (pc := 168) C dX12_next_168 rfl rfl ?_
        refine V_bipush (pc := 169) C dX12_next_169 kc_b_10 ?_
        refine V_aload_n (pc := 171) C dX12_next_171 rfl rfl ?_
        refine V_getI (pc := 172) C z1_mW_12 fl_RX12_130 (by decide) dX12_next_172 ?_
        refine V_imul (pc := 175) C dX12_next_175 ?_
        refine V_aload_n (pc := 176) C dX12_next_176 rfl rfl ?_
        refine V_iload_n (pc := 177) C dX12_next_177 rfl rfl ?_
        obtain ⟨r12, er12, h⟩ := b1_some h
        refine V_callV (As := [.int v1]) (pc := 178) C (mX12_look _ er12) zm_X12_look zi_X12_look ml_RX12_120 z1_mW_12 rfl ⟨Nat.le_of_ble_eq_true rfl, Nat.le_of_ble_eq_true rfl⟩ rfl rfl (Nat.le_of_ble_eq_true rfl) dX12_next_178 ?_
        show V K 181 [some (.ref 0), some (.int v1), none, some (.int v3)] [.int r12, .int ((10 : Int32) * (gI S 0 7)), .ref 0] S
        refine V_iadd (pc := 181) C dX12_next_181 ?_
        refine V_bipush (pc := 182) C dX12_next_182 kc_b_48 ?_
        refine V_isub (pc := 184) C dX12_next_184 ?_
        refine V_putI (pc := 185) C z1_mW_12 fp_RX12_130 rfl rfl dX12_next_185 ?_
        refine V_iinc (L' := [some (.ref 0), some (.int v1), none, some (.int (v3 + (1 : Int32)))]) (v := (v3 + (1 : Int32))) (pc := 188) C dX12_next_188 rfl (congrArg (v3 + ·) kc_i_1) (by decide) rfl ?_
        refine V_iinc (L' := [some (.ref 0), some (.int (v1 + (1 : Int32))), none, some (.int (v3 + (1 : Int32)))]) (v := (v1 + (1 : Int32))) (pc := 191) C dX12_next_191 rfl (congrArg (v1 + ·) kc_i_1) (by decide) rfl ?_
        refine V_goto (tgt := 152) (pc := 194) C dX12_next_194 (by decide) ?_
        exact V_mask [true, true, false, true] (ih _ _ _ _ h hR)
set_option maxRecDepth 100000 in
theorem mX12_next_L67 {K : zK} (C : zC K cX12_next yX12_next.cls 4 1 21 mW)   : ∀ (f : Nat) (S : zM) (v1 : Int32) (S' : zM), gX12_next_L67 f S v1 = some S' → zR K cX12_next (none) S' none → V K 67 [some (.ref 0), some (.int v1), none, none] [] S := by
  intro f
  induction f with
  | zero => intro S v1 S' h hR; cases h
  | succ n ih =>
    intro S v1 S' h hR
    unfold gX12_next_L67 at h
    refine V_aload_n (pc := 67) C dX12_next_67 rfl rfl ?_
    refine V_iload_n (pc := 68) C dX12_next_68 rfl rfl ?_
    obtain ⟨r13, er13, h⟩ := b1_some h
    refine V_callV (As := [.int v1]) (pc := 69) C (mX12_look _ er13) zm_X12_look zi_X12_look ml_RX12_120 z1_mW_12 rfl ⟨Nat.le_of_ble_eq_true rfl, Nat.le_of_ble_eq_true rfl⟩ rfl rfl (Nat.le_of_ble_eq_true rfl) dX12_next_69 ?_
    show V K 72 [some (.ref 0), some (.int v1), none, none] [.int r13] S
    obtain ⟨r14, er14, h⟩ := b1_some h
    refine V_callS (As := [.int r13]) (pc := 72) C (mX12_isSmall _ er14) zm_X12_isSmall zs_X12_isSmall ml_RX12_136 ⟨Nat.le_of_ble_eq_true rfl, Nat.le_of_ble_eq_true rfl⟩ rfl rfl (Nat.le_of_ble_eq_true rfl) dX12_next_72 ?_
    show V K 75 [some (.ref 0), some (.int v1), none, none] [.int r14] S
    refine V_if_eq (tgt := 117) (pc := 75) C dX12_next_75 (by decide) (fun hc => ?_) (fun hc => ?_)
    · have h := it_t hc h
      refine V_aload_n (pc := 117) C dX12_next_117 rfl rfl ?_
      refine V_iload_n (pc := 118) C dX12_next_118 rfl rfl ?_
      refine V_putI (pc := 119) C z1_mW_12 fp_RX12_117 rfl rfl dX12_next_119 ?_
      refine V_aload_n (pc := 122) C dX12_next_122 rfl rfl ?_
      refine V_aload_n (pc := 123) C dX12_next_123 rfl rfl ?_
      refine V_getI (pc := 124) C z1_mW_12 fl_RX12_127 (by decide) dX12_next_124 ?_
      refine V_bipush (pc := 127) C dX12_next_127 kc_b_8 ?_
      refine V_icmp_le (tgt := 136) (pc := 129) C dX12_next_129 (by decide) (fun hc => ?_) (fun hc => ?_)
      · have h := it_t hc h
        refine V_iconst (pc := 136) C dX12_next_136 kc_i_2 ?_
        refine V_putI (pc := 137) C z1_mW_12 fp_RX12_133 rfl rfl dX12_next_137 ?_
        refine V_goto (tgt := 253) (pc := 140) C dX12_next_140 (by decide) ?_
        cases h
        exact hR 253 _ rfl dX12_next_253
      · have h := it_f hc h
        refine V_iconst (pc := 132) C dX12_next_132 kc_i_1 ?_
        refine V_goto (tgt := 137) (pc := 133) C dX12_next_133 (by decide) ?_
        refine V_putI (pc := 137) C z1_mW_12 fp_RX12_133 rfl rfl dX12_next_137 ?_
        refine V_goto (tgt := 253) (pc := 140) C dX12_next_140 (by decide) ?_
        cases h
        exact hR 253 _ rfl dX12_next_253
    · have h := it_f hc h
      refine V_aload_n (pc := 78) C dX12_next_78 rfl rfl ?_
      refine V_getI (pc := 79) C z1_mW_12 fl_RX12_127 (by decide) dX12_next_79 ?_
      refine V_bipush (pc := 82) C dX12_next_82 kc_b_8 ?_
      refine V_icmp_ge (tgt := 101) (pc := 84) C dX12_next_84 (by decide) (fun hc => ?_) (fun hc => ?_)
      · have h := it_t hc h
        refine V_aload_n (pc := 101) C dX12_next_101 rfl rfl ?_
        refine V_dup (pc := 102) C dX12_next_102 rfl ?_
        refine V_getI (pc := 103) C z1_mW_12 fl_RX12_127 (by decide) dX12_next_103 ?_
        refine V_iconst (pc := 106) C dX12_next_106 kc_i_1 ?_
        refine V_iadd (pc := 107) C dX12_next_107 ?_
        refine V_putI (pc := 108) C z1_mW_12 fp_RX12_127 rfl rfl dX12_next_108 ?_
        refine V_iinc (L' := [some (.ref 0), some (.int (v1 + (1 : Int32))), none, none]) (v := (v1 + (1 : Int32))) (pc := 111) C dX12_next_111 rfl (congrArg (v1 + ·) kc_i_1) (by decide) rfl ?_
        refine V_goto (tgt := 67) (pc := 114) C dX12_next_114 (by decide) ?_
        exact V_mask [true, true, false, false] (ih _ _ _ h hR)
      · have h := it_f hc h
        refine V_aload_n (pc := 87) C dX12_next_87 rfl rfl ?_
        refine V_getF (p1 := 2) (pc := 88) C z1_mW_12 fl_RX12_17 rfl (zf_mW_12_12 z1_mW_12) dX12_next_88 ?_
        refine V_aload_n (pc := 91) C dX12_next_91 rfl rfl ?_
        refine V_getI (pc := 92) C z1_mW_12 fl_RX12_127 (by decide) dX12_next_92 ?_
        refine V_aload_n (pc := 95) C dX12_next_95 rfl rfl ?_
        refine V_iload_n (pc := 96) C dX12_next_96 rfl rfl ?_
        obtain ⟨r15, er15, h⟩ := b1_some h
        refine V_callV (As := [.int v1]) (pc := 97) C (mX12_look _ er15) zm_X12_look zi_X12_look ml_RX12_120 z1_mW_12 rfl ⟨Nat.le_of_ble_eq_true rfl, Nat.le_of_ble_eq_true rfl⟩ rfl rfl (Nat.le_of_ble_eq_true rfl) dX12_next_97 ?_
        show V K 100 [some (.ref 0), some (.int v1), none, none] [.int r15, .int (gI S 0 8), .ref 2] S
        obtain ⟨k16, h⟩ := ck_some h
        refine V_iast (pc := 100) C (za_mW_12_12 z1_mW_12) k16 dX12_next_100 ?_
        refine V_aload_n (pc := 101) C dX12_next_101 rfl rfl ?_
        refine V_dup (pc := 102) C dX12_next_102 rfl ?_
        refine V_getI (pc := 103) C z1_mW_12 fl_RX12_127 (by decide) dX12_next_103 ?_
        refine V_iconst (pc := 106) C dX12_next_106 kc_i_1 ?_
        refine V_iadd (pc := 107) C dX12_next_107 ?_
        refine V_putI (pc := 108) C z1_mW_12 fp_RX12_127 rfl rfl dX12_next_108 ?_
        obtain ⟨S17, eS17, h⟩ := lt_some h
        refine V_nmS eS17 ?_
        refine V_iinc (L' := [some (.ref 0), some (.int (v1 + (1 : Int32))), none, none]) (v := (v1 + (1 : Int32))) (pc := 111) C dX12_next_111 rfl (congrArg (v1 + ·) kc_i_1) (by decide) rfl ?_
        refine V_goto (tgt := 67) (pc := 114) C dX12_next_114 (by decide) ?_
        exact V_mask [true, true, false, false] (ih _ _ _ h hR)
set_option maxRecDepth 100000 in
theorem mX12_next (l : Launch) {S : zM}  {S' : zM}  (h : gX12_next S = some S') : zMet l mW zS0 yX12_next cX12_next 4 (none) 1 21 [.ref 0] S none S' := by
  refine zmeth (by decide +kernel) (by rfl) (fun K hKl C hR => ?_)
  show V K 0 [some (.ref 0), none, none, none] [] S
  unfold gX12_next at h
  refine V_aload_n (pc := 0) C dX12_next_0 rfl rfl ?_
  refine V_getI (pc := 1) C z1_mW_12 fl_RX12_117 (by decide) dX12_next_1 ?_
  refine V_istore_n (L' := [some (.ref 0), some (.int (gI S 0 5)), none, none]) (pc := 4) C dX12_next_4 rfl (by decide) rfl ?_
  obtain ⟨w2, e5, h⟩ := b1_some h
  refine V_mask [true, true, false, false] (mX12_next_L5 C  FU _ _ e5 ?_)
  refine V_aload_n (pc := 21) C dX12_next_21 rfl rfl ?_
  refine V_iload_n (pc := 22) C dX12_next_22 rfl rfl ?_
  refine V_putI (pc := 23) C z1_mW_12 fp_RX12_124 rfl rfl dX12_next_23 ?_
  refine V_aload_n (pc := 26) C dX12_next_26 rfl rfl ?_
  refine V_iload_n (pc := 27) C dX12_next_27 rfl rfl ?_
  obtain ⟨r3, er3, h⟩ := b1_some h
  refine V_callV (As := [.int w2]) (pc := 28) C (mX12_look _ er3) zm_X12_look zi_X12_look ml_RX12_120 z1_mW_12 rfl ⟨Nat.le_of_ble_eq_true rfl, Nat.le_of_ble_eq_true rfl⟩ rfl rfl (Nat.le_of_ble_eq_true rfl) dX12_next_28 ?_
  show V K 31 [some (.ref 0), some (.int w2), none, none] [.int r3] (pI S 0 4 w2)
  refine V_istore_n (L' := [some (.ref 0), some (.int w2), some (.int r3), none]) (pc := 31) C dX12_next_31 rfl (by decide) rfl ?_
  refine V_aload_n (pc := 32) C dX12_next_32 rfl rfl ?_
  refine V_iconst (pc := 33) C dX12_next_33 kc_i_0 ?_
  refine V_putI (pc := 34) C z1_mW_12 fp_RX12_127 rfl rfl dX12_next_34 ?_
  refine V_aload_n (pc := 37) C dX12_next_37 rfl rfl ?_
  refine V_iconst (pc := 38) C dX12_next_38 kc_i_0 ?_
  refine V_putI (pc := 39) C z1_mW_12 fp_RX12_130 rfl rfl dX12_next_39 ?_
  refine V_iload_n (pc := 42) C dX12_next_42 rfl rfl ?_
  refine V_iconst (pc := 43) C dX12_next_43 kc_i_m1 ?_
  refine V_icmp_ne (tgt := 60) (pc := 44) C dX12_next_44 (by decide) (fun hc => ?_) (fun hc => ?_)
  · have h := it_f hc h
    refine V_iload_n (pc := 60) C dX12_next_60 rfl rfl ?_
    obtain ⟨r4, er4, h⟩ := b1_some h
    refine V_callS (As := [.int r3]) (pc := 61) C (mX12_isSmall _ er4) zm_X12_isSmall zs_X12_isSmall ml_RX12_136 ⟨Nat.le_of_ble_eq_true rfl, Nat.le_of_ble_eq_true rfl⟩ rfl rfl (Nat.le_of_ble_eq_true rfl) dX12_next_61 ?_
    show V K 64 [some (.ref 0), some (.int w2), some (.int r3), none] [.int r4] (pI (pI (pI S 0 4 w2) 0 8 (0 : Int32)) 0 7 (0 : Int32))
    refine V_if_eq (tgt := 143) (pc := 64) C dX12_next_64 (by decide) (fun hc => ?_) (fun hc => ?_)
    · have h := it_t hc h
      refine V_iload_n (pc := 143) C dX12_next_143 rfl rfl ?_
      obtain ⟨r5, er5, h⟩ := b1_some h
      refine V_callS (As := [.int r3]) (pc := 144) C (mX12_isDigit _ er5) zm_X12_isDigit zs_X12_isDigit ml_RX12_140 ⟨Nat.le_of_ble_eq_true rfl, Nat.le_of_ble_eq_true rfl⟩ rfl rfl (Nat.le_of_ble_eq_true rfl) dX12_next_144 ?_
      show V K 147 [some (.ref 0), some (.int w2), some (.int r3), none] [.int r5] (pI (pI (pI S 0 4 w2) 0 8 (0 : Int32)) 0 7 (0 : Int32))
      refine V_if_eq (tgt := 219) (pc := 147) C dX12_next_147 (by decide) (fun hc => ?_) (fun hc => ?_)
      · have h := it_t hc h
        refine V_aload_n (pc := 219) C dX12_next_219 rfl rfl ?_
        refine V_iload_n (pc := 220) C dX12_next_220 rfl rfl ?_
        refine V_iconst (pc := 221) C dX12_next_221 kc_i_1 ?_
        refine V_iadd (pc := 222) C dX12_next_222 ?_
        refine V_putI (pc := 223) C z1_mW_12 fp_RX12_117 rfl rfl dX12_next_223 ?_
        refine V_aload_n (pc := 226) C dX12_next_226 rfl rfl ?_
        refine V_iload_n (pc := 227) C dX12_next_227 rfl rfl ?_
        refine V_bipush (pc := 228) C dX12_next_228 kc_b_59 ?_
        refine V_icmp_eq (tgt := 245) (pc := 230) C dX12_next_230 (by decide) (fun hc => ?_) (fun hc => ?_)
        · have h := it_t hc h
          refine V_iload_n (pc := 245) C dX12_next_245 rfl rfl ?_
          refine V_goto (tgt := 250) (pc := 246) C dX12_next_246 (by decide) ?_
          refine V_putI (pc := 250) C z1_mW_12 fp_RX12_133 rfl rfl dX12_next_250 ?_
          obtain ⟨S6, eS6, h⟩ := lt_some h
          refine V_nmS eS6 ?_
          cases h
          exact hR 253 _ rfl dX12_next_253
        · have h := it_f hc h
          refine V_iload_n (pc := 233) C dX12_next_233 rfl rfl ?_
          refine V_bipush (pc := 234) C dX12_next_234 kc_b_44 ?_
          refine V_icmp_eq (tgt := 245) (pc := 236) C dX12_next_236 (by decide) (fun hc => ?_) (fun hc => ?_)
          · have h := it_t hc h
            refine V_iload_n (pc := 245) C dX12_next_245 rfl rfl ?_
            refine V_goto (tgt := 250) (pc := 246) C dX12_next_246 (by decide) ?_
            refine V_putI (pc := 250) C z1_mW_12 fp_RX12_133 rfl rfl dX12_next_250 ?_
            obtain ⟨S7, eS7, h⟩ := lt_some h
            refine V_nmS eS7 ?_
            cases h
            exact hR 253 _ rfl dX12_next_253
          · have h := it_f hc h
            refine V_iload_n (pc := 239) C dX12_next_239 rfl rfl ?_
            refine V_bipush (pc := 240) C dX12_next_240 kc_b_47 ?_
            refine V_icmp_ne (tgt := 249) (pc := 242) C dX12_next_242 (by decide) (fun hc => ?_) (fun hc => ?_)
            · have h := it_f hc h
              refine V_iconst (pc := 249) C dX12_next_249 kc_i_1 ?_
              refine V_putI (pc := 250) C z1_mW_12 fp_RX12_133 rfl rfl dX12_next_250 ?_
              obtain ⟨S8, eS8, h⟩ := lt_some h
              refine V_nmS eS8 ?_
              cases h
              exact hR 253 _ rfl dX12_next_253
            · have h := it_t hc h
              refine V_iload_n (pc := 245) C dX12_next_245 rfl rfl ?_
              refine V_goto (tgt := 250) (pc := 246) C dX12_next_246 (by decide) ?_
              refine V_putI (pc := 250) C z1_mW_12 fp_RX12_133 rfl rfl dX12_next_250 ?_
              obtain ⟨S9, eS9, h⟩ := lt_some h
              refine V_nmS eS9 ?_
              cases h
              exact hR 253 _ rfl dX12_next_253
      · have h := it_f hc h
        refine V_iconst (pc := 150) C dX12_next_150 kc_i_0 ?_
        refine V_istore_n (L' := [some (.ref 0), some (.int w2), some (.int r3), some (.int (0 : Int32))]) (pc := 151) C dX12_next_151 rfl (by decide) rfl ?_
        exact V_mask [true, true, false, true] (mX12_next_L152 C  FU _ _ _ _ h hR)
    · have h := it_f hc h
      exact V_mask [true, true, false, false] (mX12_next_L67 C  FU _ _ _ h hR)
  · have h := it_t hc h
    refine V_aload_n (pc := 47) C dX12_next_47 rfl rfl ?_
    refine V_iconst (pc := 48) C dX12_next_48 kc_i_0 ?_
    refine V_putI (pc := 49) C z1_mW_12 fp_RX12_133 rfl rfl dX12_next_49 ?_
    refine V_aload_n (pc := 52) C dX12_next_52 rfl rfl ?_
    refine V_iload_n (pc := 53) C dX12_next_53 rfl rfl ?_
    refine V_putI (pc := 54) C z1_mW_12 fp_RX12_117 rfl rfl dX12_next_54 ?_
    refine V_goto (tgt := 253) (pc := 57) C dX12_next_57 (by decide) ?_
    cases h
    exact hR 253 _ rfl dX12_next_253
set_option maxRecDepth 100000 in
theorem mX12_wrong (l : Launch) {S : zM} {a1 : Int32} {a2 : Int32} {S' : zM}  (h : gX12_wrong S a1 a2 = some S') : zMet l mW zS0 yX12_wrong cX12_wrong 3 (none) 0 0 [.ref 0, .int a1, .int a2] S none S' := by
  refine zmeth (by decide +kernel) (by rfl) (fun K hKl C hR => ?_)
  show V K 0 [some (.ref 0), some (.int a1), some (.int a2)] [] S
  unfold gX12_wrong at h
  refine V_aload_n (pc := 0) C dX12_wrong_0 rfl rfl ?_
  refine V_getI (pc := 1) C z1_mW_12 fl_RX12_143 (by decide) dX12_wrong_1 ?_
  refine V_if_eq (tgt := 8) (pc := 4) C dX12_wrong_4 (by decide) (fun hc => ?_) (fun hc => ?_)
  · have h := it_t hc h
    refine V_aload_n (pc := 8) C dX12_wrong_8 rfl rfl ?_
    refine V_iconst (pc := 9) C dX12_wrong_9 kc_i_1 ?_
    refine V_putZ (pc := 10) C z1_mW_12 fp_RX12_143 rfl rfl (by decide) dX12_wrong_10 ?_
    refine V_aload_n (pc := 13) C dX12_wrong_13 rfl rfl ?_
    refine V_iload_n (pc := 14) C dX12_wrong_14 rfl rfl ?_
    refine V_putI (pc := 15) C z1_mW_12 fp_RX12_147 rfl rfl dX12_wrong_15 ?_
    refine V_aload_n (pc := 18) C dX12_wrong_18 rfl rfl ?_
    refine V_iload_n (pc := 19) C dX12_wrong_19 rfl rfl ?_
    refine V_putI (pc := 20) C z1_mW_12 fp_RX12_13 rfl rfl dX12_wrong_20 ?_
    cases h
    exact hR 23 _ rfl dX12_wrong_23
  · have h := it_f hc h
    cases h
    exact hR 7 _ rfl dX12_wrong_7
set_option maxRecDepth 100000 in
theorem mX12_isWord_L32 {K : zK} (C : zC K cX12_isWord yX12_isWord.cls 4 6 171 mW) {S : zM} {v1 : Nat} (hv1 : zstr v1) : ∀ (f : Nat) (v2 : Int32) (v3 : Int32) (r : Int32), gX12_isWord_L32 S v1 f v2 v3 = some r → zR K cX12_isWord (some .boolean) S (some (.int r)) → V K 32 [some (.ref 0), some (.ref v1), some (.int v2), some (.int v3)] [] S := by
  intro f
  induction f with
  | zero => intro v2 v3 r h hR; cases h
  | succ n ih =>
    intro v2 v3 r h hR
    unfold gX12_isWord_L32 at h
    refine V_iload_n (pc := 32) C dX12_isWord_32 rfl rfl ?_
    refine V_aload_n (pc := 33) C dX12_isWord_33 rfl rfl ?_
    refine V_getI (pc := 34) C z1_mW_12 fl_RX12_127 (by decide) dX12_isWord_34 ?_
    refine V_icmp_ge (tgt := 70) (pc := 37) C dX12_isWord_37 (by decide) (fun hc => ?_) (fun hc => ?_)
    · have h := it_t hc h
      refine V_iload_n (pc := 70) C dX12_isWord_70 rfl rfl ?_
      obtain ⟨k1, h⟩ := ck_some h
      cases h
      exact hR 71 _ ⟨_, rfl, isB_nar k1⟩ dX12_isWord_71
    · have h := it_f hc h
      refine V_iload_n (pc := 40) C dX12_isWord_40 rfl rfl ?_
      refine V_if_eq (tgt := 62) (pc := 41) C dX12_isWord_41 (by decide) (fun hc => ?_) (fun hc => ?_)
      · have h := it_t hc h
        refine V_iconst (pc := 62) C dX12_isWord_62 kc_i_0 ?_
        refine V_istore_n (L' := [some (.ref 0), some (.ref v1), some (.int (0 : Int32)), some (.int v3)]) (pc := 63) C dX12_isWord_63 rfl (by decide) rfl ?_
        refine V_iinc (L' := [some (.ref 0), some (.ref v1), some (.int (0 : Int32)), some (.int (v3 + (1 : Int32)))]) (v := (v3 + (1 : Int32))) (pc := 64) C dX12_isWord_64 rfl (congrArg (v3 + ·) kc_i_1) (by decide) rfl ?_
        refine V_goto (tgt := 32) (pc := 67) C dX12_isWord_67 (by decide) ?_
        exact V_mask [true, true, true, true] (ih _ _ _ h hR)
      · have h := it_f hc h
        refine V_aload_n (pc := 44) C dX12_isWord_44 rfl rfl ?_
        refine V_getF (p1 := 2) (pc := 45) C z1_mW_12 fl_RX12_17 rfl (zf_mW_12_12 z1_mW_12) dX12_isWord_45 ?_
        refine V_iload_n (pc := 48) C dX12_isWord_48 rfl rfl ?_
        obtain ⟨k2, h⟩ := ck_some h
        refine V_iald (pc := 49) C (za_mW_12_12 z1_mW_12) k2 dX12_isWord_49 ?_
        refine V_aload_n (pc := 50) C dX12_isWord_50 rfl rfl ?_
        refine V_iload_n (pc := 51) C dX12_isWord_51 rfl rfl ?_
        obtain ⟨k3, h⟩ := ck_some h
        refine V_strch (pc := 52) C hv1 k3 ml_RX12_156 ⟨Nat.le_of_ble_eq_true rfl, Nat.le_of_ble_eq_true rfl⟩ (Nat.le_of_ble_eq_true rfl) dX12_isWord_52 ?_
        refine V_icmp_ne (tgt := 62) (pc := 55) C dX12_isWord_55 (by decide) (fun hc => ?_) (fun hc => ?_)
        · have h := it_f hc h
          refine V_iconst (pc := 62) C dX12_isWord_62 kc_i_0 ?_
          refine V_istore_n (L' := [some (.ref 0), some (.ref v1), some (.int (0 : Int32)), some (.int v3)]) (pc := 63) C dX12_isWord_63 rfl (by decide) rfl ?_
          refine V_iinc (L' := [some (.ref 0), some (.ref v1), some (.int (0 : Int32)), some (.int (v3 + (1 : Int32)))]) (v := (v3 + (1 : Int32))) (pc := 64) C dX12_isWord_64 rfl (congrArg (v3 + ·) kc_i_1) (by decide) rfl ?_
          refine V_goto (tgt := 32) (pc := 67) C dX12_isWord_67 (by decide) ?_
          exact V_mask [true, true, true, true] (ih _ _ _ h hR)
        · have h := it_t hc h
          refine V_iconst (pc := 58) C dX12_isWord_58 kc_i_1 ?_
          refine V_goto (tgt := 63) (pc := 59) C dX12_isWord_59 (by decide) ?_
          refine V_istore_n (L' := [some (.ref 0), some (.ref v1), some (.int (1 : Int32)), some (.int v3)]) (pc := 63) C dX12_isWord_63 rfl (by decide) rfl ?_
          refine V_iinc (L' := [some (.ref 0), some (.ref v1), some (.int (1 : Int32)), some (.int (v3 + (1 : Int32)))]) (v := (v3 + (1 : Int32))) (pc := 64) C dX12_isWord_64 rfl (congrArg (v3 + ·) kc_i_1) (by decide) rfl ?_
          refine V_goto (tgt := 32) (pc := 67) C dX12_isWord_67 (by decide) ?_
          exact V_mask [true, true, true, true] (ih _ _ _ h hR)
set_option maxRecDepth 100000 in
theorem mX12_isWord (l : Launch) {S : zM} {a1 : Nat} {r : Int32} (ha1 : zstr a1) (h : gX12_isWord S a1 = some r) : zMet l mW zS0 yX12_isWord cX12_isWord 4 (some .boolean) 6 171 [.ref 0, .ref a1] S (some (.int r)) S := by
  refine zmeth (by decide +kernel) (by rfl) (fun K hKl C hR => ?_)
  show V K 0 [some (.ref 0), some (.ref a1), none, none] [] S
  unfold gX12_isWord at h
  refine V_aload_n (pc := 0) C dX12_isWord_0 rfl rfl ?_
  refine V_getI (pc := 1) C z1_mW_12 fl_RX12_143 (by decide) dX12_isWord_1 ?_
  refine V_if_ne (tgt := 26) (pc := 4) C dX12_isWord_4 (by decide) (fun hc => ?_) (fun hc => ?_)
  · have h := it_f hc h
    refine V_iconst (pc := 26) C dX12_isWord_26 kc_i_0 ?_
    cases h
    exact hR 27 _ ⟨_, rfl, zB0⟩ dX12_isWord_27
  · have h := it_t hc h
    refine V_aload_n (pc := 7) C dX12_isWord_7 rfl rfl ?_
    refine V_getI (pc := 8) C z1_mW_12 fl_RX12_133 (by decide) dX12_isWord_8 ?_
    refine V_iconst (pc := 11) C dX12_isWord_11 kc_i_2 ?_
    refine V_icmp_ne (tgt := 26) (pc := 12) C dX12_isWord_12 (by decide) (fun hc => ?_) (fun hc => ?_)
    · have h := it_f hc h
      refine V_iconst (pc := 26) C dX12_isWord_26 kc_i_0 ?_
      cases h
      exact hR 27 _ ⟨_, rfl, zB0⟩ dX12_isWord_27
    · have h := it_t hc h
      refine V_aload_n (pc := 15) C dX12_isWord_15 rfl rfl ?_
      refine V_getI (pc := 16) C z1_mW_12 fl_RX12_127 (by decide) dX12_isWord_16 ?_
      refine V_aload_n (pc := 19) C dX12_isWord_19 rfl rfl ?_
      refine V_strlen (pc := 20) C ha1 ml_RX12_150 ⟨Nat.le_of_ble_eq_true rfl, Nat.le_of_ble_eq_true rfl⟩ (Nat.le_of_ble_eq_true rfl) dX12_isWord_20 ?_
      refine V_icmp_eq (tgt := 28) (pc := 23) C dX12_isWord_23 (by decide) (fun hc => ?_) (fun hc => ?_)
      · have h := it_t hc h
        refine V_iconst (pc := 28) C dX12_isWord_28 kc_i_1 ?_
        refine V_istore_n (L' := [some (.ref 0), some (.ref a1), some (.int (1 : Int32)), none]) (pc := 29) C dX12_isWord_29 rfl (by decide) rfl ?_
        refine V_iconst (pc := 30) C dX12_isWord_30 kc_i_0 ?_
        refine V_istore_n (L' := [some (.ref 0), some (.ref a1), some (.int (1 : Int32)), some (.int (0 : Int32))]) (pc := 31) C dX12_isWord_31 rfl (by decide) rfl ?_
        exact V_mask [true, true, true, true] (mX12_isWord_L32 C ha1 FU _ _ _ h hR)
      · have h := it_f hc h
        refine V_iconst (pc := 26) C dX12_isWord_26 kc_i_0 ?_
        cases h
        exact hR 27 _ ⟨_, rfl, zB0⟩ dX12_isWord_27
set_option maxRecDepth 100000 in
theorem mX12_takes (l : Launch) {S : zM} {a1 : Nat} {r : Int32} {S' : zM} (ha1 : zstr a1) (h : gX12_takes S a1 = some (r, S')) : zMet l mW zS0 yX12_takes cX12_takes 2 (some .boolean) 7 194 [.ref 0, .ref a1] S (some (.int r)) S' := by
  refine zmeth (by decide +kernel) (by rfl) (fun K hKl C hR => ?_)
  show V K 0 [some (.ref 0), some (.ref a1)] [] S
  unfold gX12_takes at h
  refine V_aload_n (pc := 0) C dX12_takes_0 rfl rfl ?_
  refine V_aload_n (pc := 1) C dX12_takes_1 rfl rfl ?_
  obtain ⟨r1, er1, h⟩ := b1_some h
  refine V_callV (As := [.ref a1]) (pc := 2) C (mX12_isWord _ ha1 er1) zm_X12_isWord zi_X12_isWord ml_RX12_160 z1_mW_12 rfl ⟨Nat.le_of_ble_eq_true rfl, Nat.le_of_ble_eq_true rfl⟩ rfl rfl (Nat.le_of_ble_eq_true rfl) dX12_takes_2 ?_
  show V K 5 [some (.ref 0), some (.ref a1)] [.int r1] S
  refine V_if_ne (tgt := 10) (pc := 5) C dX12_takes_5 (by decide) (fun hc => ?_) (fun hc => ?_)
  · have h := it_f hc h
    refine V_aload_n (pc := 10) C dX12_takes_10 rfl rfl ?_
    obtain ⟨S3, euS3, h⟩ := b1_some h
    refine V_callV (As := []) (pc := 11) C (mX12_next _ euS3) zm_X12_next zi_X12_next ml_RX12_164 z1_mW_12 rfl ⟨Nat.le_of_ble_eq_true rfl, Nat.le_of_ble_eq_true rfl⟩ rfl rfl (Nat.le_of_ble_eq_true rfl) dX12_takes_11 ?_
    show V K 14 [some (.ref 0), some (.ref a1)] [] S3
    refine V_iconst (pc := 14) C dX12_takes_14 kc_i_1 ?_
    cases h
    exact hR 15 _ ⟨_, rfl, zB1⟩ dX12_takes_15
  · have h := it_t hc h
    refine V_iconst (pc := 8) C dX12_takes_8 kc_i_0 ?_
    cases h
    exact hR 9 _ ⟨_, rfl, zB0⟩ dX12_takes_9
set_option maxRecDepth 100000 in
theorem mX12_must (l : Launch) {S : zM} {a1 : Nat} {S' : zM} (ha1 : zstr a1) (h : gX12_must S a1 = some S') : zMet l mW zS0 yX12_must cX12_must 2 (none) 8 215 [.ref 0, .ref a1] S none S' := by
  refine zmeth (by decide +kernel) (by rfl) (fun K hKl C hR => ?_)
  show V K 0 [some (.ref 0), some (.ref a1)] [] S
  unfold gX12_must at h
  refine V_aload_n (pc := 0) C dX12_must_0 rfl rfl ?_
  refine V_getI (pc := 1) C z1_mW_12 fl_RX12_143 (by decide) dX12_must_1 ?_
  refine V_if_ne (tgt := 24) (pc := 4) C dX12_must_4 (by decide) (fun hc => ?_) (fun hc => ?_)
  · have h := it_f hc h
    cases h
    exact hR 24 _ rfl dX12_must_24
  · have h := it_t hc h
    refine V_aload_n (pc := 7) C dX12_must_7 rfl rfl ?_
    refine V_aload_n (pc := 8) C dX12_must_8 rfl rfl ?_
    obtain ⟨r1, S2, er1, h⟩ := b2_some h
    refine V_callV (As := [.ref a1]) (pc := 9) C (mX12_takes _ ha1 er1) zm_X12_takes zi_X12_takes ml_RX12_167 z1_mW_12 rfl ⟨Nat.le_of_ble_eq_true rfl, Nat.le_of_ble_eq_true rfl⟩ rfl rfl (Nat.le_of_ble_eq_true rfl) dX12_must_9 ?_
    show V K 12 [some (.ref 0), some (.ref a1)] [.int r1] S2
    refine V_if_ne (tgt := 24) (pc := 12) C dX12_must_12 (by decide) (fun hc => ?_) (fun hc => ?_)
    · have h := it_f hc h
      cases h
      exact hR 24 _ rfl dX12_must_24
    · have h := it_t hc h
      refine V_aload_n (pc := 15) C dX12_must_15 rfl rfl ?_
      refine V_iconst (pc := 16) C dX12_must_16 kc_i_1 ?_
      refine V_aload_n (pc := 17) C dX12_must_17 rfl rfl ?_
      refine V_getI (pc := 18) C z1_mW_12 fl_RX12_124 (by decide) dX12_must_18 ?_
      obtain ⟨S4, euS4, h⟩ := b1_some h
      refine V_callV (As := [.int (1 : Int32), .int (gI S2 0 4)]) (pc := 21) C (mX12_wrong _ euS4) zm_X12_wrong zi_X12_wrong ml_RX12_170 z1_mW_12 rfl ⟨Nat.le_of_ble_eq_true rfl, Nat.le_of_ble_eq_true rfl⟩ rfl rfl (Nat.le_of_ble_eq_true rfl) dX12_must_21 ?_
      show V K 24 [some (.ref 0), some (.ref a1)] [] S4
      cases h
      exact hR 24 _ rfl dX12_must_24
set_option maxRecDepth 100000 in
theorem mX12_mustName_J113 {K : zK} (C : zC K cX12_mustName yX12_mustName.cls 2 7 194 mW) {S : zM} {s0 : Int32} {S' : zM}  (hR : zR K cX12_mustName (none) S' none) (h : gX12_mustName_J113 S s0 = some S') : V K 113 [some (.ref 0), none] [.int s0] S := by
  unfold gX12_mustName_J113 at h
  refine V_istore_n (L' := [some (.ref 0), some (.int s0)]) (pc := 113) C dX12_mustName_113 rfl (by decide) rfl ?_
  refine V_aload_n (pc := 114) C dX12_mustName_114 rfl rfl ?_
  refine V_getI (pc := 115) C z1_mW_12 fl_RX12_133 (by decide) dX12_mustName_115 ?_
  refine V_iconst (pc := 118) C dX12_mustName_118 kc_i_2 ?_
  refine V_icmp_ne (tgt := 126) (pc := 119) C dX12_mustName_119 (by decide) (fun hc => ?_) (fun hc => ?_)
  · have h := it_f hc h
    refine V_aload_n (pc := 126) C dX12_mustName_126 rfl rfl ?_
    refine V_iconst (pc := 127) C dX12_mustName_127 kc_i_1 ?_
    refine V_aload_n (pc := 128) C dX12_mustName_128 rfl rfl ?_
    refine V_getI (pc := 129) C z1_mW_12 fl_RX12_124 (by decide) dX12_mustName_129 ?_
    obtain ⟨S3, euS3, h⟩ := b1_some h
    refine V_callV (As := [.int (1 : Int32), .int (gI S 0 4)]) (pc := 132) C (mX12_wrong _ euS3) zm_X12_wrong zi_X12_wrong ml_RX12_170 z1_mW_12 rfl ⟨Nat.le_of_ble_eq_true rfl, Nat.le_of_ble_eq_true rfl⟩ rfl rfl (Nat.le_of_ble_eq_true rfl) dX12_mustName_132 ?_
    show V K 135 [some (.ref 0), some (.int s0)] [] S3
    cases h
    exact hR 135 _ rfl dX12_mustName_135
  · have h := it_t hc h
    refine V_iload_n (pc := 122) C dX12_mustName_122 rfl rfl ?_
    refine V_if_eq (tgt := 135) (pc := 123) C dX12_mustName_123 (by decide) (fun hc => ?_) (fun hc => ?_)
    · have h := it_t hc h
      cases h
      exact hR 135 _ rfl dX12_mustName_135
    · have h := it_f hc h
      refine V_aload_n (pc := 126) C dX12_mustName_126 rfl rfl ?_
      refine V_iconst (pc := 127) C dX12_mustName_127 kc_i_1 ?_
      refine V_aload_n (pc := 128) C dX12_mustName_128 rfl rfl ?_
      refine V_getI (pc := 129) C z1_mW_12 fl_RX12_124 (by decide) dX12_mustName_129 ?_
      obtain ⟨S5, euS5, h⟩ := b1_some h
      refine V_callV (As := [.int (1 : Int32), .int (gI S 0 4)]) (pc := 132) C (mX12_wrong _ euS5) zm_X12_wrong zi_X12_wrong ml_RX12_170 z1_mW_12 rfl ⟨Nat.le_of_ble_eq_true rfl, Nat.le_of_ble_eq_true rfl⟩ rfl rfl (Nat.le_of_ble_eq_true rfl) dX12_mustName_132 ?_
      show V K 135 [some (.ref 0), some (.int s0)] [] S5
      cases h
      exact hR 135 _ rfl dX12_mustName_135
set_option maxRecDepth 100000 in
theorem mX12_mustName (l : Launch) {S : zM}  {S' : zM}  (h : gX12_mustName S = some S') : zMet l mW zS0 yX12_mustName cX12_mustName 2 (none) 7 194 [.ref 0] S none S' := by
  refine zmeth (by decide +kernel) (by rfl) (fun K hKl C hR => ?_)
  show V K 0 [some (.ref 0), none] [] S
  unfold gX12_mustName at h
  refine V_aload_n (pc := 0) C dX12_mustName_0 rfl rfl ?_
  refine V_ldcS (j := 29) (pc := 1) C dX12_mustName_1 rfl ?_
  obtain ⟨r1, er1, h⟩ := b1_some h
  refine V_callV (As := [.ref 10000]) (pc := 3) C (mX12_isWord _ zq_0 er1) zm_X12_isWord zi_X12_isWord ml_RX12_160 z1_mW_12 rfl ⟨Nat.le_of_ble_eq_true rfl, Nat.le_of_ble_eq_true rfl⟩ rfl rfl (Nat.le_of_ble_eq_true rfl) dX12_mustName_3 ?_
  show V K 6 [some (.ref 0), none] [.int r1] S
  refine V_if_ne (tgt := 108) (pc := 6) C dX12_mustName_6 (by decide) (fun hc => ?_) (fun hc => ?_)
  · have h := it_f hc h
    refine V_iconst (pc := 108) C dX12_mustName_108 kc_i_1 ?_
    refine V_goto (tgt := 113) (pc := 109) C dX12_mustName_109 (by decide) ?_
    exact V_mask [true, false] (mX12_mustName_J113 C  hR h)
  · have h := it_t hc h
    refine V_aload_n (pc := 9) C dX12_mustName_9 rfl rfl ?_
    refine V_ldcS (j := 30) (pc := 10) C dX12_mustName_10 rfl ?_
    obtain ⟨r6, er6, h⟩ := b1_some h
    refine V_callV (As := [.ref 10001]) (pc := 12) C (mX12_isWord _ zq_1 er6) zm_X12_isWord zi_X12_isWord ml_RX12_160 z1_mW_12 rfl ⟨Nat.le_of_ble_eq_true rfl, Nat.le_of_ble_eq_true rfl⟩ rfl rfl (Nat.le_of_ble_eq_true rfl) dX12_mustName_12 ?_
    show V K 15 [some (.ref 0), none] [.int r6] S
    refine V_if_ne (tgt := 108) (pc := 15) C dX12_mustName_15 (by decide) (fun hc => ?_) (fun hc => ?_)
    · have h := it_f hc h
      refine V_iconst (pc := 108) C dX12_mustName_108 kc_i_1 ?_
      refine V_goto (tgt := 113) (pc := 109) C dX12_mustName_109 (by decide) ?_
      exact V_mask [true, false] (mX12_mustName_J113 C  hR h)
    · have h := it_t hc h
      refine V_aload_n (pc := 18) C dX12_mustName_18 rfl rfl ?_
      refine V_ldcS (j := 31) (pc := 19) C dX12_mustName_19 rfl ?_
      obtain ⟨r7, er7, h⟩ := b1_some h
      refine V_callV (As := [.ref 10002]) (pc := 21) C (mX12_isWord _ zq_2 er7) zm_X12_isWord zi_X12_isWord ml_RX12_160 z1_mW_12 rfl ⟨Nat.le_of_ble_eq_true rfl, Nat.le_of_ble_eq_true rfl⟩ rfl rfl (Nat.le_of_ble_eq_true rfl) dX12_mustName_21 ?_
      show V K 24 [some (.ref 0), none] [.int r7] S
      refine V_if_ne (tgt := 108) (pc := 24) C dX12_mustName_24 (by decide) (fun hc => ?_) (fun hc => ?_)
      · have h := it_f hc h
        refine V_iconst (pc := 108) C dX12_mustName_108 kc_i_1 ?_
        refine V_goto (tgt := 113) (pc := 109) C dX12_mustName_109 (by decide) ?_
        exact V_mask [true, false] (mX12_mustName_J113 C  hR h)
      · have h := it_t hc h
        refine V_aload_n (pc := 27) C dX12_mustName_27 rfl rfl ?_
        refine V_ldcS (j := 32) (pc := 28) C dX12_mustName_28 rfl ?_
        obtain ⟨r8, er8, h⟩ := b1_some h
        refine V_callV (As := [.ref 10003]) (pc := 30) C (mX12_isWord _ zq_3 er8) zm_X12_isWord zi_X12_isWord ml_RX12_160 z1_mW_12 rfl ⟨Nat.le_of_ble_eq_true rfl, Nat.le_of_ble_eq_true rfl⟩ rfl rfl (Nat.le_of_ble_eq_true rfl) dX12_mustName_30 ?_
        show V K 33 [some (.ref 0), none] [.int r8] S
        refine V_if_ne (tgt := 108) (pc := 33) C dX12_mustName_33 (by decide) (fun hc => ?_) (fun hc => ?_)
        · have h := it_f hc h
          refine V_iconst (pc := 108) C dX12_mustName_108 kc_i_1 ?_
          refine V_goto (tgt := 113) (pc := 109) C dX12_mustName_109 (by decide) ?_
          exact V_mask [true, false] (mX12_mustName_J113 C  hR h)
        · have h := it_t hc h
          refine V_aload_n (pc := 36) C dX12_mustName_36 rfl rfl ?_
          refine V_ldcS (j := 33) (pc := 37) C dX12_mustName_37 rfl ?_
          obtain ⟨r9, er9, h⟩ := b1_some h
          refine V_callV (As := [.ref 10004]) (pc := 39) C (mX12_isWord _ zq_4 er9) zm_X12_isWord zi_X12_isWord ml_RX12_160 z1_mW_12 rfl ⟨Nat.le_of_ble_eq_true rfl, Nat.le_of_ble_eq_true rfl⟩ rfl rfl (Nat.le_of_ble_eq_true rfl) dX12_mustName_39 ?_
          show V K 42 [some (.ref 0), none] [.int r9] S
          refine V_if_ne (tgt := 108) (pc := 42) C dX12_mustName_42 (by decide) (fun hc => ?_) (fun hc => ?_)
          · have h := it_f hc h
            refine V_iconst (pc := 108) C dX12_mustName_108 kc_i_1 ?_
            refine V_goto (tgt := 113) (pc := 109) C dX12_mustName_109 (by decide) ?_
            exact V_mask [true, false] (mX12_mustName_J113 C  hR h)
          · have h := it_t hc h
            refine V_aload_n (pc := 45) C dX12_mustName_45 rfl rfl ?_
            refine V_ldcS (j := 34) (pc := 46) C dX12_mustName_46 rfl ?_
            obtain ⟨r10, er10, h⟩ := b1_some h
            refine V_callV (As := [.ref 10005]) (pc := 48) C (mX12_isWord _ zq_5 er10) zm_X12_isWord zi_X12_isWord ml_RX12_160 z1_mW_12 rfl ⟨Nat.le_of_ble_eq_true rfl, Nat.le_of_ble_eq_true rfl⟩ rfl rfl (Nat.le_of_ble_eq_true rfl) dX12_mustName_48 ?_
            show V K 51 [some (.ref 0), none] [.int r10] S
            refine V_if_ne (tgt := 108) (pc := 51) C dX12_mustName_51 (by decide) (fun hc => ?_) (fun hc => ?_)
            · have h := it_f hc h
              refine V_iconst (pc := 108) C dX12_mustName_108 kc_i_1 ?_
              refine V_goto (tgt := 113) (pc := 109) C dX12_mustName_109 (by decide) ?_
              exact V_mask [true, false] (mX12_mustName_J113 C  hR h)
            · have h := it_t hc h
              refine V_aload_n (pc := 54) C dX12_mustName_54 rfl rfl ?_
              refine V_ldcS (j := 35) (pc := 55) C dX12_mustName_55 rfl ?_
              obtain ⟨r11, er11, h⟩ := b1_some h
              refine V_callV (As := [.ref 10006]) (pc := 57) C (mX12_isWord _ zq_6 er11) zm_X12_isWord zi_X12_isWord ml_RX12_160 z1_mW_12 rfl ⟨Nat.le_of_ble_eq_true rfl, Nat.le_of_ble_eq_true rfl⟩ rfl rfl (Nat.le_of_ble_eq_true rfl) dX12_mustName_57 ?_
              show V K 60 [some (.ref 0), none] [.int r11] S
              refine V_if_ne (tgt := 108) (pc := 60) C dX12_mustName_60 (by decide) (fun hc => ?_) (fun hc => ?_)
              · have h := it_f hc h
                refine V_iconst (pc := 108) C dX12_mustName_108 kc_i_1 ?_
                refine V_goto (tgt := 113) (pc := 109) C dX12_mustName_109 (by decide) ?_
                exact V_mask [true, false] (mX12_mustName_J113 C  hR h)
              · have h := it_t hc h
                refine V_aload_n (pc := 63) C dX12_mustName_63 rfl rfl ?_
                refine V_ldcS (j := 36) (pc := 64) C dX12_mustName_64 rfl ?_
                obtain ⟨r12, er12, h⟩ := b1_some h
                refine V_callV (As := [.ref 10007]) (pc := 66) C (mX12_isWord _ zq_7 er12) zm_X12_isWord zi_X12_isWord ml_RX12_160 z1_mW_12 rfl ⟨Nat.le_of_ble_eq_true rfl, Nat.le_of_ble_eq_true rfl⟩ rfl rfl (Nat.le_of_ble_eq_true rfl) dX12_mustName_66 ?_
                show V K 69 [some (.ref 0), none] [.int r12] S
                refine V_if_ne (tgt := 108) (pc := 69) C dX12_mustName_69 (by decide) (fun hc => ?_) (fun hc => ?_)
                · have h := it_f hc h
                  refine V_iconst (pc := 108) C dX12_mustName_108 kc_i_1 ?_
                  refine V_goto (tgt := 113) (pc := 109) C dX12_mustName_109 (by decide) ?_
                  exact V_mask [true, false] (mX12_mustName_J113 C  hR h)
                · have h := it_t hc h
                  refine V_aload_n (pc := 72) C dX12_mustName_72 rfl rfl ?_
                  refine V_ldcS (j := 37) (pc := 73) C dX12_mustName_73 rfl ?_
                  obtain ⟨r13, er13, h⟩ := b1_some h
                  refine V_callV (As := [.ref 10008]) (pc := 75) C (mX12_isWord _ zq_8 er13) zm_X12_isWord zi_X12_isWord ml_RX12_160 z1_mW_12 rfl ⟨Nat.le_of_ble_eq_true rfl, Nat.le_of_ble_eq_true rfl⟩ rfl rfl (Nat.le_of_ble_eq_true rfl) dX12_mustName_75 ?_
                  show V K 78 [some (.ref 0), none] [.int r13] S
                  refine V_if_ne (tgt := 108) (pc := 78) C dX12_mustName_78 (by decide) (fun hc => ?_) (fun hc => ?_)
                  · have h := it_f hc h
                    refine V_iconst (pc := 108) C dX12_mustName_108 kc_i_1 ?_
                    refine V_goto (tgt := 113) (pc := 109) C dX12_mustName_109 (by decide) ?_
                    exact V_mask [true, false] (mX12_mustName_J113 C  hR h)
                  · have h := it_t hc h
                    refine V_aload_n (pc := 81) C dX12_mustName_81 rfl rfl ?_
                    refine V_ldcS (j := 38) (pc := 82) C dX12_mustName_82 rfl ?_
                    obtain ⟨r14, er14, h⟩ := b1_some h
                    refine V_callV (As := [.ref 10009]) (pc := 84) C (mX12_isWord _ zq_9 er14) zm_X12_isWord zi_X12_isWord ml_RX12_160 z1_mW_12 rfl ⟨Nat.le_of_ble_eq_true rfl, Nat.le_of_ble_eq_true rfl⟩ rfl rfl (Nat.le_of_ble_eq_true rfl) dX12_mustName_84 ?_
                    show V K 87 [some (.ref 0), none] [.int r14] S
                    refine V_if_ne (tgt := 108) (pc := 87) C dX12_mustName_87 (by decide) (fun hc => ?_) (fun hc => ?_)
                    · have h := it_f hc h
                      refine V_iconst (pc := 108) C dX12_mustName_108 kc_i_1 ?_
                      refine V_goto (tgt := 113) (pc := 109) C dX12_mustName_109 (by decide) ?_
                      exact V_mask [true, false] (mX12_mustName_J113 C  hR h)
                    · have h := it_t hc h
                      refine V_aload_n (pc := 90) C dX12_mustName_90 rfl rfl ?_
                      refine V_ldcS (j := 39) (pc := 91) C dX12_mustName_91 rfl ?_
                      obtain ⟨r15, er15, h⟩ := b1_some h
                      refine V_callV (As := [.ref 10010]) (pc := 93) C (mX12_isWord _ zq_10 er15) zm_X12_isWord zi_X12_isWord ml_RX12_160 z1_mW_12 rfl ⟨Nat.le_of_ble_eq_true rfl, Nat.le_of_ble_eq_true rfl⟩ rfl rfl (Nat.le_of_ble_eq_true rfl) dX12_mustName_93 ?_
                      show V K 96 [some (.ref 0), none] [.int r15] S
                      refine V_if_ne (tgt := 108) (pc := 96) C dX12_mustName_96 (by decide) (fun hc => ?_) (fun hc => ?_)
                      · have h := it_f hc h
                        refine V_iconst (pc := 108) C dX12_mustName_108 kc_i_1 ?_
                        refine V_goto (tgt := 113) (pc := 109) C dX12_mustName_109 (by decide) ?_
                        exact V_mask [true, false] (mX12_mustName_J113 C  hR h)
                      · have h := it_t hc h
                        refine V_aload_n (pc := 99) C dX12_mustName_99 rfl rfl ?_
                        refine V_ldcS (j := 40) (pc := 100) C dX12_mustName_100 rfl ?_
                        obtain ⟨r16, er16, h⟩ := b1_some h
                        refine V_callV (As := [.ref 10011]) (pc := 102) C (mX12_isWord _ zq_11 er16) zm_X12_isWord zi_X12_isWord ml_RX12_160 z1_mW_12 rfl ⟨Nat.le_of_ble_eq_true rfl, Nat.le_of_ble_eq_true rfl⟩ rfl rfl (Nat.le_of_ble_eq_true rfl) dX12_mustName_102 ?_
                        show V K 105 [some (.ref 0), none] [.int r16] S
                        refine V_if_eq (tgt := 112) (pc := 105) C dX12_mustName_105 (by decide) (fun hc => ?_) (fun hc => ?_)
                        · have h := it_t hc h
                          refine V_iconst (pc := 112) C dX12_mustName_112 kc_i_0 ?_
                          exact V_mask [true, false] (mX12_mustName_J113 C  hR h)
                        · have h := it_f hc h
                          refine V_iconst (pc := 108) C dX12_mustName_108 kc_i_1 ?_
                          refine V_goto (tgt := 113) (pc := 109) C dX12_mustName_109 (by decide) ?_
                          exact V_mask [true, false] (mX12_mustName_J113 C  hR h)
set_option maxRecDepth 100000 in
theorem mX12_find_L42 {K : zK} (C : zC K cX12_find yX12_find.cls 5 0 0 mW) {S : zM} {v1 : Int32} {v2 : Int32}  : ∀ (f : Nat) (v3 : Int32) (v4 : Int32) (o3 : Int32), gX12_find_L42 S v1 v2 f v3 v4 = some o3 → V K 93 [some (.ref 0), some (.int v1), some (.int v2), some (.int o3), none] [] S → V K 42 [some (.ref 0), some (.int v1), some (.int v2), some (.int v3), some (.int v4)] [] S := by
  intro f
  induction f with
  | zero => intro v3 v4 o3 h hx; cases h
  | succ n ih =>
    intro v3 v4 o3 h hx
    unfold gX12_find_L42 at h
    refine V_iload (pc := 42) C dX12_find_42 rfl ?_
    refine V_aload_n (pc := 44) C dX12_find_44 rfl rfl ?_
    refine V_getI (pc := 45) C z1_mW_12 fl_RX12_127 (by decide) dX12_find_45 ?_
    refine V_icmp_ge (tgt := 93) (pc := 48) C dX12_find_48 (by decide) (fun hc => ?_) (fun hc => ?_)
    · have h := it_t hc h
      cases h
      exact V_mask [true, true, true, true, false] hx
    · have h := it_f hc h
      refine V_iload_n (pc := 51) C dX12_find_51 rfl rfl ?_
      refine V_if_eq (tgt := 93) (pc := 52) C dX12_find_52 (by decide) (fun hc => ?_) (fun hc => ?_)
      · have h := it_t hc h
        cases h
        exact V_mask [true, true, true, true, false] hx
      · have h := it_f hc h
        refine V_aload_n (pc := 55) C dX12_find_55 rfl rfl ?_
        refine V_getF (p1 := 4) (pc := 56) C z1_mW_12 fl_RX12_23 rfl (zf_mW_12_16 z1_mW_12) dX12_find_56 ?_
        refine V_sipush (pc := 59) C dX12_find_59 kc_s_303 ?_
        refine V_bipush (pc := 62) C dX12_find_62 kc_b_8 ?_
        refine V_iload_n (pc := 64) C dX12_find_64 rfl rfl ?_
        refine V_imul (pc := 65) C dX12_find_65 ?_
        refine V_iadd (pc := 66) C dX12_find_66 ?_
        refine V_iload (pc := 67) C dX12_find_67 rfl ?_
        refine V_iadd (pc := 69) C dX12_find_69 ?_
        obtain ⟨k3, h⟩ := ck_some h
        refine V_iald (pc := 70) C (za_mW_12_16 z1_mW_12) k3 dX12_find_70 ?_
        refine V_aload_n (pc := 71) C dX12_find_71 rfl rfl ?_
        refine V_getF (p1 := 2) (pc := 72) C z1_mW_12 fl_RX12_17 rfl (zf_mW_12_12 z1_mW_12) dX12_find_72 ?_
        refine V_iload (pc := 75) C dX12_find_75 rfl ?_
        obtain ⟨k4, h⟩ := ck_some h
        refine V_iald (pc := 77) C (za_mW_12_12 z1_mW_12) k4 dX12_find_77 ?_
        refine V_icmp_ne (tgt := 85) (pc := 78) C dX12_find_78 (by decide) (fun hc => ?_) (fun hc => ?_)
        · have h := it_f hc h
          refine V_iconst (pc := 85) C dX12_find_85 kc_i_0 ?_
          refine V_istore_n (L' := [some (.ref 0), some (.int v1), some (.int v2), some (.int (0 : Int32)), some (.int v4)]) (pc := 86) C dX12_find_86 rfl (by decide) rfl ?_
          refine V_iinc (L' := [some (.ref 0), some (.int v1), some (.int v2), some (.int (0 : Int32)), some (.int (v4 + (1 : Int32)))]) (v := (v4 + (1 : Int32))) (pc := 87) C dX12_find_87 rfl (congrArg (v4 + ·) kc_i_1) (by decide) rfl ?_
          refine V_goto (tgt := 42) (pc := 90) C dX12_find_90 (by decide) ?_
          exact V_mask [true, true, true, true, true] (ih _ _ _ h hx)
        · have h := it_t hc h
          refine V_iconst (pc := 81) C dX12_find_81 kc_i_1 ?_
          refine V_goto (tgt := 86) (pc := 82) C dX12_find_82 (by decide) ?_
          refine V_istore_n (L' := [some (.ref 0), some (.int v1), some (.int v2), some (.int (1 : Int32)), some (.int v4)]) (pc := 86) C dX12_find_86 rfl (by decide) rfl ?_
          refine V_iinc (L' := [some (.ref 0), some (.int v1), some (.int v2), some (.int (1 : Int32)), some (.int (v4 + (1 : Int32)))]) (v := (v4 + (1 : Int32))) (pc := 87) C dX12_find_87 rfl (congrArg (v4 + ·) kc_i_1) (by decide) rfl ?_
          refine V_goto (tgt := 42) (pc := 90) C dX12_find_90 (by decide) ?_
          exact V_mask [true, true, true, true, true] (ih _ _ _ h hx)
set_option maxRecDepth 100000 in
theorem mX12_find_L4 {K : zK} (C : zC K cX12_find yX12_find.cls 5 0 0 mW) {S : zM}   : ∀ (f : Nat) (v1 : Int32) (v2 : Int32) (r : Int32), gX12_find_L4 S f v1 v2 = some r → zR K cX12_find (some .int) S (some (.int r)) → V K 4 [some (.ref 0), some (.int v1), some (.int v2), none, none] [] S := by
  intro f
  induction f with
  | zero => intro v1 v2 r h hR; cases h
  | succ n ih =>
    intro v1 v2 r h hR
    unfold gX12_find_L4 at h
    refine V_iload_n (pc := 4) C dX12_find_4 rfl rfl ?_
    refine V_aload_n (pc := 5) C dX12_find_5 rfl rfl ?_
    refine V_getF (p1 := 4) (pc := 6) C z1_mW_12 fl_RX12_23 rfl (zf_mW_12_16 z1_mW_12) dX12_find_6 ?_
    refine V_sipush (pc := 9) C dX12_find_9 kc_s_242 ?_
    obtain ⟨k1, h⟩ := ck_some h
    refine V_iald (pc := 12) C (za_mW_12_16 z1_mW_12) k1 dX12_find_12 ?_
    refine V_icmp_ge (tgt := 109) (pc := 13) C dX12_find_13 (by decide) (fun hc => ?_) (fun hc => ?_)
    · have h := it_t hc h
      refine V_iload_n (pc := 109) C dX12_find_109 rfl rfl ?_
      cases h
      exact hR 110 _ ⟨_, rfl, rfl⟩ dX12_find_110
    · have h := it_f hc h
      refine V_aload_n (pc := 16) C dX12_find_16 rfl rfl ?_
      refine V_getF (p1 := 4) (pc := 17) C z1_mW_12 fl_RX12_23 rfl (zf_mW_12_16 z1_mW_12) dX12_find_17 ?_
      refine V_sipush (pc := 20) C dX12_find_20 kc_s_283 ?_
      refine V_iload_n (pc := 23) C dX12_find_23 rfl rfl ?_
      refine V_iadd (pc := 24) C dX12_find_24 ?_
      obtain ⟨k2, h⟩ := ck_some h
      refine V_iald (pc := 25) C (za_mW_12_16 z1_mW_12) k2 dX12_find_25 ?_
      refine V_aload_n (pc := 26) C dX12_find_26 rfl rfl ?_
      refine V_getI (pc := 27) C z1_mW_12 fl_RX12_127 (by decide) dX12_find_27 ?_
      refine V_icmp_ne (tgt := 37) (pc := 30) C dX12_find_30 (by decide) (fun hc => ?_) (fun hc => ?_)
      · have h := it_f hc h
        refine V_iconst (pc := 37) C dX12_find_37 kc_i_0 ?_
        refine V_istore_n (L' := [some (.ref 0), some (.int v1), some (.int v2), some (.int (0 : Int32)), none]) (pc := 38) C dX12_find_38 rfl (by decide) rfl ?_
        refine V_iconst (pc := 39) C dX12_find_39 kc_i_0 ?_
        refine V_istore (L' := [some (.ref 0), some (.int v1), some (.int v2), some (.int (0 : Int32)), some (.int (0 : Int32))]) (pc := 40) C dX12_find_40 (by decide) rfl ?_
        obtain ⟨w5, e42, h⟩ := b1_some h
        refine V_mask [true, true, true, true, true] (mX12_find_L42 C  FU _ _ _ e42 ?_)
        refine V_iload_n (pc := 93) C dX12_find_93 rfl rfl ?_
        refine V_if_eq (tgt := 101) (pc := 94) C dX12_find_94 (by decide) (fun hc => ?_) (fun hc => ?_)
        · have h := it_t hc h
          refine V_iload_n (pc := 101) C dX12_find_101 rfl rfl ?_
          refine V_istore_n (L' := [some (.ref 0), some (.int v1), some (.int v2), some (.int w5), none]) (pc := 102) C dX12_find_102 rfl (by decide) rfl ?_
          refine V_iinc (L' := [some (.ref 0), some (.int v1), some (.int (v2 + (1 : Int32))), some (.int w5), none]) (v := (v2 + (1 : Int32))) (pc := 103) C dX12_find_103 rfl (congrArg (v2 + ·) kc_i_1) (by decide) rfl ?_
          refine V_goto (tgt := 4) (pc := 106) C dX12_find_106 (by decide) ?_
          exact V_mask [true, true, true, false, false] (ih _ _ _ h hR)
        · have h := it_f hc h
          refine V_iload_n (pc := 97) C dX12_find_97 rfl rfl ?_
          refine V_goto (tgt := 102) (pc := 98) C dX12_find_98 (by decide) ?_
          refine V_istore_n (L' := [some (.ref 0), some (.int v2), some (.int v2), some (.int w5), none]) (pc := 102) C dX12_find_102 rfl (by decide) rfl ?_
          refine V_iinc (L' := [some (.ref 0), some (.int v2), some (.int (v2 + (1 : Int32))), some (.int w5), none]) (v := (v2 + (1 : Int32))) (pc := 103) C dX12_find_103 rfl (congrArg (v2 + ·) kc_i_1) (by decide) rfl ?_
          refine V_goto (tgt := 4) (pc := 106) C dX12_find_106 (by decide) ?_
          exact V_mask [true, true, true, false, false] (ih _ _ _ h hR)
      · have h := it_t hc h
        refine V_iconst (pc := 33) C dX12_find_33 kc_i_1 ?_
        refine V_goto (tgt := 38) (pc := 34) C dX12_find_34 (by decide) ?_
        refine V_istore_n (L' := [some (.ref 0), some (.int v1), some (.int v2), some (.int (1 : Int32)), none]) (pc := 38) C dX12_find_38 rfl (by decide) rfl ?_
        refine V_iconst (pc := 39) C dX12_find_39 kc_i_0 ?_
        refine V_istore (L' := [some (.ref 0), some (.int v1), some (.int v2), some (.int (1 : Int32)), some (.int (0 : Int32))]) (pc := 40) C dX12_find_40 (by decide) rfl ?_
        obtain ⟨w8, e42, h⟩ := b1_some h
        refine V_mask [true, true, true, true, true] (mX12_find_L42 C  FU _ _ _ e42 ?_)
        refine V_iload_n (pc := 93) C dX12_find_93 rfl rfl ?_
        refine V_if_eq (tgt := 101) (pc := 94) C dX12_find_94 (by decide) (fun hc => ?_) (fun hc => ?_)
        · have h := it_t hc h
          refine V_iload_n (pc := 101) C dX12_find_101 rfl rfl ?_
          refine V_istore_n (L' := [some (.ref 0), some (.int v1), some (.int v2), some (.int w8), none]) (pc := 102) C dX12_find_102 rfl (by decide) rfl ?_
          refine V_iinc (L' := [some (.ref 0), some (.int v1), some (.int (v2 + (1 : Int32))), some (.int w8), none]) (v := (v2 + (1 : Int32))) (pc := 103) C dX12_find_103 rfl (congrArg (v2 + ·) kc_i_1) (by decide) rfl ?_
          refine V_goto (tgt := 4) (pc := 106) C dX12_find_106 (by decide) ?_
          exact V_mask [true, true, true, false, false] (ih _ _ _ h hR)
        · have h := it_f hc h
          refine V_iload_n (pc := 97) C dX12_find_97 rfl rfl ?_
          refine V_goto (tgt := 102) (pc := 98) C dX12_find_98 (by decide) ?_
          refine V_istore_n (L' := [some (.ref 0), some (.int v2), some (.int v2), some (.int w8), none]) (pc := 102) C dX12_find_102 rfl (by decide) rfl ?_
          refine V_iinc (L' := [some (.ref 0), some (.int v2), some (.int (v2 + (1 : Int32))), some (.int w8), none]) (v := (v2 + (1 : Int32))) (pc := 103) C dX12_find_103 rfl (congrArg (v2 + ·) kc_i_1) (by decide) rfl ?_
          refine V_goto (tgt := 4) (pc := 106) C dX12_find_106 (by decide) ?_
          exact V_mask [true, true, true, false, false] (ih _ _ _ h hR)
set_option maxRecDepth 100000 in
theorem mX12_find (l : Launch) {S : zM}  {r : Int32}  (h : gX12_find S = some r) : zMet l mW zS0 yX12_find cX12_find 5 (some .int) 0 0 [.ref 0] S (some (.int r)) S := by
  refine zmeth (by decide +kernel) (by rfl) (fun K hKl C hR => ?_)
  show V K 0 [some (.ref 0), none, none, none, none] [] S
  unfold gX12_find at h
  refine V_iconst (pc := 0) C dX12_find_0 kc_i_m1 ?_
  refine V_istore_n (L' := [some (.ref 0), some (.int (-1 : Int32)), none, none, none]) (pc := 1) C dX12_find_1 rfl (by decide) rfl ?_
  refine V_iconst (pc := 2) C dX12_find_2 kc_i_0 ?_
  refine V_istore_n (L' := [some (.ref 0), some (.int (-1 : Int32)), some (.int (0 : Int32)), none, none]) (pc := 3) C dX12_find_3 rfl (by decide) rfl ?_
  exact V_mask [true, true, true, false, false] (mX12_find_L4 C  FU _ _ _ h hR)
set_option maxRecDepth 100000 in
theorem mX12_newName_L47 {K : zK} (C : zC K cX12_newName yX12_newName.cls 5 8 215 mW) {v1 : Int32} {v2 : Int32} {v3 : Int32}  : ∀ (f : Nat) (S : zM) (v4 : Int32) (S' : zM), gX12_newName_L47 v1 v2 v3 f S v4 = some S' → zR K cX12_newName (none) S' none → V K 47 [some (.ref 0), some (.int v1), some (.int v2), some (.int v3), some (.int v4)] [] S := by
  intro f
  induction f with
  | zero => intro S v4 S' h hR; cases h
  | succ n ih =>
    intro S v4 S' h hR
    unfold gX12_newName_L47 at h
    refine V_iload (pc := 47) C dX12_newName_47 rfl ?_
    refine V_aload_n (pc := 49) C dX12_newName_49 rfl rfl ?_
    refine V_getI (pc := 50) C z1_mW_12 fl_RX12_127 (by decide) dX12_newName_50 ?_
    refine V_icmp_ge (tgt := 85) (pc := 53) C dX12_newName_53 (by decide) (fun hc => ?_) (fun hc => ?_)
    · have h := it_t hc h
      refine V_aload_n (pc := 85) C dX12_newName_85 rfl rfl ?_
      refine V_getF (p1 := 4) (pc := 86) C z1_mW_12 fl_RX12_23 rfl (zf_mW_12_16 z1_mW_12) dX12_newName_86 ?_
      refine V_sipush (pc := 89) C dX12_newName_89 kc_s_283 ?_
      refine V_iload_n (pc := 92) C dX12_newName_92 rfl rfl ?_
      refine V_iadd (pc := 93) C dX12_newName_93 ?_
      refine V_aload_n (pc := 94) C dX12_newName_94 rfl rfl ?_
      refine V_getI (pc := 95) C z1_mW_12 fl_RX12_127 (by decide) dX12_newName_95 ?_
      obtain ⟨k4, h⟩ := ck_some h
      refine V_iast (pc := 98) C (za_mW_12_16 z1_mW_12) k4 dX12_newName_98 ?_
      refine V_aload_n (pc := 99) C dX12_newName_99 rfl rfl ?_
      refine V_getF (p1 := 4) (pc := 100) C z1_mW_12 fl_RX12_23 rfl (zf_mW_12_16 z1_mW_12) dX12_newName_100 ?_
      refine V_sipush (pc := 103) C dX12_newName_103 kc_s_243 ?_
      refine V_iload_n (pc := 106) C dX12_newName_106 rfl rfl ?_
      refine V_iadd (pc := 107) C dX12_newName_107 ?_
      refine V_iload_n (pc := 108) C dX12_newName_108 rfl rfl ?_
      obtain ⟨k5, h⟩ := ck_some h
      refine V_iast (pc := 109) C (za_mW_12_16 z1_mW_12) k5 dX12_newName_109 ?_
      refine V_aload_n (pc := 110) C dX12_newName_110 rfl rfl ?_
      refine V_getF (p1 := 4) (pc := 111) C z1_mW_12 fl_RX12_23 rfl (zf_mW_12_16 z1_mW_12) dX12_newName_111 ?_
      refine V_sipush (pc := 114) C dX12_newName_114 kc_s_263 ?_
      refine V_iload_n (pc := 117) C dX12_newName_117 rfl rfl ?_
      refine V_iadd (pc := 118) C dX12_newName_118 ?_
      refine V_iload_n (pc := 119) C dX12_newName_119 rfl rfl ?_
      obtain ⟨k6, h⟩ := ck_some h
      refine V_iast (pc := 120) C (za_mW_12_16 z1_mW_12) k6 dX12_newName_120 ?_
      obtain ⟨S7, eS7, h⟩ := lt_some h
      refine V_nmS eS7 ?_
      refine V_aload_n (pc := 121) C dX12_newName_121 rfl rfl ?_
      refine V_getF (p1 := 4) (pc := 122) C z1_mW_12 fl_RX12_23 rfl (zf_mW_12_16 z1_mW_12) dX12_newName_122 ?_
      refine V_sipush (pc := 125) C dX12_newName_125 kc_s_242 ?_
      refine V_dup2 (pc := 128) C dX12_newName_128 rfl rfl ?_
      obtain ⟨k8, h⟩ := ck_some h
      refine V_iald (pc := 129) C (za_mW_12_16 z1_mW_12) k8 dX12_newName_129 ?_
      refine V_iconst (pc := 130) C dX12_newName_130 kc_i_1 ?_
      refine V_iadd (pc := 131) C dX12_newName_131 ?_
      obtain ⟨k9, h⟩ := ck_some h
      refine V_iast (pc := 132) C (za_mW_12_16 z1_mW_12) k9 dX12_newName_132 ?_
      refine V_aload_n (pc := 133) C dX12_newName_133 rfl rfl ?_
      obtain ⟨S11, euS11, h⟩ := b1_some h
      refine V_callV (As := []) (pc := 134) C (mX12_next _ euS11) zm_X12_next zi_X12_next ml_RX12_164 z1_mW_12 rfl ⟨Nat.le_of_ble_eq_true rfl, Nat.le_of_ble_eq_true rfl⟩ rfl rfl (Nat.le_of_ble_eq_true rfl) dX12_newName_134 ?_
      show V K 137 [some (.ref 0), some (.int v1), some (.int v2), some (.int v3), some (.int v4)] [] S11
      cases h
      exact hR 137 _ rfl dX12_newName_137
    · have h := it_f hc h
      refine V_aload_n (pc := 56) C dX12_newName_56 rfl rfl ?_
      refine V_getF (p1 := 4) (pc := 57) C z1_mW_12 fl_RX12_23 rfl (zf_mW_12_16 z1_mW_12) dX12_newName_57 ?_
      refine V_sipush (pc := 60) C dX12_newName_60 kc_s_303 ?_
      refine V_bipush (pc := 63) C dX12_newName_63 kc_b_8 ?_
      refine V_iload_n (pc := 65) C dX12_newName_65 rfl rfl ?_
      refine V_imul (pc := 66) C dX12_newName_66 ?_
      refine V_iadd (pc := 67) C dX12_newName_67 ?_
      refine V_iload (pc := 68) C dX12_newName_68 rfl ?_
      refine V_iadd (pc := 70) C dX12_newName_70 ?_
      refine V_aload_n (pc := 71) C dX12_newName_71 rfl rfl ?_
      refine V_getF (p1 := 2) (pc := 72) C z1_mW_12 fl_RX12_17 rfl (zf_mW_12_12 z1_mW_12) dX12_newName_72 ?_
      refine V_iload (pc := 75) C dX12_newName_75 rfl ?_
      obtain ⟨k12, h⟩ := ck_some h
      refine V_iald (pc := 77) C (za_mW_12_12 z1_mW_12) k12 dX12_newName_77 ?_
      obtain ⟨k13, h⟩ := ck_some h
      refine V_iast (pc := 78) C (za_mW_12_16 z1_mW_12) k13 dX12_newName_78 ?_
      refine V_iinc (L' := [some (.ref 0), some (.int v1), some (.int v2), some (.int v3), some (.int (v4 + (1 : Int32)))]) (v := (v4 + (1 : Int32))) (pc := 79) C dX12_newName_79 rfl (congrArg (v4 + ·) kc_i_1) (by decide) rfl ?_
      refine V_goto (tgt := 47) (pc := 82) C dX12_newName_82 (by decide) ?_
      exact V_mask [true, true, true, true, true] (ih _ _ _ h hR)
set_option maxRecDepth 100000 in
theorem mX12_newName_J27 {K : zK} (C : zC K cX12_newName yX12_newName.cls 5 8 215 mW) {S : zM} {v1 : Int32} {v2 : Int32} {S' : zM}  (hR : zR K cX12_newName (none) S' none) (h : gX12_newName_J27 S v1 v2 = some S') : V K 27 [some (.ref 0), some (.int v1), some (.int v2), none, none] [] S := by
  unfold gX12_newName_J27 at h
  refine V_aload_n (pc := 27) C dX12_newName_27 rfl rfl ?_
  refine V_getI (pc := 28) C z1_mW_12 fl_RX12_143 (by decide) dX12_newName_28 ?_
  refine V_if_eq (tgt := 35) (pc := 31) C dX12_newName_31 (by decide) (fun hc => ?_) (fun hc => ?_)
  · have h := it_t hc h
    refine V_aload_n (pc := 35) C dX12_newName_35 rfl rfl ?_
    refine V_getF (p1 := 4) (pc := 36) C z1_mW_12 fl_RX12_23 rfl (zf_mW_12_16 z1_mW_12) dX12_newName_36 ?_
    refine V_sipush (pc := 39) C dX12_newName_39 kc_s_242 ?_
    obtain ⟨k28, h⟩ := ck_some h
    refine V_iald (pc := 42) C (za_mW_12_16 z1_mW_12) k28 dX12_newName_42 ?_
    refine V_istore_n (L' := [some (.ref 0), some (.int v1), some (.int v2), some (.int (gI S 4 (ix (242 : Int32)))), none]) (pc := 43) C dX12_newName_43 rfl (by decide) rfl ?_
    refine V_iconst (pc := 44) C dX12_newName_44 kc_i_0 ?_
    refine V_istore (L' := [some (.ref 0), some (.int v1), some (.int v2), some (.int (gI S 4 (ix (242 : Int32)))), some (.int (0 : Int32))]) (pc := 45) C dX12_newName_45 (by decide) rfl ?_
    exact V_mask [true, true, true, true, true] (mX12_newName_L47 C  FU _ _ _ h hR)
  · have h := it_f hc h
    cases h
    exact hR 34 _ rfl dX12_newName_34
set_option maxRecDepth 100000 in
theorem mX12_newName (l : Launch) {S : zM} {a1 : Int32} {a2 : Int32} {S' : zM}  (h : gX12_newName S a1 a2 = some S') : zMet l mW zS0 yX12_newName cX12_newName 5 (none) 8 215 [.ref 0, .int a1, .int a2] S none S' := by
  refine zmeth (by decide +kernel) (by rfl) (fun K hKl C hR => ?_)
  show V K 0 [some (.ref 0), some (.int a1), some (.int a2), none, none] [] S
  unfold gX12_newName at h
  refine V_aload_n (pc := 0) C dX12_newName_0 rfl rfl ?_
  obtain ⟨S2, euS2, h⟩ := b1_some h
  refine V_callV (As := []) (pc := 1) C (mX12_mustName _ euS2) zm_X12_mustName zi_X12_mustName ml_RX12_197 z1_mW_12 rfl ⟨Nat.le_of_ble_eq_true rfl, Nat.le_of_ble_eq_true rfl⟩ rfl rfl (Nat.le_of_ble_eq_true rfl) dX12_newName_1 ?_
  show V K 4 [some (.ref 0), some (.int a1), some (.int a2), none, none] [] S2
  refine V_aload_n (pc := 4) C dX12_newName_4 rfl rfl ?_
  refine V_getI (pc := 5) C z1_mW_12 fl_RX12_143 (by decide) dX12_newName_5 ?_
  refine V_if_ne (tgt := 27) (pc := 8) C dX12_newName_8 (by decide) (fun hc => ?_) (fun hc => ?_)
  · have h := it_f hc h
    refine V_aload_n (pc := 27) C dX12_newName_27 rfl rfl ?_
    refine V_getI (pc := 28) C z1_mW_12 fl_RX12_143 (by decide) dX12_newName_28 ?_
    refine V_if_eq (tgt := 35) (pc := 31) C dX12_newName_31 (by decide) (fun hc => ?_) (fun hc => ?_)
    · have h := it_t hc h
      refine V_aload_n (pc := 35) C dX12_newName_35 rfl rfl ?_
      refine V_getF (p1 := 4) (pc := 36) C z1_mW_12 fl_RX12_23 rfl (zf_mW_12_16 z1_mW_12) dX12_newName_36 ?_
      refine V_sipush (pc := 39) C dX12_newName_39 kc_s_242 ?_
      obtain ⟨k3, h⟩ := ck_some h
      refine V_iald (pc := 42) C (za_mW_12_16 z1_mW_12) k3 dX12_newName_42 ?_
      refine V_istore_n (L' := [some (.ref 0), some (.int a1), some (.int a2), some (.int (gI S2 4 (ix (242 : Int32)))), none]) (pc := 43) C dX12_newName_43 rfl (by decide) rfl ?_
      refine V_iconst (pc := 44) C dX12_newName_44 kc_i_0 ?_
      refine V_istore (L' := [some (.ref 0), some (.int a1), some (.int a2), some (.int (gI S2 4 (ix (242 : Int32)))), some (.int (0 : Int32))]) (pc := 45) C dX12_newName_45 (by decide) rfl ?_
      exact V_mask [true, true, true, true, true] (mX12_newName_L47 C  FU _ _ _ h hR)
    · have h := it_f hc h
      cases h
      exact hR 34 _ rfl dX12_newName_34
  · have h := it_t hc h
    refine V_aload_n (pc := 11) C dX12_newName_11 rfl rfl ?_
    obtain ⟨r14, er14, h⟩ := b1_some h
    refine V_callV (As := []) (pc := 12) C (mX12_find _ er14) zm_X12_find zi_X12_find ml_RX12_200 z1_mW_12 rfl ⟨Nat.le_of_ble_eq_true rfl, Nat.le_of_ble_eq_true rfl⟩ rfl rfl (Nat.le_of_ble_eq_true rfl) dX12_newName_12 ?_
    show V K 15 [some (.ref 0), some (.int a1), some (.int a2), none, none] [.int r14] S2
    refine V_if_lt (tgt := 27) (pc := 15) C dX12_newName_15 (by decide) (fun hc => ?_) (fun hc => ?_)
    · have h := it_t hc h
      refine V_aload_n (pc := 27) C dX12_newName_27 rfl rfl ?_
      refine V_getI (pc := 28) C z1_mW_12 fl_RX12_143 (by decide) dX12_newName_28 ?_
      refine V_if_eq (tgt := 35) (pc := 31) C dX12_newName_31 (by decide) (fun hc => ?_) (fun hc => ?_)
      · have h := it_t hc h
        refine V_aload_n (pc := 35) C dX12_newName_35 rfl rfl ?_
        refine V_getF (p1 := 4) (pc := 36) C z1_mW_12 fl_RX12_23 rfl (zf_mW_12_16 z1_mW_12) dX12_newName_36 ?_
        refine V_sipush (pc := 39) C dX12_newName_39 kc_s_242 ?_
        obtain ⟨k15, h⟩ := ck_some h
        refine V_iald (pc := 42) C (za_mW_12_16 z1_mW_12) k15 dX12_newName_42 ?_
        refine V_istore_n (L' := [some (.ref 0), some (.int a1), some (.int a2), some (.int (gI S2 4 (ix (242 : Int32)))), none]) (pc := 43) C dX12_newName_43 rfl (by decide) rfl ?_
        refine V_iconst (pc := 44) C dX12_newName_44 kc_i_0 ?_
        refine V_istore (L' := [some (.ref 0), some (.int a1), some (.int a2), some (.int (gI S2 4 (ix (242 : Int32)))), some (.int (0 : Int32))]) (pc := 45) C dX12_newName_45 (by decide) rfl ?_
        exact V_mask [true, true, true, true, true] (mX12_newName_L47 C  FU _ _ _ h hR)
      · have h := it_f hc h
        cases h
        exact hR 34 _ rfl dX12_newName_34
    · have h := it_f hc h
      refine V_aload_n (pc := 18) C dX12_newName_18 rfl rfl ?_
      refine V_iconst (pc := 19) C dX12_newName_19 kc_i_3 ?_
      refine V_aload_n (pc := 20) C dX12_newName_20 rfl rfl ?_
      refine V_getI (pc := 21) C z1_mW_12 fl_RX12_124 (by decide) dX12_newName_21 ?_
      obtain ⟨S27, euS27, h⟩ := b1_some h
      refine V_callV (As := [.int (3 : Int32), .int (gI S2 0 4)]) (pc := 24) C (mX12_wrong _ euS27) zm_X12_wrong zi_X12_wrong ml_RX12_170 z1_mW_12 rfl ⟨Nat.le_of_ble_eq_true rfl, Nat.le_of_ble_eq_true rfl⟩ rfl rfl (Nat.le_of_ble_eq_true rfl) dX12_newName_24 ?_
      show V K 27 [some (.ref 0), some (.int a1), some (.int a2), none, none] [] S27
      exact V_mask [true, true, true, false, false] (mX12_newName_J27 C  hR h)
set_option maxRecDepth 100000 in
theorem mX12_number (l : Launch) {S : zM} {a1 : Int32} {a2 : Int32} {r : Int32} {S' : zM}  (h : gX12_number S a1 a2 = some (r, S')) : zMet l mW zS0 yX12_number cX12_number 4 (some .int) 2 44 [.ref 0, .int a1, .int a2] S (some (.int r)) S' := by
  refine zmeth (by decide +kernel) (by rfl) (fun K hKl C hR => ?_)
  show V K 0 [some (.ref 0), some (.int a1), some (.int a2), none] [] S
  unfold gX12_number at h
  refine V_aload_n (pc := 0) C dX12_number_0 rfl rfl ?_
  refine V_getI (pc := 1) C z1_mW_12 fl_RX12_143 (by decide) dX12_number_1 ?_
  refine V_if_eq (tgt := 9) (pc := 4) C dX12_number_4 (by decide) (fun hc => ?_) (fun hc => ?_)
  · have h := it_t hc h
    refine V_aload_n (pc := 9) C dX12_number_9 rfl rfl ?_
    refine V_getI (pc := 10) C z1_mW_12 fl_RX12_133 (by decide) dX12_number_10 ?_
    refine V_iconst (pc := 13) C dX12_number_13 kc_i_3 ?_
    refine V_icmp_eq (tgt := 28) (pc := 14) C dX12_number_14 (by decide) (fun hc => ?_) (fun hc => ?_)
    · have h := it_t hc h
      refine V_aload_n (pc := 28) C dX12_number_28 rfl rfl ?_
      refine V_getI (pc := 29) C z1_mW_12 fl_RX12_130 (by decide) dX12_number_29 ?_
      refine V_istore_n (L' := [some (.ref 0), some (.int a1), some (.int a2), some (.int (gI S 0 7))]) (pc := 32) C dX12_number_32 rfl (by decide) rfl ?_
      refine V_iload_n (pc := 33) C dX12_number_33 rfl rfl ?_
      refine V_iload_n (pc := 34) C dX12_number_34 rfl rfl ?_
      refine V_iload_n (pc := 35) C dX12_number_35 rfl rfl ?_
      obtain ⟨r1, er1, h⟩ := b1_some h
      refine V_callS (As := [.int (gI S 0 7), .int a1, .int a2]) (pc := 36) C (mX12_within _ er1) zm_X12_within zs_X12_within ml_RX12_203 ⟨Nat.le_of_ble_eq_true rfl, Nat.le_of_ble_eq_true rfl⟩ rfl rfl (Nat.le_of_ble_eq_true rfl) dX12_number_36 ?_
      show V K 39 [some (.ref 0), some (.int a1), some (.int a2), some (.int (gI S 0 7))] [.int r1] S
      refine V_if_ne (tgt := 53) (pc := 39) C dX12_number_39 (by decide) (fun hc => ?_) (fun hc => ?_)
      · have h := it_f hc h
        refine V_aload_n (pc := 53) C dX12_number_53 rfl rfl ?_
        obtain ⟨S3, euS3, h⟩ := b1_some h
        refine V_callV (As := []) (pc := 54) C (mX12_next _ euS3) zm_X12_next zi_X12_next ml_RX12_164 z1_mW_12 rfl ⟨Nat.le_of_ble_eq_true rfl, Nat.le_of_ble_eq_true rfl⟩ rfl rfl (Nat.le_of_ble_eq_true rfl) dX12_number_54 ?_
        show V K 57 [some (.ref 0), some (.int a1), some (.int a2), some (.int (gI S 0 7))] [] S3
        refine V_iload_n (pc := 57) C dX12_number_57 rfl rfl ?_
        cases h
        exact hR 58 _ ⟨_, rfl, rfl⟩ dX12_number_58
      · have h := it_t hc h
        refine V_aload_n (pc := 42) C dX12_number_42 rfl rfl ?_
        refine V_iconst (pc := 43) C dX12_number_43 kc_i_4 ?_
        refine V_aload_n (pc := 44) C dX12_number_44 rfl rfl ?_
        refine V_getI (pc := 45) C z1_mW_12 fl_RX12_124 (by decide) dX12_number_45 ?_
        obtain ⟨S5, euS5, h⟩ := b1_some h
        refine V_callV (As := [.int (4 : Int32), .int (gI S 0 4)]) (pc := 48) C (mX12_wrong _ euS5) zm_X12_wrong zi_X12_wrong ml_RX12_170 z1_mW_12 rfl ⟨Nat.le_of_ble_eq_true rfl, Nat.le_of_ble_eq_true rfl⟩ rfl rfl (Nat.le_of_ble_eq_true rfl) dX12_number_48 ?_
        show V K 51 [some (.ref 0), some (.int a1), some (.int a2), some (.int (gI S 0 7))] [] S5
        refine V_iload_n (pc := 51) C dX12_number_51 rfl rfl ?_
        cases h
        exact hR 52 _ ⟨_, rfl, rfl⟩ dX12_number_52
    · have h := it_f hc h
      refine V_aload_n (pc := 17) C dX12_number_17 rfl rfl ?_
      refine V_iconst (pc := 18) C dX12_number_18 kc_i_1 ?_
      refine V_aload_n (pc := 19) C dX12_number_19 rfl rfl ?_
      refine V_getI (pc := 20) C z1_mW_12 fl_RX12_124 (by decide) dX12_number_20 ?_
      obtain ⟨S7, euS7, h⟩ := b1_some h
      refine V_callV (As := [.int (1 : Int32), .int (gI S 0 4)]) (pc := 23) C (mX12_wrong _ euS7) zm_X12_wrong zi_X12_wrong ml_RX12_170 z1_mW_12 rfl ⟨Nat.le_of_ble_eq_true rfl, Nat.le_of_ble_eq_true rfl⟩ rfl rfl (Nat.le_of_ble_eq_true rfl) dX12_number_23 ?_
      show V K 26 [some (.ref 0), some (.int a1), some (.int a2), none] [] S7
      refine V_iload_n (pc := 26) C dX12_number_26 rfl rfl ?_
      cases h
      exact hR 27 _ ⟨_, rfl, rfl⟩ dX12_number_27
  · have h := it_f hc h
    refine V_iload_n (pc := 7) C dX12_number_7 rfl rfl ?_
    cases h
    exact hR 8 _ ⟨_, rfl, rfl⟩ dX12_number_8
set_option maxRecDepth 100000 in
theorem mX12_signed (l : Launch) {S : zM} {a1 : Int32} {r : Int32} {S' : zM}  (h : gX12_signed S a1 = some (r, S')) : zMet l mW zS0 yX12_signed cX12_signed 4 (some .int) 8 215 [.ref 0, .int a1] S (some (.int r)) S' := by
  refine zmeth (by decide +kernel) (by rfl) (fun K hKl C hR => ?_)
  show V K 0 [some (.ref 0), some (.int a1), none, none] [] S
  unfold gX12_signed at h
  refine V_aload_n (pc := 0) C dX12_signed_0 rfl rfl ?_
  refine V_ldcS (j := 36) (pc := 1) C dX12_signed_1 rfl ?_
  obtain ⟨r1, S2, er1, h⟩ := b2_some h
  refine V_callV (As := [.ref 10007]) (pc := 3) C (mX12_takes _ zq_7 er1) zm_X12_takes zi_X12_takes ml_RX12_167 z1_mW_12 rfl ⟨Nat.le_of_ble_eq_true rfl, Nat.le_of_ble_eq_true rfl⟩ rfl rfl (Nat.le_of_ble_eq_true rfl) dX12_signed_3 ?_
  show V K 6 [some (.ref 0), some (.int a1), none, none] [.int r1] S2
  refine V_istore_n (L' := [some (.ref 0), some (.int a1), some (.int r1), none]) (pc := 6) C dX12_signed_6 rfl (by decide) rfl ?_
  refine V_aload_n (pc := 7) C dX12_signed_7 rfl rfl ?_
  refine V_iconst (pc := 8) C dX12_signed_8 kc_i_0 ?_
  refine V_iload_n (pc := 9) C dX12_signed_9 rfl rfl ?_
  obtain ⟨r3, S4, er3, h⟩ := b2_some h
  refine V_callV (As := [.int (0 : Int32), .int a1]) (pc := 10) C (mX12_number _ er3) zm_X12_number zi_X12_number ml_RX12_207 z1_mW_12 rfl ⟨Nat.le_of_ble_eq_true rfl, Nat.le_of_ble_eq_true rfl⟩ rfl rfl (Nat.le_of_ble_eq_true rfl) dX12_signed_10 ?_
  show V K 13 [some (.ref 0), some (.int a1), some (.int r1), none] [.int r3] S4
  refine V_istore_n (L' := [some (.ref 0), some (.int a1), some (.int r1), some (.int r3)]) (pc := 13) C dX12_signed_13 rfl (by decide) rfl ?_
  refine V_iload_n (pc := 14) C dX12_signed_14 rfl rfl ?_
  refine V_if_eq (tgt := 23) (pc := 15) C dX12_signed_15 (by decide) (fun hc => ?_) (fun hc => ?_)
  · have h := it_t hc h
    refine V_iload_n (pc := 23) C dX12_signed_23 rfl rfl ?_
    cases h
    exact hR 24 _ ⟨_, rfl, rfl⟩ dX12_signed_24
  · have h := it_f hc h
    refine V_iload_n (pc := 18) C dX12_signed_18 rfl rfl ?_
    refine V_ineg (pc := 19) C dX12_signed_19 ?_
    refine V_goto (tgt := 24) (pc := 20) C dX12_signed_20 (by decide) ?_
    cases h
    exact hR 24 _ ⟨_, rfl, rfl⟩ dX12_signed_24
set_option maxRecDepth 100000 in
theorem mX12_slash (l : Launch) {S : zM}  {S' : zM}  (h : gX12_slash S = some S') : zMet l mW zS0 yX12_slash cX12_slash 1 (none) 2 44 [.ref 0] S none S' := by
  refine zmeth (by decide +kernel) (by rfl) (fun K hKl C hR => ?_)
  show V K 0 [some (.ref 0)] [] S
  unfold gX12_slash at h
  refine V_aload_n (pc := 0) C dX12_slash_0 rfl rfl ?_
  refine V_getI (pc := 1) C z1_mW_12 fl_RX12_143 (by decide) dX12_slash_1 ?_
  refine V_if_eq (tgt := 8) (pc := 4) C dX12_slash_4 (by decide) (fun hc => ?_) (fun hc => ?_)
  · have h := it_t hc h
    refine V_aload_n (pc := 8) C dX12_slash_8 rfl rfl ?_
    refine V_getI (pc := 9) C z1_mW_12 fl_RX12_133 (by decide) dX12_slash_9 ?_
    refine V_bipush (pc := 12) C dX12_slash_12 kc_b_47 ?_
    refine V_icmp_eq (tgt := 29) (pc := 14) C dX12_slash_14 (by decide) (fun hc => ?_) (fun hc => ?_)
    · have h := it_t hc h
      refine V_aload_n (pc := 29) C dX12_slash_29 rfl rfl ?_
      obtain ⟨S2, euS2, h⟩ := b1_some h
      refine V_callV (As := []) (pc := 30) C (mX12_next _ euS2) zm_X12_next zi_X12_next ml_RX12_164 z1_mW_12 rfl ⟨Nat.le_of_ble_eq_true rfl, Nat.le_of_ble_eq_true rfl⟩ rfl rfl (Nat.le_of_ble_eq_true rfl) dX12_slash_30 ?_
      show V K 33 [some (.ref 0)] [] S2
      cases h
      exact hR 33 _ rfl dX12_slash_33
    · have h := it_f hc h
      refine V_aload_n (pc := 17) C dX12_slash_17 rfl rfl ?_
      refine V_iconst (pc := 18) C dX12_slash_18 kc_i_1 ?_
      refine V_aload_n (pc := 19) C dX12_slash_19 rfl rfl ?_
      refine V_getI (pc := 20) C z1_mW_12 fl_RX12_124 (by decide) dX12_slash_20 ?_
      obtain ⟨S4, euS4, h⟩ := b1_some h
      refine V_callV (As := [.int (1 : Int32), .int (gI S 0 4)]) (pc := 23) C (mX12_wrong _ euS4) zm_X12_wrong zi_X12_wrong ml_RX12_170 z1_mW_12 rfl ⟨Nat.le_of_ble_eq_true rfl, Nat.le_of_ble_eq_true rfl⟩ rfl rfl (Nat.le_of_ble_eq_true rfl) dX12_slash_23 ?_
      show V K 26 [some (.ref 0)] [] S4
      refine V_goto (tgt := 33) (pc := 26) C dX12_slash_26 (by decide) ?_
      cases h
      exact hR 33 _ rfl dX12_slash_33
  · have h := it_f hc h
    cases h
    exact hR 7 _ rfl dX12_slash_7
set_option maxRecDepth 100000 in
theorem mX12_stepOf_J230 {K : zK} (C : zC K cX12_stepOf yX12_stepOf.cls 4 7 194 mW) {S : zM} {v1 : Int32} {S' : zM}  (hR : zR K cX12_stepOf (none) S' none) (h : gX12_stepOf_J230 S v1 = some S') : V K 230 [some (.ref 0), some (.int v1), none, none] [] S := by
  unfold gX12_stepOf_J230 at h
  refine V_aload_n (pc := 230) C dX12_stepOf_230 rfl rfl ?_
  refine V_getF (p1 := 4) (pc := 231) C z1_mW_12 fl_RX12_23 rfl (zf_mW_12_16 z1_mW_12) dX12_stepOf_231 ?_
  refine V_iconst (pc := 234) C dX12_stepOf_234 kc_i_0 ?_
  refine V_iload_n (pc := 235) C dX12_stepOf_235 rfl rfl ?_
  refine V_iadd (pc := 236) C dX12_stepOf_236 ?_
  refine V_dup2 (pc := 237) C dX12_stepOf_237 rfl rfl ?_
  obtain ⟨k18, h⟩ := ck_some h
  refine V_iald (pc := 238) C (za_mW_12_16 z1_mW_12) k18 dX12_stepOf_238 ?_
  refine V_iconst (pc := 239) C dX12_stepOf_239 kc_i_1 ?_
  refine V_iadd (pc := 240) C dX12_stepOf_240 ?_
  obtain ⟨k19, h⟩ := ck_some h
  refine V_iast (pc := 241) C (za_mW_12_16 z1_mW_12) k19 dX12_stepOf_241 ?_
  cases h
  exact hR 242 _ rfl dX12_stepOf_242
set_option maxRecDepth 100000 in
theorem mX12_stepOf_J226 {K : zK} (C : zC K cX12_stepOf yX12_stepOf.cls 4 7 194 mW) {S : zM} {v1 : Int32} {s0 : Int32} {s1 : Int32} {s3 : Int32} {S' : zM}  (hR : zR K cX12_stepOf (none) S' none) (h : gX12_stepOf_J226 S v1 s0 s1 s3 = some S') : V K 226 [some (.ref 0), some (.int v1), none, none] [.int s0, .int s1, .ref 0, .int s3, .ref 4] S := by
  unfold gX12_stepOf_J226 at h
  obtain ⟨r15, S16, er15, h⟩ := b2_some h
  refine V_callV (As := [.int s1, .int s0]) (pc := 226) C (mX12_number _ er15) zm_X12_number zi_X12_number ml_RX12_207 z1_mW_12 rfl ⟨Nat.le_of_ble_eq_true rfl, Nat.le_of_ble_eq_true rfl⟩ rfl rfl (Nat.le_of_ble_eq_true rfl) dX12_stepOf_226 ?_
  show V K 229 [some (.ref 0), some (.int v1), none, none] [.int r15, .int s3, .ref 4] S16
  obtain ⟨k17, h⟩ := ck_some h
  refine V_iast (pc := 229) C (za_mW_12_16 z1_mW_12) k17 dX12_stepOf_229 ?_
  exact V_mask [true, true, false, false] (mX12_stepOf_J230 C  hR h)
set_option maxRecDepth 100000 in
theorem mX12_stepOf_J190 {K : zK} (C : zC K cX12_stepOf yX12_stepOf.cls 4 7 194 mW) {S : zM} {v1 : Int32} {v2 : Int32} {v3 : Int32} {s0 : Int32} {s1 : Int32} {S' : zM}  (hR : zR K cX12_stepOf (none) S' none) (h : gX12_stepOf_J190 S v1 v2 v3 s0 s1 = some S') : V K 190 [some (.ref 0), some (.int v1), some (.int v2), some (.int v3)] [.int s0, .int s1, .ref 4] S := by
  unfold gX12_stepOf_J190 at h
  obtain ⟨k12, h⟩ := ck_some h
  refine V_iast (pc := 190) C (za_mW_12_16 z1_mW_12) k12 dX12_stepOf_190 ?_
  refine V_iload_n (pc := 191) C dX12_stepOf_191 rfl rfl ?_
  refine V_iconst (pc := 192) C dX12_stepOf_192 kc_i_1 ?_
  refine V_icmp_eq (tgt := 201) (pc := 193) C dX12_stepOf_193 (by decide) (fun hc => ?_) (fun hc => ?_)
  · have h := it_t hc h
    refine V_aload_n (pc := 201) C dX12_stepOf_201 rfl rfl ?_
    obtain ⟨S14, euS14, h⟩ := b1_some h
    refine V_callV (As := []) (pc := 202) C (mX12_slash _ euS14) zm_X12_slash zi_X12_slash ml_RX12_250 z1_mW_12 rfl ⟨Nat.le_of_ble_eq_true rfl, Nat.le_of_ble_eq_true rfl⟩ rfl rfl (Nat.le_of_ble_eq_true rfl) dX12_stepOf_202 ?_
    show V K 205 [some (.ref 0), some (.int v1), some (.int v2), some (.int v3)] [] S14
    refine V_aload_n (pc := 205) C dX12_stepOf_205 rfl rfl ?_
    refine V_getF (p1 := 4) (pc := 206) C z1_mW_12 fl_RX12_23 rfl (zf_mW_12_16 z1_mW_12) dX12_stepOf_206 ?_
    refine V_bipush (pc := 209) C dX12_stepOf_209 kc_b_54 ?_
    refine V_iload_n (pc := 211) C dX12_stepOf_211 rfl rfl ?_
    refine V_iadd (pc := 212) C dX12_stepOf_212 ?_
    refine V_aload_n (pc := 213) C dX12_stepOf_213 rfl rfl ?_
    refine V_iconst (pc := 214) C dX12_stepOf_214 kc_i_1 ?_
    refine V_iload_n (pc := 215) C dX12_stepOf_215 rfl rfl ?_
    refine V_iconst (pc := 216) C dX12_stepOf_216 kc_i_1 ?_
    refine V_icmp_ne (tgt := 224) (pc := 217) C dX12_stepOf_217 (by decide) (fun hc => ?_) (fun hc => ?_)
    · have h := it_f hc h
      refine V_bipush (pc := 224) C dX12_stepOf_224 kc_b_99 ?_
      exact V_mask [true, true, false, false] (mX12_stepOf_J226 C  hR h)
    · have h := it_t hc h
      refine V_iconst (pc := 220) C dX12_stepOf_220 kc_i_3 ?_
      refine V_goto (tgt := 226) (pc := 221) C dX12_stepOf_221 (by decide) ?_
      exact V_mask [true, true, false, false] (mX12_stepOf_J226 C  hR h)
  · have h := it_f hc h
    refine V_iload_n (pc := 196) C dX12_stepOf_196 rfl rfl ?_
    refine V_iconst (pc := 197) C dX12_stepOf_197 kc_i_2 ?_
    refine V_icmp_ne (tgt := 230) (pc := 198) C dX12_stepOf_198 (by decide) (fun hc => ?_) (fun hc => ?_)
    · have h := it_f hc h
      refine V_aload_n (pc := 230) C dX12_stepOf_230 rfl rfl ?_
      refine V_getF (p1 := 4) (pc := 231) C z1_mW_12 fl_RX12_23 rfl (zf_mW_12_16 z1_mW_12) dX12_stepOf_231 ?_
      refine V_iconst (pc := 234) C dX12_stepOf_234 kc_i_0 ?_
      refine V_iload_n (pc := 235) C dX12_stepOf_235 rfl rfl ?_
      refine V_iadd (pc := 236) C dX12_stepOf_236 ?_
      refine V_dup2 (pc := 237) C dX12_stepOf_237 rfl rfl ?_
      obtain ⟨k20, h⟩ := ck_some h
      refine V_iald (pc := 238) C (za_mW_12_16 z1_mW_12) k20 dX12_stepOf_238 ?_
      refine V_iconst (pc := 239) C dX12_stepOf_239 kc_i_1 ?_
      refine V_iadd (pc := 240) C dX12_stepOf_240 ?_
      obtain ⟨k21, h⟩ := ck_some h
      refine V_iast (pc := 241) C (za_mW_12_16 z1_mW_12) k21 dX12_stepOf_241 ?_
      obtain ⟨S22, eS22, h⟩ := lt_some h
      refine V_nmS eS22 ?_
      cases h
      exact hR 242 _ rfl dX12_stepOf_242
    · have h := it_t hc h
      refine V_aload_n (pc := 201) C dX12_stepOf_201 rfl rfl ?_
      obtain ⟨S24, euS24, h⟩ := b1_some h
      refine V_callV (As := []) (pc := 202) C (mX12_slash _ euS24) zm_X12_slash zi_X12_slash ml_RX12_250 z1_mW_12 rfl ⟨Nat.le_of_ble_eq_true rfl, Nat.le_of_ble_eq_true rfl⟩ rfl rfl (Nat.le_of_ble_eq_true rfl) dX12_stepOf_202 ?_
      show V K 205 [some (.ref 0), some (.int v1), some (.int v2), some (.int v3)] [] S24
      refine V_aload_n (pc := 205) C dX12_stepOf_205 rfl rfl ?_
      refine V_getF (p1 := 4) (pc := 206) C z1_mW_12 fl_RX12_23 rfl (zf_mW_12_16 z1_mW_12) dX12_stepOf_206 ?_
      refine V_bipush (pc := 209) C dX12_stepOf_209 kc_b_54 ?_
      refine V_iload_n (pc := 211) C dX12_stepOf_211 rfl rfl ?_
      refine V_iadd (pc := 212) C dX12_stepOf_212 ?_
      refine V_aload_n (pc := 213) C dX12_stepOf_213 rfl rfl ?_
      refine V_iconst (pc := 214) C dX12_stepOf_214 kc_i_1 ?_
      refine V_iload_n (pc := 215) C dX12_stepOf_215 rfl rfl ?_
      refine V_iconst (pc := 216) C dX12_stepOf_216 kc_i_1 ?_
      refine V_icmp_ne (tgt := 224) (pc := 217) C dX12_stepOf_217 (by decide) (fun hc => ?_) (fun hc => ?_)
      · have h := it_f hc h
        refine V_bipush (pc := 224) C dX12_stepOf_224 kc_b_99 ?_
        exact V_mask [true, true, false, false] (mX12_stepOf_J226 C  hR h)
      · have h := it_t hc h
        refine V_iconst (pc := 220) C dX12_stepOf_220 kc_i_3 ?_
        refine V_goto (tgt := 226) (pc := 221) C dX12_stepOf_221 (by decide) ?_
        exact V_mask [true, true, false, false] (mX12_stepOf_J226 C  hR h)
set_option maxRecDepth 100000 in
theorem mX12_stepOf_J96 {K : zK} (C : zC K cX12_stepOf yX12_stepOf.cls 4 7 194 mW) {S : zM} {v1 : Int32} {v2 : Int32} {S' : zM}  (hR : zR K cX12_stepOf (none) S' none) (h : gX12_stepOf_J96 S v1 v2 = some S') : V K 96 [some (.ref 0), some (.int v1), some (.int v2), none] [] S := by
  unfold gX12_stepOf_J96 at h
  refine V_aload_n (pc := 96) C dX12_stepOf_96 rfl rfl ?_
  refine V_getI (pc := 97) C z1_mW_12 fl_RX12_143 (by decide) dX12_stepOf_97 ?_
  refine V_if_eq (tgt := 104) (pc := 100) C dX12_stepOf_100 (by decide) (fun hc => ?_) (fun hc => ?_)
  · have h := it_t hc h
    refine V_aload_n (pc := 104) C dX12_stepOf_104 rfl rfl ?_
    obtain ⟨S48, euS48, h⟩ := b1_some h
    refine V_callV (As := []) (pc := 105) C (mX12_next _ euS48) zm_X12_next zi_X12_next ml_RX12_164 z1_mW_12 rfl ⟨Nat.le_of_ble_eq_true rfl, Nat.le_of_ble_eq_true rfl⟩ rfl rfl (Nat.le_of_ble_eq_true rfl) dX12_stepOf_105 ?_
    show V K 108 [some (.ref 0), some (.int v1), some (.int v2), none] [] S48
    refine V_iconst (pc := 108) C dX12_stepOf_108 kc_i_4 ?_
    refine V_iload_n (pc := 109) C dX12_stepOf_109 rfl rfl ?_
    refine V_imul (pc := 110) C dX12_stepOf_110 ?_
    refine V_aload_n (pc := 111) C dX12_stepOf_111 rfl rfl ?_
    refine V_getF (p1 := 4) (pc := 112) C z1_mW_12 fl_RX12_23 rfl (zf_mW_12_16 z1_mW_12) dX12_stepOf_112 ?_
    refine V_iconst (pc := 115) C dX12_stepOf_115 kc_i_0 ?_
    refine V_iload_n (pc := 116) C dX12_stepOf_116 rfl rfl ?_
    refine V_iadd (pc := 117) C dX12_stepOf_117 ?_
    obtain ⟨k49, h⟩ := ck_some h
    refine V_iald (pc := 118) C (za_mW_12_16 z1_mW_12) k49 dX12_stepOf_118 ?_
    refine V_iadd (pc := 119) C dX12_stepOf_119 ?_
    obtain ⟨x50, ex50, h⟩ := lt_some h
    refine V_nmI ex50 ?_
    refine V_istore_n (L' := [some (.ref 0), some (.int v1), some (.int v2), some (.int x50)]) (pc := 120) C dX12_stepOf_120 rfl (by decide) rfl ?_
    refine V_aload_n (pc := 121) C dX12_stepOf_121 rfl rfl ?_
    refine V_getF (p1 := 4) (pc := 122) C z1_mW_12 fl_RX12_23 rfl (zf_mW_12_16 z1_mW_12) dX12_stepOf_122 ?_
    refine V_bipush (pc := 125) C dX12_stepOf_125 kc_b_6 ?_
    refine V_iload_n (pc := 127) C dX12_stepOf_127 rfl rfl ?_
    refine V_iadd (pc := 128) C dX12_stepOf_128 ?_
    refine V_iload_n (pc := 129) C dX12_stepOf_129 rfl rfl ?_
    obtain ⟨k51, h⟩ := ck_some h
    refine V_iast (pc := 130) C (za_mW_12_16 z1_mW_12) k51 dX12_stepOf_130 ?_
    refine V_aload_n (pc := 131) C dX12_stepOf_131 rfl rfl ?_
    refine V_getF (p1 := 4) (pc := 132) C z1_mW_12 fl_RX12_23 rfl (zf_mW_12_16 z1_mW_12) dX12_stepOf_132 ?_
    refine V_bipush (pc := 135) C dX12_stepOf_135 kc_b_30 ?_
    refine V_iload_n (pc := 137) C dX12_stepOf_137 rfl rfl ?_
    refine V_iadd (pc := 138) C dX12_stepOf_138 ?_
    refine V_iload_n (pc := 139) C dX12_stepOf_139 rfl rfl ?_
    refine V_if_ne (tgt := 153) (pc := 140) C dX12_stepOf_140 (by decide) (fun hc => ?_) (fun hc => ?_)
    · have h := it_f hc h
      refine V_iload_n (pc := 153) C dX12_stepOf_153 rfl rfl ?_
      refine V_iconst (pc := 154) C dX12_stepOf_154 kc_i_1 ?_
      refine V_icmp_ne (tgt := 167) (pc := 155) C dX12_stepOf_155 (by decide) (fun hc => ?_) (fun hc => ?_)
      · have h := it_f hc h
        refine V_iload_n (pc := 167) C dX12_stepOf_167 rfl rfl ?_
        refine V_iconst (pc := 168) C dX12_stepOf_168 kc_i_2 ?_
        refine V_icmp_ne (tgt := 182) (pc := 169) C dX12_stepOf_169 (by decide) (fun hc => ?_) (fun hc => ?_)
        · have h := it_f hc h
          refine V_aload_n (pc := 182) C dX12_stepOf_182 rfl rfl ?_
          refine V_iconst (pc := 183) C dX12_stepOf_183 kc_i_0 ?_
          refine V_sipush (pc := 184) C dX12_stepOf_184 kc_s_399 ?_
          obtain ⟨r52, S53, er52, h⟩ := b2_some h
          refine V_callV (As := [.int (0 : Int32), .int (399 : Int32)]) (pc := 187) C (mX12_number _ er52) zm_X12_number zi_X12_number ml_RX12_207 z1_mW_12 rfl ⟨Nat.le_of_ble_eq_true rfl, Nat.le_of_ble_eq_true rfl⟩ rfl rfl (Nat.le_of_ble_eq_true rfl) dX12_stepOf_187 ?_
          show V K 190 [some (.ref 0), some (.int v1), some (.int v2), some (.int x50)] [.int r52, .int ((30 : Int32) + x50), .ref 4] S53
          exact V_mask [true, true, true, true] (mX12_stepOf_J190 C  hR h)
        · have h := it_t hc h
          refine V_aload_n (pc := 172) C dX12_stepOf_172 rfl rfl ?_
          refine V_iconst (pc := 173) C dX12_stepOf_173 kc_i_1 ?_
          refine V_bipush (pc := 174) C dX12_stepOf_174 kc_b_99 ?_
          obtain ⟨r54, S55, er54, h⟩ := b2_some h
          refine V_callV (As := [.int (1 : Int32), .int (99 : Int32)]) (pc := 176) C (mX12_number _ er54) zm_X12_number zi_X12_number ml_RX12_207 z1_mW_12 rfl ⟨Nat.le_of_ble_eq_true rfl, Nat.le_of_ble_eq_true rfl⟩ rfl rfl (Nat.le_of_ble_eq_true rfl) dX12_stepOf_176 ?_
          show V K 179 [some (.ref 0), some (.int v1), some (.int v2), some (.int x50)] [.int r54, .int ((30 : Int32) + x50), .ref 4] S55
          refine V_goto (tgt := 190) (pc := 179) C dX12_stepOf_179 (by decide) ?_
          exact V_mask [true, true, true, true] (mX12_stepOf_J190 C  hR h)
      · have h := it_t hc h
        refine V_aload_n (pc := 158) C dX12_stepOf_158 rfl rfl ?_
        refine V_iconst (pc := 159) C dX12_stepOf_159 kc_i_1 ?_
        refine V_iconst (pc := 160) C dX12_stepOf_160 kc_i_3 ?_
        obtain ⟨r56, S57, er56, h⟩ := b2_some h
        refine V_callV (As := [.int (1 : Int32), .int (3 : Int32)]) (pc := 161) C (mX12_number _ er56) zm_X12_number zi_X12_number ml_RX12_207 z1_mW_12 rfl ⟨Nat.le_of_ble_eq_true rfl, Nat.le_of_ble_eq_true rfl⟩ rfl rfl (Nat.le_of_ble_eq_true rfl) dX12_stepOf_161 ?_
        show V K 164 [some (.ref 0), some (.int v1), some (.int v2), some (.int x50)] [.int r56, .int ((30 : Int32) + x50), .ref 4] S57
        refine V_goto (tgt := 190) (pc := 164) C dX12_stepOf_164 (by decide) ?_
        exact V_mask [true, true, true, true] (mX12_stepOf_J190 C  hR h)
    · have h := it_t hc h
      refine V_aload_n (pc := 143) C dX12_stepOf_143 rfl rfl ?_
      refine V_iconst (pc := 144) C dX12_stepOf_144 kc_i_2 ?_
      refine V_bipush (pc := 145) C dX12_stepOf_145 kc_b_99 ?_
      obtain ⟨r58, S59, er58, h⟩ := b2_some h
      refine V_callV (As := [.int (2 : Int32), .int (99 : Int32)]) (pc := 147) C (mX12_number _ er58) zm_X12_number zi_X12_number ml_RX12_207 z1_mW_12 rfl ⟨Nat.le_of_ble_eq_true rfl, Nat.le_of_ble_eq_true rfl⟩ rfl rfl (Nat.le_of_ble_eq_true rfl) dX12_stepOf_147 ?_
      show V K 150 [some (.ref 0), some (.int v1), some (.int v2), some (.int x50)] [.int r58, .int ((30 : Int32) + x50), .ref 4] S59
      refine V_goto (tgt := 190) (pc := 150) C dX12_stepOf_150 (by decide) ?_
      exact V_mask [true, true, true, true] (mX12_stepOf_J190 C  hR h)
  · have h := it_f hc h
    cases h
    exact hR 103 _ rfl dX12_stepOf_103
set_option maxRecDepth 100000 in
theorem mX12_stepOf_J68 {K : zK} (C : zC K cX12_stepOf yX12_stepOf.cls 4 7 194 mW) {S : zM} {v1 : Int32} {v2 : Int32} {S' : zM}  (hR : zR K cX12_stepOf (none) S' none) (h : gX12_stepOf_J68 S v1 v2 = some S') : V K 68 [some (.ref 0), some (.int v1), some (.int v2), none] [] S := by
  unfold gX12_stepOf_J68 at h
  refine V_aload_n (pc := 68) C dX12_stepOf_68 rfl rfl ?_
  refine V_getI (pc := 69) C z1_mW_12 fl_RX12_143 (by decide) dX12_stepOf_69 ?_
  refine V_if_ne (tgt := 96) (pc := 72) C dX12_stepOf_72 (by decide) (fun hc => ?_) (fun hc => ?_)
  · have h := it_f hc h
    refine V_aload_n (pc := 96) C dX12_stepOf_96 rfl rfl ?_
    refine V_getI (pc := 97) C z1_mW_12 fl_RX12_143 (by decide) dX12_stepOf_97 ?_
    refine V_if_eq (tgt := 104) (pc := 100) C dX12_stepOf_100 (by decide) (fun hc => ?_) (fun hc => ?_)
    · have h := it_t hc h
      refine V_aload_n (pc := 104) C dX12_stepOf_104 rfl rfl ?_
      obtain ⟨S63, euS63, h⟩ := b1_some h
      refine V_callV (As := []) (pc := 105) C (mX12_next _ euS63) zm_X12_next zi_X12_next ml_RX12_164 z1_mW_12 rfl ⟨Nat.le_of_ble_eq_true rfl, Nat.le_of_ble_eq_true rfl⟩ rfl rfl (Nat.le_of_ble_eq_true rfl) dX12_stepOf_105 ?_
      show V K 108 [some (.ref 0), some (.int v1), some (.int v2), none] [] S63
      refine V_iconst (pc := 108) C dX12_stepOf_108 kc_i_4 ?_
      refine V_iload_n (pc := 109) C dX12_stepOf_109 rfl rfl ?_
      refine V_imul (pc := 110) C dX12_stepOf_110 ?_
      refine V_aload_n (pc := 111) C dX12_stepOf_111 rfl rfl ?_
      refine V_getF (p1 := 4) (pc := 112) C z1_mW_12 fl_RX12_23 rfl (zf_mW_12_16 z1_mW_12) dX12_stepOf_112 ?_
      refine V_iconst (pc := 115) C dX12_stepOf_115 kc_i_0 ?_
      refine V_iload_n (pc := 116) C dX12_stepOf_116 rfl rfl ?_
      refine V_iadd (pc := 117) C dX12_stepOf_117 ?_
      obtain ⟨k64, h⟩ := ck_some h
      refine V_iald (pc := 118) C (za_mW_12_16 z1_mW_12) k64 dX12_stepOf_118 ?_
      refine V_iadd (pc := 119) C dX12_stepOf_119 ?_
      obtain ⟨x65, ex65, h⟩ := lt_some h
      refine V_nmI ex65 ?_
      refine V_istore_n (L' := [some (.ref 0), some (.int v1), some (.int v2), some (.int x65)]) (pc := 120) C dX12_stepOf_120 rfl (by decide) rfl ?_
      refine V_aload_n (pc := 121) C dX12_stepOf_121 rfl rfl ?_
      refine V_getF (p1 := 4) (pc := 122) C z1_mW_12 fl_RX12_23 rfl (zf_mW_12_16 z1_mW_12) dX12_stepOf_122 ?_
      refine V_bipush (pc := 125) C dX12_stepOf_125 kc_b_6 ?_
      refine V_iload_n (pc := 127) C dX12_stepOf_127 rfl rfl ?_
      refine V_iadd (pc := 128) C dX12_stepOf_128 ?_
      refine V_iload_n (pc := 129) C dX12_stepOf_129 rfl rfl ?_
      obtain ⟨k66, h⟩ := ck_some h
      refine V_iast (pc := 130) C (za_mW_12_16 z1_mW_12) k66 dX12_stepOf_130 ?_
      refine V_aload_n (pc := 131) C dX12_stepOf_131 rfl rfl ?_
      refine V_getF (p1 := 4) (pc := 132) C z1_mW_12 fl_RX12_23 rfl (zf_mW_12_16 z1_mW_12) dX12_stepOf_132 ?_
      refine V_bipush (pc := 135) C dX12_stepOf_135 kc_b_30 ?_
      refine V_iload_n (pc := 137) C dX12_stepOf_137 rfl rfl ?_
      refine V_iadd (pc := 138) C dX12_stepOf_138 ?_
      refine V_iload_n (pc := 139) C dX12_stepOf_139 rfl rfl ?_
      refine V_if_ne (tgt := 153) (pc := 140) C dX12_stepOf_140 (by decide) (fun hc => ?_) (fun hc => ?_)
      · have h := it_f hc h
        refine V_iload_n (pc := 153) C dX12_stepOf_153 rfl rfl ?_
        refine V_iconst (pc := 154) C dX12_stepOf_154 kc_i_1 ?_
        refine V_icmp_ne (tgt := 167) (pc := 155) C dX12_stepOf_155 (by decide) (fun hc => ?_) (fun hc => ?_)
        · have h := it_f hc h
          refine V_iload_n (pc := 167) C dX12_stepOf_167 rfl rfl ?_
          refine V_iconst (pc := 168) C dX12_stepOf_168 kc_i_2 ?_
          refine V_icmp_ne (tgt := 182) (pc := 169) C dX12_stepOf_169 (by decide) (fun hc => ?_) (fun hc => ?_)
          · have h := it_f hc h
            refine V_aload_n (pc := 182) C dX12_stepOf_182 rfl rfl ?_
            refine V_iconst (pc := 183) C dX12_stepOf_183 kc_i_0 ?_
            refine V_sipush (pc := 184) C dX12_stepOf_184 kc_s_399 ?_
            obtain ⟨r67, S68, er67, h⟩ := b2_some h
            refine V_callV (As := [.int (0 : Int32), .int (399 : Int32)]) (pc := 187) C (mX12_number _ er67) zm_X12_number zi_X12_number ml_RX12_207 z1_mW_12 rfl ⟨Nat.le_of_ble_eq_true rfl, Nat.le_of_ble_eq_true rfl⟩ rfl rfl (Nat.le_of_ble_eq_true rfl) dX12_stepOf_187 ?_
            show V K 190 [some (.ref 0), some (.int v1), some (.int v2), some (.int x65)] [.int r67, .int ((30 : Int32) + x65), .ref 4] S68
            exact V_mask [true, true, true, true] (mX12_stepOf_J190 C  hR h)
          · have h := it_t hc h
            refine V_aload_n (pc := 172) C dX12_stepOf_172 rfl rfl ?_
            refine V_iconst (pc := 173) C dX12_stepOf_173 kc_i_1 ?_
            refine V_bipush (pc := 174) C dX12_stepOf_174 kc_b_99 ?_
            obtain ⟨r69, S70, er69, h⟩ := b2_some h
            refine V_callV (As := [.int (1 : Int32), .int (99 : Int32)]) (pc := 176) C (mX12_number _ er69) zm_X12_number zi_X12_number ml_RX12_207 z1_mW_12 rfl ⟨Nat.le_of_ble_eq_true rfl, Nat.le_of_ble_eq_true rfl⟩ rfl rfl (Nat.le_of_ble_eq_true rfl) dX12_stepOf_176 ?_
            show V K 179 [some (.ref 0), some (.int v1), some (.int v2), some (.int x65)] [.int r69, .int ((30 : Int32) + x65), .ref 4] S70
            refine V_goto (tgt := 190) (pc := 179) C dX12_stepOf_179 (by decide) ?_
            exact V_mask [true, true, true, true] (mX12_stepOf_J190 C  hR h)
        · have h := it_t hc h
          refine V_aload_n (pc := 158) C dX12_stepOf_158 rfl rfl ?_
          refine V_iconst (pc := 159) C dX12_stepOf_159 kc_i_1 ?_
          refine V_iconst (pc := 160) C dX12_stepOf_160 kc_i_3 ?_
          obtain ⟨r71, S72, er71, h⟩ := b2_some h
          refine V_callV (As := [.int (1 : Int32), .int (3 : Int32)]) (pc := 161) C (mX12_number _ er71) zm_X12_number zi_X12_number ml_RX12_207 z1_mW_12 rfl ⟨Nat.le_of_ble_eq_true rfl, Nat.le_of_ble_eq_true rfl⟩ rfl rfl (Nat.le_of_ble_eq_true rfl) dX12_stepOf_161 ?_
          show V K 164 [some (.ref 0), some (.int v1), some (.int v2), some (.int x65)] [.int r71, .int ((30 : Int32) + x65), .ref 4] S72
          refine V_goto (tgt := 190) (pc := 164) C dX12_stepOf_164 (by decide) ?_
          exact V_mask [true, true, true, true] (mX12_stepOf_J190 C  hR h)
      · have h := it_t hc h
        refine V_aload_n (pc := 143) C dX12_stepOf_143 rfl rfl ?_
        refine V_iconst (pc := 144) C dX12_stepOf_144 kc_i_2 ?_
        refine V_bipush (pc := 145) C dX12_stepOf_145 kc_b_99 ?_
        obtain ⟨r73, S74, er73, h⟩ := b2_some h
        refine V_callV (As := [.int (2 : Int32), .int (99 : Int32)]) (pc := 147) C (mX12_number _ er73) zm_X12_number zi_X12_number ml_RX12_207 z1_mW_12 rfl ⟨Nat.le_of_ble_eq_true rfl, Nat.le_of_ble_eq_true rfl⟩ rfl rfl (Nat.le_of_ble_eq_true rfl) dX12_stepOf_147 ?_
        show V K 150 [some (.ref 0), some (.int v1), some (.int v2), some (.int x65)] [.int r73, .int ((30 : Int32) + x65), .ref 4] S74
        refine V_goto (tgt := 190) (pc := 150) C dX12_stepOf_150 (by decide) ?_
        exact V_mask [true, true, true, true] (mX12_stepOf_J190 C  hR h)
    · have h := it_f hc h
      cases h
      exact hR 103 _ rfl dX12_stepOf_103
  · have h := it_t hc h
    refine V_aload_n (pc := 75) C dX12_stepOf_75 rfl rfl ?_
    refine V_getF (p1 := 4) (pc := 76) C z1_mW_12 fl_RX12_23 rfl (zf_mW_12_16 z1_mW_12) dX12_stepOf_76 ?_
    refine V_iconst (pc := 79) C dX12_stepOf_79 kc_i_0 ?_
    refine V_iload_n (pc := 80) C dX12_stepOf_80 rfl rfl ?_
    refine V_iadd (pc := 81) C dX12_stepOf_81 ?_
    obtain ⟨k75, h⟩ := ck_some h
    refine V_iald (pc := 82) C (za_mW_12_16 z1_mW_12) k75 dX12_stepOf_82 ?_
    refine V_iconst (pc := 83) C dX12_stepOf_83 kc_i_4 ?_
    refine V_icmp_ne (tgt := 96) (pc := 84) C dX12_stepOf_84 (by decide) (fun hc => ?_) (fun hc => ?_)
    · have h := it_f hc h
      refine V_aload_n (pc := 96) C dX12_stepOf_96 rfl rfl ?_
      refine V_getI (pc := 97) C z1_mW_12 fl_RX12_143 (by decide) dX12_stepOf_97 ?_
      refine V_if_eq (tgt := 104) (pc := 100) C dX12_stepOf_100 (by decide) (fun hc => ?_) (fun hc => ?_)
      · have h := it_t hc h
        refine V_aload_n (pc := 104) C dX12_stepOf_104 rfl rfl ?_
        obtain ⟨S77, euS77, h⟩ := b1_some h
        refine V_callV (As := []) (pc := 105) C (mX12_next _ euS77) zm_X12_next zi_X12_next ml_RX12_164 z1_mW_12 rfl ⟨Nat.le_of_ble_eq_true rfl, Nat.le_of_ble_eq_true rfl⟩ rfl rfl (Nat.le_of_ble_eq_true rfl) dX12_stepOf_105 ?_
        show V K 108 [some (.ref 0), some (.int v1), some (.int v2), none] [] S77
        refine V_iconst (pc := 108) C dX12_stepOf_108 kc_i_4 ?_
        refine V_iload_n (pc := 109) C dX12_stepOf_109 rfl rfl ?_
        refine V_imul (pc := 110) C dX12_stepOf_110 ?_
        refine V_aload_n (pc := 111) C dX12_stepOf_111 rfl rfl ?_
        refine V_getF (p1 := 4) (pc := 112) C z1_mW_12 fl_RX12_23 rfl (zf_mW_12_16 z1_mW_12) dX12_stepOf_112 ?_
        refine V_iconst (pc := 115) C dX12_stepOf_115 kc_i_0 ?_
        refine V_iload_n (pc := 116) C dX12_stepOf_116 rfl rfl ?_
        refine V_iadd (pc := 117) C dX12_stepOf_117 ?_
        obtain ⟨k78, h⟩ := ck_some h
        refine V_iald (pc := 118) C (za_mW_12_16 z1_mW_12) k78 dX12_stepOf_118 ?_
        refine V_iadd (pc := 119) C dX12_stepOf_119 ?_
        obtain ⟨x79, ex79, h⟩ := lt_some h
        refine V_nmI ex79 ?_
        refine V_istore_n (L' := [some (.ref 0), some (.int v1), some (.int v2), some (.int x79)]) (pc := 120) C dX12_stepOf_120 rfl (by decide) rfl ?_
        refine V_aload_n (pc := 121) C dX12_stepOf_121 rfl rfl ?_
        refine V_getF (p1 := 4) (pc := 122) C z1_mW_12 fl_RX12_23 rfl (zf_mW_12_16 z1_mW_12) dX12_stepOf_122 ?_
        refine V_bipush (pc := 125) C dX12_stepOf_125 kc_b_6 ?_
        refine V_iload_n (pc := 127) C dX12_stepOf_127 rfl rfl ?_
        refine V_iadd (pc := 128) C dX12_stepOf_128 ?_
        refine V_iload_n (pc := 129) C dX12_stepOf_129 rfl rfl ?_
        obtain ⟨k80, h⟩ := ck_some h
        refine V_iast (pc := 130) C (za_mW_12_16 z1_mW_12) k80 dX12_stepOf_130 ?_
        refine V_aload_n (pc := 131) C dX12_stepOf_131 rfl rfl ?_
        refine V_getF (p1 := 4) (pc := 132) C z1_mW_12 fl_RX12_23 rfl (zf_mW_12_16 z1_mW_12) dX12_stepOf_132 ?_
        refine V_bipush (pc := 135) C dX12_stepOf_135 kc_b_30 ?_
        refine V_iload_n (pc := 137) C dX12_stepOf_137 rfl rfl ?_
        refine V_iadd (pc := 138) C dX12_stepOf_138 ?_
        refine V_iload_n (pc := 139) C dX12_stepOf_139 rfl rfl ?_
        refine V_if_ne (tgt := 153) (pc := 140) C dX12_stepOf_140 (by decide) (fun hc => ?_) (fun hc => ?_)
        · have h := it_f hc h
          refine V_iload_n (pc := 153) C dX12_stepOf_153 rfl rfl ?_
          refine V_iconst (pc := 154) C dX12_stepOf_154 kc_i_1 ?_
          refine V_icmp_ne (tgt := 167) (pc := 155) C dX12_stepOf_155 (by decide) (fun hc => ?_) (fun hc => ?_)
          · have h := it_f hc h
            refine V_iload_n (pc := 167) C dX12_stepOf_167 rfl rfl ?_
            refine V_iconst (pc := 168) C dX12_stepOf_168 kc_i_2 ?_
            refine V_icmp_ne (tgt := 182) (pc := 169) C dX12_stepOf_169 (by decide) (fun hc => ?_) (fun hc => ?_)
            · have h := it_f hc h
              refine V_aload_n (pc := 182) C dX12_stepOf_182 rfl rfl ?_
              refine V_iconst (pc := 183) C dX12_stepOf_183 kc_i_0 ?_
              refine V_sipush (pc := 184) C dX12_stepOf_184 kc_s_399 ?_
              obtain ⟨r81, S82, er81, h⟩ := b2_some h
              refine V_callV (As := [.int (0 : Int32), .int (399 : Int32)]) (pc := 187) C (mX12_number _ er81) zm_X12_number zi_X12_number ml_RX12_207 z1_mW_12 rfl ⟨Nat.le_of_ble_eq_true rfl, Nat.le_of_ble_eq_true rfl⟩ rfl rfl (Nat.le_of_ble_eq_true rfl) dX12_stepOf_187 ?_
              show V K 190 [some (.ref 0), some (.int v1), some (.int v2), some (.int x79)] [.int r81, .int ((30 : Int32) + x79), .ref 4] S82
              exact V_mask [true, true, true, true] (mX12_stepOf_J190 C  hR h)
            · have h := it_t hc h
              refine V_aload_n (pc := 172) C dX12_stepOf_172 rfl rfl ?_
              refine V_iconst (pc := 173) C dX12_stepOf_173 kc_i_1 ?_
              refine V_bipush (pc := 174) C dX12_stepOf_174 kc_b_99 ?_
              obtain ⟨r83, S84, er83, h⟩ := b2_some h
              refine V_callV (As := [.int (1 : Int32), .int (99 : Int32)]) (pc := 176) C (mX12_number _ er83) zm_X12_number zi_X12_number ml_RX12_207 z1_mW_12 rfl ⟨Nat.le_of_ble_eq_true rfl, Nat.le_of_ble_eq_true rfl⟩ rfl rfl (Nat.le_of_ble_eq_true rfl) dX12_stepOf_176 ?_
              show V K 179 [some (.ref 0), some (.int v1), some (.int v2), some (.int x79)] [.int r83, .int ((30 : Int32) + x79), .ref 4] S84
              refine V_goto (tgt := 190) (pc := 179) C dX12_stepOf_179 (by decide) ?_
              exact V_mask [true, true, true, true] (mX12_stepOf_J190 C  hR h)
          · have h := it_t hc h
            refine V_aload_n (pc := 158) C dX12_stepOf_158 rfl rfl ?_
            refine V_iconst (pc := 159) C dX12_stepOf_159 kc_i_1 ?_
            refine V_iconst (pc := 160) C dX12_stepOf_160 kc_i_3 ?_
            obtain ⟨r85, S86, er85, h⟩ := b2_some h
            refine V_callV (As := [.int (1 : Int32), .int (3 : Int32)]) (pc := 161) C (mX12_number _ er85) zm_X12_number zi_X12_number ml_RX12_207 z1_mW_12 rfl ⟨Nat.le_of_ble_eq_true rfl, Nat.le_of_ble_eq_true rfl⟩ rfl rfl (Nat.le_of_ble_eq_true rfl) dX12_stepOf_161 ?_
            show V K 164 [some (.ref 0), some (.int v1), some (.int v2), some (.int x79)] [.int r85, .int ((30 : Int32) + x79), .ref 4] S86
            refine V_goto (tgt := 190) (pc := 164) C dX12_stepOf_164 (by decide) ?_
            exact V_mask [true, true, true, true] (mX12_stepOf_J190 C  hR h)
        · have h := it_t hc h
          refine V_aload_n (pc := 143) C dX12_stepOf_143 rfl rfl ?_
          refine V_iconst (pc := 144) C dX12_stepOf_144 kc_i_2 ?_
          refine V_bipush (pc := 145) C dX12_stepOf_145 kc_b_99 ?_
          obtain ⟨r87, S88, er87, h⟩ := b2_some h
          refine V_callV (As := [.int (2 : Int32), .int (99 : Int32)]) (pc := 147) C (mX12_number _ er87) zm_X12_number zi_X12_number ml_RX12_207 z1_mW_12 rfl ⟨Nat.le_of_ble_eq_true rfl, Nat.le_of_ble_eq_true rfl⟩ rfl rfl (Nat.le_of_ble_eq_true rfl) dX12_stepOf_147 ?_
          show V K 150 [some (.ref 0), some (.int v1), some (.int v2), some (.int x79)] [.int r87, .int ((30 : Int32) + x79), .ref 4] S88
          refine V_goto (tgt := 190) (pc := 150) C dX12_stepOf_150 (by decide) ?_
          exact V_mask [true, true, true, true] (mX12_stepOf_J190 C  hR h)
      · have h := it_f hc h
        cases h
        exact hR 103 _ rfl dX12_stepOf_103
    · have h := it_t hc h
      refine V_aload_n (pc := 87) C dX12_stepOf_87 rfl rfl ?_
      refine V_iconst (pc := 88) C dX12_stepOf_88 kc_i_5 ?_
      refine V_aload_n (pc := 89) C dX12_stepOf_89 rfl rfl ?_
      refine V_getI (pc := 90) C z1_mW_12 fl_RX12_124 (by decide) dX12_stepOf_90 ?_
      obtain ⟨S90, euS90, h⟩ := b1_some h
      refine V_callV (As := [.int (5 : Int32), .int (gI S 0 4)]) (pc := 93) C (mX12_wrong _ euS90) zm_X12_wrong zi_X12_wrong ml_RX12_170 z1_mW_12 rfl ⟨Nat.le_of_ble_eq_true rfl, Nat.le_of_ble_eq_true rfl⟩ rfl rfl (Nat.le_of_ble_eq_true rfl) dX12_stepOf_93 ?_
      show V K 96 [some (.ref 0), some (.int v1), some (.int v2), none] [] S90
      exact V_mask [true, true, true, false] (mX12_stepOf_J96 C  hR h)
set_option maxRecDepth 100000 in
theorem mX12_stepOf_J53 {K : zK} (C : zC K cX12_stepOf yX12_stepOf.cls 4 7 194 mW) {S : zM} {v1 : Int32} {s0 : Int32} {S' : zM}  (hR : zR K cX12_stepOf (none) S' none) (h : gX12_stepOf_J53 S v1 s0 = some S') : V K 53 [some (.ref 0), some (.int v1), none, none] [.int s0] S := by
  unfold gX12_stepOf_J53 at h
  refine V_istore_n (L' := [some (.ref 0), some (.int v1), some (.int s0), none]) (pc := 53) C dX12_stepOf_53 rfl (by decide) rfl ?_
  refine V_iload_n (pc := 54) C dX12_stepOf_54 rfl rfl ?_
  refine V_iconst (pc := 55) C dX12_stepOf_55 kc_i_m1 ?_
  refine V_icmp_ne (tgt := 68) (pc := 56) C dX12_stepOf_56 (by decide) (fun hc => ?_) (fun hc => ?_)
  · have h := it_f hc h
    refine V_aload_n (pc := 68) C dX12_stepOf_68 rfl rfl ?_
    refine V_getI (pc := 69) C z1_mW_12 fl_RX12_143 (by decide) dX12_stepOf_69 ?_
    refine V_if_ne (tgt := 96) (pc := 72) C dX12_stepOf_72 (by decide) (fun hc => ?_) (fun hc => ?_)
    · have h := it_f hc h
      refine V_aload_n (pc := 96) C dX12_stepOf_96 rfl rfl ?_
      refine V_getI (pc := 97) C z1_mW_12 fl_RX12_143 (by decide) dX12_stepOf_97 ?_
      refine V_if_eq (tgt := 104) (pc := 100) C dX12_stepOf_100 (by decide) (fun hc => ?_) (fun hc => ?_)
      · have h := it_t hc h
        refine V_aload_n (pc := 104) C dX12_stepOf_104 rfl rfl ?_
        obtain ⟨S6, euS6, h⟩ := b1_some h
        refine V_callV (As := []) (pc := 105) C (mX12_next _ euS6) zm_X12_next zi_X12_next ml_RX12_164 z1_mW_12 rfl ⟨Nat.le_of_ble_eq_true rfl, Nat.le_of_ble_eq_true rfl⟩ rfl rfl (Nat.le_of_ble_eq_true rfl) dX12_stepOf_105 ?_
        show V K 108 [some (.ref 0), some (.int v1), some (.int s0), none] [] S6
        refine V_iconst (pc := 108) C dX12_stepOf_108 kc_i_4 ?_
        refine V_iload_n (pc := 109) C dX12_stepOf_109 rfl rfl ?_
        refine V_imul (pc := 110) C dX12_stepOf_110 ?_
        refine V_aload_n (pc := 111) C dX12_stepOf_111 rfl rfl ?_
        refine V_getF (p1 := 4) (pc := 112) C z1_mW_12 fl_RX12_23 rfl (zf_mW_12_16 z1_mW_12) dX12_stepOf_112 ?_
        refine V_iconst (pc := 115) C dX12_stepOf_115 kc_i_0 ?_
        refine V_iload_n (pc := 116) C dX12_stepOf_116 rfl rfl ?_
        refine V_iadd (pc := 117) C dX12_stepOf_117 ?_
        obtain ⟨k7, h⟩ := ck_some h
        refine V_iald (pc := 118) C (za_mW_12_16 z1_mW_12) k7 dX12_stepOf_118 ?_
        refine V_iadd (pc := 119) C dX12_stepOf_119 ?_
        obtain ⟨x8, ex8, h⟩ := lt_some h
        refine V_nmI ex8 ?_
        refine V_istore_n (L' := [some (.ref 0), some (.int v1), some (.int s0), some (.int x8)]) (pc := 120) C dX12_stepOf_120 rfl (by decide) rfl ?_
        refine V_aload_n (pc := 121) C dX12_stepOf_121 rfl rfl ?_
        refine V_getF (p1 := 4) (pc := 122) C z1_mW_12 fl_RX12_23 rfl (zf_mW_12_16 z1_mW_12) dX12_stepOf_122 ?_
        refine V_bipush (pc := 125) C dX12_stepOf_125 kc_b_6 ?_
        refine V_iload_n (pc := 127) C dX12_stepOf_127 rfl rfl ?_
        refine V_iadd (pc := 128) C dX12_stepOf_128 ?_
        refine V_iload_n (pc := 129) C dX12_stepOf_129 rfl rfl ?_
        obtain ⟨k9, h⟩ := ck_some h
        refine V_iast (pc := 130) C (za_mW_12_16 z1_mW_12) k9 dX12_stepOf_130 ?_
        refine V_aload_n (pc := 131) C dX12_stepOf_131 rfl rfl ?_
        refine V_getF (p1 := 4) (pc := 132) C z1_mW_12 fl_RX12_23 rfl (zf_mW_12_16 z1_mW_12) dX12_stepOf_132 ?_
        refine V_bipush (pc := 135) C dX12_stepOf_135 kc_b_30 ?_
        refine V_iload_n (pc := 137) C dX12_stepOf_137 rfl rfl ?_
        refine V_iadd (pc := 138) C dX12_stepOf_138 ?_
        refine V_iload_n (pc := 139) C dX12_stepOf_139 rfl rfl ?_
        refine V_if_ne (tgt := 153) (pc := 140) C dX12_stepOf_140 (by decide) (fun hc => ?_) (fun hc => ?_)
        · have h := it_f hc h
          refine V_iload_n (pc := 153) C dX12_stepOf_153 rfl rfl ?_
          refine V_iconst (pc := 154) C dX12_stepOf_154 kc_i_1 ?_
          refine V_icmp_ne (tgt := 167) (pc := 155) C dX12_stepOf_155 (by decide) (fun hc => ?_) (fun hc => ?_)
          · have h := it_f hc h
            refine V_iload_n (pc := 167) C dX12_stepOf_167 rfl rfl ?_
            refine V_iconst (pc := 168) C dX12_stepOf_168 kc_i_2 ?_
            refine V_icmp_ne (tgt := 182) (pc := 169) C dX12_stepOf_169 (by decide) (fun hc => ?_) (fun hc => ?_)
            · have h := it_f hc h
              refine V_aload_n (pc := 182) C dX12_stepOf_182 rfl rfl ?_
              refine V_iconst (pc := 183) C dX12_stepOf_183 kc_i_0 ?_
              refine V_sipush (pc := 184) C dX12_stepOf_184 kc_s_399 ?_
              obtain ⟨r10, S11, er10, h⟩ := b2_some h
              refine V_callV (As := [.int (0 : Int32), .int (399 : Int32)]) (pc := 187) C (mX12_number _ er10) zm_X12_number zi_X12_number ml_RX12_207 z1_mW_12 rfl ⟨Nat.le_of_ble_eq_true rfl, Nat.le_of_ble_eq_true rfl⟩ rfl rfl (Nat.le_of_ble_eq_true rfl) dX12_stepOf_187 ?_
              show V K 190 [some (.ref 0), some (.int v1), some (.int s0), some (.int x8)] [.int r10, .int ((30 : Int32) + x8), .ref 4] S11
              exact V_mask [true, true, true, true] (mX12_stepOf_J190 C  hR h)
            · have h := it_t hc h
              refine V_aload_n (pc := 172) C dX12_stepOf_172 rfl rfl ?_
              refine V_iconst (pc := 173) C dX12_stepOf_173 kc_i_1 ?_
              refine V_bipush (pc := 174) C dX12_stepOf_174 kc_b_99 ?_
              obtain ⟨r25, S26, er25, h⟩ := b2_some h
              refine V_callV (As := [.int (1 : Int32), .int (99 : Int32)]) (pc := 176) C (mX12_number _ er25) zm_X12_number zi_X12_number ml_RX12_207 z1_mW_12 rfl ⟨Nat.le_of_ble_eq_true rfl, Nat.le_of_ble_eq_true rfl⟩ rfl rfl (Nat.le_of_ble_eq_true rfl) dX12_stepOf_176 ?_
              show V K 179 [some (.ref 0), some (.int v1), some (.int s0), some (.int x8)] [.int r25, .int ((30 : Int32) + x8), .ref 4] S26
              refine V_goto (tgt := 190) (pc := 179) C dX12_stepOf_179 (by decide) ?_
              exact V_mask [true, true, true, true] (mX12_stepOf_J190 C  hR h)
          · have h := it_t hc h
            refine V_aload_n (pc := 158) C dX12_stepOf_158 rfl rfl ?_
            refine V_iconst (pc := 159) C dX12_stepOf_159 kc_i_1 ?_
            refine V_iconst (pc := 160) C dX12_stepOf_160 kc_i_3 ?_
            obtain ⟨r27, S28, er27, h⟩ := b2_some h
            refine V_callV (As := [.int (1 : Int32), .int (3 : Int32)]) (pc := 161) C (mX12_number _ er27) zm_X12_number zi_X12_number ml_RX12_207 z1_mW_12 rfl ⟨Nat.le_of_ble_eq_true rfl, Nat.le_of_ble_eq_true rfl⟩ rfl rfl (Nat.le_of_ble_eq_true rfl) dX12_stepOf_161 ?_
            show V K 164 [some (.ref 0), some (.int v1), some (.int s0), some (.int x8)] [.int r27, .int ((30 : Int32) + x8), .ref 4] S28
            refine V_goto (tgt := 190) (pc := 164) C dX12_stepOf_164 (by decide) ?_
            exact V_mask [true, true, true, true] (mX12_stepOf_J190 C  hR h)
        · have h := it_t hc h
          refine V_aload_n (pc := 143) C dX12_stepOf_143 rfl rfl ?_
          refine V_iconst (pc := 144) C dX12_stepOf_144 kc_i_2 ?_
          refine V_bipush (pc := 145) C dX12_stepOf_145 kc_b_99 ?_
          obtain ⟨r29, S30, er29, h⟩ := b2_some h
          refine V_callV (As := [.int (2 : Int32), .int (99 : Int32)]) (pc := 147) C (mX12_number _ er29) zm_X12_number zi_X12_number ml_RX12_207 z1_mW_12 rfl ⟨Nat.le_of_ble_eq_true rfl, Nat.le_of_ble_eq_true rfl⟩ rfl rfl (Nat.le_of_ble_eq_true rfl) dX12_stepOf_147 ?_
          show V K 150 [some (.ref 0), some (.int v1), some (.int s0), some (.int x8)] [.int r29, .int ((30 : Int32) + x8), .ref 4] S30
          refine V_goto (tgt := 190) (pc := 150) C dX12_stepOf_150 (by decide) ?_
          exact V_mask [true, true, true, true] (mX12_stepOf_J190 C  hR h)
      · have h := it_f hc h
        cases h
        exact hR 103 _ rfl dX12_stepOf_103
    · have h := it_t hc h
      refine V_aload_n (pc := 75) C dX12_stepOf_75 rfl rfl ?_
      refine V_getF (p1 := 4) (pc := 76) C z1_mW_12 fl_RX12_23 rfl (zf_mW_12_16 z1_mW_12) dX12_stepOf_76 ?_
      refine V_iconst (pc := 79) C dX12_stepOf_79 kc_i_0 ?_
      refine V_iload_n (pc := 80) C dX12_stepOf_80 rfl rfl ?_
      refine V_iadd (pc := 81) C dX12_stepOf_81 ?_
      obtain ⟨k31, h⟩ := ck_some h
      refine V_iald (pc := 82) C (za_mW_12_16 z1_mW_12) k31 dX12_stepOf_82 ?_
      refine V_iconst (pc := 83) C dX12_stepOf_83 kc_i_4 ?_
      refine V_icmp_ne (tgt := 96) (pc := 84) C dX12_stepOf_84 (by decide) (fun hc => ?_) (fun hc => ?_)
      · have h := it_f hc h
        refine V_aload_n (pc := 96) C dX12_stepOf_96 rfl rfl ?_
        refine V_getI (pc := 97) C z1_mW_12 fl_RX12_143 (by decide) dX12_stepOf_97 ?_
        refine V_if_eq (tgt := 104) (pc := 100) C dX12_stepOf_100 (by decide) (fun hc => ?_) (fun hc => ?_)
        · have h := it_t hc h
          refine V_aload_n (pc := 104) C dX12_stepOf_104 rfl rfl ?_
          obtain ⟨S33, euS33, h⟩ := b1_some h
          refine V_callV (As := []) (pc := 105) C (mX12_next _ euS33) zm_X12_next zi_X12_next ml_RX12_164 z1_mW_12 rfl ⟨Nat.le_of_ble_eq_true rfl, Nat.le_of_ble_eq_true rfl⟩ rfl rfl (Nat.le_of_ble_eq_true rfl) dX12_stepOf_105 ?_
          show V K 108 [some (.ref 0), some (.int v1), some (.int s0), none] [] S33
          refine V_iconst (pc := 108) C dX12_stepOf_108 kc_i_4 ?_
          refine V_iload_n (pc := 109) C dX12_stepOf_109 rfl rfl ?_
          refine V_imul (pc := 110) C dX12_stepOf_110 ?_
          refine V_aload_n (pc := 111) C dX12_stepOf_111 rfl rfl ?_
          refine V_getF (p1 := 4) (pc := 112) C z1_mW_12 fl_RX12_23 rfl (zf_mW_12_16 z1_mW_12) dX12_stepOf_112 ?_
          refine V_iconst (pc := 115) C dX12_stepOf_115 kc_i_0 ?_
          refine V_iload_n (pc := 116) C dX12_stepOf_116 rfl rfl ?_
          refine V_iadd (pc := 117) C dX12_stepOf_117 ?_
          obtain ⟨k34, h⟩ := ck_some h
          refine V_iald (pc := 118) C (za_mW_12_16 z1_mW_12) k34 dX12_stepOf_118 ?_
          refine V_iadd (pc := 119) C dX12_stepOf_119 ?_
          obtain ⟨x35, ex35, h⟩ := lt_some h
          refine V_nmI ex35 ?_
          refine V_istore_n (L' := [some (.ref 0), some (.int v1), some (.int s0), some (.int x35)]) (pc := 120) C dX12_stepOf_120 rfl (by decide) rfl ?_
          refine V_aload_n (pc := 121) C dX12_stepOf_121 rfl rfl ?_
          refine V_getF (p1 := 4) (pc := 122) C z1_mW_12 fl_RX12_23 rfl (zf_mW_12_16 z1_mW_12) dX12_stepOf_122 ?_
          refine V_bipush (pc := 125) C dX12_stepOf_125 kc_b_6 ?_
          refine V_iload_n (pc := 127) C dX12_stepOf_127 rfl rfl ?_
          refine V_iadd (pc := 128) C dX12_stepOf_128 ?_
          refine V_iload_n (pc := 129) C dX12_stepOf_129 rfl rfl ?_
          obtain ⟨k36, h⟩ := ck_some h
          refine V_iast (pc := 130) C (za_mW_12_16 z1_mW_12) k36 dX12_stepOf_130 ?_
          refine V_aload_n (pc := 131) C dX12_stepOf_131 rfl rfl ?_
          refine V_getF (p1 := 4) (pc := 132) C z1_mW_12 fl_RX12_23 rfl (zf_mW_12_16 z1_mW_12) dX12_stepOf_132 ?_
          refine V_bipush (pc := 135) C dX12_stepOf_135 kc_b_30 ?_
          refine V_iload_n (pc := 137) C dX12_stepOf_137 rfl rfl ?_
          refine V_iadd (pc := 138) C dX12_stepOf_138 ?_
          refine V_iload_n (pc := 139) C dX12_stepOf_139 rfl rfl ?_
          refine V_if_ne (tgt := 153) (pc := 140) C dX12_stepOf_140 (by decide) (fun hc => ?_) (fun hc => ?_)
          · have h := it_f hc h
            refine V_iload_n (pc := 153) C dX12_stepOf_153 rfl rfl ?_
            refine V_iconst (pc := 154) C dX12_stepOf_154 kc_i_1 ?_
            refine V_icmp_ne (tgt := 167) (pc := 155) C dX12_stepOf_155 (by decide) (fun hc => ?_) (fun hc => ?_)
            · have h := it_f hc h
              refine V_iload_n (pc := 167) C dX12_stepOf_167 rfl rfl ?_
              refine V_iconst (pc := 168) C dX12_stepOf_168 kc_i_2 ?_
              refine V_icmp_ne (tgt := 182) (pc := 169) C dX12_stepOf_169 (by decide) (fun hc => ?_) (fun hc => ?_)
              · have h := it_f hc h
                refine V_aload_n (pc := 182) C dX12_stepOf_182 rfl rfl ?_
                refine V_iconst (pc := 183) C dX12_stepOf_183 kc_i_0 ?_
                refine V_sipush (pc := 184) C dX12_stepOf_184 kc_s_399 ?_
                obtain ⟨r37, S38, er37, h⟩ := b2_some h
                refine V_callV (As := [.int (0 : Int32), .int (399 : Int32)]) (pc := 187) C (mX12_number _ er37) zm_X12_number zi_X12_number ml_RX12_207 z1_mW_12 rfl ⟨Nat.le_of_ble_eq_true rfl, Nat.le_of_ble_eq_true rfl⟩ rfl rfl (Nat.le_of_ble_eq_true rfl) dX12_stepOf_187 ?_
                show V K 190 [some (.ref 0), some (.int v1), some (.int s0), some (.int x35)] [.int r37, .int ((30 : Int32) + x35), .ref 4] S38
                exact V_mask [true, true, true, true] (mX12_stepOf_J190 C  hR h)
              · have h := it_t hc h
                refine V_aload_n (pc := 172) C dX12_stepOf_172 rfl rfl ?_
                refine V_iconst (pc := 173) C dX12_stepOf_173 kc_i_1 ?_
                refine V_bipush (pc := 174) C dX12_stepOf_174 kc_b_99 ?_
                obtain ⟨r39, S40, er39, h⟩ := b2_some h
                refine V_callV (As := [.int (1 : Int32), .int (99 : Int32)]) (pc := 176) C (mX12_number _ er39) zm_X12_number zi_X12_number ml_RX12_207 z1_mW_12 rfl ⟨Nat.le_of_ble_eq_true rfl, Nat.le_of_ble_eq_true rfl⟩ rfl rfl (Nat.le_of_ble_eq_true rfl) dX12_stepOf_176 ?_
                show V K 179 [some (.ref 0), some (.int v1), some (.int s0), some (.int x35)] [.int r39, .int ((30 : Int32) + x35), .ref 4] S40
                refine V_goto (tgt := 190) (pc := 179) C dX12_stepOf_179 (by decide) ?_
                exact V_mask [true, true, true, true] (mX12_stepOf_J190 C  hR h)
            · have h := it_t hc h
              refine V_aload_n (pc := 158) C dX12_stepOf_158 rfl rfl ?_
              refine V_iconst (pc := 159) C dX12_stepOf_159 kc_i_1 ?_
              refine V_iconst (pc := 160) C dX12_stepOf_160 kc_i_3 ?_
              obtain ⟨r41, S42, er41, h⟩ := b2_some h
              refine V_callV (As := [.int (1 : Int32), .int (3 : Int32)]) (pc := 161) C (mX12_number _ er41) zm_X12_number zi_X12_number ml_RX12_207 z1_mW_12 rfl ⟨Nat.le_of_ble_eq_true rfl, Nat.le_of_ble_eq_true rfl⟩ rfl rfl (Nat.le_of_ble_eq_true rfl) dX12_stepOf_161 ?_
              show V K 164 [some (.ref 0), some (.int v1), some (.int s0), some (.int x35)] [.int r41, .int ((30 : Int32) + x35), .ref 4] S42
              refine V_goto (tgt := 190) (pc := 164) C dX12_stepOf_164 (by decide) ?_
              exact V_mask [true, true, true, true] (mX12_stepOf_J190 C  hR h)
          · have h := it_t hc h
            refine V_aload_n (pc := 143) C dX12_stepOf_143 rfl rfl ?_
            refine V_iconst (pc := 144) C dX12_stepOf_144 kc_i_2 ?_
            refine V_bipush (pc := 145) C dX12_stepOf_145 kc_b_99 ?_
            obtain ⟨r43, S44, er43, h⟩ := b2_some h
            refine V_callV (As := [.int (2 : Int32), .int (99 : Int32)]) (pc := 147) C (mX12_number _ er43) zm_X12_number zi_X12_number ml_RX12_207 z1_mW_12 rfl ⟨Nat.le_of_ble_eq_true rfl, Nat.le_of_ble_eq_true rfl⟩ rfl rfl (Nat.le_of_ble_eq_true rfl) dX12_stepOf_147 ?_
            show V K 150 [some (.ref 0), some (.int v1), some (.int s0), some (.int x35)] [.int r43, .int ((30 : Int32) + x35), .ref 4] S44
            refine V_goto (tgt := 190) (pc := 150) C dX12_stepOf_150 (by decide) ?_
            exact V_mask [true, true, true, true] (mX12_stepOf_J190 C  hR h)
        · have h := it_f hc h
          cases h
          exact hR 103 _ rfl dX12_stepOf_103
      · have h := it_t hc h
        refine V_aload_n (pc := 87) C dX12_stepOf_87 rfl rfl ?_
        refine V_iconst (pc := 88) C dX12_stepOf_88 kc_i_5 ?_
        refine V_aload_n (pc := 89) C dX12_stepOf_89 rfl rfl ?_
        refine V_getI (pc := 90) C z1_mW_12 fl_RX12_124 (by decide) dX12_stepOf_90 ?_
        obtain ⟨S46, euS46, h⟩ := b1_some h
        refine V_callV (As := [.int (5 : Int32), .int (gI S 0 4)]) (pc := 93) C (mX12_wrong _ euS46) zm_X12_wrong zi_X12_wrong ml_RX12_170 z1_mW_12 rfl ⟨Nat.le_of_ble_eq_true rfl, Nat.le_of_ble_eq_true rfl⟩ rfl rfl (Nat.le_of_ble_eq_true rfl) dX12_stepOf_93 ?_
        show V K 96 [some (.ref 0), some (.int v1), some (.int s0), none] [] S46
        exact V_mask [true, true, true, false] (mX12_stepOf_J96 C  hR h)
  · have h := it_t hc h
    refine V_aload_n (pc := 59) C dX12_stepOf_59 rfl rfl ?_
    refine V_iconst (pc := 60) C dX12_stepOf_60 kc_i_1 ?_
    refine V_aload_n (pc := 61) C dX12_stepOf_61 rfl rfl ?_
    refine V_getI (pc := 62) C z1_mW_12 fl_RX12_124 (by decide) dX12_stepOf_62 ?_
    obtain ⟨S61, euS61, h⟩ := b1_some h
    refine V_callV (As := [.int (1 : Int32), .int (gI S 0 4)]) (pc := 65) C (mX12_wrong _ euS61) zm_X12_wrong zi_X12_wrong ml_RX12_170 z1_mW_12 rfl ⟨Nat.le_of_ble_eq_true rfl, Nat.le_of_ble_eq_true rfl⟩ rfl rfl (Nat.le_of_ble_eq_true rfl) dX12_stepOf_65 ?_
    show V K 68 [some (.ref 0), some (.int v1), some (.int s0), none] [] S61
    exact V_mask [true, true, true, false] (mX12_stepOf_J68 C  hR h)
set_option maxRecDepth 100000 in
theorem mX12_stepOf (l : Launch) {S : zM} {a1 : Int32} {S' : zM}  (h : gX12_stepOf S a1 = some S') : zMet l mW zS0 yX12_stepOf cX12_stepOf 4 (none) 7 194 [.ref 0, .int a1] S none S' := by
  refine zmeth (by decide +kernel) (by rfl) (fun K hKl C hR => ?_)
  show V K 0 [some (.ref 0), some (.int a1), none, none] [] S
  unfold gX12_stepOf at h
  refine V_aload_n (pc := 0) C dX12_stepOf_0 rfl rfl ?_
  refine V_ldcS (j := 41) (pc := 1) C dX12_stepOf_1 rfl ?_
  obtain ⟨r1, er1, h⟩ := b1_some h
  refine V_callV (As := [.ref 10012]) (pc := 3) C (mX12_isWord _ zq_12 er1) zm_X12_isWord zi_X12_isWord ml_RX12_160 z1_mW_12 rfl ⟨Nat.le_of_ble_eq_true rfl, Nat.le_of_ble_eq_true rfl⟩ rfl rfl (Nat.le_of_ble_eq_true rfl) dX12_stepOf_3 ?_
  show V K 6 [some (.ref 0), some (.int a1), none, none] [.int r1] S
  refine V_if_eq (tgt := 13) (pc := 6) C dX12_stepOf_6 (by decide) (fun hc => ?_) (fun hc => ?_)
  · have h := it_t hc h
    refine V_aload_n (pc := 13) C dX12_stepOf_13 rfl rfl ?_
    refine V_ldcS (j := 42) (pc := 14) C dX12_stepOf_14 rfl ?_
    obtain ⟨r2, er2, h⟩ := b1_some h
    refine V_callV (As := [.ref 10013]) (pc := 16) C (mX12_isWord _ zq_13 er2) zm_X12_isWord zi_X12_isWord ml_RX12_160 z1_mW_12 rfl ⟨Nat.le_of_ble_eq_true rfl, Nat.le_of_ble_eq_true rfl⟩ rfl rfl (Nat.le_of_ble_eq_true rfl) dX12_stepOf_16 ?_
    show V K 19 [some (.ref 0), some (.int a1), none, none] [.int r2] S
    refine V_if_eq (tgt := 26) (pc := 19) C dX12_stepOf_19 (by decide) (fun hc => ?_) (fun hc => ?_)
    · have h := it_t hc h
      refine V_aload_n (pc := 26) C dX12_stepOf_26 rfl rfl ?_
      refine V_ldcS (j := 35) (pc := 27) C dX12_stepOf_27 rfl ?_
      obtain ⟨r3, er3, h⟩ := b1_some h
      refine V_callV (As := [.ref 10006]) (pc := 29) C (mX12_isWord _ zq_6 er3) zm_X12_isWord zi_X12_isWord ml_RX12_160 z1_mW_12 rfl ⟨Nat.le_of_ble_eq_true rfl, Nat.le_of_ble_eq_true rfl⟩ rfl rfl (Nat.le_of_ble_eq_true rfl) dX12_stepOf_29 ?_
      show V K 32 [some (.ref 0), some (.int a1), none, none] [.int r3] S
      refine V_if_eq (tgt := 39) (pc := 32) C dX12_stepOf_32 (by decide) (fun hc => ?_) (fun hc => ?_)
      · have h := it_t hc h
        refine V_aload_n (pc := 39) C dX12_stepOf_39 rfl rfl ?_
        refine V_ldcS (j := 43) (pc := 40) C dX12_stepOf_40 rfl ?_
        obtain ⟨r4, er4, h⟩ := b1_some h
        refine V_callV (As := [.ref 10014]) (pc := 42) C (mX12_isWord _ zq_14 er4) zm_X12_isWord zi_X12_isWord ml_RX12_160 z1_mW_12 rfl ⟨Nat.le_of_ble_eq_true rfl, Nat.le_of_ble_eq_true rfl⟩ rfl rfl (Nat.le_of_ble_eq_true rfl) dX12_stepOf_42 ?_
        show V K 45 [some (.ref 0), some (.int a1), none, none] [.int r4] S
        refine V_if_eq (tgt := 52) (pc := 45) C dX12_stepOf_45 (by decide) (fun hc => ?_) (fun hc => ?_)
        · have h := it_t hc h
          refine V_iconst (pc := 52) C dX12_stepOf_52 kc_i_m1 ?_
          exact V_mask [true, true, false, false] (mX12_stepOf_J53 C  hR h)
        · have h := it_f hc h
          refine V_iconst (pc := 48) C dX12_stepOf_48 kc_i_3 ?_
          refine V_goto (tgt := 53) (pc := 49) C dX12_stepOf_49 (by decide) ?_
          exact V_mask [true, true, false, false] (mX12_stepOf_J53 C  hR h)
      · have h := it_f hc h
        refine V_iconst (pc := 35) C dX12_stepOf_35 kc_i_2 ?_
        refine V_goto (tgt := 53) (pc := 36) C dX12_stepOf_36 (by decide) ?_
        exact V_mask [true, true, false, false] (mX12_stepOf_J53 C  hR h)
    · have h := it_f hc h
      refine V_iconst (pc := 22) C dX12_stepOf_22 kc_i_1 ?_
      refine V_goto (tgt := 53) (pc := 23) C dX12_stepOf_23 (by decide) ?_
      exact V_mask [true, true, false, false] (mX12_stepOf_J53 C  hR h)
  · have h := it_f hc h
    refine V_iconst (pc := 9) C dX12_stepOf_9 kc_i_0 ?_
    refine V_goto (tgt := 53) (pc := 10) C dX12_stepOf_10 (by decide) ?_
    exact V_mask [true, true, false, false] (mX12_stepOf_J53 C  hR h)
