set_option maxRecDepth 100000 in
theorem mX12_fitAt_L78 {K : zK} (C : zC K cX12_fitAt yX12_fitAt.cls 8 5 130 mW) {S : zM} {v2 : Int32} {v3 : Int32} {v5 : Int32} {v6 : Int32}  : ∀ (f : Nat) (v4 : Int32) (v7 : Int32) (out : ((Int32 × zM) ⊕ Int32)), gX12_fitAt_L78 S v2 v3 v5 v6 f v4 v7 = some out → (∀ (o4 : Int32), out = .inr o4 → V K 162 [some (.ref 0), none, some (.int v2), some (.int v3), some (.int o4), some (.int v5), some (.int v6), none] [] S) → (∀ r' : (Int32 × zM), out = .inl r' → zR K cX12_fitAt (some .int) r'.2 (some (.int (r'.1)))) → V K 78 [some (.ref 0), none, some (.int v2), some (.int v3), some (.int v4), some (.int v5), some (.int v6), some (.int v7)] [] S := by
  intro f
  induction f with
  | zero => intro v4 v7 out h hx hret; cases h
  | succ n ih =>
    intro v4 v7 out h hx hret
    unfold gX12_fitAt_L78 at h
    refine V_iload (pc := 78) C dX12_fitAt_78 rfl ?_
    refine V_bipush (pc := 80) C dX12_fitAt_80 kc_b_11 ?_
    refine V_icmp_ge (tgt := 162) (pc := 82) C dX12_fitAt_82 (by decide) (fun hc => ?_) (fun hc => ?_)
    · have h := it_t hc h
      cases h
      exact V_mask [true, false, true, true, true, true, true, false] (hx _ rfl)
    · have h := it_f hc h
      refine V_aload_n (pc := 85) C dX12_fitAt_85 rfl rfl ?_
      refine V_getF (p1 := 26) (pc := 86) C z1_mW_12 fl_RX12_89 rfl (zf_mW_12_41 z1_mW_12) dX12_fitAt_86 ?_
      refine V_bipush (pc := 89) C dX12_fitAt_89 kc_b_21 ?_
      refine V_iload (pc := 91) C dX12_fitAt_91 rfl ?_
      refine V_imul (pc := 93) C dX12_fitAt_93 ?_
      refine V_iload (pc := 94) C dX12_fitAt_94 rfl ?_
      refine V_iadd (pc := 96) C dX12_fitAt_96 ?_
      obtain ⟨k14, h⟩ := ck_some h
      refine V_zald (pc := 97) C (za_mW_12_41 z1_mW_12) k14 dX12_fitAt_97 ?_
      refine V_if_eq (tgt := 156) (pc := 98) C dX12_fitAt_98 (by decide) (fun hc => ?_) (fun hc => ?_)
      · have h := it_t hc h
        refine V_iinc (L' := [some (.ref 0), none, some (.int v2), some (.int v3), some (.int v4), some (.int v5), some (.int v6), some (.int (v7 + (1 : Int32)))]) (v := (v7 + (1 : Int32))) (pc := 156) C dX12_fitAt_156 rfl (congrArg (v7 + ·) kc_i_1) (by decide) rfl ?_
        refine V_goto (tgt := 78) (pc := 159) C dX12_fitAt_159 (by decide) ?_
        exact V_mask [true, false, true, true, true, true, true, true] (ih _ _ _ h hx hret)
      · have h := it_f hc h
        refine V_aload_n (pc := 101) C dX12_fitAt_101 rfl rfl ?_
        refine V_getF (p1 := 27) (pc := 102) C z1_mW_12 fl_RX12_93 rfl (zf_mW_12_42 z1_mW_12) dX12_fitAt_102 ?_
        refine V_bipush (pc := 105) C dX12_fitAt_105 kc_b_11 ?_
        refine V_iload (pc := 107) C dX12_fitAt_107 rfl ?_
        refine V_imul (pc := 109) C dX12_fitAt_109 ?_
        refine V_iload (pc := 110) C dX12_fitAt_110 rfl ?_
        refine V_iadd (pc := 112) C dX12_fitAt_112 ?_
        obtain ⟨k15, h⟩ := ck_some h
        refine V_zald (pc := 113) C (za_mW_12_42 z1_mW_12) k15 dX12_fitAt_113 ?_
        refine V_if_ne (tgt := 120) (pc := 114) C dX12_fitAt_114 (by decide) (fun hc => ?_) (fun hc => ?_)
        · have h := it_f hc h
          refine V_iload (pc := 120) C dX12_fitAt_120 rfl ?_
          refine V_iload_n (pc := 122) C dX12_fitAt_122 rfl rfl ?_
          refine V_icmp_ne (tgt := 153) (pc := 123) C dX12_fitAt_123 (by decide) (fun hc => ?_) (fun hc => ?_)
          · have h := it_f hc h
            refine V_iinc (L' := [some (.ref 0), none, some (.int v2), some (.int v3), some (.int (v4 + (1 : Int32))), some (.int v5), some (.int v6), some (.int v7)]) (v := (v4 + (1 : Int32))) (pc := 153) C dX12_fitAt_153 rfl (congrArg (v4 + ·) kc_i_1) (by decide) rfl ?_
            refine V_iinc (L' := [some (.ref 0), none, some (.int v2), some (.int v3), some (.int (v4 + (1 : Int32))), some (.int v5), some (.int v6), some (.int (v7 + (1 : Int32)))]) (v := (v7 + (1 : Int32))) (pc := 156) C dX12_fitAt_156 rfl (congrArg (v7 + ·) kc_i_1) (by decide) rfl ?_
            refine V_goto (tgt := 78) (pc := 159) C dX12_fitAt_159 (by decide) ?_
            exact V_mask [true, false, true, true, true, true, true, true] (ih _ _ _ h hx hret)
          · have h := it_t hc h
            refine V_iload_n (pc := 126) C dX12_fitAt_126 rfl rfl ?_
            refine V_if_ne (tgt := 135) (pc := 127) C dX12_fitAt_127 (by decide) (fun hc => ?_) (fun hc => ?_)
            · have h := it_f hc h
              refine V_iload_n (pc := 135) C dX12_fitAt_135 rfl rfl ?_
              refine V_iconst (pc := 136) C dX12_fitAt_136 kc_i_1 ?_
              refine V_icmp_ne (tgt := 148) (pc := 137) C dX12_fitAt_137 (by decide) (fun hc => ?_) (fun hc => ?_)
              · have h := it_f hc h
                refine V_iload (pc := 148) C dX12_fitAt_148 rfl ?_
                refine V_iconst (pc := 150) C dX12_fitAt_150 kc_i_5 ?_
                refine V_isub (pc := 151) C dX12_fitAt_151 ?_
                cases h
                exact (hret _ rfl) 152 _ ⟨_, rfl, rfl⟩ dX12_fitAt_152
              · have h := it_t hc h
                refine V_iload (pc := 140) C dX12_fitAt_140 rfl ?_
                refine V_bipush (pc := 142) C dX12_fitAt_142 kc_b_10 ?_
                refine V_isub (pc := 144) C dX12_fitAt_144 ?_
                refine V_goto (tgt := 152) (pc := 145) C dX12_fitAt_145 (by decide) ?_
                cases h
                exact (hret _ rfl) 152 _ ⟨_, rfl, rfl⟩ dX12_fitAt_152
            · have h := it_t hc h
              refine V_iload (pc := 130) C dX12_fitAt_130 rfl ?_
              refine V_goto (tgt := 152) (pc := 132) C dX12_fitAt_132 (by decide) ?_
              cases h
              exact (hret _ rfl) 152 _ ⟨_, rfl, rfl⟩ dX12_fitAt_152
        · have h := it_t hc h
          refine V_goto (tgt := 156) (pc := 117) C dX12_fitAt_117 (by decide) ?_
          refine V_iinc (L' := [some (.ref 0), none, some (.int v2), some (.int v3), some (.int v4), some (.int v5), some (.int v6), some (.int (v7 + (1 : Int32)))]) (v := (v7 + (1 : Int32))) (pc := 156) C dX12_fitAt_156 rfl (congrArg (v7 + ·) kc_i_1) (by decide) rfl ?_
          refine V_goto (tgt := 78) (pc := 159) C dX12_fitAt_159 (by decide) ?_
          exact V_mask [true, false, true, true, true, true, true, true] (ih _ _ _ h hx hret)
set_option maxRecDepth 100000 in
theorem mX12_fitAt_L68 {K : zK} (C : zC K cX12_fitAt yX12_fitAt.cls 8 5 130 mW) {S : zM} {v2 : Int32} {v3 : Int32} {v5 : Int32}  : ∀ (f : Nat) (v4 : Int32) (v6 : Int32) (out : ((Int32 × zM) ⊕ Int32)), gX12_fitAt_L68 S v2 v3 v5 f v4 v6 = some out → (∀ (o4 : Int32), out = .inr o4 → V K 168 [some (.ref 0), none, some (.int v2), some (.int v3), some (.int o4), some (.int v5), none, none] [] S) → (∀ r' : (Int32 × zM), out = .inl r' → zR K cX12_fitAt (some .int) r'.2 (some (.int (r'.1)))) → V K 68 [some (.ref 0), none, some (.int v2), some (.int v3), some (.int v4), some (.int v5), some (.int v6), none] [] S := by
  intro f
  induction f with
  | zero => intro v4 v6 out h hx hret; cases h
  | succ n ih =>
    intro v4 v6 out h hx hret
    unfold gX12_fitAt_L68 at h
    refine V_iload (pc := 68) C dX12_fitAt_68 rfl ?_
    refine V_bipush (pc := 70) C dX12_fitAt_70 kc_b_21 ?_
    refine V_icmp_ge (tgt := 168) (pc := 72) C dX12_fitAt_72 (by decide) (fun hc => ?_) (fun hc => ?_)
    · have h := it_t hc h
      cases h
      exact V_mask [true, false, true, true, true, true, false, false] (hx _ rfl)
    · have h := it_f hc h
      refine V_iconst (pc := 75) C dX12_fitAt_75 kc_i_0 ?_
      refine V_istore (L' := [some (.ref 0), none, some (.int v2), some (.int v3), some (.int v4), some (.int v5), some (.int v6), some (.int (0 : Int32))]) (pc := 76) C dX12_fitAt_76 (by decide) rfl ?_
      obtain ⟨out78, e78, hr78, hx78⟩ := lg_some h
      refine V_mask [true, false, true, true, true, true, true, true] (mX12_fitAt_L78 C  FU _ _ _ e78 ?_ ?_)
      · intro w16 eo
        have h := hx78 _ eo
        refine V_iinc (L' := [some (.ref 0), none, some (.int v2), some (.int v3), some (.int w16), some (.int v5), some (.int (v6 + (1 : Int32))), none]) (v := (v6 + (1 : Int32))) (pc := 162) C dX12_fitAt_162 rfl (congrArg (v6 + ·) kc_i_1) (by decide) rfl ?_
        refine V_goto (tgt := 68) (pc := 165) C dX12_fitAt_165 (by decide) ?_
        exact V_mask [true, false, true, true, true, true, true, false] (ih _ _ _ h hx hret)
      · intro r' eo
        exact hret _ (hr78 _ eo).symm
set_option maxRecDepth 100000 in
theorem mX12_fitAt_L52 {K : zK} (C : zC K cX12_fitAt yX12_fitAt.cls 8 5 130 mW) {S : zM} {v2 : Int32} {v3 : Int32}  : ∀ (f : Nat) (v4 : Int32) (v5 : Int32) (r : Int32) (S' : zM), gX12_fitAt_L52 S v2 v3 f v4 v5 = some (r, S') → zR K cX12_fitAt (some .int) S' (some (.int r)) → V K 52 [some (.ref 0), none, some (.int v2), some (.int v3), some (.int v4), some (.int v5), none, none] [] S := by
  intro f
  induction f with
  | zero => intro v4 v5 r S' h hR; cases h
  | succ n ih =>
    intro v4 v5 r S' h hR
    unfold gX12_fitAt_L52 at h
    refine V_iload (pc := 52) C dX12_fitAt_52 rfl ?_
    refine V_aload_n (pc := 54) C dX12_fitAt_54 rfl rfl ?_
    refine V_getF (p1 := 3) (pc := 55) C z1_mW_12 fl_RX12_20 rfl (zf_mW_12_15 z1_mW_12) dX12_fitAt_55 ?_
    refine V_sipush (pc := 58) C dX12_fitAt_58 kc_s_238 ?_
    obtain ⟨k11, h⟩ := ck_some h
    refine V_iald (pc := 61) C (za_mW_12_15 z1_mW_12) k11 dX12_fitAt_61 ?_
    refine V_icmp_ge (tgt := 174) (pc := 62) C dX12_fitAt_62 (by decide) (fun hc => ?_) (fun hc => ?_)
    · have h := it_t hc h
      refine V_aload_n (pc := 174) C dX12_fitAt_174 rfl rfl ?_
      refine V_iconst (pc := 175) C dX12_fitAt_175 kc_i_1 ?_
      obtain ⟨r12, S13, er12, h⟩ := b2_some h
      refine V_callV (As := [.int (1 : Int32)]) (pc := 176) C (mX12_not _ er12) zm_X12_not zi_X12_not ml_RX12_469 z1_mW_12 rfl ⟨Nat.le_of_ble_eq_true rfl, Nat.le_of_ble_eq_true rfl⟩ rfl rfl (Nat.le_of_ble_eq_true rfl) dX12_fitAt_176 ?_
      show V K 179 [some (.ref 0), none, some (.int v2), some (.int v3), some (.int v4), some (.int v5), none, none] [.int r12] S13
      cases h
      exact hR 179 _ ⟨_, rfl, rfl⟩ dX12_fitAt_179
    · have h := it_f hc h
      refine V_iconst (pc := 65) C dX12_fitAt_65 kc_i_0 ?_
      refine V_istore (L' := [some (.ref 0), none, some (.int v2), some (.int v3), some (.int v4), some (.int v5), some (.int (0 : Int32)), none]) (pc := 66) C dX12_fitAt_66 (by decide) rfl ?_
      obtain ⟨out68, e68, hr68, hx68⟩ := lm_some h
      refine V_mask [true, false, true, true, true, true, true, false] (mX12_fitAt_L68 C  FU _ _ _ e68 ?_ ?_)
      · intro w17 eo
        have h := hx68 _ eo
        refine V_iinc (L' := [some (.ref 0), none, some (.int v2), some (.int v3), some (.int w17), some (.int (v5 + (1 : Int32))), none, none]) (v := (v5 + (1 : Int32))) (pc := 168) C dX12_fitAt_168 rfl (congrArg (v5 + ·) kc_i_1) (by decide) rfl ?_
        refine V_goto (tgt := 52) (pc := 171) C dX12_fitAt_171 (by decide) ?_
        exact V_mask [true, false, true, true, true, true, false, false] (ih _ _ _ _ h hR)
      · intro r' eo
        cases hr68 _ eo
        exact hR
set_option maxRecDepth 100000 in
theorem mX12_fitAt (l : Launch) {S : zM} {a1 : Int32} {a2 : Int32} {a3 : Int32} {r : Int32} {S' : zM}  (h : gX12_fitAt S a1 a2 a3 = some (r, S')) : zMet l mW zS0 yX12_fitAt cX12_fitAt 8 (some .int) 5 130 [.ref 0, .int a1, .int a2, .int a3] S (some (.int r)) S' := by
  refine zmeth (by decide +kernel) (by rfl) (fun K hKl C hR => ?_)
  show V K 0 [some (.ref 0), some (.int a1), some (.int a2), some (.int a3), none, none, none, none] [] S
  unfold gX12_fitAt at h
  refine V_aload_n (pc := 0) C dX12_fitAt_0 rfl rfl ?_
  obtain ⟨S2, euS2, h⟩ := b1_some h
  refine V_callV (As := []) (pc := 1) C (mX12_good _ euS2) zm_X12_good zi_X12_good ml_RX12_211 z1_mW_12 rfl ⟨Nat.le_of_ble_eq_true rfl, Nat.le_of_ble_eq_true rfl⟩ rfl rfl (Nat.le_of_ble_eq_true rfl) dX12_fitAt_1 ?_
  show V K 4 [some (.ref 0), some (.int a1), some (.int a2), some (.int a3), none, none, none, none] [] S2
  refine V_aload_n (pc := 4) C dX12_fitAt_4 rfl rfl ?_
  refine V_iload_n (pc := 5) C dX12_fitAt_5 rfl rfl ?_
  obtain ⟨r3, er3, h⟩ := b1_some h
  refine V_callV (As := [.int a1]) (pc := 6) C (mX12_isSayer _ er3) zm_X12_isSayer zi_X12_isSayer ml_RX12_315 z1_mW_12 rfl ⟨Nat.le_of_ble_eq_true rfl, Nat.le_of_ble_eq_true rfl⟩ rfl rfl (Nat.le_of_ble_eq_true rfl) dX12_fitAt_6 ?_
  show V K 9 [some (.ref 0), some (.int a1), some (.int a2), some (.int a3), none, none, none, none] [.int r3] S2
  refine V_if_eq (tgt := 21) (pc := 9) C dX12_fitAt_9 (by decide) (fun hc => ?_) (fun hc => ?_)
  · have h := it_t hc h
    refine V_aload_n (pc := 21) C dX12_fitAt_21 rfl rfl ?_
    refine V_iconst (pc := 22) C dX12_fitAt_22 kc_i_1 ?_
    obtain ⟨r4, S5, er4, h⟩ := b2_some h
    refine V_callV (As := [.int (1 : Int32)]) (pc := 23) C (mX12_not _ er4) zm_X12_not zi_X12_not ml_RX12_469 z1_mW_12 rfl ⟨Nat.le_of_ble_eq_true rfl, Nat.le_of_ble_eq_true rfl⟩ rfl rfl (Nat.le_of_ble_eq_true rfl) dX12_fitAt_23 ?_
    show V K 26 [some (.ref 0), some (.int a1), some (.int a2), some (.int a3), none, none, none, none] [.int r4] S5
    cases h
    exact hR 26 _ ⟨_, rfl, rfl⟩ dX12_fitAt_26
  · have h := it_f hc h
    refine V_iload_n (pc := 12) C dX12_fitAt_12 rfl rfl ?_
    refine V_iconst (pc := 13) C dX12_fitAt_13 kc_i_0 ?_
    refine V_iconst (pc := 14) C dX12_fitAt_14 kc_i_2 ?_
    obtain ⟨r6, er6, h⟩ := b1_some h
    refine V_callS (As := [.int a3, .int (0 : Int32), .int (2 : Int32)]) (pc := 15) C (mX12_within _ er6) zm_X12_within zs_X12_within ml_RX12_203 ⟨Nat.le_of_ble_eq_true rfl, Nat.le_of_ble_eq_true rfl⟩ rfl rfl (Nat.le_of_ble_eq_true rfl) dX12_fitAt_15 ?_
    show V K 18 [some (.ref 0), some (.int a1), some (.int a2), some (.int a3), none, none, none, none] [.int r6] S2
    refine V_if_ne (tgt := 27) (pc := 18) C dX12_fitAt_18 (by decide) (fun hc => ?_) (fun hc => ?_)
    · have h := it_f hc h
      refine V_aload_n (pc := 27) C dX12_fitAt_27 rfl rfl ?_
      refine V_iload_n (pc := 28) C dX12_fitAt_28 rfl rfl ?_
      obtain ⟨r7, S8, er7, h⟩ := b2_some h
      refine V_callV (As := [.int a1]) (pc := 29) C (mX12_lays _ er7) zm_X12_lays zi_X12_lays ml_RX12_450 z1_mW_12 rfl ⟨Nat.le_of_ble_eq_true rfl, Nat.le_of_ble_eq_true rfl⟩ rfl rfl (Nat.le_of_ble_eq_true rfl) dX12_fitAt_29 ?_
      show V K 32 [some (.ref 0), some (.int a1), some (.int a2), some (.int a3), none, none, none, none] [.int r7] S8
      refine V_if_ne (tgt := 41) (pc := 32) C dX12_fitAt_32 (by decide) (fun hc => ?_) (fun hc => ?_)
      · have h := it_f hc h
        refine V_aload_n (pc := 41) C dX12_fitAt_41 rfl rfl ?_
        refine V_iload_n (pc := 42) C dX12_fitAt_42 rfl rfl ?_
        obtain ⟨S10, euS10, h⟩ := b1_some h
        refine V_callV (As := [.int a1]) (pc := 43) C (mX12_fit _ euS10) zm_X12_fit zi_X12_fit ml_RX12_463 z1_mW_12 rfl ⟨Nat.le_of_ble_eq_true rfl, Nat.le_of_ble_eq_true rfl⟩ rfl rfl (Nat.le_of_ble_eq_true rfl) dX12_fitAt_43 ?_
        show V K 46 [some (.ref 0), some (.int a1), some (.int a2), some (.int a3), none, none, none, none] [] S10
        refine V_iconst (pc := 46) C dX12_fitAt_46 kc_i_0 ?_
        refine V_istore (L' := [some (.ref 0), some (.int a1), some (.int a2), some (.int a3), some (.int (0 : Int32)), none, none, none]) (pc := 47) C dX12_fitAt_47 (by decide) rfl ?_
        refine V_iconst (pc := 49) C dX12_fitAt_49 kc_i_0 ?_
        refine V_istore (L' := [some (.ref 0), some (.int a1), some (.int a2), some (.int a3), some (.int (0 : Int32)), some (.int (0 : Int32)), none, none]) (pc := 50) C dX12_fitAt_50 (by decide) rfl ?_
        exact V_mask [true, false, true, true, true, true, false, false] (mX12_fitAt_L52 C  FU _ _ _ _ h hR)
      · have h := it_t hc h
        refine V_aload_n (pc := 35) C dX12_fitAt_35 rfl rfl ?_
        refine V_iconst (pc := 36) C dX12_fitAt_36 kc_i_3 ?_
        obtain ⟨r18, S19, er18, h⟩ := b2_some h
        refine V_callV (As := [.int (3 : Int32)]) (pc := 37) C (mX12_not _ er18) zm_X12_not zi_X12_not ml_RX12_469 z1_mW_12 rfl ⟨Nat.le_of_ble_eq_true rfl, Nat.le_of_ble_eq_true rfl⟩ rfl rfl (Nat.le_of_ble_eq_true rfl) dX12_fitAt_37 ?_
        show V K 40 [some (.ref 0), some (.int a1), some (.int a2), some (.int a3), none, none, none, none] [.int r18] S19
        cases h
        exact hR 40 _ ⟨_, rfl, rfl⟩ dX12_fitAt_40
    · have h := it_t hc h
      refine V_aload_n (pc := 21) C dX12_fitAt_21 rfl rfl ?_
      refine V_iconst (pc := 22) C dX12_fitAt_22 kc_i_1 ?_
      obtain ⟨r20, S21, er20, h⟩ := b2_some h
      refine V_callV (As := [.int (1 : Int32)]) (pc := 23) C (mX12_not _ er20) zm_X12_not zi_X12_not ml_RX12_469 z1_mW_12 rfl ⟨Nat.le_of_ble_eq_true rfl, Nat.le_of_ble_eq_true rfl⟩ rfl rfl (Nat.le_of_ble_eq_true rfl) dX12_fitAt_23 ?_
      show V K 26 [some (.ref 0), some (.int a1), some (.int a2), some (.int a3), none, none, none, none] [.int r20] S21
      cases h
      exact hR 26 _ ⟨_, rfl, rfl⟩ dX12_fitAt_26
set_option maxRecDepth 100000 in
theorem mX12_verdict (l : Launch) {S : zM} {a1 : Int32} {a2 : Int32} {r : Int32} {S' : zM}  (h : gX12_verdict S a1 a2 = some (r, S')) : zMet l mW zS0 yX12_verdict cX12_verdict 4 (some .int) 5 130 [.ref 0, .int a1, .int a2] S (some (.int r)) S' := by
  refine zmeth (by decide +kernel) (by rfl) (fun K hKl C hR => ?_)
  show V K 0 [some (.ref 0), some (.int a1), some (.int a2), none] [] S
  unfold gX12_verdict at h
  refine V_aload_n (pc := 0) C dX12_verdict_0 rfl rfl ?_
  obtain ⟨S2, euS2, h⟩ := b1_some h
  refine V_callV (As := []) (pc := 1) C (mX12_good _ euS2) zm_X12_good zi_X12_good ml_RX12_211 z1_mW_12 rfl ⟨Nat.le_of_ble_eq_true rfl, Nat.le_of_ble_eq_true rfl⟩ rfl rfl (Nat.le_of_ble_eq_true rfl) dX12_verdict_1 ?_
  show V K 4 [some (.ref 0), some (.int a1), some (.int a2), none] [] S2
  refine V_aload_n (pc := 4) C dX12_verdict_4 rfl rfl ?_
  refine V_iload_n (pc := 5) C dX12_verdict_5 rfl rfl ?_
  obtain ⟨r3, er3, h⟩ := b1_some h
  refine V_callV (As := [.int a1]) (pc := 6) C (mX12_isSayer _ er3) zm_X12_isSayer zi_X12_isSayer ml_RX12_315 z1_mW_12 rfl ⟨Nat.le_of_ble_eq_true rfl, Nat.le_of_ble_eq_true rfl⟩ rfl rfl (Nat.le_of_ble_eq_true rfl) dX12_verdict_6 ?_
  show V K 9 [some (.ref 0), some (.int a1), some (.int a2), none] [.int r3] S2
  refine V_if_eq (tgt := 20) (pc := 9) C dX12_verdict_9 (by decide) (fun hc => ?_) (fun hc => ?_)
  · have h := it_t hc h
    refine V_aload_n (pc := 20) C dX12_verdict_20 rfl rfl ?_
    refine V_iconst (pc := 21) C dX12_verdict_21 kc_i_1 ?_
    obtain ⟨r4, S5, er4, h⟩ := b2_some h
    refine V_callV (As := [.int (1 : Int32)]) (pc := 22) C (mX12_no _ er4) zm_X12_no zi_X12_no ml_RX12_214 z1_mW_12 rfl ⟨Nat.le_of_ble_eq_true rfl, Nat.le_of_ble_eq_true rfl⟩ rfl rfl (Nat.le_of_ble_eq_true rfl) dX12_verdict_22 ?_
    show V K 25 [some (.ref 0), some (.int a1), some (.int a2), none] [.int r4] S5
    cases h
    exact hR 25 _ ⟨_, rfl, rfl⟩ dX12_verdict_25
  · have h := it_f hc h
    refine V_aload_n (pc := 12) C dX12_verdict_12 rfl rfl ?_
    refine V_iload_n (pc := 13) C dX12_verdict_13 rfl rfl ?_
    obtain ⟨r6, er6, h⟩ := b1_some h
    refine V_callV (As := [.int a2]) (pc := 14) C (mX12_isSense _ er6) zm_X12_isSense zi_X12_isSense ml_RX12_306 z1_mW_12 rfl ⟨Nat.le_of_ble_eq_true rfl, Nat.le_of_ble_eq_true rfl⟩ rfl rfl (Nat.le_of_ble_eq_true rfl) dX12_verdict_14 ?_
    show V K 17 [some (.ref 0), some (.int a1), some (.int a2), none] [.int r6] S2
    refine V_if_ne (tgt := 26) (pc := 17) C dX12_verdict_17 (by decide) (fun hc => ?_) (fun hc => ?_)
    · have h := it_f hc h
      refine V_aload_n (pc := 26) C dX12_verdict_26 rfl rfl ?_
      refine V_iload_n (pc := 27) C dX12_verdict_27 rfl rfl ?_
      obtain ⟨r7, S8, er7, h⟩ := b2_some h
      refine V_callV (As := [.int a1]) (pc := 28) C (mX12_lays _ er7) zm_X12_lays zi_X12_lays ml_RX12_450 z1_mW_12 rfl ⟨Nat.le_of_ble_eq_true rfl, Nat.le_of_ble_eq_true rfl⟩ rfl rfl (Nat.le_of_ble_eq_true rfl) dX12_verdict_28 ?_
      show V K 31 [some (.ref 0), some (.int a1), some (.int a2), none] [.int r7] S8
      refine V_if_ne (tgt := 40) (pc := 31) C dX12_verdict_31 (by decide) (fun hc => ?_) (fun hc => ?_)
      · have h := it_f hc h
        refine V_aload_n (pc := 40) C dX12_verdict_40 rfl rfl ?_
        refine V_iload_n (pc := 41) C dX12_verdict_41 rfl rfl ?_
        obtain ⟨S10, euS10, h⟩ := b1_some h
        refine V_callV (As := [.int a1]) (pc := 42) C (mX12_fit _ euS10) zm_X12_fit zi_X12_fit ml_RX12_463 z1_mW_12 rfl ⟨Nat.le_of_ble_eq_true rfl, Nat.le_of_ble_eq_true rfl⟩ rfl rfl (Nat.le_of_ble_eq_true rfl) dX12_verdict_42 ?_
        show V K 45 [some (.ref 0), some (.int a1), some (.int a2), none] [] S10
        refine V_aload_n (pc := 45) C dX12_verdict_45 rfl rfl ?_
        refine V_iload_n (pc := 46) C dX12_verdict_46 rfl rfl ?_
        obtain ⟨r11, er11, h⟩ := b1_some h
        refine V_callV (As := [.int a2]) (pc := 47) C (mX12_fitsOf _ er11) zm_X12_fitsOf zi_X12_fitsOf ml_RX12_460 z1_mW_12 rfl ⟨Nat.le_of_ble_eq_true rfl, Nat.le_of_ble_eq_true rfl⟩ rfl rfl (Nat.le_of_ble_eq_true rfl) dX12_verdict_47 ?_
        show V K 50 [some (.ref 0), some (.int a1), some (.int a2), none] [.int r11] S10
        refine V_istore_n (L' := [some (.ref 0), some (.int a1), some (.int a2), some (.int r11)]) (pc := 50) C dX12_verdict_50 rfl (by decide) rfl ?_
        refine V_iload_n (pc := 51) C dX12_verdict_51 rfl rfl ?_
        refine V_if_ne (tgt := 59) (pc := 52) C dX12_verdict_52 (by decide) (fun hc => ?_) (fun hc => ?_)
        · have h := it_f hc h
          refine V_iload_n (pc := 59) C dX12_verdict_59 rfl rfl ?_
          refine V_aload_n (pc := 60) C dX12_verdict_60 rfl rfl ?_
          obtain ⟨r12, er12, h⟩ := b1_some h
          refine V_callV (As := []) (pc := 61) C (mX12_fitsMany _ er12) zm_X12_fitsMany zi_X12_fitsMany ml_RX12_466 z1_mW_12 rfl ⟨Nat.le_of_ble_eq_true rfl, Nat.le_of_ble_eq_true rfl⟩ rfl rfl (Nat.le_of_ble_eq_true rfl) dX12_verdict_61 ?_
          show V K 64 [some (.ref 0), some (.int a1), some (.int a2), some (.int r11)] [.int r12, .int r11] S10
          refine V_icmp_ne (tgt := 71) (pc := 64) C dX12_verdict_64 (by decide) (fun hc => ?_) (fun hc => ?_)
          · have h := it_f hc h
            refine V_iconst (pc := 71) C dX12_verdict_71 kc_i_1 ?_
            cases h
            exact hR 72 _ ⟨_, rfl, rfl⟩ dX12_verdict_72
          · have h := it_t hc h
            refine V_iconst (pc := 67) C dX12_verdict_67 kc_i_2 ?_
            refine V_goto (tgt := 72) (pc := 68) C dX12_verdict_68 (by decide) ?_
            cases h
            exact hR 72 _ ⟨_, rfl, rfl⟩ dX12_verdict_72
        · have h := it_t hc h
          refine V_iconst (pc := 55) C dX12_verdict_55 kc_i_0 ?_
          refine V_goto (tgt := 72) (pc := 56) C dX12_verdict_56 (by decide) ?_
          cases h
          exact hR 72 _ ⟨_, rfl, rfl⟩ dX12_verdict_72
      · have h := it_t hc h
        refine V_aload_n (pc := 34) C dX12_verdict_34 rfl rfl ?_
        refine V_iconst (pc := 35) C dX12_verdict_35 kc_i_3 ?_
        obtain ⟨r13, S14, er13, h⟩ := b2_some h
        refine V_callV (As := [.int (3 : Int32)]) (pc := 36) C (mX12_no _ er13) zm_X12_no zi_X12_no ml_RX12_214 z1_mW_12 rfl ⟨Nat.le_of_ble_eq_true rfl, Nat.le_of_ble_eq_true rfl⟩ rfl rfl (Nat.le_of_ble_eq_true rfl) dX12_verdict_36 ?_
        show V K 39 [some (.ref 0), some (.int a1), some (.int a2), none] [.int r13] S14
        cases h
        exact hR 39 _ ⟨_, rfl, rfl⟩ dX12_verdict_39
    · have h := it_t hc h
      refine V_aload_n (pc := 20) C dX12_verdict_20 rfl rfl ?_
      refine V_iconst (pc := 21) C dX12_verdict_21 kc_i_1 ?_
      obtain ⟨r15, S16, er15, h⟩ := b2_some h
      refine V_callV (As := [.int (1 : Int32)]) (pc := 22) C (mX12_no _ er15) zm_X12_no zi_X12_no ml_RX12_214 z1_mW_12 rfl ⟨Nat.le_of_ble_eq_true rfl, Nat.le_of_ble_eq_true rfl⟩ rfl rfl (Nat.le_of_ble_eq_true rfl) dX12_verdict_22 ?_
      show V K 25 [some (.ref 0), some (.int a1), some (.int a2), none] [.int r15] S16
      cases h
      exact hR 25 _ ⟨_, rfl, rfl⟩ dX12_verdict_25
set_option maxRecDepth 100000 in
theorem mX12_lineOf_L43 {K : zK} (C : zC K cX12_lineOf yX12_lineOf.cls 6 4 104 mW) {v2 : Int32} {v3 : Int32}  : ∀ (f : Nat) (S : zM) (v4 : Int32) (r : Int32) (S' : zM), gX12_lineOf_L43 v2 v3 f S v4 = some (r, S') → zR K cX12_lineOf (some .int) S' (some (.int r)) → V K 43 [some (.ref 0), none, some (.int v2), some (.int v3), some (.int v4), none] [] S := by
  intro f
  induction f with
  | zero => intro S v4 r S' h hR; cases h
  | succ n ih =>
    intro S v4 r S' h hR
    unfold gX12_lineOf_L43 at h
    refine V_iload (pc := 43) C dX12_lineOf_43 rfl ?_
    refine V_bipush (pc := 45) C dX12_lineOf_45 kc_b_100 ?_
    refine V_icmp_gt (tgt := 88) (pc := 47) C dX12_lineOf_47 (by decide) (fun hc => ?_) (fun hc => ?_)
    · have h := it_t hc h
      refine V_aload_n (pc := 88) C dX12_lineOf_88 rfl rfl ?_
      refine V_bipush (pc := 89) C dX12_lineOf_89 kc_b_6 ?_
      obtain ⟨r9, S10, er9, h⟩ := b2_some h
      refine V_callV (As := [.int (6 : Int32)]) (pc := 91) C (mX12_not _ er9) zm_X12_not zi_X12_not ml_RX12_469 z1_mW_12 rfl ⟨Nat.le_of_ble_eq_true rfl, Nat.le_of_ble_eq_true rfl⟩ rfl rfl (Nat.le_of_ble_eq_true rfl) dX12_lineOf_91 ?_
      show V K 94 [some (.ref 0), none, some (.int v2), some (.int v3), some (.int v4), none] [.int r9] S10
      cases h
      exact hR 94 _ ⟨_, rfl, rfl⟩ dX12_lineOf_94
    · have h := it_f hc h
      refine V_iload_n (pc := 50) C dX12_lineOf_50 rfl rfl ?_
      refine V_if_eq (tgt := 62) (pc := 51) C dX12_lineOf_51 (by decide) (fun hc => ?_) (fun hc => ?_)
      · have h := it_t hc h
        refine V_iload (pc := 62) C dX12_lineOf_62 rfl ?_
        refine V_bipush (pc := 64) C dX12_lineOf_64 kc_b_50 ?_
        refine V_isub (pc := 66) C dX12_lineOf_66 ?_
        refine V_istore (L' := [some (.ref 0), none, some (.int v2), some (.int v3), some (.int v4), some (.int (v4 - (50 : Int32)))]) (pc := 67) C dX12_lineOf_67 (by decide) rfl ?_
        refine V_aload_n (pc := 69) C dX12_lineOf_69 rfl rfl ?_
        refine V_iload_n (pc := 70) C dX12_lineOf_70 rfl rfl ?_
        refine V_iload (pc := 71) C dX12_lineOf_71 rfl ?_
        obtain ⟨r11, S12, er11, h⟩ := b2_some h
        refine V_callV (As := [.int v2, .int (v4 - (50 : Int32))]) (pc := 73) C (mX12_letsLine _ er11) zm_X12_letsLine zi_X12_letsLine ml_RX12_453 z1_mW_12 rfl ⟨Nat.le_of_ble_eq_true rfl, Nat.le_of_ble_eq_true rfl⟩ rfl rfl (Nat.le_of_ble_eq_true rfl) dX12_lineOf_73 ?_
        show V K 76 [some (.ref 0), none, some (.int v2), some (.int v3), some (.int v4), some (.int (v4 - (50 : Int32)))] [.int r11] S12
        refine V_if_eq (tgt := 82) (pc := 76) C dX12_lineOf_76 (by decide) (fun hc => ?_) (fun hc => ?_)
        · have h := it_t hc h
          refine V_iinc (L' := [some (.ref 0), none, some (.int v2), some (.int v3), some (.int (v4 + (1 : Int32))), some (.int (v4 - (50 : Int32)))]) (v := (v4 + (1 : Int32))) (pc := 82) C dX12_lineOf_82 rfl (congrArg (v4 + ·) kc_i_1) (by decide) rfl ?_
          refine V_goto (tgt := 43) (pc := 85) C dX12_lineOf_85 (by decide) ?_
          exact V_mask [true, false, true, true, true, false] (ih _ _ _ _ h hR)
        · have h := it_f hc h
          refine V_iload (pc := 79) C dX12_lineOf_79 rfl ?_
          cases h
          exact hR 81 _ ⟨_, rfl, rfl⟩ dX12_lineOf_81
      · have h := it_f hc h
        refine V_bipush (pc := 54) C dX12_lineOf_54 kc_b_50 ?_
        refine V_iload (pc := 56) C dX12_lineOf_56 rfl ?_
        refine V_isub (pc := 58) C dX12_lineOf_58 ?_
        refine V_goto (tgt := 67) (pc := 59) C dX12_lineOf_59 (by decide) ?_
        refine V_istore (L' := [some (.ref 0), none, some (.int v2), some (.int v3), some (.int v4), some (.int ((50 : Int32) - v4))]) (pc := 67) C dX12_lineOf_67 (by decide) rfl ?_
        refine V_aload_n (pc := 69) C dX12_lineOf_69 rfl rfl ?_
        refine V_iload_n (pc := 70) C dX12_lineOf_70 rfl rfl ?_
        refine V_iload (pc := 71) C dX12_lineOf_71 rfl ?_
        obtain ⟨r13, S14, er13, h⟩ := b2_some h
        refine V_callV (As := [.int v2, .int ((50 : Int32) - v4)]) (pc := 73) C (mX12_letsLine _ er13) zm_X12_letsLine zi_X12_letsLine ml_RX12_453 z1_mW_12 rfl ⟨Nat.le_of_ble_eq_true rfl, Nat.le_of_ble_eq_true rfl⟩ rfl rfl (Nat.le_of_ble_eq_true rfl) dX12_lineOf_73 ?_
        show V K 76 [some (.ref 0), none, some (.int v2), some (.int v3), some (.int v4), some (.int ((50 : Int32) - v4))] [.int r13] S14
        refine V_if_eq (tgt := 82) (pc := 76) C dX12_lineOf_76 (by decide) (fun hc => ?_) (fun hc => ?_)
        · have h := it_t hc h
          refine V_iinc (L' := [some (.ref 0), none, some (.int v2), some (.int v3), some (.int (v4 + (1 : Int32))), some (.int ((50 : Int32) - v4))]) (v := (v4 + (1 : Int32))) (pc := 82) C dX12_lineOf_82 rfl (congrArg (v4 + ·) kc_i_1) (by decide) rfl ?_
          refine V_goto (tgt := 43) (pc := 85) C dX12_lineOf_85 (by decide) ?_
          exact V_mask [true, false, true, true, true, false] (ih _ _ _ _ h hR)
        · have h := it_f hc h
          refine V_iload (pc := 79) C dX12_lineOf_79 rfl ?_
          cases h
          exact hR 81 _ ⟨_, rfl, rfl⟩ dX12_lineOf_81
set_option maxRecDepth 100000 in
theorem mX12_lineOf (l : Launch) {S : zM} {a1 : Int32} {a2 : Int32} {a3 : Int32} {r : Int32} {S' : zM}  (h : gX12_lineOf S a1 a2 a3 = some (r, S')) : zMet l mW zS0 yX12_lineOf cX12_lineOf 6 (some .int) 4 104 [.ref 0, .int a1, .int a2, .int a3] S (some (.int r)) S' := by
  refine zmeth (by decide +kernel) (by rfl) (fun K hKl C hR => ?_)
  show V K 0 [some (.ref 0), some (.int a1), some (.int a2), some (.int a3), none, none] [] S
  unfold gX12_lineOf at h
  refine V_aload_n (pc := 0) C dX12_lineOf_0 rfl rfl ?_
  obtain ⟨S2, euS2, h⟩ := b1_some h
  refine V_callV (As := []) (pc := 1) C (mX12_good _ euS2) zm_X12_good zi_X12_good ml_RX12_211 z1_mW_12 rfl ⟨Nat.le_of_ble_eq_true rfl, Nat.le_of_ble_eq_true rfl⟩ rfl rfl (Nat.le_of_ble_eq_true rfl) dX12_lineOf_1 ?_
  show V K 4 [some (.ref 0), some (.int a1), some (.int a2), some (.int a3), none, none] [] S2
  refine V_aload_n (pc := 4) C dX12_lineOf_4 rfl rfl ?_
  refine V_iload_n (pc := 5) C dX12_lineOf_5 rfl rfl ?_
  obtain ⟨r3, er3, h⟩ := b1_some h
  refine V_callV (As := [.int a1]) (pc := 6) C (mX12_isSayer _ er3) zm_X12_isSayer zi_X12_isSayer ml_RX12_315 z1_mW_12 rfl ⟨Nat.le_of_ble_eq_true rfl, Nat.le_of_ble_eq_true rfl⟩ rfl rfl (Nat.le_of_ble_eq_true rfl) dX12_lineOf_6 ?_
  show V K 9 [some (.ref 0), some (.int a1), some (.int a2), some (.int a3), none, none] [.int r3] S2
  refine V_if_eq (tgt := 20) (pc := 9) C dX12_lineOf_9 (by decide) (fun hc => ?_) (fun hc => ?_)
  · have h := it_t hc h
    refine V_aload_n (pc := 20) C dX12_lineOf_20 rfl rfl ?_
    refine V_iconst (pc := 21) C dX12_lineOf_21 kc_i_1 ?_
    obtain ⟨r4, S5, er4, h⟩ := b2_some h
    refine V_callV (As := [.int (1 : Int32)]) (pc := 22) C (mX12_not _ er4) zm_X12_not zi_X12_not ml_RX12_469 z1_mW_12 rfl ⟨Nat.le_of_ble_eq_true rfl, Nat.le_of_ble_eq_true rfl⟩ rfl rfl (Nat.le_of_ble_eq_true rfl) dX12_lineOf_22 ?_
    show V K 25 [some (.ref 0), some (.int a1), some (.int a2), some (.int a3), none, none] [.int r4] S5
    cases h
    exact hR 25 _ ⟨_, rfl, rfl⟩ dX12_lineOf_25
  · have h := it_f hc h
    refine V_aload_n (pc := 12) C dX12_lineOf_12 rfl rfl ?_
    refine V_iload_n (pc := 13) C dX12_lineOf_13 rfl rfl ?_
    obtain ⟨r6, er6, h⟩ := b1_some h
    refine V_callV (As := [.int a2]) (pc := 14) C (mX12_isSense _ er6) zm_X12_isSense zi_X12_isSense ml_RX12_306 z1_mW_12 rfl ⟨Nat.le_of_ble_eq_true rfl, Nat.le_of_ble_eq_true rfl⟩ rfl rfl (Nat.le_of_ble_eq_true rfl) dX12_lineOf_14 ?_
    show V K 17 [some (.ref 0), some (.int a1), some (.int a2), some (.int a3), none, none] [.int r6] S2
    refine V_if_ne (tgt := 26) (pc := 17) C dX12_lineOf_17 (by decide) (fun hc => ?_) (fun hc => ?_)
    · have h := it_f hc h
      refine V_aload_n (pc := 26) C dX12_lineOf_26 rfl rfl ?_
      refine V_iload_n (pc := 27) C dX12_lineOf_27 rfl rfl ?_
      obtain ⟨r7, S8, er7, h⟩ := b2_some h
      refine V_callV (As := [.int a1]) (pc := 28) C (mX12_lays _ er7) zm_X12_lays zi_X12_lays ml_RX12_450 z1_mW_12 rfl ⟨Nat.le_of_ble_eq_true rfl, Nat.le_of_ble_eq_true rfl⟩ rfl rfl (Nat.le_of_ble_eq_true rfl) dX12_lineOf_28 ?_
      show V K 31 [some (.ref 0), some (.int a1), some (.int a2), some (.int a3), none, none] [.int r7] S8
      refine V_if_ne (tgt := 40) (pc := 31) C dX12_lineOf_31 (by decide) (fun hc => ?_) (fun hc => ?_)
      · have h := it_f hc h
        refine V_iconst (pc := 40) C dX12_lineOf_40 kc_i_0 ?_
        refine V_istore (L' := [some (.ref 0), some (.int a1), some (.int a2), some (.int a3), some (.int (0 : Int32)), none]) (pc := 41) C dX12_lineOf_41 (by decide) rfl ?_
        exact V_mask [true, false, true, true, true, false] (mX12_lineOf_L43 C  FU _ _ _ _ h hR)
      · have h := it_t hc h
        refine V_aload_n (pc := 34) C dX12_lineOf_34 rfl rfl ?_
        refine V_iconst (pc := 35) C dX12_lineOf_35 kc_i_3 ?_
        obtain ⟨r15, S16, er15, h⟩ := b2_some h
        refine V_callV (As := [.int (3 : Int32)]) (pc := 36) C (mX12_not _ er15) zm_X12_not zi_X12_not ml_RX12_469 z1_mW_12 rfl ⟨Nat.le_of_ble_eq_true rfl, Nat.le_of_ble_eq_true rfl⟩ rfl rfl (Nat.le_of_ble_eq_true rfl) dX12_lineOf_36 ?_
        show V K 39 [some (.ref 0), some (.int a1), some (.int a2), some (.int a3), none, none] [.int r15] S16
        cases h
        exact hR 39 _ ⟨_, rfl, rfl⟩ dX12_lineOf_39
    · have h := it_t hc h
      refine V_aload_n (pc := 20) C dX12_lineOf_20 rfl rfl ?_
      refine V_iconst (pc := 21) C dX12_lineOf_21 kc_i_1 ?_
      obtain ⟨r17, S18, er17, h⟩ := b2_some h
      refine V_callV (As := [.int (1 : Int32)]) (pc := 22) C (mX12_not _ er17) zm_X12_not zi_X12_not ml_RX12_469 z1_mW_12 rfl ⟨Nat.le_of_ble_eq_true rfl, Nat.le_of_ble_eq_true rfl⟩ rfl rfl (Nat.le_of_ble_eq_true rfl) dX12_lineOf_22 ?_
      show V K 25 [some (.ref 0), some (.int a1), some (.int a2), some (.int a3), none, none] [.int r17] S18
      cases h
      exact hR 25 _ ⟨_, rfl, rfl⟩ dX12_lineOf_25
set_option maxRecDepth 100000 in
theorem mX12_secondOf_J67 {K : zK} (C : zC K cX12_secondOf yX12_secondOf.cls 6 4 107 mW) {S : zM} {v1 : Int32} {v2 : Int32} {v3 : Int32} {v4 : Int32} {s0 : Int32} {out : (Int32 × zM) ⊕ (Int32 × zM)}  (h : gX12_secondOf_J67 S v1 v2 v3 v4 s0 = some out) (hb : ∀ (b4 : Int32) (S' : zM), out = .inr (b4, S') → V K 43 [some (.ref 0), some (.int v1), some (.int v2), some (.int v3), some (.int b4), none] [] S') (hret : ∀ r' : (Int32 × zM), out = .inl r' → zR K cX12_secondOf (some .int) r'.2 (some (.int (r'.1)))) : V K 67 [some (.ref 0), some (.int v1), some (.int v2), some (.int v3), some (.int v4), none] [.int s0] S := by
  unfold gX12_secondOf_J67 at h
  refine V_istore (L' := [some (.ref 0), some (.int v1), some (.int v2), some (.int v3), some (.int v4), some (.int s0)]) (pc := 67) C dX12_secondOf_67 (by decide) rfl ?_
  refine V_aload_n (pc := 69) C dX12_secondOf_69 rfl rfl ?_
  refine V_iload_n (pc := 70) C dX12_secondOf_70 rfl rfl ?_
  refine V_iload_n (pc := 71) C dX12_secondOf_71 rfl rfl ?_
  refine V_iload (pc := 72) C dX12_secondOf_72 rfl ?_
  obtain ⟨r11, S12, er11, h⟩ := b2_some h
  refine V_callV (As := [.int v1, .int v2, .int s0]) (pc := 74) C (mX12_letsSecond _ er11) zm_X12_letsSecond zi_X12_letsSecond ml_RX12_457 z1_mW_12 rfl ⟨Nat.le_of_ble_eq_true rfl, Nat.le_of_ble_eq_true rfl⟩ rfl rfl (Nat.le_of_ble_eq_true rfl) dX12_secondOf_74 ?_
  show V K 77 [some (.ref 0), some (.int v1), some (.int v2), some (.int v3), some (.int v4), some (.int s0)] [.int r11] S12
  refine V_if_eq (tgt := 83) (pc := 77) C dX12_secondOf_77 (by decide) (fun hc => ?_) (fun hc => ?_)
  · have h := it_t hc h
    refine V_iinc (L' := [some (.ref 0), some (.int v1), some (.int v2), some (.int v3), some (.int (v4 + (1 : Int32))), some (.int s0)]) (v := (v4 + (1 : Int32))) (pc := 83) C dX12_secondOf_83 rfl (congrArg (v4 + ·) kc_i_1) (by decide) rfl ?_
    refine V_goto (tgt := 43) (pc := 86) C dX12_secondOf_86 (by decide) ?_
    cases h
    exact V_mask [true, true, true, true, true, false] (hb _ _ rfl)
  · have h := it_f hc h
    refine V_iload (pc := 80) C dX12_secondOf_80 rfl ?_
    cases h
    exact (hret _ rfl) 82 _ ⟨_, rfl, rfl⟩ dX12_secondOf_82
set_option maxRecDepth 100000 in
theorem mX12_secondOf_L43 {K : zK} (C : zC K cX12_secondOf yX12_secondOf.cls 6 4 107 mW) {v1 : Int32} {v2 : Int32} {v3 : Int32}  : ∀ (f : Nat) (S : zM) (v4 : Int32) (r : Int32) (S' : zM), gX12_secondOf_L43 v1 v2 v3 f S v4 = some (r, S') → zR K cX12_secondOf (some .int) S' (some (.int r)) → V K 43 [some (.ref 0), some (.int v1), some (.int v2), some (.int v3), some (.int v4), none] [] S := by
  intro f
  induction f with
  | zero => intro S v4 r S' h hR; cases h
  | succ n ih =>
    intro S v4 r S' h hR
    unfold gX12_secondOf_L43 at h
    refine V_iload (pc := 43) C dX12_secondOf_43 rfl ?_
    refine V_bipush (pc := 45) C dX12_secondOf_45 kc_b_100 ?_
    refine V_icmp_gt (tgt := 89) (pc := 47) C dX12_secondOf_47 (by decide) (fun hc => ?_) (fun hc => ?_)
    · have h := it_t hc h
      refine V_aload_n (pc := 89) C dX12_secondOf_89 rfl rfl ?_
      refine V_bipush (pc := 90) C dX12_secondOf_90 kc_b_6 ?_
      obtain ⟨r9, S10, er9, h⟩ := b2_some h
      refine V_callV (As := [.int (6 : Int32)]) (pc := 92) C (mX12_not _ er9) zm_X12_not zi_X12_not ml_RX12_469 z1_mW_12 rfl ⟨Nat.le_of_ble_eq_true rfl, Nat.le_of_ble_eq_true rfl⟩ rfl rfl (Nat.le_of_ble_eq_true rfl) dX12_secondOf_92 ?_
      show V K 95 [some (.ref 0), some (.int v1), some (.int v2), some (.int v3), some (.int v4), none] [.int r9] S10
      cases h
      exact hR 95 _ ⟨_, rfl, rfl⟩ dX12_secondOf_95
    · have h := it_f hc h
      refine V_iload_n (pc := 50) C dX12_secondOf_50 rfl rfl ?_
      refine V_if_eq (tgt := 62) (pc := 51) C dX12_secondOf_51 (by decide) (fun hc => ?_) (fun hc => ?_)
      · have h := it_t hc h
        refine V_iload (pc := 62) C dX12_secondOf_62 rfl ?_
        refine V_bipush (pc := 64) C dX12_secondOf_64 kc_b_50 ?_
        refine V_isub (pc := 66) C dX12_secondOf_66 ?_
        obtain ⟨out', e67, hi, hb⟩ := lm_some h
        refine V_mask [true, true, true, true, true, false] (mX12_secondOf_J67 C  e67 ?_ ?_)
        · intro v4 S eo
          have h := hb _ eo
          exact ih _ _ _ _ h hR
        · intro r' eo
          cases hi _ eo
          exact hR
      · have h := it_f hc h
        refine V_bipush (pc := 54) C dX12_secondOf_54 kc_b_50 ?_
        refine V_iload (pc := 56) C dX12_secondOf_56 rfl ?_
        refine V_isub (pc := 58) C dX12_secondOf_58 ?_
        refine V_goto (tgt := 67) (pc := 59) C dX12_secondOf_59 (by decide) ?_
        obtain ⟨out', e67, hi, hb⟩ := lm_some h
        refine V_mask [true, true, true, true, true, false] (mX12_secondOf_J67 C  e67 ?_ ?_)
        · intro v4 S eo
          have h := hb _ eo
          exact ih _ _ _ _ h hR
        · intro r' eo
          cases hi _ eo
          exact hR
set_option maxRecDepth 100000 in
theorem mX12_secondOf (l : Launch) {S : zM} {a1 : Int32} {a2 : Int32} {a3 : Int32} {r : Int32} {S' : zM}  (h : gX12_secondOf S a1 a2 a3 = some (r, S')) : zMet l mW zS0 yX12_secondOf cX12_secondOf 6 (some .int) 4 107 [.ref 0, .int a1, .int a2, .int a3] S (some (.int r)) S' := by
  refine zmeth (by decide +kernel) (by rfl) (fun K hKl C hR => ?_)
  show V K 0 [some (.ref 0), some (.int a1), some (.int a2), some (.int a3), none, none] [] S
  unfold gX12_secondOf at h
  refine V_aload_n (pc := 0) C dX12_secondOf_0 rfl rfl ?_
  obtain ⟨S2, euS2, h⟩ := b1_some h
  refine V_callV (As := []) (pc := 1) C (mX12_good _ euS2) zm_X12_good zi_X12_good ml_RX12_211 z1_mW_12 rfl ⟨Nat.le_of_ble_eq_true rfl, Nat.le_of_ble_eq_true rfl⟩ rfl rfl (Nat.le_of_ble_eq_true rfl) dX12_secondOf_1 ?_
  show V K 4 [some (.ref 0), some (.int a1), some (.int a2), some (.int a3), none, none] [] S2
  refine V_aload_n (pc := 4) C dX12_secondOf_4 rfl rfl ?_
  refine V_iload_n (pc := 5) C dX12_secondOf_5 rfl rfl ?_
  obtain ⟨r3, er3, h⟩ := b1_some h
  refine V_callV (As := [.int a1]) (pc := 6) C (mX12_isSayer _ er3) zm_X12_isSayer zi_X12_isSayer ml_RX12_315 z1_mW_12 rfl ⟨Nat.le_of_ble_eq_true rfl, Nat.le_of_ble_eq_true rfl⟩ rfl rfl (Nat.le_of_ble_eq_true rfl) dX12_secondOf_6 ?_
  show V K 9 [some (.ref 0), some (.int a1), some (.int a2), some (.int a3), none, none] [.int r3] S2
  refine V_if_eq (tgt := 20) (pc := 9) C dX12_secondOf_9 (by decide) (fun hc => ?_) (fun hc => ?_)
  · have h := it_t hc h
    refine V_aload_n (pc := 20) C dX12_secondOf_20 rfl rfl ?_
    refine V_iconst (pc := 21) C dX12_secondOf_21 kc_i_1 ?_
    obtain ⟨r4, S5, er4, h⟩ := b2_some h
    refine V_callV (As := [.int (1 : Int32)]) (pc := 22) C (mX12_not _ er4) zm_X12_not zi_X12_not ml_RX12_469 z1_mW_12 rfl ⟨Nat.le_of_ble_eq_true rfl, Nat.le_of_ble_eq_true rfl⟩ rfl rfl (Nat.le_of_ble_eq_true rfl) dX12_secondOf_22 ?_
    show V K 25 [some (.ref 0), some (.int a1), some (.int a2), some (.int a3), none, none] [.int r4] S5
    cases h
    exact hR 25 _ ⟨_, rfl, rfl⟩ dX12_secondOf_25
  · have h := it_f hc h
    refine V_aload_n (pc := 12) C dX12_secondOf_12 rfl rfl ?_
    refine V_iload_n (pc := 13) C dX12_secondOf_13 rfl rfl ?_
    obtain ⟨r6, er6, h⟩ := b1_some h
    refine V_callV (As := [.int a2]) (pc := 14) C (mX12_isSense _ er6) zm_X12_isSense zi_X12_isSense ml_RX12_306 z1_mW_12 rfl ⟨Nat.le_of_ble_eq_true rfl, Nat.le_of_ble_eq_true rfl⟩ rfl rfl (Nat.le_of_ble_eq_true rfl) dX12_secondOf_14 ?_
    show V K 17 [some (.ref 0), some (.int a1), some (.int a2), some (.int a3), none, none] [.int r6] S2
    refine V_if_ne (tgt := 26) (pc := 17) C dX12_secondOf_17 (by decide) (fun hc => ?_) (fun hc => ?_)
    · have h := it_f hc h
      refine V_aload_n (pc := 26) C dX12_secondOf_26 rfl rfl ?_
      refine V_iload_n (pc := 27) C dX12_secondOf_27 rfl rfl ?_
      obtain ⟨r7, S8, er7, h⟩ := b2_some h
      refine V_callV (As := [.int a1]) (pc := 28) C (mX12_lays _ er7) zm_X12_lays zi_X12_lays ml_RX12_450 z1_mW_12 rfl ⟨Nat.le_of_ble_eq_true rfl, Nat.le_of_ble_eq_true rfl⟩ rfl rfl (Nat.le_of_ble_eq_true rfl) dX12_secondOf_28 ?_
      show V K 31 [some (.ref 0), some (.int a1), some (.int a2), some (.int a3), none, none] [.int r7] S8
      refine V_if_ne (tgt := 40) (pc := 31) C dX12_secondOf_31 (by decide) (fun hc => ?_) (fun hc => ?_)
      · have h := it_f hc h
        refine V_iconst (pc := 40) C dX12_secondOf_40 kc_i_0 ?_
        refine V_istore (L' := [some (.ref 0), some (.int a1), some (.int a2), some (.int a3), some (.int (0 : Int32)), none]) (pc := 41) C dX12_secondOf_41 (by decide) rfl ?_
        exact V_mask [true, true, true, true, true, false] (mX12_secondOf_L43 C  FU _ _ _ _ h hR)
      · have h := it_t hc h
        refine V_aload_n (pc := 34) C dX12_secondOf_34 rfl rfl ?_
        refine V_iconst (pc := 35) C dX12_secondOf_35 kc_i_3 ?_
        obtain ⟨r13, S14, er13, h⟩ := b2_some h
        refine V_callV (As := [.int (3 : Int32)]) (pc := 36) C (mX12_not _ er13) zm_X12_not zi_X12_not ml_RX12_469 z1_mW_12 rfl ⟨Nat.le_of_ble_eq_true rfl, Nat.le_of_ble_eq_true rfl⟩ rfl rfl (Nat.le_of_ble_eq_true rfl) dX12_secondOf_36 ?_
        show V K 39 [some (.ref 0), some (.int a1), some (.int a2), some (.int a3), none, none] [.int r13] S14
        cases h
        exact hR 39 _ ⟨_, rfl, rfl⟩ dX12_secondOf_39
    · have h := it_t hc h
      refine V_aload_n (pc := 20) C dX12_secondOf_20 rfl rfl ?_
      refine V_iconst (pc := 21) C dX12_secondOf_21 kc_i_1 ?_
      obtain ⟨r15, S16, er15, h⟩ := b2_some h
      refine V_callV (As := [.int (1 : Int32)]) (pc := 22) C (mX12_not _ er15) zm_X12_not zi_X12_not ml_RX12_469 z1_mW_12 rfl ⟨Nat.le_of_ble_eq_true rfl, Nat.le_of_ble_eq_true rfl⟩ rfl rfl (Nat.le_of_ble_eq_true rfl) dX12_secondOf_22 ?_
      show V K 25 [some (.ref 0), some (.int a1), some (.int a2), some (.int a3), none, none] [.int r15] S16
      cases h
      exact hR 25 _ ⟨_, rfl, rfl⟩ dX12_secondOf_25
set_option maxRecDepth 100000 in
theorem mX12_freshOdds (l : Launch) {S : zM} {a1 : Int32} {a2 : Int32} {a3 : Int32} {a4 : Int32} {a5 : Int32} {r : Int32}  (h : gX12_freshOdds S a1 a2 a3 a4 a5 = some r) : zMet l mW zS0 yX12_freshOdds cX12_freshOdds 6 (some .int) 4 117 [.ref 0, .int a1, .int a2, .int a3, .int a4, .int a5] S (some (.int r)) S := by
  refine zmeth (by decide +kernel) (by rfl) (fun K hKl C hR => ?_)
  show V K 0 [some (.ref 0), some (.int a1), some (.int a2), some (.int a3), some (.int a4), some (.int a5)] [] S
  unfold gX12_freshOdds at h
  refine V_aload_n (pc := 0) C dX12_freshOdds_0 rfl rfl ?_
  refine V_iload_n (pc := 1) C dX12_freshOdds_1 rfl rfl ?_
  refine V_iload_n (pc := 2) C dX12_freshOdds_2 rfl rfl ?_
  refine V_iload_n (pc := 3) C dX12_freshOdds_3 rfl rfl ?_
  refine V_iload (pc := 4) C dX12_freshOdds_4 rfl ?_
  refine V_iconst (pc := 6) C dX12_freshOdds_6 kc_i_0 ?_
  refine V_iload (pc := 7) C dX12_freshOdds_7 rfl ?_
  refine V_iconst (pc := 9) C dX12_freshOdds_9 kc_i_0 ?_
  refine V_aload_n (pc := 10) C dX12_freshOdds_10 rfl rfl ?_
  refine V_aload_n (pc := 11) C dX12_freshOdds_11 rfl rfl ?_
  refine V_getF (p1 := 3) (pc := 12) C z1_mW_12 fl_RX12_20 rfl (zf_mW_12_15 z1_mW_12) dX12_freshOdds_12 ?_
  refine V_bipush (pc := 15) C dX12_freshOdds_15 kc_b_120 ?_
  refine V_iload_n (pc := 17) C dX12_freshOdds_17 rfl rfl ?_
  refine V_iadd (pc := 18) C dX12_freshOdds_18 ?_
  obtain ⟨k1, h⟩ := ck_some h
  refine V_iald (pc := 19) C (za_mW_12_15 z1_mW_12) k1 dX12_freshOdds_19 ?_
  obtain ⟨r2, er2, h⟩ := b1_some h
  refine V_callV (As := [.int (gI S 3 (ix ((120 : Int32) + a1)))]) (pc := 20) C (mX12_fullOf _ er2) zm_X12_fullOf zi_X12_fullOf ml_RX12_443 z1_mW_12 rfl ⟨Nat.le_of_ble_eq_true rfl, Nat.le_of_ble_eq_true rfl⟩ rfl rfl (Nat.le_of_ble_eq_true rfl) dX12_freshOdds_20 ?_
  show V K 23 [some (.ref 0), some (.int a1), some (.int a2), some (.int a3), some (.int a4), some (.int a5)] [.int r2, .int (0 : Int32), .int a5, .int (0 : Int32), .int a4, .int a3, .int a2, .int a1, .ref 0] S
  obtain ⟨r3, er3, h⟩ := b1_some h
  refine V_callV (As := [.int a1, .int a2, .int a3, .int a4, .int (0 : Int32), .int a5, .int (0 : Int32), .int r2]) (pc := 23) C (mX12_oddsOf _ er3) zm_X12_oddsOf zi_X12_oddsOf ml_RX12_363 z1_mW_12 rfl ⟨Nat.le_of_ble_eq_true rfl, Nat.le_of_ble_eq_true rfl⟩ rfl rfl (Nat.le_of_ble_eq_true rfl) dX12_freshOdds_23 ?_
  show V K 26 [some (.ref 0), some (.int a1), some (.int a2), some (.int a3), some (.int a4), some (.int a5)] [.int r3] S
  cases h
  exact hR 26 _ ⟨_, rfl, rfl⟩ dX12_freshOdds_26
set_option maxRecDepth 100000 in
theorem mX12_moreOf_L31 {K : zK} (C : zC K cX12_moreOf yX12_moreOf.cls 6 5 142 mW) {S : zM} {v1 : Int32} {v2 : Int32} {v3 : Int32} {v4 : Int32}  : ∀ (f : Nat) (v5 : Int32) (r : Int32), gX12_moreOf_L31 S v1 v2 v3 v4 f v5 = some r → zR K cX12_moreOf (some .int) S (some (.int r)) → V K 31 [some (.ref 0), some (.int v1), some (.int v2), some (.int v3), some (.int v4), some (.int v5)] [] S := by
  intro f
  induction f with
  | zero => intro v5 r h hR; cases h
  | succ n ih =>
    intro v5 r h hR
    unfold gX12_moreOf_L31 at h
    refine V_iload_n (pc := 31) C dX12_moreOf_31 rfl rfl ?_
    refine V_iload (pc := 32) C dX12_moreOf_32 rfl ?_
    refine V_iadd (pc := 34) C dX12_moreOf_34 ?_
    refine V_sipush (pc := 35) C dX12_moreOf_35 kc_s_400 ?_
    refine V_icmp_gt (tgt := 75) (pc := 38) C dX12_moreOf_38 (by decide) (fun hc => ?_) (fun hc => ?_)
    · have h := it_t hc h
      refine V_bipush (pc := 75) C dX12_moreOf_75 kc_b_m2 ?_
      cases h
      exact hR 77 _ ⟨_, rfl, rfl⟩ dX12_moreOf_77
    · have h := it_f hc h
      refine V_bipush (pc := 41) C dX12_moreOf_41 kc_b_100 ?_
      refine V_aload_n (pc := 43) C dX12_moreOf_43 rfl rfl ?_
      refine V_iload_n (pc := 44) C dX12_moreOf_44 rfl rfl ?_
      refine V_iconst (pc := 45) C dX12_moreOf_45 kc_i_0 ?_
      refine V_iload_n (pc := 46) C dX12_moreOf_46 rfl rfl ?_
      refine V_iload_n (pc := 47) C dX12_moreOf_47 rfl rfl ?_
      refine V_iload (pc := 48) C dX12_moreOf_48 rfl ?_
      refine V_iadd (pc := 50) C dX12_moreOf_50 ?_
      refine V_iconst (pc := 51) C dX12_moreOf_51 kc_i_1 ?_
      obtain ⟨r5, er5, h⟩ := b1_some h
      refine V_callV (As := [.int v1, .int (0 : Int32), .int v2, .int (v2 + v5), .int (1 : Int32)]) (pc := 52) C (mX12_freshOdds _ er5) zm_X12_freshOdds zi_X12_freshOdds ml_RX12_472 z1_mW_12 rfl ⟨Nat.le_of_ble_eq_true rfl, Nat.le_of_ble_eq_true rfl⟩ rfl rfl (Nat.le_of_ble_eq_true rfl) dX12_moreOf_52 ?_
      show V K 55 [some (.ref 0), some (.int v1), some (.int v2), some (.int v3), some (.int v4), some (.int v5)] [.int r5, .int (100 : Int32)] S
      refine V_imul (pc := 55) C dX12_moreOf_55 ?_
      refine V_iload_n (pc := 56) C dX12_moreOf_56 rfl rfl ?_
      refine V_iload (pc := 57) C dX12_moreOf_57 rfl ?_
      refine V_imul (pc := 59) C dX12_moreOf_59 ?_
      refine V_iload (pc := 60) C dX12_moreOf_60 rfl ?_
      refine V_imul (pc := 62) C dX12_moreOf_62 ?_
      refine V_icmp_lt (tgt := 69) (pc := 63) C dX12_moreOf_63 (by decide) (fun hc => ?_) (fun hc => ?_)
      · have h := it_t hc h
        refine V_iinc (L' := [some (.ref 0), some (.int v1), some (.int v2), some (.int v3), some (.int v4), some (.int (v5 + (1 : Int32)))]) (v := (v5 + (1 : Int32))) (pc := 69) C dX12_moreOf_69 rfl (congrArg (v5 + ·) kc_i_1) (by decide) rfl ?_
        refine V_goto (tgt := 31) (pc := 72) C dX12_moreOf_72 (by decide) ?_
        exact V_mask [true, true, true, true, true, true] (ih _ _ h hR)
      · have h := it_f hc h
        refine V_iload (pc := 66) C dX12_moreOf_66 rfl ?_
        cases h
        exact hR 68 _ ⟨_, rfl, rfl⟩ dX12_moreOf_68
set_option maxRecDepth 100000 in
theorem mX12_moreOf (l : Launch) {S : zM} {a1 : Int32} {a2 : Int32} {a3 : Int32} {r : Int32}  (h : gX12_moreOf S a1 a2 a3 = some r) : zMet l mW zS0 yX12_moreOf cX12_moreOf 6 (some .int) 5 142 [.ref 0, .int a1, .int a2, .int a3] S (some (.int r)) S := by
  refine zmeth (by decide +kernel) (by rfl) (fun K hKl C hR => ?_)
  show V K 0 [some (.ref 0), some (.int a1), some (.int a2), some (.int a3), none, none] [] S
  unfold gX12_moreOf at h
  refine V_aload_n (pc := 0) C dX12_moreOf_0 rfl rfl ?_
  refine V_aload_n (pc := 1) C dX12_moreOf_1 rfl rfl ?_
  refine V_getF (p1 := 3) (pc := 2) C z1_mW_12 fl_RX12_20 rfl (zf_mW_12_15 z1_mW_12) dX12_moreOf_2 ?_
  refine V_bipush (pc := 5) C dX12_moreOf_5 kc_b_120 ?_
  refine V_iload_n (pc := 7) C dX12_moreOf_7 rfl rfl ?_
  refine V_iadd (pc := 8) C dX12_moreOf_8 ?_
  obtain ⟨k1, h⟩ := ck_some h
  refine V_iald (pc := 9) C (za_mW_12_15 z1_mW_12) k1 dX12_moreOf_9 ?_
  refine V_aload_n (pc := 10) C dX12_moreOf_10 rfl rfl ?_
  refine V_aload_n (pc := 11) C dX12_moreOf_11 rfl rfl ?_
  refine V_getF (p1 := 3) (pc := 12) C z1_mW_12 fl_RX12_20 rfl (zf_mW_12_15 z1_mW_12) dX12_moreOf_12 ?_
  refine V_bipush (pc := 15) C dX12_moreOf_15 kc_b_120 ?_
  refine V_iload_n (pc := 17) C dX12_moreOf_17 rfl rfl ?_
  refine V_iadd (pc := 18) C dX12_moreOf_18 ?_
  obtain ⟨k2, h⟩ := ck_some h
  refine V_iald (pc := 19) C (za_mW_12_15 z1_mW_12) k2 dX12_moreOf_19 ?_
  obtain ⟨r3, er3, h⟩ := b1_some h
  refine V_callV (As := [.int (gI S 3 (ix ((120 : Int32) + a1)))]) (pc := 20) C (mX12_fullOf _ er3) zm_X12_fullOf zi_X12_fullOf ml_RX12_443 z1_mW_12 rfl ⟨Nat.le_of_ble_eq_true rfl, Nat.le_of_ble_eq_true rfl⟩ rfl rfl (Nat.le_of_ble_eq_true rfl) dX12_moreOf_20 ?_
  show V K 23 [some (.ref 0), some (.int a1), some (.int a2), some (.int a3), none, none] [.int r3, .int (gI S 3 (ix ((120 : Int32) + a1))), .ref 0] S
  obtain ⟨r4, er4, h⟩ := b1_some h
  refine V_callV (As := [.int (gI S 3 (ix ((120 : Int32) + a1))), .int r3]) (pc := 23) C (mX12_all _ er4) zm_X12_all zi_X12_all ml_RX12_324 z1_mW_12 rfl ⟨Nat.le_of_ble_eq_true rfl, Nat.le_of_ble_eq_true rfl⟩ rfl rfl (Nat.le_of_ble_eq_true rfl) dX12_moreOf_23 ?_
  show V K 26 [some (.ref 0), some (.int a1), some (.int a2), some (.int a3), none, none] [.int r4] S
  refine V_istore (L' := [some (.ref 0), some (.int a1), some (.int a2), some (.int a3), some (.int r4), none]) (pc := 26) C dX12_moreOf_26 (by decide) rfl ?_
  refine V_iconst (pc := 28) C dX12_moreOf_28 kc_i_1 ?_
  refine V_istore (L' := [some (.ref 0), some (.int a1), some (.int a2), some (.int a3), some (.int r4), some (.int (1 : Int32))]) (pc := 29) C dX12_moreOf_29 (by decide) rfl ?_
  exact V_mask [true, true, true, true, true, true] (mX12_moreOf_L31 C  FU _ _ h hR)
set_option maxRecDepth 100000 in
theorem mX12_more (l : Launch) {S : zM} {a1 : Int32} {a2 : Int32} {a3 : Int32} {r : Int32} {S' : zM}  (h : gX12_more S a1 a2 a3 = some (r, S')) : zMet l mW zS0 yX12_more cX12_more 4 (some .int) 6 167 [.ref 0, .int a1, .int a2, .int a3] S (some (.int r)) S' := by
  refine zmeth (by decide +kernel) (by rfl) (fun K hKl C hR => ?_)
  show V K 0 [some (.ref 0), some (.int a1), some (.int a2), some (.int a3)] [] S
  unfold gX12_more at h
  refine V_aload_n (pc := 0) C dX12_more_0 rfl rfl ?_
  obtain ⟨S2, euS2, h⟩ := b1_some h
  refine V_callV (As := []) (pc := 1) C (mX12_good _ euS2) zm_X12_good zi_X12_good ml_RX12_211 z1_mW_12 rfl ⟨Nat.le_of_ble_eq_true rfl, Nat.le_of_ble_eq_true rfl⟩ rfl rfl (Nat.le_of_ble_eq_true rfl) dX12_more_1 ?_
  show V K 4 [some (.ref 0), some (.int a1), some (.int a2), some (.int a3)] [] S2
  refine V_aload_n (pc := 4) C dX12_more_4 rfl rfl ?_
  refine V_iload_n (pc := 5) C dX12_more_5 rfl rfl ?_
  obtain ⟨r3, er3, h⟩ := b1_some h
  refine V_callV (As := [.int a1]) (pc := 6) C (mX12_isSayer _ er3) zm_X12_isSayer zi_X12_isSayer ml_RX12_315 z1_mW_12 rfl ⟨Nat.le_of_ble_eq_true rfl, Nat.le_of_ble_eq_true rfl⟩ rfl rfl (Nat.le_of_ble_eq_true rfl) dX12_more_6 ?_
  show V K 9 [some (.ref 0), some (.int a1), some (.int a2), some (.int a3)] [.int r3] S2
  refine V_if_ne (tgt := 18) (pc := 9) C dX12_more_9 (by decide) (fun hc => ?_) (fun hc => ?_)
  · have h := it_f hc h
    refine V_iload_n (pc := 18) C dX12_more_18 rfl rfl ?_
    refine V_iconst (pc := 19) C dX12_more_19 kc_i_1 ?_
    refine V_sipush (pc := 20) C dX12_more_20 kc_s_400 ?_
    obtain ⟨r4, er4, h⟩ := b1_some h
    refine V_callS (As := [.int a2, .int (1 : Int32), .int (400 : Int32)]) (pc := 23) C (mX12_within _ er4) zm_X12_within zs_X12_within ml_RX12_203 ⟨Nat.le_of_ble_eq_true rfl, Nat.le_of_ble_eq_true rfl⟩ rfl rfl (Nat.le_of_ble_eq_true rfl) dX12_more_23 ?_
    show V K 26 [some (.ref 0), some (.int a1), some (.int a2), some (.int a3)] [.int r4] S2
    refine V_if_eq (tgt := 49) (pc := 26) C dX12_more_26 (by decide) (fun hc => ?_) (fun hc => ?_)
    · have h := it_t hc h
      refine V_aload_n (pc := 49) C dX12_more_49 rfl rfl ?_
      refine V_iconst (pc := 50) C dX12_more_50 kc_i_2 ?_
      obtain ⟨r5, S6, er5, h⟩ := b2_some h
      refine V_callV (As := [.int (2 : Int32)]) (pc := 51) C (mX12_no _ er5) zm_X12_no zi_X12_no ml_RX12_214 z1_mW_12 rfl ⟨Nat.le_of_ble_eq_true rfl, Nat.le_of_ble_eq_true rfl⟩ rfl rfl (Nat.le_of_ble_eq_true rfl) dX12_more_51 ?_
      show V K 54 [some (.ref 0), some (.int a1), some (.int a2), some (.int a3)] [.int r5] S6
      cases h
      exact hR 54 _ ⟨_, rfl, rfl⟩ dX12_more_54
    · have h := it_f hc h
      refine V_iload_n (pc := 29) C dX12_more_29 rfl rfl ?_
      refine V_iconst (pc := 30) C dX12_more_30 kc_i_1 ?_
      refine V_bipush (pc := 31) C dX12_more_31 kc_b_100 ?_
      obtain ⟨r7, er7, h⟩ := b1_some h
      refine V_callS (As := [.int a3, .int (1 : Int32), .int (100 : Int32)]) (pc := 33) C (mX12_within _ er7) zm_X12_within zs_X12_within ml_RX12_203 ⟨Nat.le_of_ble_eq_true rfl, Nat.le_of_ble_eq_true rfl⟩ rfl rfl (Nat.le_of_ble_eq_true rfl) dX12_more_33 ?_
      show V K 36 [some (.ref 0), some (.int a1), some (.int a2), some (.int a3)] [.int r7] S2
      refine V_if_eq (tgt := 49) (pc := 36) C dX12_more_36 (by decide) (fun hc => ?_) (fun hc => ?_)
      · have h := it_t hc h
        refine V_aload_n (pc := 49) C dX12_more_49 rfl rfl ?_
        refine V_iconst (pc := 50) C dX12_more_50 kc_i_2 ?_
        obtain ⟨r8, S9, er8, h⟩ := b2_some h
        refine V_callV (As := [.int (2 : Int32)]) (pc := 51) C (mX12_no _ er8) zm_X12_no zi_X12_no ml_RX12_214 z1_mW_12 rfl ⟨Nat.le_of_ble_eq_true rfl, Nat.le_of_ble_eq_true rfl⟩ rfl rfl (Nat.le_of_ble_eq_true rfl) dX12_more_51 ?_
        show V K 54 [some (.ref 0), some (.int a1), some (.int a2), some (.int a3)] [.int r8] S9
        cases h
        exact hR 54 _ ⟨_, rfl, rfl⟩ dX12_more_54
      · have h := it_f hc h
        refine V_aload_n (pc := 39) C dX12_more_39 rfl rfl ?_
        refine V_iload_n (pc := 40) C dX12_more_40 rfl rfl ?_
        refine V_iload_n (pc := 41) C dX12_more_41 rfl rfl ?_
        refine V_iload_n (pc := 42) C dX12_more_42 rfl rfl ?_
        obtain ⟨r10, er10, h⟩ := b1_some h
        refine V_callV (As := [.int a1, .int a2, .int a3]) (pc := 43) C (mX12_moreOf _ er10) zm_X12_moreOf zi_X12_moreOf ml_RX12_475 z1_mW_12 rfl ⟨Nat.le_of_ble_eq_true rfl, Nat.le_of_ble_eq_true rfl⟩ rfl rfl (Nat.le_of_ble_eq_true rfl) dX12_more_43 ?_
        show V K 46 [some (.ref 0), some (.int a1), some (.int a2), some (.int a3)] [.int r10] S2
        refine V_goto (tgt := 54) (pc := 46) C dX12_more_46 (by decide) ?_
        cases h
        exact hR 54 _ ⟨_, rfl, rfl⟩ dX12_more_54
  · have h := it_t hc h
    refine V_aload_n (pc := 12) C dX12_more_12 rfl rfl ?_
    refine V_iconst (pc := 13) C dX12_more_13 kc_i_1 ?_
    obtain ⟨r11, S12, er11, h⟩ := b2_some h
    refine V_callV (As := [.int (1 : Int32)]) (pc := 14) C (mX12_no _ er11) zm_X12_no zi_X12_no ml_RX12_214 z1_mW_12 rfl ⟨Nat.le_of_ble_eq_true rfl, Nat.le_of_ble_eq_true rfl⟩ rfl rfl (Nat.le_of_ble_eq_true rfl) dX12_more_14 ?_
    show V K 17 [some (.ref 0), some (.int a1), some (.int a2), some (.int a3)] [.int r11] S12
    cases h
    exact hR 17 _ ⟨_, rfl, rfl⟩ dX12_more_17
set_option maxRecDepth 100000 in
theorem mX12_fails_J107 {K : zK} (C : zC K cX12_fails yX12_fails.cls 9 6 167 mW) {S : zM} {v1 : Int32} {v2 : Int32} {v4 : Int32} {v5 : Int32} {v6 : Int32} {v7 : Int32} {s0 : Int32} {out : (Int32 × zM) ⊕ Int32}  (h : gX12_fails_J107 S v1 v2 v4 v5 v6 v7 s0 = some out) (hb : ∀ (b6 : Int32), out = .inr b6 → V K 72 [some (.ref 0), some (.int v1), some (.int v2), none, some (.int v4), some (.int v5), some (.int b6), none, none] [] S) (hret : ∀ r' : (Int32 × zM), out = .inl r' → zR K cX12_fails (some .int) r'.2 (some (.int (r'.1)))) : V K 107 [some (.ref 0), some (.int v1), some (.int v2), none, some (.int v4), some (.int v5), some (.int v6), some (.int v7), none] [.int s0] S := by
  unfold gX12_fails_J107 at h
  refine V_istore (L' := [some (.ref 0), some (.int v1), some (.int v2), none, some (.int v4), some (.int v5), some (.int v6), some (.int v7), some (.int s0)]) (pc := 107) C dX12_fails_107 (by decide) rfl ?_
  refine V_iload (pc := 109) C dX12_fails_109 rfl ?_
  refine V_if_lt (tgt := 126) (pc := 111) C dX12_fails_111 (by decide) (fun hc => ?_) (fun hc => ?_)
  · have h := it_t hc h
    refine V_iload (pc := 126) C dX12_fails_126 rfl ?_
    cases h
    exact (hret _ rfl) 128 _ ⟨_, rfl, rfl⟩ dX12_fails_128
  · have h := it_f hc h
    refine V_iload (pc := 114) C dX12_fails_114 rfl ?_
    refine V_iload (pc := 116) C dX12_fails_116 rfl ?_
    refine V_isub (pc := 118) C dX12_fails_118 ?_
    obtain ⟨r17, er17, h⟩ := b1_some h
    refine V_callS (As := [.int (v7 - s0)]) (pc := 119) C (mX12_without _ er17) zm_X12_without zs_X12_without ml_RX12_333 ⟨Nat.le_of_ble_eq_true rfl, Nat.le_of_ble_eq_true rfl⟩ rfl rfl (Nat.le_of_ble_eq_true rfl) dX12_fails_119 ?_
    show V K 122 [some (.ref 0), some (.int v1), some (.int v2), none, some (.int v4), some (.int v5), some (.int v6), some (.int v7), some (.int s0)] [.int r17] S
    refine V_iconst (pc := 122) C dX12_fails_122 kc_i_1 ?_
    refine V_icmp_le (tgt := 129) (pc := 123) C dX12_fails_123 (by decide) (fun hc => ?_) (fun hc => ?_)
    · have h := it_t hc h
      refine V_iinc (L' := [some (.ref 0), some (.int v1), some (.int v2), none, some (.int v4), some (.int v5), some (.int (v6 + (1 : Int32))), some (.int v7), some (.int s0)]) (v := (v6 + (1 : Int32))) (pc := 129) C dX12_fails_129 rfl (congrArg (v6 + ·) kc_i_1) (by decide) rfl ?_
      refine V_goto (tgt := 72) (pc := 132) C dX12_fails_132 (by decide) ?_
      cases h
      exact V_mask [true, true, true, false, true, true, true, false, false] (hb _ rfl)
    · have h := it_f hc h
      refine V_iload (pc := 126) C dX12_fails_126 rfl ?_
      cases h
      exact (hret _ rfl) 128 _ ⟨_, rfl, rfl⟩ dX12_fails_128
set_option maxRecDepth 100000 in
theorem mX12_fails_L72 {K : zK} (C : zC K cX12_fails yX12_fails.cls 9 6 167 mW) {S : zM} {v1 : Int32} {v2 : Int32} {v4 : Int32} {v5 : Int32}  : ∀ (f : Nat) (v6 : Int32) (r : Int32) (S' : zM), gX12_fails_L72 S v1 v2 v4 v5 f v6 = some (r, S') → zR K cX12_fails (some .int) S' (some (.int r)) → V K 72 [some (.ref 0), some (.int v1), some (.int v2), none, some (.int v4), some (.int v5), some (.int v6), none, none] [] S := by
  intro f
  induction f with
  | zero => intro v6 r S' h hR; cases h
  | succ n ih =>
    intro v6 r S' h hR
    unfold gX12_fails_L72 at h
    refine V_iload (pc := 72) C dX12_fails_72 rfl ?_
    refine V_iload (pc := 74) C dX12_fails_74 rfl ?_
    refine V_icmp_gt (tgt := 135) (pc := 76) C dX12_fails_76 (by decide) (fun hc => ?_) (fun hc => ?_)
    · have h := it_t hc h
      refine V_bipush (pc := 135) C dX12_fails_135 kc_b_m2 ?_
      cases h
      exact hR 137 _ ⟨_, rfl, rfl⟩ dX12_fails_137
    · have h := it_f hc h
      refine V_aload_n (pc := 79) C dX12_fails_79 rfl rfl ?_
      refine V_iload_n (pc := 80) C dX12_fails_80 rfl rfl ?_
      refine V_iload (pc := 81) C dX12_fails_81 rfl ?_
      refine V_iload_n (pc := 83) C dX12_fails_83 rfl rfl ?_
      obtain ⟨r14, er14, h⟩ := b1_some h
      refine V_callV (As := [.int v1, .int v6, .int v2]) (pc := 84) C (mX12_moreOf _ er14) zm_X12_moreOf zi_X12_moreOf ml_RX12_475 z1_mW_12 rfl ⟨Nat.le_of_ble_eq_true rfl, Nat.le_of_ble_eq_true rfl⟩ rfl rfl (Nat.le_of_ble_eq_true rfl) dX12_fails_84 ?_
      show V K 87 [some (.ref 0), some (.int v1), some (.int v2), none, some (.int v4), some (.int v5), some (.int v6), none, none] [.int r14] S
      refine V_istore (L' := [some (.ref 0), some (.int v1), some (.int v2), none, some (.int v4), some (.int v5), some (.int v6), some (.int r14), none]) (pc := 87) C dX12_fails_87 (by decide) rfl ?_
      refine V_iload (pc := 89) C dX12_fails_89 rfl ?_
      refine V_iload (pc := 91) C dX12_fails_91 rfl ?_
      obtain ⟨k15, h⟩ := ck_some h
      refine V_idiv (pc := 93) C dX12_fails_93 (of_decide_eq_true k15) ?_
      refine V_iconst (pc := 94) C dX12_fails_94 kc_i_1 ?_
      refine V_icmp_ge (tgt := 102) (pc := 95) C dX12_fails_95 (by decide) (fun hc => ?_) (fun hc => ?_)
      · have h := it_t hc h
        refine V_iload (pc := 102) C dX12_fails_102 rfl ?_
        refine V_iload (pc := 104) C dX12_fails_104 rfl ?_
        obtain ⟨k16, h⟩ := ck_some h
        refine V_idiv (pc := 106) C dX12_fails_106 (of_decide_eq_true k16) ?_
        obtain ⟨out', e107, hi, hb⟩ := lm_some h
        refine V_mask [true, true, true, false, true, true, true, true, false] (mX12_fails_J107 C  e107 ?_ ?_)
        · intro v6 eo
          have h := hb _ eo
          exact ih _ _ _ h hR
        · intro r' eo
          cases hi _ eo
          exact hR
      · have h := it_f hc h
        refine V_iconst (pc := 98) C dX12_fails_98 kc_i_1 ?_
        refine V_goto (tgt := 107) (pc := 99) C dX12_fails_99 (by decide) ?_
        obtain ⟨out', e107, hi, hb⟩ := lm_some h
        refine V_mask [true, true, true, false, true, true, true, true, false] (mX12_fails_J107 C  e107 ?_ ?_)
        · intro v6 eo
          have h := hb _ eo
          exact ih _ _ _ h hR
        · intro r' eo
          cases hi _ eo
          exact hR
set_option maxRecDepth 100000 in
theorem mX12_fails (l : Launch) {S : zM} {a1 : Int32} {a2 : Int32} {a3 : Int32} {a4 : Int32} {a5 : Int32} {r : Int32} {S' : zM}  (h : gX12_fails S a1 a2 a3 a4 a5 = some (r, S')) : zMet l mW zS0 yX12_fails cX12_fails 9 (some .int) 6 167 [.ref 0, .int a1, .int a2, .int a3, .int a4, .int a5] S (some (.int r)) S' := by
  refine zmeth (by decide +kernel) (by rfl) (fun K hKl C hR => ?_)
  show V K 0 [some (.ref 0), some (.int a1), some (.int a2), some (.int a3), some (.int a4), some (.int a5), none, none, none] [] S
  unfold gX12_fails at h
  refine V_aload_n (pc := 0) C dX12_fails_0 rfl rfl ?_
  obtain ⟨S2, euS2, h⟩ := b1_some h
  refine V_callV (As := []) (pc := 1) C (mX12_good _ euS2) zm_X12_good zi_X12_good ml_RX12_211 z1_mW_12 rfl ⟨Nat.le_of_ble_eq_true rfl, Nat.le_of_ble_eq_true rfl⟩ rfl rfl (Nat.le_of_ble_eq_true rfl) dX12_fails_1 ?_
  show V K 4 [some (.ref 0), some (.int a1), some (.int a2), some (.int a3), some (.int a4), some (.int a5), none, none, none] [] S2
  refine V_aload_n (pc := 4) C dX12_fails_4 rfl rfl ?_
  refine V_iload_n (pc := 5) C dX12_fails_5 rfl rfl ?_
  obtain ⟨r3, er3, h⟩ := b1_some h
  refine V_callV (As := [.int a1]) (pc := 6) C (mX12_isSayer _ er3) zm_X12_isSayer zi_X12_isSayer ml_RX12_315 z1_mW_12 rfl ⟨Nat.le_of_ble_eq_true rfl, Nat.le_of_ble_eq_true rfl⟩ rfl rfl (Nat.le_of_ble_eq_true rfl) dX12_fails_6 ?_
  show V K 9 [some (.ref 0), some (.int a1), some (.int a2), some (.int a3), some (.int a4), some (.int a5), none, none, none] [.int r3] S2
  refine V_if_ne (tgt := 18) (pc := 9) C dX12_fails_9 (by decide) (fun hc => ?_) (fun hc => ?_)
  · have h := it_f hc h
    refine V_iload_n (pc := 18) C dX12_fails_18 rfl rfl ?_
    refine V_iconst (pc := 19) C dX12_fails_19 kc_i_1 ?_
    refine V_bipush (pc := 20) C dX12_fails_20 kc_b_100 ?_
    obtain ⟨r4, er4, h⟩ := b1_some h
    refine V_callS (As := [.int a2, .int (1 : Int32), .int (100 : Int32)]) (pc := 22) C (mX12_within _ er4) zm_X12_within zs_X12_within ml_RX12_203 ⟨Nat.le_of_ble_eq_true rfl, Nat.le_of_ble_eq_true rfl⟩ rfl rfl (Nat.le_of_ble_eq_true rfl) dX12_fails_22 ?_
    show V K 25 [some (.ref 0), some (.int a1), some (.int a2), some (.int a3), some (.int a4), some (.int a5), none, none, none] [.int r4] S2
    refine V_if_eq (tgt := 63) (pc := 25) C dX12_fails_25 (by decide) (fun hc => ?_) (fun hc => ?_)
    · have h := it_t hc h
      refine V_aload_n (pc := 63) C dX12_fails_63 rfl rfl ?_
      refine V_iconst (pc := 64) C dX12_fails_64 kc_i_2 ?_
      obtain ⟨r5, S6, er5, h⟩ := b2_some h
      refine V_callV (As := [.int (2 : Int32)]) (pc := 65) C (mX12_no _ er5) zm_X12_no zi_X12_no ml_RX12_214 z1_mW_12 rfl ⟨Nat.le_of_ble_eq_true rfl, Nat.le_of_ble_eq_true rfl⟩ rfl rfl (Nat.le_of_ble_eq_true rfl) dX12_fails_65 ?_
      show V K 68 [some (.ref 0), some (.int a1), some (.int a2), some (.int a3), some (.int a4), some (.int a5), none, none, none] [.int r5] S6
      cases h
      exact hR 68 _ ⟨_, rfl, rfl⟩ dX12_fails_68
    · have h := it_f hc h
      refine V_iload_n (pc := 28) C dX12_fails_28 rfl rfl ?_
      refine V_iconst (pc := 29) C dX12_fails_29 kc_i_1 ?_
      refine V_sipush (pc := 30) C dX12_fails_30 kc_s_400 ?_
      obtain ⟨r7, er7, h⟩ := b1_some h
      refine V_callS (As := [.int a3, .int (1 : Int32), .int (400 : Int32)]) (pc := 33) C (mX12_within _ er7) zm_X12_within zs_X12_within ml_RX12_203 ⟨Nat.le_of_ble_eq_true rfl, Nat.le_of_ble_eq_true rfl⟩ rfl rfl (Nat.le_of_ble_eq_true rfl) dX12_fails_33 ?_
      show V K 36 [some (.ref 0), some (.int a1), some (.int a2), some (.int a3), some (.int a4), some (.int a5), none, none, none] [.int r7] S2
      refine V_if_eq (tgt := 63) (pc := 36) C dX12_fails_36 (by decide) (fun hc => ?_) (fun hc => ?_)
      · have h := it_t hc h
        refine V_aload_n (pc := 63) C dX12_fails_63 rfl rfl ?_
        refine V_iconst (pc := 64) C dX12_fails_64 kc_i_2 ?_
        obtain ⟨r8, S9, er8, h⟩ := b2_some h
        refine V_callV (As := [.int (2 : Int32)]) (pc := 65) C (mX12_no _ er8) zm_X12_no zi_X12_no ml_RX12_214 z1_mW_12 rfl ⟨Nat.le_of_ble_eq_true rfl, Nat.le_of_ble_eq_true rfl⟩ rfl rfl (Nat.le_of_ble_eq_true rfl) dX12_fails_65 ?_
        show V K 68 [some (.ref 0), some (.int a1), some (.int a2), some (.int a3), some (.int a4), some (.int a5), none, none, none] [.int r8] S9
        cases h
        exact hR 68 _ ⟨_, rfl, rfl⟩ dX12_fails_68
      · have h := it_f hc h
        refine V_iload (pc := 39) C dX12_fails_39 rfl ?_
        refine V_iload_n (pc := 41) C dX12_fails_41 rfl rfl ?_
        refine V_sipush (pc := 42) C dX12_fails_42 kc_s_400 ?_
        obtain ⟨r10, er10, h⟩ := b1_some h
        refine V_callS (As := [.int a4, .int a3, .int (400 : Int32)]) (pc := 45) C (mX12_within _ er10) zm_X12_within zs_X12_within ml_RX12_203 ⟨Nat.le_of_ble_eq_true rfl, Nat.le_of_ble_eq_true rfl⟩ rfl rfl (Nat.le_of_ble_eq_true rfl) dX12_fails_45 ?_
        show V K 48 [some (.ref 0), some (.int a1), some (.int a2), some (.int a3), some (.int a4), some (.int a5), none, none, none] [.int r10] S2
        refine V_if_eq (tgt := 63) (pc := 48) C dX12_fails_48 (by decide) (fun hc => ?_) (fun hc => ?_)
        · have h := it_t hc h
          refine V_aload_n (pc := 63) C dX12_fails_63 rfl rfl ?_
          refine V_iconst (pc := 64) C dX12_fails_64 kc_i_2 ?_
          obtain ⟨r11, S12, er11, h⟩ := b2_some h
          refine V_callV (As := [.int (2 : Int32)]) (pc := 65) C (mX12_no _ er11) zm_X12_no zi_X12_no ml_RX12_214 z1_mW_12 rfl ⟨Nat.le_of_ble_eq_true rfl, Nat.le_of_ble_eq_true rfl⟩ rfl rfl (Nat.le_of_ble_eq_true rfl) dX12_fails_65 ?_
          show V K 68 [some (.ref 0), some (.int a1), some (.int a2), some (.int a3), some (.int a4), some (.int a5), none, none, none] [.int r11] S12
          cases h
          exact hR 68 _ ⟨_, rfl, rfl⟩ dX12_fails_68
        · have h := it_f hc h
          refine V_iload (pc := 51) C dX12_fails_51 rfl ?_
          refine V_iconst (pc := 53) C dX12_fails_53 kc_i_1 ?_
          refine V_sipush (pc := 54) C dX12_fails_54 kc_s_400 ?_
          obtain ⟨r13, er13, h⟩ := b1_some h
          refine V_callS (As := [.int a5, .int (1 : Int32), .int (400 : Int32)]) (pc := 57) C (mX12_within _ er13) zm_X12_within zs_X12_within ml_RX12_203 ⟨Nat.le_of_ble_eq_true rfl, Nat.le_of_ble_eq_true rfl⟩ rfl rfl (Nat.le_of_ble_eq_true rfl) dX12_fails_57 ?_
          show V K 60 [some (.ref 0), some (.int a1), some (.int a2), some (.int a3), some (.int a4), some (.int a5), none, none, none] [.int r13] S2
          refine V_if_ne (tgt := 69) (pc := 60) C dX12_fails_60 (by decide) (fun hc => ?_) (fun hc => ?_)
          · have h := it_f hc h
            refine V_iload_n (pc := 69) C dX12_fails_69 rfl rfl ?_
            refine V_istore (L' := [some (.ref 0), some (.int a1), some (.int a2), some (.int a3), some (.int a4), some (.int a5), some (.int a3), none, none]) (pc := 70) C dX12_fails_70 (by decide) rfl ?_
            exact V_mask [true, true, true, false, true, true, true, false, false] (mX12_fails_L72 C  FU _ _ _ h hR)
          · have h := it_t hc h
            refine V_aload_n (pc := 63) C dX12_fails_63 rfl rfl ?_
            refine V_iconst (pc := 64) C dX12_fails_64 kc_i_2 ?_
            obtain ⟨r18, S19, er18, h⟩ := b2_some h
            refine V_callV (As := [.int (2 : Int32)]) (pc := 65) C (mX12_no _ er18) zm_X12_no zi_X12_no ml_RX12_214 z1_mW_12 rfl ⟨Nat.le_of_ble_eq_true rfl, Nat.le_of_ble_eq_true rfl⟩ rfl rfl (Nat.le_of_ble_eq_true rfl) dX12_fails_65 ?_
            show V K 68 [some (.ref 0), some (.int a1), some (.int a2), some (.int a3), some (.int a4), some (.int a5), none, none, none] [.int r18] S19
            cases h
            exact hR 68 _ ⟨_, rfl, rfl⟩ dX12_fails_68
  · have h := it_t hc h
    refine V_aload_n (pc := 12) C dX12_fails_12 rfl rfl ?_
    refine V_iconst (pc := 13) C dX12_fails_13 kc_i_1 ?_
    obtain ⟨r20, S21, er20, h⟩ := b2_some h
    refine V_callV (As := [.int (1 : Int32)]) (pc := 14) C (mX12_no _ er20) zm_X12_no zi_X12_no ml_RX12_214 z1_mW_12 rfl ⟨Nat.le_of_ble_eq_true rfl, Nat.le_of_ble_eq_true rfl⟩ rfl rfl (Nat.le_of_ble_eq_true rfl) dX12_fails_14 ?_
    show V K 17 [some (.ref 0), some (.int a1), some (.int a2), some (.int a3), some (.int a4), some (.int a5), none, none, none] [.int r20] S21
    cases h
    exact hR 17 _ ⟨_, rfl, rfl⟩ dX12_fails_17
set_option maxRecDepth 100000 in
theorem mX12_steps_L73 {K : zK} (C : zC K cX12_steps yX12_steps.cls 8 6 167 mW) {S : zM} {v1 : Int32} {v2 : Int32} {v4 : Int32}  : ∀ (f : Nat) (v5 : Int32) (v6 : Int32) (v7 : Int32) (r : Int32) (S' : zM), gX12_steps_L73 S v1 v2 v4 f v5 v6 v7 = some (r, S') → zR K cX12_steps (some .int) S' (some (.int r)) → V K 73 [some (.ref 0), some (.int v1), some (.int v2), none, some (.int v4), some (.int v5), some (.int v6), some (.int v7)] [] S := by
  intro f
  induction f with
  | zero => intro v5 v6 v7 r S' h hR; cases h
  | succ n ih =>
    intro v5 v6 v7 r S' h hR
    unfold gX12_steps_L73 at h
    refine V_iload (pc := 73) C dX12_steps_73 rfl ?_
    refine V_if_le (tgt := 111) (pc := 75) C dX12_steps_75 (by decide) (fun hc => ?_) (fun hc => ?_)
    · have h := it_t hc h
      refine V_iload (pc := 111) C dX12_steps_111 rfl ?_
      cases h
      exact hR 113 _ ⟨_, rfl, rfl⟩ dX12_steps_113
    · have h := it_f hc h
      refine V_iload (pc := 78) C dX12_steps_78 rfl ?_
      refine V_iload (pc := 80) C dX12_steps_80 rfl ?_
      refine V_iadd (pc := 82) C dX12_steps_82 ?_
      refine V_iload (pc := 83) C dX12_steps_83 rfl ?_
      refine V_icmp_gt (tgt := 111) (pc := 85) C dX12_steps_85 (by decide) (fun hc => ?_) (fun hc => ?_)
      · have h := it_t hc h
        refine V_iload (pc := 111) C dX12_steps_111 rfl ?_
        cases h
        exact hR 113 _ ⟨_, rfl, rfl⟩ dX12_steps_113
      · have h := it_f hc h
        refine V_iload (pc := 88) C dX12_steps_88 rfl ?_
        refine V_iload (pc := 90) C dX12_steps_90 rfl ?_
        refine V_iadd (pc := 92) C dX12_steps_92 ?_
        refine V_istore (L' := [some (.ref 0), some (.int v1), some (.int v2), none, some (.int v4), some (.int v5), some (.int (v6 + v7)), some (.int v7)]) (pc := 93) C dX12_steps_93 (by decide) rfl ?_
        refine V_iinc (L' := [some (.ref 0), some (.int v1), some (.int v2), none, some (.int v4), some (.int (v5 + (1 : Int32))), some (.int (v6 + v7)), some (.int v7)]) (v := (v5 + (1 : Int32))) (pc := 95) C dX12_steps_95 rfl (congrArg (v5 + ·) kc_i_1) (by decide) rfl ?_
        refine V_aload_n (pc := 98) C dX12_steps_98 rfl rfl ?_
        refine V_iload_n (pc := 99) C dX12_steps_99 rfl rfl ?_
        refine V_iload (pc := 100) C dX12_steps_100 rfl ?_
        refine V_iload_n (pc := 102) C dX12_steps_102 rfl rfl ?_
        obtain ⟨r12, er12, h⟩ := b1_some h
        refine V_callV (As := [.int v1, .int (v6 + v7), .int v2]) (pc := 103) C (mX12_moreOf _ er12) zm_X12_moreOf zi_X12_moreOf ml_RX12_475 z1_mW_12 rfl ⟨Nat.le_of_ble_eq_true rfl, Nat.le_of_ble_eq_true rfl⟩ rfl rfl (Nat.le_of_ble_eq_true rfl) dX12_steps_103 ?_
        show V K 106 [some (.ref 0), some (.int v1), some (.int v2), none, some (.int v4), some (.int (v5 + (1 : Int32))), some (.int (v6 + v7)), some (.int v7)] [.int r12] S
        refine V_istore (L' := [some (.ref 0), some (.int v1), some (.int v2), none, some (.int v4), some (.int (v5 + (1 : Int32))), some (.int (v6 + v7)), some (.int r12)]) (pc := 106) C dX12_steps_106 (by decide) rfl ?_
        refine V_goto (tgt := 73) (pc := 108) C dX12_steps_108 (by decide) ?_
        exact V_mask [true, true, true, false, true, true, true, true] (ih _ _ _ _ _ h hR)
set_option maxRecDepth 100000 in
theorem mX12_steps (l : Launch) {S : zM} {a1 : Int32} {a2 : Int32} {a3 : Int32} {a4 : Int32} {r : Int32} {S' : zM}  (h : gX12_steps S a1 a2 a3 a4 = some (r, S')) : zMet l mW zS0 yX12_steps cX12_steps 8 (some .int) 6 167 [.ref 0, .int a1, .int a2, .int a3, .int a4] S (some (.int r)) S' := by
  refine zmeth (by decide +kernel) (by rfl) (fun K hKl C hR => ?_)
  show V K 0 [some (.ref 0), some (.int a1), some (.int a2), some (.int a3), some (.int a4), none, none, none] [] S
  unfold gX12_steps at h
  refine V_aload_n (pc := 0) C dX12_steps_0 rfl rfl ?_
  obtain ⟨S2, euS2, h⟩ := b1_some h
  refine V_callV (As := []) (pc := 1) C (mX12_good _ euS2) zm_X12_good zi_X12_good ml_RX12_211 z1_mW_12 rfl ⟨Nat.le_of_ble_eq_true rfl, Nat.le_of_ble_eq_true rfl⟩ rfl rfl (Nat.le_of_ble_eq_true rfl) dX12_steps_1 ?_
  show V K 4 [some (.ref 0), some (.int a1), some (.int a2), some (.int a3), some (.int a4), none, none, none] [] S2
  refine V_aload_n (pc := 4) C dX12_steps_4 rfl rfl ?_
  refine V_iload_n (pc := 5) C dX12_steps_5 rfl rfl ?_
  obtain ⟨r3, er3, h⟩ := b1_some h
  refine V_callV (As := [.int a1]) (pc := 6) C (mX12_isSayer _ er3) zm_X12_isSayer zi_X12_isSayer ml_RX12_315 z1_mW_12 rfl ⟨Nat.le_of_ble_eq_true rfl, Nat.le_of_ble_eq_true rfl⟩ rfl rfl (Nat.le_of_ble_eq_true rfl) dX12_steps_6 ?_
  show V K 9 [some (.ref 0), some (.int a1), some (.int a2), some (.int a3), some (.int a4), none, none, none] [.int r3] S2
  refine V_if_ne (tgt := 18) (pc := 9) C dX12_steps_9 (by decide) (fun hc => ?_) (fun hc => ?_)
  · have h := it_f hc h
    refine V_iload_n (pc := 18) C dX12_steps_18 rfl rfl ?_
    refine V_iconst (pc := 19) C dX12_steps_19 kc_i_1 ?_
    refine V_bipush (pc := 20) C dX12_steps_20 kc_b_100 ?_
    obtain ⟨r4, er4, h⟩ := b1_some h
    refine V_callS (As := [.int a2, .int (1 : Int32), .int (100 : Int32)]) (pc := 22) C (mX12_within _ er4) zm_X12_within zs_X12_within ml_RX12_203 ⟨Nat.le_of_ble_eq_true rfl, Nat.le_of_ble_eq_true rfl⟩ rfl rfl (Nat.le_of_ble_eq_true rfl) dX12_steps_22 ?_
    show V K 25 [some (.ref 0), some (.int a1), some (.int a2), some (.int a3), some (.int a4), none, none, none] [.int r4] S2
    refine V_if_eq (tgt := 51) (pc := 25) C dX12_steps_25 (by decide) (fun hc => ?_) (fun hc => ?_)
    · have h := it_t hc h
      refine V_aload_n (pc := 51) C dX12_steps_51 rfl rfl ?_
      refine V_iconst (pc := 52) C dX12_steps_52 kc_i_2 ?_
      obtain ⟨r5, S6, er5, h⟩ := b2_some h
      refine V_callV (As := [.int (2 : Int32)]) (pc := 53) C (mX12_no _ er5) zm_X12_no zi_X12_no ml_RX12_214 z1_mW_12 rfl ⟨Nat.le_of_ble_eq_true rfl, Nat.le_of_ble_eq_true rfl⟩ rfl rfl (Nat.le_of_ble_eq_true rfl) dX12_steps_53 ?_
      show V K 56 [some (.ref 0), some (.int a1), some (.int a2), some (.int a3), some (.int a4), none, none, none] [.int r5] S6
      cases h
      exact hR 56 _ ⟨_, rfl, rfl⟩ dX12_steps_56
    · have h := it_f hc h
      refine V_iload_n (pc := 28) C dX12_steps_28 rfl rfl ?_
      refine V_iconst (pc := 29) C dX12_steps_29 kc_i_1 ?_
      refine V_sipush (pc := 30) C dX12_steps_30 kc_s_400 ?_
      obtain ⟨r7, er7, h⟩ := b1_some h
      refine V_callS (As := [.int a3, .int (1 : Int32), .int (400 : Int32)]) (pc := 33) C (mX12_within _ er7) zm_X12_within zs_X12_within ml_RX12_203 ⟨Nat.le_of_ble_eq_true rfl, Nat.le_of_ble_eq_true rfl⟩ rfl rfl (Nat.le_of_ble_eq_true rfl) dX12_steps_33 ?_
      show V K 36 [some (.ref 0), some (.int a1), some (.int a2), some (.int a3), some (.int a4), none, none, none] [.int r7] S2
      refine V_if_eq (tgt := 51) (pc := 36) C dX12_steps_36 (by decide) (fun hc => ?_) (fun hc => ?_)
      · have h := it_t hc h
        refine V_aload_n (pc := 51) C dX12_steps_51 rfl rfl ?_
        refine V_iconst (pc := 52) C dX12_steps_52 kc_i_2 ?_
        obtain ⟨r8, S9, er8, h⟩ := b2_some h
        refine V_callV (As := [.int (2 : Int32)]) (pc := 53) C (mX12_no _ er8) zm_X12_no zi_X12_no ml_RX12_214 z1_mW_12 rfl ⟨Nat.le_of_ble_eq_true rfl, Nat.le_of_ble_eq_true rfl⟩ rfl rfl (Nat.le_of_ble_eq_true rfl) dX12_steps_53 ?_
        show V K 56 [some (.ref 0), some (.int a1), some (.int a2), some (.int a3), some (.int a4), none, none, none] [.int r8] S9
        cases h
        exact hR 56 _ ⟨_, rfl, rfl⟩ dX12_steps_56
      · have h := it_f hc h
        refine V_iload (pc := 39) C dX12_steps_39 rfl ?_
        refine V_iconst (pc := 41) C dX12_steps_41 kc_i_1 ?_
        refine V_sipush (pc := 42) C dX12_steps_42 kc_s_400 ?_
        obtain ⟨r10, er10, h⟩ := b1_some h
        refine V_callS (As := [.int a4, .int (1 : Int32), .int (400 : Int32)]) (pc := 45) C (mX12_within _ er10) zm_X12_within zs_X12_within ml_RX12_203 ⟨Nat.le_of_ble_eq_true rfl, Nat.le_of_ble_eq_true rfl⟩ rfl rfl (Nat.le_of_ble_eq_true rfl) dX12_steps_45 ?_
        show V K 48 [some (.ref 0), some (.int a1), some (.int a2), some (.int a3), some (.int a4), none, none, none] [.int r10] S2
        refine V_if_ne (tgt := 57) (pc := 48) C dX12_steps_48 (by decide) (fun hc => ?_) (fun hc => ?_)
        · have h := it_f hc h
          refine V_iconst (pc := 57) C dX12_steps_57 kc_i_0 ?_
          refine V_istore (L' := [some (.ref 0), some (.int a1), some (.int a2), some (.int a3), some (.int a4), some (.int (0 : Int32)), none, none]) (pc := 58) C dX12_steps_58 (by decide) rfl ?_
          refine V_iload_n (pc := 60) C dX12_steps_60 rfl rfl ?_
          refine V_istore (L' := [some (.ref 0), some (.int a1), some (.int a2), some (.int a3), some (.int a4), some (.int (0 : Int32)), some (.int a3), none]) (pc := 61) C dX12_steps_61 (by decide) rfl ?_
          refine V_aload_n (pc := 63) C dX12_steps_63 rfl rfl ?_
          refine V_iload_n (pc := 64) C dX12_steps_64 rfl rfl ?_
          refine V_iload (pc := 65) C dX12_steps_65 rfl ?_
          refine V_iload_n (pc := 67) C dX12_steps_67 rfl rfl ?_
          obtain ⟨r11, er11, h⟩ := b1_some h
          refine V_callV (As := [.int a1, .int a3, .int a2]) (pc := 68) C (mX12_moreOf _ er11) zm_X12_moreOf zi_X12_moreOf ml_RX12_475 z1_mW_12 rfl ⟨Nat.le_of_ble_eq_true rfl, Nat.le_of_ble_eq_true rfl⟩ rfl rfl (Nat.le_of_ble_eq_true rfl) dX12_steps_68 ?_
          show V K 71 [some (.ref 0), some (.int a1), some (.int a2), some (.int a3), some (.int a4), some (.int (0 : Int32)), some (.int a3), none] [.int r11] S2
          refine V_istore (L' := [some (.ref 0), some (.int a1), some (.int a2), some (.int a3), some (.int a4), some (.int (0 : Int32)), some (.int a3), some (.int r11)]) (pc := 71) C dX12_steps_71 (by decide) rfl ?_
          exact V_mask [true, true, true, false, true, true, true, true] (mX12_steps_L73 C  FU _ _ _ _ _ h hR)
        · have h := it_t hc h
          refine V_aload_n (pc := 51) C dX12_steps_51 rfl rfl ?_
          refine V_iconst (pc := 52) C dX12_steps_52 kc_i_2 ?_
          obtain ⟨r13, S14, er13, h⟩ := b2_some h
          refine V_callV (As := [.int (2 : Int32)]) (pc := 53) C (mX12_no _ er13) zm_X12_no zi_X12_no ml_RX12_214 z1_mW_12 rfl ⟨Nat.le_of_ble_eq_true rfl, Nat.le_of_ble_eq_true rfl⟩ rfl rfl (Nat.le_of_ble_eq_true rfl) dX12_steps_53 ?_
          show V K 56 [some (.ref 0), some (.int a1), some (.int a2), some (.int a3), some (.int a4), none, none, none] [.int r13] S14
          cases h
          exact hR 56 _ ⟨_, rfl, rfl⟩ dX12_steps_56
  · have h := it_t hc h
    refine V_aload_n (pc := 12) C dX12_steps_12 rfl rfl ?_
    refine V_iconst (pc := 13) C dX12_steps_13 kc_i_1 ?_
    obtain ⟨r15, S16, er15, h⟩ := b2_some h
    refine V_callV (As := [.int (1 : Int32)]) (pc := 14) C (mX12_no _ er15) zm_X12_no zi_X12_no ml_RX12_214 z1_mW_12 rfl ⟨Nat.le_of_ble_eq_true rfl, Nat.le_of_ble_eq_true rfl⟩ rfl rfl (Nat.le_of_ble_eq_true rfl) dX12_steps_14 ?_
    show V K 17 [some (.ref 0), some (.int a1), some (.int a2), some (.int a3), some (.int a4), none, none, none] [.int r15] S16
    cases h
    exact hR 17 _ ⟨_, rfl, rfl⟩ dX12_steps_17
set_option maxRecDepth 100000 in
theorem mX12_felt_L75 {K : zK} (C : zC K cX12_felt yX12_felt.cls 6 5 142 mW) {S : zM} {v1 : Int32} {v2 : Int32} {v3 : Int32} {v4 : Int32}  : ∀ (f : Nat) (v5 : Int32) (r : Int32) (S' : zM), gX12_felt_L75 S v1 v2 v3 v4 f v5 = some (r, S') → zR K cX12_felt (some .int) S' (some (.int r)) → V K 75 [some (.ref 0), some (.int v1), some (.int v2), some (.int v3), some (.int v4), some (.int v5)] [] S := by
  intro f
  induction f with
  | zero => intro v5 r S' h hR; cases h
  | succ n ih =>
    intro v5 r S' h hR
    unfold gX12_felt_L75 at h
    refine V_iload (pc := 75) C dX12_felt_75 rfl ?_
    refine V_sipush (pc := 77) C dX12_felt_77 kc_s_400 ?_
    refine V_icmp_gt (tgt := 114) (pc := 80) C dX12_felt_80 (by decide) (fun hc => ?_) (fun hc => ?_)
    · have h := it_t hc h
      refine V_bipush (pc := 114) C dX12_felt_114 kc_b_m2 ?_
      cases h
      exact hR 116 _ ⟨_, rfl, rfl⟩ dX12_felt_116
    · have h := it_f hc h
      refine V_bipush (pc := 83) C dX12_felt_83 kc_b_100 ?_
      refine V_aload_n (pc := 85) C dX12_felt_85 rfl rfl ?_
      refine V_iload_n (pc := 86) C dX12_felt_86 rfl rfl ?_
      refine V_iconst (pc := 87) C dX12_felt_87 kc_i_1 ?_
      refine V_iload (pc := 88) C dX12_felt_88 rfl ?_
      refine V_iconst (pc := 90) C dX12_felt_90 kc_i_0 ?_
      refine V_iconst (pc := 91) C dX12_felt_91 kc_i_1 ?_
      obtain ⟨r10, er10, h⟩ := b1_some h
      refine V_callV (As := [.int v1, .int (1 : Int32), .int v5, .int (0 : Int32), .int (1 : Int32)]) (pc := 92) C (mX12_freshOdds _ er10) zm_X12_freshOdds zi_X12_freshOdds ml_RX12_472 z1_mW_12 rfl ⟨Nat.le_of_ble_eq_true rfl, Nat.le_of_ble_eq_true rfl⟩ rfl rfl (Nat.le_of_ble_eq_true rfl) dX12_felt_92 ?_
      show V K 95 [some (.ref 0), some (.int v1), some (.int v2), some (.int v3), some (.int v4), some (.int v5)] [.int r10, .int (100 : Int32)] S
      refine V_iload (pc := 95) C dX12_felt_95 rfl ?_
      refine V_isub (pc := 97) C dX12_felt_97 ?_
      refine V_imul (pc := 98) C dX12_felt_98 ?_
      refine V_iload_n (pc := 99) C dX12_felt_99 rfl rfl ?_
      refine V_iload_n (pc := 100) C dX12_felt_100 rfl rfl ?_
      refine V_imul (pc := 101) C dX12_felt_101 ?_
      refine V_icmp_lt (tgt := 108) (pc := 102) C dX12_felt_102 (by decide) (fun hc => ?_) (fun hc => ?_)
      · have h := it_t hc h
        refine V_iinc (L' := [some (.ref 0), some (.int v1), some (.int v2), some (.int v3), some (.int v4), some (.int (v5 + (1 : Int32)))]) (v := (v5 + (1 : Int32))) (pc := 108) C dX12_felt_108 rfl (congrArg (v5 + ·) kc_i_1) (by decide) rfl ?_
        refine V_goto (tgt := 75) (pc := 111) C dX12_felt_111 (by decide) ?_
        exact V_mask [true, true, true, true, true, true] (ih _ _ _ h hR)
      · have h := it_f hc h
        refine V_iload (pc := 105) C dX12_felt_105 rfl ?_
        cases h
        exact hR 107 _ ⟨_, rfl, rfl⟩ dX12_felt_107
set_option maxRecDepth 100000 in
theorem mX12_felt (l : Launch) {S : zM} {a1 : Int32} {a2 : Int32} {r : Int32} {S' : zM}  (h : gX12_felt S a1 a2 = some (r, S')) : zMet l mW zS0 yX12_felt cX12_felt 6 (some .int) 5 142 [.ref 0, .int a1, .int a2] S (some (.int r)) S' := by
  refine zmeth (by decide +kernel) (by rfl) (fun K hKl C hR => ?_)
  show V K 0 [some (.ref 0), some (.int a1), some (.int a2), none, none, none] [] S
  unfold gX12_felt at h
  refine V_aload_n (pc := 0) C dX12_felt_0 rfl rfl ?_
  obtain ⟨S2, euS2, h⟩ := b1_some h
  refine V_callV (As := []) (pc := 1) C (mX12_good _ euS2) zm_X12_good zi_X12_good ml_RX12_211 z1_mW_12 rfl ⟨Nat.le_of_ble_eq_true rfl, Nat.le_of_ble_eq_true rfl⟩ rfl rfl (Nat.le_of_ble_eq_true rfl) dX12_felt_1 ?_
  show V K 4 [some (.ref 0), some (.int a1), some (.int a2), none, none, none] [] S2
  refine V_aload_n (pc := 4) C dX12_felt_4 rfl rfl ?_
  refine V_iload_n (pc := 5) C dX12_felt_5 rfl rfl ?_
  obtain ⟨r3, er3, h⟩ := b1_some h
  refine V_callV (As := [.int a1]) (pc := 6) C (mX12_isSayer _ er3) zm_X12_isSayer zi_X12_isSayer ml_RX12_315 z1_mW_12 rfl ⟨Nat.le_of_ble_eq_true rfl, Nat.le_of_ble_eq_true rfl⟩ rfl rfl (Nat.le_of_ble_eq_true rfl) dX12_felt_6 ?_
  show V K 9 [some (.ref 0), some (.int a1), some (.int a2), none, none, none] [.int r3] S2
  refine V_if_ne (tgt := 18) (pc := 9) C dX12_felt_9 (by decide) (fun hc => ?_) (fun hc => ?_)
  · have h := it_f hc h
    refine V_iload_n (pc := 18) C dX12_felt_18 rfl rfl ?_
    refine V_iconst (pc := 19) C dX12_felt_19 kc_i_1 ?_
    refine V_bipush (pc := 20) C dX12_felt_20 kc_b_100 ?_
    obtain ⟨r4, er4, h⟩ := b1_some h
    refine V_callS (As := [.int a2, .int (1 : Int32), .int (100 : Int32)]) (pc := 22) C (mX12_within _ er4) zm_X12_within zs_X12_within ml_RX12_203 ⟨Nat.le_of_ble_eq_true rfl, Nat.le_of_ble_eq_true rfl⟩ rfl rfl (Nat.le_of_ble_eq_true rfl) dX12_felt_22 ?_
    show V K 25 [some (.ref 0), some (.int a1), some (.int a2), none, none, none] [.int r4] S2
    refine V_if_ne (tgt := 34) (pc := 25) C dX12_felt_25 (by decide) (fun hc => ?_) (fun hc => ?_)
    · have h := it_f hc h
      refine V_aload_n (pc := 34) C dX12_felt_34 rfl rfl ?_
      refine V_aload_n (pc := 35) C dX12_felt_35 rfl rfl ?_
      refine V_getF (p1 := 3) (pc := 36) C z1_mW_12 fl_RX12_20 rfl (zf_mW_12_15 z1_mW_12) dX12_felt_36 ?_
      refine V_bipush (pc := 39) C dX12_felt_39 kc_b_120 ?_
      refine V_iload_n (pc := 41) C dX12_felt_41 rfl rfl ?_
      refine V_iadd (pc := 42) C dX12_felt_42 ?_
      obtain ⟨k5, h⟩ := ck_some h
      refine V_iald (pc := 43) C (za_mW_12_15 z1_mW_12) k5 dX12_felt_43 ?_
      refine V_aload_n (pc := 44) C dX12_felt_44 rfl rfl ?_
      refine V_aload_n (pc := 45) C dX12_felt_45 rfl rfl ?_
      refine V_getF (p1 := 3) (pc := 46) C z1_mW_12 fl_RX12_20 rfl (zf_mW_12_15 z1_mW_12) dX12_felt_46 ?_
      refine V_bipush (pc := 49) C dX12_felt_49 kc_b_120 ?_
      refine V_iload_n (pc := 51) C dX12_felt_51 rfl rfl ?_
      refine V_iadd (pc := 52) C dX12_felt_52 ?_
      obtain ⟨k6, h⟩ := ck_some h
      refine V_iald (pc := 53) C (za_mW_12_15 z1_mW_12) k6 dX12_felt_53 ?_
      obtain ⟨r7, er7, h⟩ := b1_some h
      refine V_callV (As := [.int (gI S2 3 (ix ((120 : Int32) + a1)))]) (pc := 54) C (mX12_fullOf _ er7) zm_X12_fullOf zi_X12_fullOf ml_RX12_443 z1_mW_12 rfl ⟨Nat.le_of_ble_eq_true rfl, Nat.le_of_ble_eq_true rfl⟩ rfl rfl (Nat.le_of_ble_eq_true rfl) dX12_felt_54 ?_
      show V K 57 [some (.ref 0), some (.int a1), some (.int a2), none, none, none] [.int r7, .int (gI S2 3 (ix ((120 : Int32) + a1))), .ref 0] S2
      obtain ⟨r8, er8, h⟩ := b1_some h
      refine V_callV (As := [.int (gI S2 3 (ix ((120 : Int32) + a1))), .int r7]) (pc := 57) C (mX12_all _ er8) zm_X12_all zi_X12_all ml_RX12_324 z1_mW_12 rfl ⟨Nat.le_of_ble_eq_true rfl, Nat.le_of_ble_eq_true rfl⟩ rfl rfl (Nat.le_of_ble_eq_true rfl) dX12_felt_57 ?_
      show V K 60 [some (.ref 0), some (.int a1), some (.int a2), none, none, none] [.int r8] S2
      refine V_istore_n (L' := [some (.ref 0), some (.int a1), some (.int a2), some (.int r8), none, none]) (pc := 60) C dX12_felt_60 rfl (by decide) rfl ?_
      refine V_aload_n (pc := 61) C dX12_felt_61 rfl rfl ?_
      refine V_iload_n (pc := 62) C dX12_felt_62 rfl rfl ?_
      refine V_iconst (pc := 63) C dX12_felt_63 kc_i_1 ?_
      refine V_iconst (pc := 64) C dX12_felt_64 kc_i_0 ?_
      refine V_iconst (pc := 65) C dX12_felt_65 kc_i_0 ?_
      refine V_iconst (pc := 66) C dX12_felt_66 kc_i_1 ?_
      obtain ⟨r9, er9, h⟩ := b1_some h
      refine V_callV (As := [.int a1, .int (1 : Int32), .int (0 : Int32), .int (0 : Int32), .int (1 : Int32)]) (pc := 67) C (mX12_freshOdds _ er9) zm_X12_freshOdds zi_X12_freshOdds ml_RX12_472 z1_mW_12 rfl ⟨Nat.le_of_ble_eq_true rfl, Nat.le_of_ble_eq_true rfl⟩ rfl rfl (Nat.le_of_ble_eq_true rfl) dX12_felt_67 ?_
      show V K 70 [some (.ref 0), some (.int a1), some (.int a2), some (.int r8), none, none] [.int r9] S2
      refine V_istore (L' := [some (.ref 0), some (.int a1), some (.int a2), some (.int r8), some (.int r9), none]) (pc := 70) C dX12_felt_70 (by decide) rfl ?_
      refine V_iconst (pc := 72) C dX12_felt_72 kc_i_1 ?_
      refine V_istore (L' := [some (.ref 0), some (.int a1), some (.int a2), some (.int r8), some (.int r9), some (.int (1 : Int32))]) (pc := 73) C dX12_felt_73 (by decide) rfl ?_
      exact V_mask [true, true, true, true, true, true] (mX12_felt_L75 C  FU _ _ _ h hR)
    · have h := it_t hc h
      refine V_aload_n (pc := 28) C dX12_felt_28 rfl rfl ?_
      refine V_iconst (pc := 29) C dX12_felt_29 kc_i_2 ?_
      obtain ⟨r11, S12, er11, h⟩ := b2_some h
      refine V_callV (As := [.int (2 : Int32)]) (pc := 30) C (mX12_no _ er11) zm_X12_no zi_X12_no ml_RX12_214 z1_mW_12 rfl ⟨Nat.le_of_ble_eq_true rfl, Nat.le_of_ble_eq_true rfl⟩ rfl rfl (Nat.le_of_ble_eq_true rfl) dX12_felt_30 ?_
      show V K 33 [some (.ref 0), some (.int a1), some (.int a2), none, none, none] [.int r11] S12
      cases h
      exact hR 33 _ ⟨_, rfl, rfl⟩ dX12_felt_33
  · have h := it_t hc h
    refine V_aload_n (pc := 12) C dX12_felt_12 rfl rfl ?_
    refine V_iconst (pc := 13) C dX12_felt_13 kc_i_1 ?_
    obtain ⟨r13, S14, er13, h⟩ := b2_some h
    refine V_callV (As := [.int (1 : Int32)]) (pc := 14) C (mX12_no _ er13) zm_X12_no zi_X12_no ml_RX12_214 z1_mW_12 rfl ⟨Nat.le_of_ble_eq_true rfl, Nat.le_of_ble_eq_true rfl⟩ rfl rfl (Nat.le_of_ble_eq_true rfl) dX12_felt_14 ?_
    show V K 17 [some (.ref 0), some (.int a1), some (.int a2), none, none, none] [.int r13] S14
    cases h
    exact hR 17 _ ⟨_, rfl, rfl⟩ dX12_felt_17
set_option maxRecDepth 100000 in
theorem mX12_isPay (l : Launch) {S : zM} {a1 : Int32} {r : Int32}  (h : gX12_isPay S a1 = some r) : zMet l mW zS0 yX12_isPay cX12_isPay 2 (some .boolean) 1 22 [.ref 0, .int a1] S (some (.int r)) S := by
  refine zmeth (by decide +kernel) (by rfl) (fun K hKl C hR => ?_)
  show V K 0 [some (.ref 0), some (.int a1)] [] S
  unfold gX12_isPay at h
  refine V_aload_n (pc := 0) C dX12_isPay_0 rfl rfl ?_
  refine V_getI (pc := 1) C z1_mW_12 fl_RX12_220 (by decide) dX12_isPay_1 ?_
  refine V_if_eq (tgt := 29) (pc := 4) C dX12_isPay_4 (by decide) (fun hc => ?_) (fun hc => ?_)
  · have h := it_t hc h
    refine V_iconst (pc := 29) C dX12_isPay_29 kc_i_0 ?_
    cases h
    exact hR 30 _ ⟨_, rfl, zB0⟩ dX12_isPay_30
  · have h := it_f hc h
    refine V_iload_n (pc := 7) C dX12_isPay_7 rfl rfl ?_
    refine V_iconst (pc := 8) C dX12_isPay_8 kc_i_0 ?_
    refine V_aload_n (pc := 9) C dX12_isPay_9 rfl rfl ?_
    refine V_getF (p1 := 3) (pc := 10) C z1_mW_12 fl_RX12_20 rfl (zf_mW_12_15 z1_mW_12) dX12_isPay_10 ?_
    refine V_sipush (pc := 13) C dX12_isPay_13 kc_s_241 ?_
    obtain ⟨k1, h⟩ := ck_some h
    refine V_iald (pc := 16) C (za_mW_12_15 z1_mW_12) k1 dX12_isPay_16 ?_
    refine V_iconst (pc := 17) C dX12_isPay_17 kc_i_1 ?_
    refine V_isub (pc := 18) C dX12_isPay_18 ?_
    obtain ⟨r2, er2, h⟩ := b1_some h
    refine V_callS (As := [.int a1, .int (0 : Int32), .int ((gI S 3 (ix (241 : Int32))) - (1 : Int32))]) (pc := 19) C (mX12_within _ er2) zm_X12_within zs_X12_within ml_RX12_203 ⟨Nat.le_of_ble_eq_true rfl, Nat.le_of_ble_eq_true rfl⟩ rfl rfl (Nat.le_of_ble_eq_true rfl) dX12_isPay_19 ?_
    show V K 22 [some (.ref 0), some (.int a1)] [.int r2] S
    refine V_if_eq (tgt := 29) (pc := 22) C dX12_isPay_22 (by decide) (fun hc => ?_) (fun hc => ?_)
    · have h := it_t hc h
      refine V_iconst (pc := 29) C dX12_isPay_29 kc_i_0 ?_
      cases h
      exact hR 30 _ ⟨_, rfl, zB0⟩ dX12_isPay_30
    · have h := it_f hc h
      refine V_iconst (pc := 25) C dX12_isPay_25 kc_i_1 ?_
      refine V_goto (tgt := 30) (pc := 26) C dX12_isPay_26 (by decide) ?_
      cases h
      exact hR 30 _ ⟨_, rfl, zB1⟩ dX12_isPay_30
set_option maxRecDepth 100000 in
theorem mX12_above_L18 {K : zK} (C : zC K cX12_above yX12_above.cls 7 1 24 mW) {S : zM} {v2 : Int32} {v3 : Int32} {v4 : Int32}  : ∀ (f : Nat) (v5 : Int32) (v6 : Int32) (r : Int32), gX12_above_L18 S v2 v3 v4 f v5 v6 = some r → zR K cX12_above (some .int) S (some (.int r)) → V K 18 [some (.ref 0), none, some (.int v2), some (.int v3), some (.int v4), some (.int v5), some (.int v6)] [] S := by
  intro f
  induction f with
  | zero => intro v5 v6 r h hR; cases h
  | succ n ih =>
    intro v5 v6 r h hR
    unfold gX12_above_L18 at h
    refine V_iload (pc := 18) C dX12_above_18 rfl ?_
    refine V_iconst (pc := 20) C dX12_above_20 kc_i_5 ?_
    refine V_icmp_gt (tgt := 67) (pc := 21) C dX12_above_21 (by decide) (fun hc => ?_) (fun hc => ?_)
    · have h := it_t hc h
      refine V_iload (pc := 67) C dX12_above_67 rfl ?_
      cases h
      exact hR 69 _ ⟨_, rfl, rfl⟩ dX12_above_69
    · have h := it_f hc h
      refine V_iload (pc := 24) C dX12_above_24 rfl ?_
      refine V_aload_n (pc := 26) C dX12_above_26 rfl rfl ?_
      refine V_iload (pc := 27) C dX12_above_27 rfl ?_
      refine V_iload_n (pc := 29) C dX12_above_29 rfl rfl ?_
      obtain ⟨r3, er3, h⟩ := b1_some h
      refine V_callV (As := [.int v4, .int v2]) (pc := 30) C (mX12_levelOf _ er3) zm_X12_levelOf zi_X12_levelOf ml_RX12_330 z1_mW_12 rfl ⟨Nat.le_of_ble_eq_true rfl, Nat.le_of_ble_eq_true rfl⟩ rfl rfl (Nat.le_of_ble_eq_true rfl) dX12_above_30 ?_
      show V K 33 [some (.ref 0), none, some (.int v2), some (.int v3), some (.int v4), some (.int v5), some (.int v6)] [.int r3, .int v5] S
      refine V_iload (pc := 33) C dX12_above_33 rfl ?_
      refine V_iadd (pc := 35) C dX12_above_35 ?_
      refine V_iload_n (pc := 36) C dX12_above_36 rfl rfl ?_
      refine V_icmp_le (tgt := 57) (pc := 37) C dX12_above_37 (by decide) (fun hc => ?_) (fun hc => ?_)
      · have h := it_t hc h
        refine V_iconst (pc := 57) C dX12_above_57 kc_i_0 ?_
        refine V_iadd (pc := 58) C dX12_above_58 ?_
        refine V_istore (L' := [some (.ref 0), none, some (.int v2), some (.int v3), some (.int v4), some (.int (v5 + (0 : Int32))), some (.int v6)]) (pc := 59) C dX12_above_59 (by decide) rfl ?_
        refine V_iinc (L' := [some (.ref 0), none, some (.int v2), some (.int v3), some (.int v4), some (.int (v5 + (0 : Int32))), some (.int (v6 + (1 : Int32)))]) (v := (v6 + (1 : Int32))) (pc := 61) C dX12_above_61 rfl (congrArg (v6 + ·) kc_i_1) (by decide) rfl ?_
        refine V_goto (tgt := 18) (pc := 64) C dX12_above_64 (by decide) ?_
        exact V_mask [true, false, true, true, true, true, true] (ih _ _ _ h hR)
      · have h := it_f hc h
        refine V_aload_n (pc := 40) C dX12_above_40 rfl rfl ?_
        refine V_iload (pc := 41) C dX12_above_41 rfl ?_
        refine V_iload (pc := 43) C dX12_above_43 rfl ?_
        refine V_aload_n (pc := 45) C dX12_above_45 rfl rfl ?_
        refine V_iload (pc := 46) C dX12_above_46 rfl ?_
        obtain ⟨r4, er4, h⟩ := b1_some h
        refine V_callV (As := [.int v4]) (pc := 48) C (mX12_fullOf _ er4) zm_X12_fullOf zi_X12_fullOf ml_RX12_443 z1_mW_12 rfl ⟨Nat.le_of_ble_eq_true rfl, Nat.le_of_ble_eq_true rfl⟩ rfl rfl (Nat.le_of_ble_eq_true rfl) dX12_above_48 ?_
        show V K 51 [some (.ref 0), none, some (.int v2), some (.int v3), some (.int v4), some (.int v5), some (.int v6)] [.int r4, .int v6, .int v4, .ref 0, .int v5] S
        obtain ⟨r5, er5, h⟩ := b1_some h
        refine V_callV (As := [.int v4, .int v6, .int r4]) (pc := 51) C (mX12_often _ er5) zm_X12_often zi_X12_often ml_RX12_309 z1_mW_12 rfl ⟨Nat.le_of_ble_eq_true rfl, Nat.le_of_ble_eq_true rfl⟩ rfl rfl (Nat.le_of_ble_eq_true rfl) dX12_above_51 ?_
        show V K 54 [some (.ref 0), none, some (.int v2), some (.int v3), some (.int v4), some (.int v5), some (.int v6)] [.int r5, .int v5] S
        refine V_goto (tgt := 58) (pc := 54) C dX12_above_54 (by decide) ?_
        refine V_iadd (pc := 58) C dX12_above_58 ?_
        refine V_istore (L' := [some (.ref 0), none, some (.int v2), some (.int v3), some (.int v4), some (.int (v5 + r5)), some (.int v6)]) (pc := 59) C dX12_above_59 (by decide) rfl ?_
        refine V_iinc (L' := [some (.ref 0), none, some (.int v2), some (.int v3), some (.int v4), some (.int (v5 + r5)), some (.int (v6 + (1 : Int32)))]) (v := (v6 + (1 : Int32))) (pc := 61) C dX12_above_61 rfl (congrArg (v6 + ·) kc_i_1) (by decide) rfl ?_
        refine V_goto (tgt := 18) (pc := 64) C dX12_above_64 (by decide) ?_
        exact V_mask [true, false, true, true, true, true, true] (ih _ _ _ h hR)
set_option maxRecDepth 100000 in
theorem mX12_above (l : Launch) {S : zM} {a1 : Int32} {a2 : Int32} {a3 : Int32} {r : Int32}  (h : gX12_above S a1 a2 a3 = some r) : zMet l mW zS0 yX12_above cX12_above 7 (some .int) 1 24 [.ref 0, .int a1, .int a2, .int a3] S (some (.int r)) S := by
  refine zmeth (by decide +kernel) (by rfl) (fun K hKl C hR => ?_)
  show V K 0 [some (.ref 0), some (.int a1), some (.int a2), some (.int a3), none, none, none] [] S
  unfold gX12_above at h
  refine V_aload_n (pc := 0) C dX12_above_0 rfl rfl ?_
  refine V_getF (p1 := 3) (pc := 1) C z1_mW_12 fl_RX12_20 rfl (zf_mW_12_15 z1_mW_12) dX12_above_1 ?_
  refine V_bipush (pc := 4) C dX12_above_4 kc_b_120 ?_
  refine V_iload_n (pc := 6) C dX12_above_6 rfl rfl ?_
  refine V_iadd (pc := 7) C dX12_above_7 ?_
  obtain ⟨k1, h⟩ := ck_some h
  refine V_iald (pc := 8) C (za_mW_12_15 z1_mW_12) k1 dX12_above_8 ?_
  obtain ⟨x2, ex2, h⟩ := lt_some h
  refine V_nmI ex2 ?_
  refine V_istore (L' := [some (.ref 0), some (.int a1), some (.int a2), some (.int a3), some (.int x2), none, none]) (pc := 9) C dX12_above_9 (by decide) rfl ?_
  refine V_iconst (pc := 11) C dX12_above_11 kc_i_0 ?_
  refine V_istore (L' := [some (.ref 0), some (.int a1), some (.int a2), some (.int a3), some (.int x2), some (.int (0 : Int32)), none]) (pc := 12) C dX12_above_12 (by decide) rfl ?_
  refine V_bipush (pc := 14) C dX12_above_14 kc_b_m5 ?_
  refine V_istore (L' := [some (.ref 0), some (.int a1), some (.int a2), some (.int a3), some (.int x2), some (.int (0 : Int32)), some (.int (-5 : Int32))]) (pc := 16) C dX12_above_16 (by decide) rfl ?_
  exact V_mask [true, false, true, true, true, true, true] (mX12_above_L18 C  FU _ _ _ h hR)
set_option maxRecDepth 100000 in
theorem mX12_gainOf (l : Launch) {S : zM} {a1 : Int32} {a2 : Int32} {a3 : Int32} {a4 : Int32} {r : Int64}  (h : gX12_gainOf S a1 a2 a3 a4 = some r) : zMet l mW zS0 yX12_gainOf cX12_gainOf 12 (some .long) 2 50 [.ref 0, .int a1, .int a2, .int a3, .int a4] S (some (.long r)) S := by
  refine zmeth (by decide +kernel) (by rfl) (fun K hKl C hR => ?_)
  show V K 0 [some (.ref 0), some (.int a1), some (.int a2), some (.int a3), some (.int a4), none, none, none, none, none, none, none] [] S
  unfold gX12_gainOf at h
  refine V_aload_n (pc := 0) C dX12_gainOf_0 rfl rfl ?_
  refine V_aload_n (pc := 1) C dX12_gainOf_1 rfl rfl ?_
  refine V_getF (p1 := 3) (pc := 2) C z1_mW_12 fl_RX12_20 rfl (zf_mW_12_15 z1_mW_12) dX12_gainOf_2 ?_
  refine V_bipush (pc := 5) C dX12_gainOf_5 kc_b_120 ?_
  refine V_iload_n (pc := 7) C dX12_gainOf_7 rfl rfl ?_
  refine V_iadd (pc := 8) C dX12_gainOf_8 ?_
  obtain ⟨k1, h⟩ := ck_some h
  refine V_iald (pc := 9) C (za_mW_12_15 z1_mW_12) k1 dX12_gainOf_9 ?_
  refine V_aload_n (pc := 10) C dX12_gainOf_10 rfl rfl ?_
  refine V_aload_n (pc := 11) C dX12_gainOf_11 rfl rfl ?_
  refine V_getF (p1 := 3) (pc := 12) C z1_mW_12 fl_RX12_20 rfl (zf_mW_12_15 z1_mW_12) dX12_gainOf_12 ?_
  refine V_bipush (pc := 15) C dX12_gainOf_15 kc_b_120 ?_
  refine V_iload_n (pc := 17) C dX12_gainOf_17 rfl rfl ?_
  refine V_iadd (pc := 18) C dX12_gainOf_18 ?_
  obtain ⟨k2, h⟩ := ck_some h
  refine V_iald (pc := 19) C (za_mW_12_15 z1_mW_12) k2 dX12_gainOf_19 ?_
  obtain ⟨r3, er3, h⟩ := b1_some h
  refine V_callV (As := [.int (gI S 3 (ix ((120 : Int32) + a2)))]) (pc := 20) C (mX12_fullOf _ er3) zm_X12_fullOf zi_X12_fullOf ml_RX12_443 z1_mW_12 rfl ⟨Nat.le_of_ble_eq_true rfl, Nat.le_of_ble_eq_true rfl⟩ rfl rfl (Nat.le_of_ble_eq_true rfl) dX12_gainOf_20 ?_
  show V K 23 [some (.ref 0), some (.int a1), some (.int a2), some (.int a3), some (.int a4), none, none, none, none, none, none, none] [.int r3, .int (gI S 3 (ix ((120 : Int32) + a2))), .ref 0] S
  obtain ⟨r4, er4, h⟩ := b1_some h
  refine V_callV (As := [.int (gI S 3 (ix ((120 : Int32) + a2))), .int r3]) (pc := 23) C (mX12_all _ er4) zm_X12_all zi_X12_all ml_RX12_324 z1_mW_12 rfl ⟨Nat.le_of_ble_eq_true rfl, Nat.le_of_ble_eq_true rfl⟩ rfl rfl (Nat.le_of_ble_eq_true rfl) dX12_gainOf_23 ?_
  show V K 26 [some (.ref 0), some (.int a1), some (.int a2), some (.int a3), some (.int a4), none, none, none, none, none, none, none] [.int r4] S
  refine V_istore (L' := [some (.ref 0), some (.int a1), some (.int a2), some (.int a3), some (.int a4), some (.int r4), none, none, none, none, none, none]) (pc := 26) C dX12_gainOf_26 (by decide) rfl ?_
  refine V_aload_n (pc := 28) C dX12_gainOf_28 rfl rfl ?_
  refine V_getF (p1 := 3) (pc := 29) C z1_mW_12 fl_RX12_20 rfl (zf_mW_12_15 z1_mW_12) dX12_gainOf_29 ?_
  refine V_sipush (pc := 32) C dX12_gainOf_32 kc_s_234 ?_
  refine V_iload_n (pc := 35) C dX12_gainOf_35 rfl rfl ?_
  refine V_iadd (pc := 36) C dX12_gainOf_36 ?_
  obtain ⟨k5, h⟩ := ck_some h
  refine V_iald (pc := 37) C (za_mW_12_15 z1_mW_12) k5 dX12_gainOf_37 ?_
  refine V_i2l (pc := 38) C dX12_gainOf_38 ?_
  obtain ⟨x6, ex6, h⟩ := lt_some h
  refine V_nmJ ex6 ?_
  refine V_lstore (L' := [some (.ref 0), some (.int a1), some (.int a2), some (.int a3), some (.int a4), some (.int r4), some (.long x6), none, none, none, none, none]) (pc := 39) C dX12_gainOf_39 (by decide) rfl ?_
  refine V_aload_n (pc := 41) C dX12_gainOf_41 rfl rfl ?_
  refine V_iload_n (pc := 42) C dX12_gainOf_42 rfl rfl ?_
  refine V_iload_n (pc := 43) C dX12_gainOf_43 rfl rfl ?_
  refine V_iload (pc := 44) C dX12_gainOf_44 rfl ?_
  obtain ⟨r7, er7, h⟩ := b1_some h
  refine V_callV (As := [.int a2, .int a3, .int a4]) (pc := 46) C (mX12_above _ er7) zm_X12_above zi_X12_above ml_RX12_478 z1_mW_12 rfl ⟨Nat.le_of_ble_eq_true rfl, Nat.le_of_ble_eq_true rfl⟩ rfl rfl (Nat.le_of_ble_eq_true rfl) dX12_gainOf_46 ?_
  show V K 49 [some (.ref 0), some (.int a1), some (.int a2), some (.int a3), some (.int a4), some (.int r4), some (.long x6), none, none, none, none, none] [.int r7] S
  refine V_i2l (pc := 49) C dX12_gainOf_49 ?_
  refine V_lstore (L' := [some (.ref 0), some (.int a1), some (.int a2), some (.int a3), some (.int a4), some (.int r4), some (.long x6), none, some (.long r7.toInt64), none, none, none]) (pc := 50) C dX12_gainOf_50 (by decide) rfl ?_
  refine V_aload_n (pc := 52) C dX12_gainOf_52 rfl rfl ?_
  refine V_iload_n (pc := 53) C dX12_gainOf_53 rfl rfl ?_
  refine V_iconst (pc := 54) C dX12_gainOf_54 kc_i_0 ?_
  refine V_iload (pc := 55) C dX12_gainOf_55 rfl ?_
  obtain ⟨r8, er8, h⟩ := b1_some h
  refine V_callV (As := [.int a2, .int (0 : Int32), .int a4]) (pc := 57) C (mX12_above _ er8) zm_X12_above zi_X12_above ml_RX12_478 z1_mW_12 rfl ⟨Nat.le_of_ble_eq_true rfl, Nat.le_of_ble_eq_true rfl⟩ rfl rfl (Nat.le_of_ble_eq_true rfl) dX12_gainOf_57 ?_
  show V K 60 [some (.ref 0), some (.int a1), some (.int a2), some (.int a3), some (.int a4), some (.int r4), some (.long x6), none, some (.long r7.toInt64), none, none, none] [.int r8] S
  refine V_i2l (pc := 60) C dX12_gainOf_60 ?_
  refine V_lstore (L' := [some (.ref 0), some (.int a1), some (.int a2), some (.int a3), some (.int a4), some (.int r4), some (.long x6), none, some (.long r7.toInt64), none, some (.long r8.toInt64), none]) (pc := 61) C dX12_gainOf_61 (by decide) rfl ?_
  refine V_lload (pc := 63) C dX12_gainOf_63 rfl ?_
  refine V_lload (pc := 65) C dX12_gainOf_65 rfl ?_
  refine V_aload_n (pc := 67) C dX12_gainOf_67 rfl rfl ?_
  refine V_getF (p1 := 3) (pc := 68) C z1_mW_12 fl_RX12_20 rfl (zf_mW_12_15 z1_mW_12) dX12_gainOf_68 ?_
  refine V_sipush (pc := 71) C dX12_gainOf_71 kc_s_218 ?_
  refine V_iload_n (pc := 74) C dX12_gainOf_74 rfl rfl ?_
  refine V_iadd (pc := 75) C dX12_gainOf_75 ?_
  obtain ⟨k9, h⟩ := ck_some h
  refine V_iald (pc := 76) C (za_mW_12_15 z1_mW_12) k9 dX12_gainOf_76 ?_
  refine V_i2l (pc := 77) C dX12_gainOf_77 ?_
  refine V_lmul (pc := 78) C dX12_gainOf_78 ?_
  refine V_iload (pc := 79) C dX12_gainOf_79 rfl ?_
  refine V_i2l (pc := 81) C dX12_gainOf_81 ?_
  refine V_lload (pc := 82) C dX12_gainOf_82 rfl ?_
  refine V_lsub (pc := 84) C dX12_gainOf_84 ?_
  refine V_aload_n (pc := 85) C dX12_gainOf_85 rfl rfl ?_
  refine V_getF (p1 := 3) (pc := 86) C z1_mW_12 fl_RX12_20 rfl (zf_mW_12_15 z1_mW_12) dX12_gainOf_86 ?_
  refine V_sipush (pc := 89) C dX12_gainOf_89 kc_s_222 ?_
  refine V_iload_n (pc := 92) C dX12_gainOf_92 rfl rfl ?_
  refine V_iadd (pc := 93) C dX12_gainOf_93 ?_
  obtain ⟨k10, h⟩ := ck_some h
  refine V_iald (pc := 94) C (za_mW_12_15 z1_mW_12) k10 dX12_gainOf_94 ?_
  refine V_i2l (pc := 95) C dX12_gainOf_95 ?_
  refine V_lmul (pc := 96) C dX12_gainOf_96 ?_
  refine V_ladd (pc := 97) C dX12_gainOf_97 ?_
  refine V_lmul (pc := 98) C dX12_gainOf_98 ?_
  refine V_ldc2 (pc := 99) C dX12_gainOf_99 kl_RX12_481 ?_
  refine V_lload (pc := 102) C dX12_gainOf_102 rfl ?_
  refine V_lsub (pc := 104) C dX12_gainOf_104 ?_
  refine V_lload (pc := 105) C dX12_gainOf_105 rfl ?_
  refine V_aload_n (pc := 107) C dX12_gainOf_107 rfl rfl ?_
  refine V_getF (p1 := 3) (pc := 108) C z1_mW_12 fl_RX12_20 rfl (zf_mW_12_15 z1_mW_12) dX12_gainOf_108 ?_
  refine V_sipush (pc := 111) C dX12_gainOf_111 kc_s_226 ?_
  refine V_iload_n (pc := 114) C dX12_gainOf_114 rfl rfl ?_
  refine V_iadd (pc := 115) C dX12_gainOf_115 ?_
  obtain ⟨k11, h⟩ := ck_some h
  refine V_iald (pc := 116) C (za_mW_12_15 z1_mW_12) k11 dX12_gainOf_116 ?_
  refine V_i2l (pc := 117) C dX12_gainOf_117 ?_
  refine V_lmul (pc := 118) C dX12_gainOf_118 ?_
  refine V_iload (pc := 119) C dX12_gainOf_119 rfl ?_
  refine V_i2l (pc := 121) C dX12_gainOf_121 ?_
  refine V_lload (pc := 122) C dX12_gainOf_122 rfl ?_
  refine V_lsub (pc := 124) C dX12_gainOf_124 ?_
  refine V_aload_n (pc := 125) C dX12_gainOf_125 rfl rfl ?_
  refine V_getF (p1 := 3) (pc := 126) C z1_mW_12 fl_RX12_20 rfl (zf_mW_12_15 z1_mW_12) dX12_gainOf_126 ?_
  refine V_sipush (pc := 129) C dX12_gainOf_129 kc_s_230 ?_
  refine V_iload_n (pc := 132) C dX12_gainOf_132 rfl rfl ?_
  refine V_iadd (pc := 133) C dX12_gainOf_133 ?_
  obtain ⟨k12, h⟩ := ck_some h
  refine V_iald (pc := 134) C (za_mW_12_15 z1_mW_12) k12 dX12_gainOf_134 ?_
  refine V_i2l (pc := 135) C dX12_gainOf_135 ?_
  refine V_lmul (pc := 136) C dX12_gainOf_136 ?_
  refine V_ladd (pc := 137) C dX12_gainOf_137 ?_
  refine V_lmul (pc := 138) C dX12_gainOf_138 ?_
  refine V_ladd (pc := 139) C dX12_gainOf_139 ?_
  cases h
  exact hR 140 _ rfl dX12_gainOf_140
set_option maxRecDepth 100000 in
theorem mX12_gain (l : Launch) {S : zM} {a1 : Int32} {a2 : Int32} {a3 : Int32} {a4 : Int32} {r : Int64} {S' : zM}  (h : gX12_gain S a1 a2 a3 a4 = some (r, S')) : zMet l mW zS0 yX12_gain cX12_gain 5 (some .long) 3 81 [.ref 0, .int a1, .int a2, .int a3, .int a4] S (some (.long r)) S' := by
  refine zmeth (by decide +kernel) (by rfl) (fun K hKl C hR => ?_)
  show V K 0 [some (.ref 0), some (.int a1), some (.int a2), some (.int a3), some (.int a4)] [] S
  unfold gX12_gain at h
  refine V_aload_n (pc := 0) C dX12_gain_0 rfl rfl ?_
  obtain ⟨S2, euS2, h⟩ := b1_some h
  refine V_callV (As := []) (pc := 1) C (mX12_good _ euS2) zm_X12_good zi_X12_good ml_RX12_211 z1_mW_12 rfl ⟨Nat.le_of_ble_eq_true rfl, Nat.le_of_ble_eq_true rfl⟩ rfl rfl (Nat.le_of_ble_eq_true rfl) dX12_gain_1 ?_
  show V K 4 [some (.ref 0), some (.int a1), some (.int a2), some (.int a3), some (.int a4)] [] S2
  refine V_aload_n (pc := 4) C dX12_gain_4 rfl rfl ?_
  refine V_iload_n (pc := 5) C dX12_gain_5 rfl rfl ?_
  obtain ⟨r3, er3, h⟩ := b1_some h
  refine V_callV (As := [.int a1]) (pc := 6) C (mX12_isPay _ er3) zm_X12_isPay zi_X12_isPay ml_RX12_483 z1_mW_12 rfl ⟨Nat.le_of_ble_eq_true rfl, Nat.le_of_ble_eq_true rfl⟩ rfl rfl (Nat.le_of_ble_eq_true rfl) dX12_gain_6 ?_
  show V K 9 [some (.ref 0), some (.int a1), some (.int a2), some (.int a3), some (.int a4)] [.int r3] S2
  refine V_if_eq (tgt := 20) (pc := 9) C dX12_gain_9 (by decide) (fun hc => ?_) (fun hc => ?_)
  · have h := it_t hc h
    refine V_aload_n (pc := 20) C dX12_gain_20 rfl rfl ?_
    refine V_iconst (pc := 21) C dX12_gain_21 kc_i_1 ?_
    obtain ⟨r4, S5, er4, h⟩ := b2_some h
    refine V_callV (As := [.int (1 : Int32)]) (pc := 22) C (mX12_none _ er4) zm_X12_none zi_X12_none ml_RX12_486 z1_mW_12 rfl ⟨Nat.le_of_ble_eq_true rfl, Nat.le_of_ble_eq_true rfl⟩ rfl rfl (Nat.le_of_ble_eq_true rfl) dX12_gain_22 ?_
    show V K 25 [some (.ref 0), some (.int a1), some (.int a2), some (.int a3), some (.int a4)] [.long r4] S5
    cases h
    exact hR 25 _ rfl dX12_gain_25
  · have h := it_f hc h
    refine V_aload_n (pc := 12) C dX12_gain_12 rfl rfl ?_
    refine V_iload_n (pc := 13) C dX12_gain_13 rfl rfl ?_
    obtain ⟨r6, er6, h⟩ := b1_some h
    refine V_callV (As := [.int a2]) (pc := 14) C (mX12_isSayer _ er6) zm_X12_isSayer zi_X12_isSayer ml_RX12_315 z1_mW_12 rfl ⟨Nat.le_of_ble_eq_true rfl, Nat.le_of_ble_eq_true rfl⟩ rfl rfl (Nat.le_of_ble_eq_true rfl) dX12_gain_14 ?_
    show V K 17 [some (.ref 0), some (.int a1), some (.int a2), some (.int a3), some (.int a4)] [.int r6] S2
    refine V_if_ne (tgt := 26) (pc := 17) C dX12_gain_17 (by decide) (fun hc => ?_) (fun hc => ?_)
    · have h := it_f hc h
      refine V_iload_n (pc := 26) C dX12_gain_26 rfl rfl ?_
      refine V_iconst (pc := 27) C dX12_gain_27 kc_i_1 ?_
      refine V_sipush (pc := 28) C dX12_gain_28 kc_s_400 ?_
      obtain ⟨r7, er7, h⟩ := b1_some h
      refine V_callS (As := [.int a3, .int (1 : Int32), .int (400 : Int32)]) (pc := 31) C (mX12_within _ er7) zm_X12_within zs_X12_within ml_RX12_203 ⟨Nat.le_of_ble_eq_true rfl, Nat.le_of_ble_eq_true rfl⟩ rfl rfl (Nat.le_of_ble_eq_true rfl) dX12_gain_31 ?_
      show V K 34 [some (.ref 0), some (.int a1), some (.int a2), some (.int a3), some (.int a4)] [.int r7] S2
      refine V_if_eq (tgt := 61) (pc := 34) C dX12_gain_34 (by decide) (fun hc => ?_) (fun hc => ?_)
      · have h := it_t hc h
        refine V_aload_n (pc := 61) C dX12_gain_61 rfl rfl ?_
        refine V_iconst (pc := 62) C dX12_gain_62 kc_i_2 ?_
        obtain ⟨r8, S9, er8, h⟩ := b2_some h
        refine V_callV (As := [.int (2 : Int32)]) (pc := 63) C (mX12_none _ er8) zm_X12_none zi_X12_none ml_RX12_486 z1_mW_12 rfl ⟨Nat.le_of_ble_eq_true rfl, Nat.le_of_ble_eq_true rfl⟩ rfl rfl (Nat.le_of_ble_eq_true rfl) dX12_gain_63 ?_
        show V K 66 [some (.ref 0), some (.int a1), some (.int a2), some (.int a3), some (.int a4)] [.long r8] S9
        cases h
        exact hR 66 _ rfl dX12_gain_66
      · have h := it_f hc h
        refine V_iload (pc := 37) C dX12_gain_37 rfl ?_
        refine V_bipush (pc := 39) C dX12_gain_39 kc_b_m50 ?_
        refine V_bipush (pc := 41) C dX12_gain_41 kc_b_50 ?_
        obtain ⟨r10, er10, h⟩ := b1_some h
        refine V_callS (As := [.int a4, .int (-50 : Int32), .int (50 : Int32)]) (pc := 43) C (mX12_within _ er10) zm_X12_within zs_X12_within ml_RX12_203 ⟨Nat.le_of_ble_eq_true rfl, Nat.le_of_ble_eq_true rfl⟩ rfl rfl (Nat.le_of_ble_eq_true rfl) dX12_gain_43 ?_
        show V K 46 [some (.ref 0), some (.int a1), some (.int a2), some (.int a3), some (.int a4)] [.int r10] S2
        refine V_if_eq (tgt := 61) (pc := 46) C dX12_gain_46 (by decide) (fun hc => ?_) (fun hc => ?_)
        · have h := it_t hc h
          refine V_aload_n (pc := 61) C dX12_gain_61 rfl rfl ?_
          refine V_iconst (pc := 62) C dX12_gain_62 kc_i_2 ?_
          obtain ⟨r11, S12, er11, h⟩ := b2_some h
          refine V_callV (As := [.int (2 : Int32)]) (pc := 63) C (mX12_none _ er11) zm_X12_none zi_X12_none ml_RX12_486 z1_mW_12 rfl ⟨Nat.le_of_ble_eq_true rfl, Nat.le_of_ble_eq_true rfl⟩ rfl rfl (Nat.le_of_ble_eq_true rfl) dX12_gain_63 ?_
          show V K 66 [some (.ref 0), some (.int a1), some (.int a2), some (.int a3), some (.int a4)] [.long r11] S12
          cases h
          exact hR 66 _ rfl dX12_gain_66
        · have h := it_f hc h
          refine V_aload_n (pc := 49) C dX12_gain_49 rfl rfl ?_
          refine V_iload_n (pc := 50) C dX12_gain_50 rfl rfl ?_
          refine V_iload_n (pc := 51) C dX12_gain_51 rfl rfl ?_
          refine V_iload_n (pc := 52) C dX12_gain_52 rfl rfl ?_
          refine V_iload (pc := 53) C dX12_gain_53 rfl ?_
          obtain ⟨r13, er13, h⟩ := b1_some h
          refine V_callV (As := [.int a1, .int a2, .int a3, .int a4]) (pc := 55) C (mX12_gainOf _ er13) zm_X12_gainOf zi_X12_gainOf ml_RX12_490 z1_mW_12 rfl ⟨Nat.le_of_ble_eq_true rfl, Nat.le_of_ble_eq_true rfl⟩ rfl rfl (Nat.le_of_ble_eq_true rfl) dX12_gain_55 ?_
          show V K 58 [some (.ref 0), some (.int a1), some (.int a2), some (.int a3), some (.int a4)] [.long r13] S2
          refine V_goto (tgt := 66) (pc := 58) C dX12_gain_58 (by decide) ?_
          cases h
          exact hR 66 _ rfl dX12_gain_66
    · have h := it_t hc h
      refine V_aload_n (pc := 20) C dX12_gain_20 rfl rfl ?_
      refine V_iconst (pc := 21) C dX12_gain_21 kc_i_1 ?_
      obtain ⟨r14, S15, er14, h⟩ := b2_some h
      refine V_callV (As := [.int (1 : Int32)]) (pc := 22) C (mX12_none _ er14) zm_X12_none zi_X12_none ml_RX12_486 z1_mW_12 rfl ⟨Nat.le_of_ble_eq_true rfl, Nat.le_of_ble_eq_true rfl⟩ rfl rfl (Nat.le_of_ble_eq_true rfl) dX12_gain_22 ?_
      show V K 25 [some (.ref 0), some (.int a1), some (.int a2), some (.int a3), some (.int a4)] [.long r14] S15
      cases h
      exact hR 25 _ rfl dX12_gain_25
set_option maxRecDepth 100000 in
theorem mX12_bestLine_L8 {K : zK} (C : zC K cX12_bestLine yX12_bestLine.cls 6 3 81 mW) {S : zM} {v1 : Int32} {v2 : Int32} {v3 : Int32}  : ∀ (f : Nat) (v4 : Int32) (v5 : Int32) (r : Int32), gX12_bestLine_L8 S v1 v2 v3 f v4 v5 = some r → zR K cX12_bestLine (some .int) S (some (.int r)) → V K 8 [some (.ref 0), some (.int v1), some (.int v2), some (.int v3), some (.int v4), some (.int v5)] [] S := by
  intro f
  induction f with
  | zero => intro v4 v5 r h hR; cases h
  | succ n ih =>
    intro v4 v5 r h hR
    unfold gX12_bestLine_L8 at h
    refine V_iload (pc := 8) C dX12_bestLine_8 rfl ?_
    refine V_bipush (pc := 10) C dX12_bestLine_10 kc_b_50 ?_
    refine V_icmp_gt (tgt := 52) (pc := 12) C dX12_bestLine_12 (by decide) (fun hc => ?_) (fun hc => ?_)
    · have h := it_t hc h
      refine V_iload (pc := 52) C dX12_bestLine_52 rfl ?_
      cases h
      exact hR 54 _ ⟨_, rfl, rfl⟩ dX12_bestLine_54
    · have h := it_f hc h
      refine V_aload_n (pc := 15) C dX12_bestLine_15 rfl rfl ?_
      refine V_iload_n (pc := 16) C dX12_bestLine_16 rfl rfl ?_
      refine V_iload_n (pc := 17) C dX12_bestLine_17 rfl rfl ?_
      refine V_iload_n (pc := 18) C dX12_bestLine_18 rfl rfl ?_
      refine V_iload (pc := 19) C dX12_bestLine_19 rfl ?_
      obtain ⟨r1, er1, h⟩ := b1_some h
      refine V_callV (As := [.int v1, .int v2, .int v3, .int v5]) (pc := 21) C (mX12_gainOf _ er1) zm_X12_gainOf zi_X12_gainOf ml_RX12_490 z1_mW_12 rfl ⟨Nat.le_of_ble_eq_true rfl, Nat.le_of_ble_eq_true rfl⟩ rfl rfl (Nat.le_of_ble_eq_true rfl) dX12_bestLine_21 ?_
      show V K 24 [some (.ref 0), some (.int v1), some (.int v2), some (.int v3), some (.int v4), some (.int v5)] [.long r1] S
      refine V_aload_n (pc := 24) C dX12_bestLine_24 rfl rfl ?_
      refine V_iload_n (pc := 25) C dX12_bestLine_25 rfl rfl ?_
      refine V_iload_n (pc := 26) C dX12_bestLine_26 rfl rfl ?_
      refine V_iload_n (pc := 27) C dX12_bestLine_27 rfl rfl ?_
      refine V_iload (pc := 28) C dX12_bestLine_28 rfl ?_
      obtain ⟨r2, er2, h⟩ := b1_some h
      refine V_callV (As := [.int v1, .int v2, .int v3, .int v4]) (pc := 30) C (mX12_gainOf _ er2) zm_X12_gainOf zi_X12_gainOf ml_RX12_490 z1_mW_12 rfl ⟨Nat.le_of_ble_eq_true rfl, Nat.le_of_ble_eq_true rfl⟩ rfl rfl (Nat.le_of_ble_eq_true rfl) dX12_bestLine_30 ?_
      show V K 33 [some (.ref 0), some (.int v1), some (.int v2), some (.int v3), some (.int v4), some (.int v5)] [.long r2, .long r1] S
      refine V_lcmp_le (tgt := 42) (pc := 33) C dX12_bestLine_33 dX12_bestLine_34 (by decide) (fun hc => ?_) (fun hc => ?_)
      · have h := it_t hc h
        refine V_iload (pc := 42) C dX12_bestLine_42 rfl ?_
        refine V_istore (L' := [some (.ref 0), some (.int v1), some (.int v2), some (.int v3), some (.int v4), some (.int v5)]) (pc := 44) C dX12_bestLine_44 (by decide) rfl ?_
        refine V_iinc (L' := [some (.ref 0), some (.int v1), some (.int v2), some (.int v3), some (.int v4), some (.int (v5 + (1 : Int32)))]) (v := (v5 + (1 : Int32))) (pc := 46) C dX12_bestLine_46 rfl (congrArg (v5 + ·) kc_i_1) (by decide) rfl ?_
        refine V_goto (tgt := 8) (pc := 49) C dX12_bestLine_49 (by decide) ?_
        exact V_mask [true, true, true, true, true, true] (ih _ _ _ h hR)
      · have h := it_f hc h
        refine V_iload (pc := 37) C dX12_bestLine_37 rfl ?_
        refine V_goto (tgt := 44) (pc := 39) C dX12_bestLine_39 (by decide) ?_
        refine V_istore (L' := [some (.ref 0), some (.int v1), some (.int v2), some (.int v3), some (.int v5), some (.int v5)]) (pc := 44) C dX12_bestLine_44 (by decide) rfl ?_
        refine V_iinc (L' := [some (.ref 0), some (.int v1), some (.int v2), some (.int v3), some (.int v5), some (.int (v5 + (1 : Int32)))]) (v := (v5 + (1 : Int32))) (pc := 46) C dX12_bestLine_46 rfl (congrArg (v5 + ·) kc_i_1) (by decide) rfl ?_
        refine V_goto (tgt := 8) (pc := 49) C dX12_bestLine_49 (by decide) ?_
        exact V_mask [true, true, true, true, true, true] (ih _ _ _ h hR)
set_option maxRecDepth 100000 in
theorem mX12_bestLine (l : Launch) {S : zM} {a1 : Int32} {a2 : Int32} {a3 : Int32} {r : Int32}  (h : gX12_bestLine S a1 a2 a3 = some r) : zMet l mW zS0 yX12_bestLine cX12_bestLine 6 (some .int) 3 81 [.ref 0, .int a1, .int a2, .int a3] S (some (.int r)) S := by
  refine zmeth (by decide +kernel) (by rfl) (fun K hKl C hR => ?_)
  show V K 0 [some (.ref 0), some (.int a1), some (.int a2), some (.int a3), none, none] [] S
  unfold gX12_bestLine at h
  refine V_bipush (pc := 0) C dX12_bestLine_0 kc_b_m50 ?_
  refine V_istore (L' := [some (.ref 0), some (.int a1), some (.int a2), some (.int a3), some (.int (-50 : Int32)), none]) (pc := 2) C dX12_bestLine_2 (by decide) rfl ?_
  refine V_bipush (pc := 4) C dX12_bestLine_4 kc_b_m49 ?_
  refine V_istore (L' := [some (.ref 0), some (.int a1), some (.int a2), some (.int a3), some (.int (-50 : Int32)), some (.int (-49 : Int32))]) (pc := 6) C dX12_bestLine_6 (by decide) rfl ?_
  exact V_mask [true, true, true, true, true, true] (mX12_bestLine_L8 C  FU _ _ _ h hR)
set_option maxRecDepth 100000 in
theorem mX12_best (l : Launch) {S : zM} {a1 : Int32} {a2 : Int32} {a3 : Int32} {r : Int32} {S' : zM}  (h : gX12_best S a1 a2 a3 = some (r, S')) : zMet l mW zS0 yX12_best cX12_best 4 (some .int) 4 106 [.ref 0, .int a1, .int a2, .int a3] S (some (.int r)) S' := by
  refine zmeth (by decide +kernel) (by rfl) (fun K hKl C hR => ?_)
  show V K 0 [some (.ref 0), some (.int a1), some (.int a2), some (.int a3)] [] S
  unfold gX12_best at h
  refine V_aload_n (pc := 0) C dX12_best_0 rfl rfl ?_
  obtain ⟨S2, euS2, h⟩ := b1_some h
  refine V_callV (As := []) (pc := 1) C (mX12_good _ euS2) zm_X12_good zi_X12_good ml_RX12_211 z1_mW_12 rfl ⟨Nat.le_of_ble_eq_true rfl, Nat.le_of_ble_eq_true rfl⟩ rfl rfl (Nat.le_of_ble_eq_true rfl) dX12_best_1 ?_
  show V K 4 [some (.ref 0), some (.int a1), some (.int a2), some (.int a3)] [] S2
  refine V_aload_n (pc := 4) C dX12_best_4 rfl rfl ?_
  refine V_iload_n (pc := 5) C dX12_best_5 rfl rfl ?_
  obtain ⟨r3, er3, h⟩ := b1_some h
  refine V_callV (As := [.int a1]) (pc := 6) C (mX12_isPay _ er3) zm_X12_isPay zi_X12_isPay ml_RX12_483 z1_mW_12 rfl ⟨Nat.le_of_ble_eq_true rfl, Nat.le_of_ble_eq_true rfl⟩ rfl rfl (Nat.le_of_ble_eq_true rfl) dX12_best_6 ?_
  show V K 9 [some (.ref 0), some (.int a1), some (.int a2), some (.int a3)] [.int r3] S2
  refine V_if_eq (tgt := 20) (pc := 9) C dX12_best_9 (by decide) (fun hc => ?_) (fun hc => ?_)
  · have h := it_t hc h
    refine V_aload_n (pc := 20) C dX12_best_20 rfl rfl ?_
    refine V_iconst (pc := 21) C dX12_best_21 kc_i_1 ?_
    obtain ⟨r4, S5, er4, h⟩ := b2_some h
    refine V_callV (As := [.int (1 : Int32)]) (pc := 22) C (mX12_not _ er4) zm_X12_not zi_X12_not ml_RX12_469 z1_mW_12 rfl ⟨Nat.le_of_ble_eq_true rfl, Nat.le_of_ble_eq_true rfl⟩ rfl rfl (Nat.le_of_ble_eq_true rfl) dX12_best_22 ?_
    show V K 25 [some (.ref 0), some (.int a1), some (.int a2), some (.int a3)] [.int r4] S5
    cases h
    exact hR 25 _ ⟨_, rfl, rfl⟩ dX12_best_25
  · have h := it_f hc h
    refine V_aload_n (pc := 12) C dX12_best_12 rfl rfl ?_
    refine V_iload_n (pc := 13) C dX12_best_13 rfl rfl ?_
    obtain ⟨r6, er6, h⟩ := b1_some h
    refine V_callV (As := [.int a2]) (pc := 14) C (mX12_isSayer _ er6) zm_X12_isSayer zi_X12_isSayer ml_RX12_315 z1_mW_12 rfl ⟨Nat.le_of_ble_eq_true rfl, Nat.le_of_ble_eq_true rfl⟩ rfl rfl (Nat.le_of_ble_eq_true rfl) dX12_best_14 ?_
    show V K 17 [some (.ref 0), some (.int a1), some (.int a2), some (.int a3)] [.int r6] S2
    refine V_if_ne (tgt := 26) (pc := 17) C dX12_best_17 (by decide) (fun hc => ?_) (fun hc => ?_)
    · have h := it_f hc h
      refine V_iload_n (pc := 26) C dX12_best_26 rfl rfl ?_
      refine V_iconst (pc := 27) C dX12_best_27 kc_i_1 ?_
      refine V_sipush (pc := 28) C dX12_best_28 kc_s_400 ?_
      obtain ⟨r7, er7, h⟩ := b1_some h
      refine V_callS (As := [.int a3, .int (1 : Int32), .int (400 : Int32)]) (pc := 31) C (mX12_within _ er7) zm_X12_within zs_X12_within ml_RX12_203 ⟨Nat.le_of_ble_eq_true rfl, Nat.le_of_ble_eq_true rfl⟩ rfl rfl (Nat.le_of_ble_eq_true rfl) dX12_best_31 ?_
      show V K 34 [some (.ref 0), some (.int a1), some (.int a2), some (.int a3)] [.int r7] S2
      refine V_if_eq (tgt := 47) (pc := 34) C dX12_best_34 (by decide) (fun hc => ?_) (fun hc => ?_)
      · have h := it_t hc h
        refine V_aload_n (pc := 47) C dX12_best_47 rfl rfl ?_
        refine V_iconst (pc := 48) C dX12_best_48 kc_i_2 ?_
        obtain ⟨r8, S9, er8, h⟩ := b2_some h
        refine V_callV (As := [.int (2 : Int32)]) (pc := 49) C (mX12_not _ er8) zm_X12_not zi_X12_not ml_RX12_469 z1_mW_12 rfl ⟨Nat.le_of_ble_eq_true rfl, Nat.le_of_ble_eq_true rfl⟩ rfl rfl (Nat.le_of_ble_eq_true rfl) dX12_best_49 ?_
        show V K 52 [some (.ref 0), some (.int a1), some (.int a2), some (.int a3)] [.int r8] S9
        cases h
        exact hR 52 _ ⟨_, rfl, rfl⟩ dX12_best_52
      · have h := it_f hc h
        refine V_aload_n (pc := 37) C dX12_best_37 rfl rfl ?_
        refine V_iload_n (pc := 38) C dX12_best_38 rfl rfl ?_
        refine V_iload_n (pc := 39) C dX12_best_39 rfl rfl ?_
        refine V_iload_n (pc := 40) C dX12_best_40 rfl rfl ?_
        obtain ⟨r10, er10, h⟩ := b1_some h
        refine V_callV (As := [.int a1, .int a2, .int a3]) (pc := 41) C (mX12_bestLine _ er10) zm_X12_bestLine zi_X12_bestLine ml_RX12_494 z1_mW_12 rfl ⟨Nat.le_of_ble_eq_true rfl, Nat.le_of_ble_eq_true rfl⟩ rfl rfl (Nat.le_of_ble_eq_true rfl) dX12_best_41 ?_
        show V K 44 [some (.ref 0), some (.int a1), some (.int a2), some (.int a3)] [.int r10] S2
        refine V_goto (tgt := 52) (pc := 44) C dX12_best_44 (by decide) ?_
        cases h
        exact hR 52 _ ⟨_, rfl, rfl⟩ dX12_best_52
    · have h := it_t hc h
      refine V_aload_n (pc := 20) C dX12_best_20 rfl rfl ?_
      refine V_iconst (pc := 21) C dX12_best_21 kc_i_1 ?_
      obtain ⟨r11, S12, er11, h⟩ := b2_some h
      refine V_callV (As := [.int (1 : Int32)]) (pc := 22) C (mX12_not _ er11) zm_X12_not zi_X12_not ml_RX12_469 z1_mW_12 rfl ⟨Nat.le_of_ble_eq_true rfl, Nat.le_of_ble_eq_true rfl⟩ rfl rfl (Nat.le_of_ble_eq_true rfl) dX12_best_22 ?_
      show V K 25 [some (.ref 0), some (.int a1), some (.int a2), some (.int a3)] [.int r11] S12
      cases h
      exact hR 25 _ ⟨_, rfl, rfl⟩ dX12_best_25
set_option maxRecDepth 100000 in
theorem mX12_moves (l : Launch) {S : zM} {a1 : Int32} {a2 : Int32} {a3 : Int32} {r : Int32} {S' : zM}  (h : gX12_moves S a1 a2 a3 = some (r, S')) : zMet l mW zS0 yX12_moves cX12_moves 5 (some .int) 4 106 [.ref 0, .int a1, .int a2, .int a3] S (some (.int r)) S' := by
  refine zmeth (by decide +kernel) (by rfl) (fun K hKl C hR => ?_)
  show V K 0 [some (.ref 0), some (.int a1), some (.int a2), some (.int a3), none] [] S
  unfold gX12_moves at h
  refine V_aload_n (pc := 0) C dX12_moves_0 rfl rfl ?_
  obtain ⟨S2, euS2, h⟩ := b1_some h
  refine V_callV (As := []) (pc := 1) C (mX12_good _ euS2) zm_X12_good zi_X12_good ml_RX12_211 z1_mW_12 rfl ⟨Nat.le_of_ble_eq_true rfl, Nat.le_of_ble_eq_true rfl⟩ rfl rfl (Nat.le_of_ble_eq_true rfl) dX12_moves_1 ?_
  show V K 4 [some (.ref 0), some (.int a1), some (.int a2), some (.int a3), none] [] S2
  refine V_aload_n (pc := 4) C dX12_moves_4 rfl rfl ?_
  refine V_iload_n (pc := 5) C dX12_moves_5 rfl rfl ?_
  obtain ⟨r3, er3, h⟩ := b1_some h
  refine V_callV (As := [.int a1]) (pc := 6) C (mX12_isPay _ er3) zm_X12_isPay zi_X12_isPay ml_RX12_483 z1_mW_12 rfl ⟨Nat.le_of_ble_eq_true rfl, Nat.le_of_ble_eq_true rfl⟩ rfl rfl (Nat.le_of_ble_eq_true rfl) dX12_moves_6 ?_
  show V K 9 [some (.ref 0), some (.int a1), some (.int a2), some (.int a3), none] [.int r3] S2
  refine V_if_eq (tgt := 20) (pc := 9) C dX12_moves_9 (by decide) (fun hc => ?_) (fun hc => ?_)
  · have h := it_t hc h
    refine V_aload_n (pc := 20) C dX12_moves_20 rfl rfl ?_
    refine V_iconst (pc := 21) C dX12_moves_21 kc_i_1 ?_
    obtain ⟨r4, S5, er4, h⟩ := b2_some h
    refine V_callV (As := [.int (1 : Int32)]) (pc := 22) C (mX12_not _ er4) zm_X12_not zi_X12_not ml_RX12_469 z1_mW_12 rfl ⟨Nat.le_of_ble_eq_true rfl, Nat.le_of_ble_eq_true rfl⟩ rfl rfl (Nat.le_of_ble_eq_true rfl) dX12_moves_22 ?_
    show V K 25 [some (.ref 0), some (.int a1), some (.int a2), some (.int a3), none] [.int r4] S5
    cases h
    exact hR 25 _ ⟨_, rfl, rfl⟩ dX12_moves_25
  · have h := it_f hc h
    refine V_aload_n (pc := 12) C dX12_moves_12 rfl rfl ?_
    refine V_iload_n (pc := 13) C dX12_moves_13 rfl rfl ?_
    obtain ⟨r6, er6, h⟩ := b1_some h
    refine V_callV (As := [.int a2]) (pc := 14) C (mX12_isSayer _ er6) zm_X12_isSayer zi_X12_isSayer ml_RX12_315 z1_mW_12 rfl ⟨Nat.le_of_ble_eq_true rfl, Nat.le_of_ble_eq_true rfl⟩ rfl rfl (Nat.le_of_ble_eq_true rfl) dX12_moves_14 ?_
    show V K 17 [some (.ref 0), some (.int a1), some (.int a2), some (.int a3), none] [.int r6] S2
    refine V_if_ne (tgt := 26) (pc := 17) C dX12_moves_17 (by decide) (fun hc => ?_) (fun hc => ?_)
    · have h := it_f hc h
      refine V_iload_n (pc := 26) C dX12_moves_26 rfl rfl ?_
      refine V_iconst (pc := 27) C dX12_moves_27 kc_i_1 ?_
      refine V_sipush (pc := 28) C dX12_moves_28 kc_s_400 ?_
      obtain ⟨r7, er7, h⟩ := b1_some h
      refine V_callS (As := [.int a3, .int (1 : Int32), .int (400 : Int32)]) (pc := 31) C (mX12_within _ er7) zm_X12_within zs_X12_within ml_RX12_203 ⟨Nat.le_of_ble_eq_true rfl, Nat.le_of_ble_eq_true rfl⟩ rfl rfl (Nat.le_of_ble_eq_true rfl) dX12_moves_31 ?_
      show V K 34 [some (.ref 0), some (.int a1), some (.int a2), some (.int a3), none] [.int r7] S2
      refine V_if_ne (tgt := 43) (pc := 34) C dX12_moves_34 (by decide) (fun hc => ?_) (fun hc => ?_)
      · have h := it_f hc h
        refine V_aload_n (pc := 43) C dX12_moves_43 rfl rfl ?_
        refine V_getF (p1 := 3) (pc := 44) C z1_mW_12 fl_RX12_20 rfl (zf_mW_12_15 z1_mW_12) dX12_moves_44 ?_
        refine V_bipush (pc := 47) C dX12_moves_47 kc_b_126 ?_
        refine V_iload_n (pc := 49) C dX12_moves_49 rfl rfl ?_
        refine V_iadd (pc := 50) C dX12_moves_50 ?_
        obtain ⟨k8, h⟩ := ck_some h
        refine V_iald (pc := 51) C (za_mW_12_15 z1_mW_12) k8 dX12_moves_51 ?_
        obtain ⟨x9, ex9, h⟩ := lt_some h
        refine V_nmI ex9 ?_
        refine V_istore (L' := [some (.ref 0), some (.int a1), some (.int a2), some (.int a3), some (.int x9)]) (pc := 52) C dX12_moves_52 (by decide) rfl ?_
        refine V_aload_n (pc := 54) C dX12_moves_54 rfl rfl ?_
        refine V_getF (p1 := 3) (pc := 55) C z1_mW_12 fl_RX12_20 rfl (zf_mW_12_15 z1_mW_12) dX12_moves_55 ?_
        refine V_bipush (pc := 58) C dX12_moves_58 kc_b_126 ?_
        refine V_iload_n (pc := 60) C dX12_moves_60 rfl rfl ?_
        refine V_iadd (pc := 61) C dX12_moves_61 ?_
        refine V_aload_n (pc := 62) C dX12_moves_62 rfl rfl ?_
        refine V_iload_n (pc := 63) C dX12_moves_63 rfl rfl ?_
        refine V_iload_n (pc := 64) C dX12_moves_64 rfl rfl ?_
        refine V_iload_n (pc := 65) C dX12_moves_65 rfl rfl ?_
        obtain ⟨r10, er10, h⟩ := b1_some h
        refine V_callV (As := [.int a1, .int a2, .int a3]) (pc := 66) C (mX12_bestLine _ er10) zm_X12_bestLine zi_X12_bestLine ml_RX12_494 z1_mW_12 rfl ⟨Nat.le_of_ble_eq_true rfl, Nat.le_of_ble_eq_true rfl⟩ rfl rfl (Nat.le_of_ble_eq_true rfl) dX12_moves_66 ?_
        show V K 69 [some (.ref 0), some (.int a1), some (.int a2), some (.int a3), some (.int x9)] [.int r10, .int ((126 : Int32) + a2), .ref 3] S2
        obtain ⟨k11, h⟩ := ck_some h
        refine V_iast (pc := 69) C (za_mW_12_15 z1_mW_12) k11 dX12_moves_69 ?_
        refine V_aload_n (pc := 70) C dX12_moves_70 rfl rfl ?_
        refine V_getF (p1 := 3) (pc := 71) C z1_mW_12 fl_RX12_20 rfl (zf_mW_12_15 z1_mW_12) dX12_moves_71 ?_
        refine V_bipush (pc := 74) C dX12_moves_74 kc_b_126 ?_
        refine V_iload_n (pc := 76) C dX12_moves_76 rfl rfl ?_
        refine V_iadd (pc := 77) C dX12_moves_77 ?_
        obtain ⟨k12, h⟩ := ck_some h
        refine V_iald (pc := 78) C (za_mW_12_15 z1_mW_12) k12 dX12_moves_78 ?_
        refine V_iload (pc := 79) C dX12_moves_79 rfl ?_
        refine V_isub (pc := 81) C dX12_moves_81 ?_
        cases h
        exact hR 82 _ ⟨_, rfl, rfl⟩ dX12_moves_82
      · have h := it_t hc h
        refine V_aload_n (pc := 37) C dX12_moves_37 rfl rfl ?_
        refine V_iconst (pc := 38) C dX12_moves_38 kc_i_2 ?_
        obtain ⟨r13, S14, er13, h⟩ := b2_some h
        refine V_callV (As := [.int (2 : Int32)]) (pc := 39) C (mX12_not _ er13) zm_X12_not zi_X12_not ml_RX12_469 z1_mW_12 rfl ⟨Nat.le_of_ble_eq_true rfl, Nat.le_of_ble_eq_true rfl⟩ rfl rfl (Nat.le_of_ble_eq_true rfl) dX12_moves_39 ?_
        show V K 42 [some (.ref 0), some (.int a1), some (.int a2), some (.int a3), none] [.int r13] S14
        cases h
        exact hR 42 _ ⟨_, rfl, rfl⟩ dX12_moves_42
    · have h := it_t hc h
      refine V_aload_n (pc := 20) C dX12_moves_20 rfl rfl ?_
      refine V_iconst (pc := 21) C dX12_moves_21 kc_i_1 ?_
      obtain ⟨r15, S16, er15, h⟩ := b2_some h
      refine V_callV (As := [.int (1 : Int32)]) (pc := 22) C (mX12_not _ er15) zm_X12_not zi_X12_not ml_RX12_469 z1_mW_12 rfl ⟨Nat.le_of_ble_eq_true rfl, Nat.le_of_ble_eq_true rfl⟩ rfl rfl (Nat.le_of_ble_eq_true rfl) dX12_moves_22 ?_
      show V K 25 [some (.ref 0), some (.int a1), some (.int a2), some (.int a3), none] [.int r15] S16
      cases h
      exact hR 25 _ ⟨_, rfl, rfl⟩ dX12_moves_25
set_option maxRecDepth 100000 in
theorem mX12_arePairsUnlike (l : Launch) {S : zM} {a1 : Int32} {a2 : Int32} {a3 : Int32} {a4 : Int32} {r : Int32} {S' : zM}  (h : gX12_arePairsUnlike S a1 a2 a3 a4 = some (r, S')) : zMet l mW zS0 yX12_arePairsUnlike cX12_arePairsUnlike 10 (some .boolean) 2 51 [.ref 0, .int a1, .int a2, .int a3, .int a4] S (some (.int r)) S' := by
  refine zmeth (by decide +kernel) (by rfl) (fun K hKl C hR => ?_)
  show V K 0 [some (.ref 0), some (.int a1), some (.int a2), some (.int a3), some (.int a4), none, none, none, none, none] [] S
  unfold gX12_arePairsUnlike at h
  refine V_aload_n (pc := 0) C dX12_arePairsUnlike_0 rfl rfl ?_
  refine V_iload_n (pc := 1) C dX12_arePairsUnlike_1 rfl rfl ?_
  refine V_aload_n (pc := 2) C dX12_arePairsUnlike_2 rfl rfl ?_
  refine V_iload_n (pc := 3) C dX12_arePairsUnlike_3 rfl rfl ?_
  obtain ⟨r1, er1, h⟩ := b1_some h
  refine V_callV (As := [.int a1]) (pc := 4) C (mX12_fullOf _ er1) zm_X12_fullOf zi_X12_fullOf ml_RX12_443 z1_mW_12 rfl ⟨Nat.le_of_ble_eq_true rfl, Nat.le_of_ble_eq_true rfl⟩ rfl rfl (Nat.le_of_ble_eq_true rfl) dX12_arePairsUnlike_4 ?_
  show V K 7 [some (.ref 0), some (.int a1), some (.int a2), some (.int a3), some (.int a4), none, none, none, none, none] [.int r1, .int a1, .ref 0] S
  obtain ⟨r2, er2, h⟩ := b1_some h
  refine V_callV (As := [.int a1, .int r1]) (pc := 7) C (mX12_all _ er2) zm_X12_all zi_X12_all ml_RX12_324 z1_mW_12 rfl ⟨Nat.le_of_ble_eq_true rfl, Nat.le_of_ble_eq_true rfl⟩ rfl rfl (Nat.le_of_ble_eq_true rfl) dX12_arePairsUnlike_7 ?_
  show V K 10 [some (.ref 0), some (.int a1), some (.int a2), some (.int a3), some (.int a4), none, none, none, none, none] [.int r2] S
  refine V_istore (L' := [some (.ref 0), some (.int a1), some (.int a2), some (.int a3), some (.int a4), some (.int r2), none, none, none, none]) (pc := 10) C dX12_arePairsUnlike_10 (by decide) rfl ?_
  refine V_aload_n (pc := 12) C dX12_arePairsUnlike_12 rfl rfl ?_
  refine V_iload_n (pc := 13) C dX12_arePairsUnlike_13 rfl rfl ?_
  refine V_aload_n (pc := 14) C dX12_arePairsUnlike_14 rfl rfl ?_
  refine V_iload_n (pc := 15) C dX12_arePairsUnlike_15 rfl rfl ?_
  obtain ⟨r3, er3, h⟩ := b1_some h
  refine V_callV (As := [.int a2]) (pc := 16) C (mX12_fullOf _ er3) zm_X12_fullOf zi_X12_fullOf ml_RX12_443 z1_mW_12 rfl ⟨Nat.le_of_ble_eq_true rfl, Nat.le_of_ble_eq_true rfl⟩ rfl rfl (Nat.le_of_ble_eq_true rfl) dX12_arePairsUnlike_16 ?_
  show V K 19 [some (.ref 0), some (.int a1), some (.int a2), some (.int a3), some (.int a4), some (.int r2), none, none, none, none] [.int r3, .int a2, .ref 0] S
  obtain ⟨r4, er4, h⟩ := b1_some h
  refine V_callV (As := [.int a2, .int r3]) (pc := 19) C (mX12_all _ er4) zm_X12_all zi_X12_all ml_RX12_324 z1_mW_12 rfl ⟨Nat.le_of_ble_eq_true rfl, Nat.le_of_ble_eq_true rfl⟩ rfl rfl (Nat.le_of_ble_eq_true rfl) dX12_arePairsUnlike_19 ?_
  show V K 22 [some (.ref 0), some (.int a1), some (.int a2), some (.int a3), some (.int a4), some (.int r2), none, none, none, none] [.int r4] S
  refine V_istore (L' := [some (.ref 0), some (.int a1), some (.int a2), some (.int a3), some (.int a4), some (.int r2), some (.int r4), none, none, none]) (pc := 22) C dX12_arePairsUnlike_22 (by decide) rfl ?_
  refine V_iconst (pc := 24) C dX12_arePairsUnlike_24 kc_i_0 ?_
  refine V_istore (L' := [some (.ref 0), some (.int a1), some (.int a2), some (.int a3), some (.int a4), some (.int r2), some (.int r4), some (.int (0 : Int32)), none, none]) (pc := 25) C dX12_arePairsUnlike_25 (by decide) rfl ?_
  refine V_aload_n (pc := 27) C dX12_arePairsUnlike_27 rfl rfl ?_
  refine V_iload_n (pc := 28) C dX12_arePairsUnlike_28 rfl rfl ?_
  refine V_iload_n (pc := 29) C dX12_arePairsUnlike_29 rfl rfl ?_
  refine V_iload (pc := 30) C dX12_arePairsUnlike_30 rfl ?_
  refine V_iconst (pc := 32) C dX12_arePairsUnlike_32 kc_i_0 ?_
  obtain ⟨S6, euS6, h⟩ := b1_some h
  refine V_callV (As := [.int a1, .int a3, .int a4, .int (0 : Int32)]) (pc := 33) C (mX12_pairs _ euS6) zm_X12_pairs zi_X12_pairs ml_RX12_446 z1_mW_12 rfl ⟨Nat.le_of_ble_eq_true rfl, Nat.le_of_ble_eq_true rfl⟩ rfl rfl (Nat.le_of_ble_eq_true rfl) dX12_arePairsUnlike_33 ?_
  show V K 36 [some (.ref 0), some (.int a1), some (.int a2), some (.int a3), some (.int a4), some (.int r2), some (.int r4), some (.int (0 : Int32)), none, none] [] S6
  refine V_aload_n (pc := 36) C dX12_arePairsUnlike_36 rfl rfl ?_
  refine V_getF (p1 := 25) (pc := 37) C z1_mW_12 fl_RX12_86 rfl (zf_mW_12_40 z1_mW_12) dX12_arePairsUnlike_37 ?_
  refine V_iconst (pc := 40) C dX12_arePairsUnlike_40 kc_i_0 ?_
  obtain ⟨k7, h⟩ := ck_some h
  refine V_iald (pc := 41) C (za_mW_12_40 z1_mW_12) k7 dX12_arePairsUnlike_41 ?_
  refine V_istore (L' := [some (.ref 0), some (.int a1), some (.int a2), some (.int a3), some (.int a4), some (.int r2), some (.int r4), some (.int (0 : Int32)), some (.int (gI S6 25 (ix (0 : Int32)))), none]) (pc := 42) C dX12_arePairsUnlike_42 (by decide) rfl ?_
  refine V_aload_n (pc := 44) C dX12_arePairsUnlike_44 rfl rfl ?_
  refine V_getF (p1 := 25) (pc := 45) C z1_mW_12 fl_RX12_86 rfl (zf_mW_12_40 z1_mW_12) dX12_arePairsUnlike_45 ?_
  refine V_iconst (pc := 48) C dX12_arePairsUnlike_48 kc_i_1 ?_
  obtain ⟨k8, h⟩ := ck_some h
  refine V_iald (pc := 49) C (za_mW_12_40 z1_mW_12) k8 dX12_arePairsUnlike_49 ?_
  refine V_istore (L' := [some (.ref 0), some (.int a1), some (.int a2), some (.int a3), some (.int a4), some (.int r2), some (.int r4), some (.int (0 : Int32)), some (.int (gI S6 25 (ix (0 : Int32)))), some (.int (gI S6 25 (ix (1 : Int32))))]) (pc := 50) C dX12_arePairsUnlike_50 (by decide) rfl ?_
  refine V_aload_n (pc := 52) C dX12_arePairsUnlike_52 rfl rfl ?_
  refine V_iload_n (pc := 53) C dX12_arePairsUnlike_53 rfl rfl ?_
  refine V_iload_n (pc := 54) C dX12_arePairsUnlike_54 rfl rfl ?_
  refine V_iload (pc := 55) C dX12_arePairsUnlike_55 rfl ?_
  refine V_iconst (pc := 57) C dX12_arePairsUnlike_57 kc_i_0 ?_
  obtain ⟨S10, euS10, h⟩ := b1_some h
  refine V_callV (As := [.int a2, .int a3, .int a4, .int (0 : Int32)]) (pc := 58) C (mX12_pairs _ euS10) zm_X12_pairs zi_X12_pairs ml_RX12_446 z1_mW_12 rfl ⟨Nat.le_of_ble_eq_true rfl, Nat.le_of_ble_eq_true rfl⟩ rfl rfl (Nat.le_of_ble_eq_true rfl) dX12_arePairsUnlike_58 ?_
  show V K 61 [some (.ref 0), some (.int a1), some (.int a2), some (.int a3), some (.int a4), some (.int r2), some (.int r4), some (.int (0 : Int32)), some (.int (gI S6 25 (ix (0 : Int32)))), some (.int (gI S6 25 (ix (1 : Int32))))] [] S10
  refine V_iload (pc := 61) C dX12_arePairsUnlike_61 rfl ?_
  refine V_i2l (pc := 63) C dX12_arePairsUnlike_63 ?_
  refine V_iload (pc := 64) C dX12_arePairsUnlike_64 rfl ?_
  refine V_i2l (pc := 66) C dX12_arePairsUnlike_66 ?_
  refine V_lmul (pc := 67) C dX12_arePairsUnlike_67 ?_
  refine V_iload (pc := 68) C dX12_arePairsUnlike_68 rfl ?_
  refine V_i2l (pc := 70) C dX12_arePairsUnlike_70 ?_
  refine V_lmul (pc := 71) C dX12_arePairsUnlike_71 ?_
  refine V_aload_n (pc := 72) C dX12_arePairsUnlike_72 rfl rfl ?_
  refine V_getF (p1 := 25) (pc := 73) C z1_mW_12 fl_RX12_86 rfl (zf_mW_12_40 z1_mW_12) dX12_arePairsUnlike_73 ?_
  refine V_iconst (pc := 76) C dX12_arePairsUnlike_76 kc_i_0 ?_
  obtain ⟨k11, h⟩ := ck_some h
  refine V_iald (pc := 77) C (za_mW_12_40 z1_mW_12) k11 dX12_arePairsUnlike_77 ?_
  refine V_i2l (pc := 78) C dX12_arePairsUnlike_78 ?_
  refine V_iload (pc := 79) C dX12_arePairsUnlike_79 rfl ?_
  refine V_i2l (pc := 81) C dX12_arePairsUnlike_81 ?_
  refine V_lmul (pc := 82) C dX12_arePairsUnlike_82 ?_
  refine V_iload (pc := 83) C dX12_arePairsUnlike_83 rfl ?_
  refine V_i2l (pc := 85) C dX12_arePairsUnlike_85 ?_
  refine V_lmul (pc := 86) C dX12_arePairsUnlike_86 ?_
  refine V_lcmp_ne (tgt := 121) (pc := 87) C dX12_arePairsUnlike_87 dX12_arePairsUnlike_88 (by decide) (fun hc => ?_) (fun hc => ?_)
  · have h := it_f hc h
    refine V_iconst (pc := 121) C dX12_arePairsUnlike_121 kc_i_1 ?_
    refine V_goto (tgt := 126) (pc := 122) C dX12_arePairsUnlike_122 (by decide) ?_
    refine V_istore (L' := [some (.ref 0), some (.int a1), some (.int a2), some (.int a3), some (.int a4), some (.int r2), some (.int r4), some (.int (1 : Int32)), some (.int (gI S6 25 (ix (0 : Int32)))), some (.int (gI S6 25 (ix (1 : Int32))))]) (pc := 126) C dX12_arePairsUnlike_126 (by decide) rfl ?_
    refine V_iload (pc := 128) C dX12_arePairsUnlike_128 rfl ?_
    cases h
    exact hR 130 _ ⟨_, rfl, zB1⟩ dX12_arePairsUnlike_130
  · have h := it_t hc h
    refine V_iload (pc := 91) C dX12_arePairsUnlike_91 rfl ?_
    refine V_i2l (pc := 93) C dX12_arePairsUnlike_93 ?_
    refine V_iload (pc := 94) C dX12_arePairsUnlike_94 rfl ?_
    refine V_i2l (pc := 96) C dX12_arePairsUnlike_96 ?_
    refine V_lmul (pc := 97) C dX12_arePairsUnlike_97 ?_
    refine V_iload (pc := 98) C dX12_arePairsUnlike_98 rfl ?_
    refine V_i2l (pc := 100) C dX12_arePairsUnlike_100 ?_
    refine V_lmul (pc := 101) C dX12_arePairsUnlike_101 ?_
    refine V_aload_n (pc := 102) C dX12_arePairsUnlike_102 rfl rfl ?_
    refine V_getF (p1 := 25) (pc := 103) C z1_mW_12 fl_RX12_86 rfl (zf_mW_12_40 z1_mW_12) dX12_arePairsUnlike_103 ?_
    refine V_iconst (pc := 106) C dX12_arePairsUnlike_106 kc_i_1 ?_
    obtain ⟨k12, h⟩ := ck_some h
    refine V_iald (pc := 107) C (za_mW_12_40 z1_mW_12) k12 dX12_arePairsUnlike_107 ?_
    refine V_i2l (pc := 108) C dX12_arePairsUnlike_108 ?_
    refine V_iload (pc := 109) C dX12_arePairsUnlike_109 rfl ?_
    refine V_i2l (pc := 111) C dX12_arePairsUnlike_111 ?_
    refine V_lmul (pc := 112) C dX12_arePairsUnlike_112 ?_
    refine V_iload (pc := 113) C dX12_arePairsUnlike_113 rfl ?_
    refine V_i2l (pc := 115) C dX12_arePairsUnlike_115 ?_
    refine V_lmul (pc := 116) C dX12_arePairsUnlike_116 ?_
    refine V_lcmp_eq (tgt := 125) (pc := 117) C dX12_arePairsUnlike_117 dX12_arePairsUnlike_118 (by decide) (fun hc => ?_) (fun hc => ?_)
    · have h := it_t hc h
      refine V_iconst (pc := 125) C dX12_arePairsUnlike_125 kc_i_0 ?_
      refine V_istore (L' := [some (.ref 0), some (.int a1), some (.int a2), some (.int a3), some (.int a4), some (.int r2), some (.int r4), some (.int (0 : Int32)), some (.int (gI S6 25 (ix (0 : Int32)))), some (.int (gI S6 25 (ix (1 : Int32))))]) (pc := 126) C dX12_arePairsUnlike_126 (by decide) rfl ?_
      refine V_iload (pc := 128) C dX12_arePairsUnlike_128 rfl ?_
      cases h
      exact hR 130 _ ⟨_, rfl, zB0⟩ dX12_arePairsUnlike_130
    · have h := it_f hc h
      refine V_iconst (pc := 121) C dX12_arePairsUnlike_121 kc_i_1 ?_
      refine V_goto (tgt := 126) (pc := 122) C dX12_arePairsUnlike_122 (by decide) ?_
      refine V_istore (L' := [some (.ref 0), some (.int a1), some (.int a2), some (.int a3), some (.int a4), some (.int r2), some (.int r4), some (.int (1 : Int32)), some (.int (gI S6 25 (ix (0 : Int32)))), some (.int (gI S6 25 (ix (1 : Int32))))]) (pc := 126) C dX12_arePairsUnlike_126 (by decide) rfl ?_
      refine V_iload (pc := 128) C dX12_arePairsUnlike_128 rfl ?_
      cases h
      exact hR 130 _ ⟨_, rfl, zB1⟩ dX12_arePairsUnlike_130
