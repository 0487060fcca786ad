set_option maxRecDepth 100000 in
theorem mX12_isIn_L49 {K : zK} (C : zC K cX12_isIn yX12_isIn.cls 8 2 50 mW) {v1 : Int32} {v2 : Int32} {v3 : Int32} {v4 : Int32} {v5 : Int32}  : ∀ (f : Nat) (S : zM) (v6 : Int32) (S' : zM), gX12_isIn_L49 v1 v2 v3 v4 v5 f S v6 = some S' → V K 80 [some (.ref 0), some (.int v1), some (.int v2), none, some (.int v4), some (.int v5), none, none] [] S' → V K 49 [some (.ref 0), some (.int v1), some (.int v2), some (.int v3), some (.int v4), some (.int v5), some (.int v6), none] [] S := by
  intro f
  induction f with
  | zero => intro S v6 S' h hx; cases h
  | succ n ih =>
    intro S v6 S' h hx
    unfold gX12_isIn_L49 at h
    refine V_iload (pc := 49) C dX12_isIn_49 rfl ?_
    refine V_iload_n (pc := 51) C dX12_isIn_51 rfl rfl ?_
    refine V_icmp_ge (tgt := 80) (pc := 52) C dX12_isIn_52 (by decide) (fun hc => ?_) (fun hc => ?_)
    · have h := it_t hc h
      cases h
      exact V_mask [true, true, true, false, true, true, false, false] hx
    · have h := it_f hc h
      refine V_aload_n (pc := 55) C dX12_isIn_55 rfl rfl ?_
      refine V_getF (p1 := 17) (pc := 56) C z1_mW_12 fl_RX12_62 rfl (zf_mW_12_31 z1_mW_12) dX12_isIn_56 ?_
      refine V_iload_n (pc := 59) C dX12_isIn_59 rfl rfl ?_
      refine V_i2l (pc := 60) C dX12_isIn_60 ?_
      obtain ⟨S8, euS8, h⟩ := b1_some h
      refine V_callS (As := [.ref 17, .long v3.toInt64]) (pc := 61) C (mX12_times _ (za_mW_12_31 z1_mW_12) euS8) zm_X12_times zs_X12_times ml_RX12_407 ⟨Nat.le_of_ble_eq_true rfl, Nat.le_of_ble_eq_true rfl⟩ rfl rfl (Nat.le_of_ble_eq_true rfl) dX12_isIn_61 ?_
      show V K 64 [some (.ref 0), some (.int v1), some (.int v2), some (.int v3), some (.int v4), some (.int v5), some (.int v6), none] [] S8
      refine V_aload_n (pc := 64) C dX12_isIn_64 rfl rfl ?_
      refine V_getF (p1 := 15) (pc := 65) C z1_mW_12 fl_RX12_56 rfl (zf_mW_12_29 z1_mW_12) dX12_isIn_65 ?_
      refine V_iload (pc := 68) C dX12_isIn_68 rfl ?_
      refine V_i2l (pc := 70) C dX12_isIn_70 ?_
      obtain ⟨S10, euS10, h⟩ := b1_some h
      refine V_callS (As := [.ref 15, .long v5.toInt64]) (pc := 71) C (mX12_times _ (za_mW_12_29 z1_mW_12) euS10) zm_X12_times zs_X12_times ml_RX12_407 ⟨Nat.le_of_ble_eq_true rfl, Nat.le_of_ble_eq_true rfl⟩ rfl rfl (Nat.le_of_ble_eq_true rfl) dX12_isIn_71 ?_
      show V K 74 [some (.ref 0), some (.int v1), some (.int v2), some (.int v3), some (.int v4), some (.int v5), some (.int v6), none] [] S10
      refine V_iinc (L' := [some (.ref 0), some (.int v1), some (.int v2), some (.int v3), some (.int v4), some (.int v5), some (.int (v6 + (1 : Int32))), none]) (v := (v6 + (1 : Int32))) (pc := 74) C dX12_isIn_74 rfl (congrArg (v6 + ·) kc_i_1) (by decide) rfl ?_
      refine V_goto (tgt := 49) (pc := 77) C dX12_isIn_77 (by decide) ?_
      exact V_mask [true, true, true, true, true, true, true, false] (ih _ _ _ h hx)
set_option maxRecDepth 100000 in
theorem mX12_isIn_J135 {K : zK} (C : zC K cX12_isIn yX12_isIn.cls 8 2 50 mW) {S : zM} {v1 : Int32} {v2 : Int32} {v4 : Int32} {v5 : Int32} {v6 : Int32} {v7 : Int32} {out : (Int32 × zM) ⊕ (Int32 × Int32 × zM)}  (h : gX12_isIn_J135 S v1 v2 v4 v5 v6 v7 = some out) (hb : ∀ (b6 : Int32) (b7 : Int32) (S' : zM), out = .inr (b6, b7, S') → V K 86 [some (.ref 0), some (.int v1), some (.int v2), none, some (.int v4), some (.int v5), some (.int b6), some (.int b7)] [] S') : V K 135 [some (.ref 0), some (.int v1), some (.int v2), none, some (.int v4), some (.int v5), some (.int v6), some (.int v7)] [] S := by
  unfold gX12_isIn_J135 at h
  refine V_aload_n (pc := 135) C dX12_isIn_135 rfl rfl ?_
  refine V_iload_n (pc := 136) C dX12_isIn_136 rfl rfl ?_
  refine V_iload (pc := 137) C dX12_isIn_137 rfl ?_
  obtain ⟨S27, euS27, h⟩ := b1_some h
  refine V_callV (As := [.int v1, .int v7]) (pc := 139) C (mX12_grows _ euS27) zm_X12_grows zi_X12_grows ml_RX12_426 z1_mW_12 rfl ⟨Nat.le_of_ble_eq_true rfl, Nat.le_of_ble_eq_true rfl⟩ rfl rfl (Nat.le_of_ble_eq_true rfl) dX12_isIn_139 ?_
  show V K 142 [some (.ref 0), some (.int v1), some (.int v2), none, some (.int v4), some (.int v5), some (.int v6), some (.int v7)] [] S27
  refine V_iload (pc := 142) C dX12_isIn_142 rfl ?_
  refine V_iload (pc := 144) C dX12_isIn_144 rfl ?_
  refine V_icmp_ge (tgt := 167) (pc := 146) C dX12_isIn_146 (by decide) (fun hc => ?_) (fun hc => ?_)
  · have h := it_t hc h
    refine V_iinc (L' := [some (.ref 0), some (.int v1), some (.int v2), none, some (.int v4), some (.int v5), some (.int v6), some (.int (v7 + (1 : Int32)))]) (v := (v7 + (1 : Int32))) (pc := 167) C dX12_isIn_167 rfl (congrArg (v7 + ·) kc_i_1) (by decide) rfl ?_
    refine V_goto (tgt := 86) (pc := 170) C dX12_isIn_170 (by decide) ?_
    cases h
    exact V_mask [true, true, true, false, true, true, true, true] (hb _ _ _ rfl)
  · have h := it_f hc h
    refine V_aload_n (pc := 149) C dX12_isIn_149 rfl rfl ?_
    refine V_getF (p1 := 15) (pc := 150) C z1_mW_12 fl_RX12_56 rfl (zf_mW_12_29 z1_mW_12) dX12_isIn_150 ?_
    refine V_iload_n (pc := 153) C dX12_isIn_153 rfl rfl ?_
    refine V_i2l (pc := 154) C dX12_isIn_154 ?_
    obtain ⟨S29, euS29, h⟩ := b1_some h
    refine V_callS (As := [.ref 15, .long v2.toInt64]) (pc := 155) C (mX12_times _ (za_mW_12_29 z1_mW_12) euS29) zm_X12_times zs_X12_times ml_RX12_407 ⟨Nat.le_of_ble_eq_true rfl, Nat.le_of_ble_eq_true rfl⟩ rfl rfl (Nat.le_of_ble_eq_true rfl) dX12_isIn_155 ?_
    show V K 158 [some (.ref 0), some (.int v1), some (.int v2), none, some (.int v4), some (.int v5), some (.int v6), some (.int v7)] [] S29
    refine V_aload_n (pc := 158) C dX12_isIn_158 rfl rfl ?_
    refine V_getF (p1 := 15) (pc := 159) C z1_mW_12 fl_RX12_56 rfl (zf_mW_12_29 z1_mW_12) dX12_isIn_159 ?_
    refine V_iload (pc := 162) C dX12_isIn_162 rfl ?_
    obtain ⟨S31, euS31, h⟩ := b1_some h
    refine V_callS (As := [.ref 15, .int v5]) (pc := 164) C (mX12_over _ (za_mW_12_29 z1_mW_12) euS31) zm_X12_over zs_X12_over ml_RX12_429 ⟨Nat.le_of_ble_eq_true rfl, Nat.le_of_ble_eq_true rfl⟩ rfl rfl (Nat.le_of_ble_eq_true rfl) dX12_isIn_164 ?_
    show V K 167 [some (.ref 0), some (.int v1), some (.int v2), none, some (.int v4), some (.int v5), some (.int v6), some (.int v7)] [] S31
    refine V_iinc (L' := [some (.ref 0), some (.int v1), some (.int v2), none, some (.int v4), some (.int v5), some (.int v6), some (.int (v7 + (1 : Int32)))]) (v := (v7 + (1 : Int32))) (pc := 167) C dX12_isIn_167 rfl (congrArg (v7 + ·) kc_i_1) (by decide) rfl ?_
    refine V_goto (tgt := 86) (pc := 170) C dX12_isIn_170 (by decide) ?_
    cases h
    exact V_mask [true, true, true, false, true, true, true, true] (hb _ _ _ rfl)
set_option maxRecDepth 100000 in
theorem mX12_isIn_L86 {K : zK} (C : zC K cX12_isIn yX12_isIn.cls 8 2 50 mW) {v1 : Int32} {v2 : Int32} {v4 : Int32} {v5 : Int32}  : ∀ (f : Nat) (S : zM) (v6 : Int32) (v7 : Int32) (r : Int32) (S' : zM), gX12_isIn_L86 v1 v2 v4 v5 f S v6 v7 = some (r, S') → zR K cX12_isIn (some .boolean) S' (some (.int r)) → V K 86 [some (.ref 0), some (.int v1), some (.int v2), none, some (.int v4), some (.int v5), some (.int v6), some (.int v7)] [] S := by
  intro f
  induction f with
  | zero => intro S v6 v7 r S' h hR; cases h
  | succ n ih =>
    intro S v6 v7 r S' h hR
    unfold gX12_isIn_L86 at h
    refine V_iload (pc := 86) C dX12_isIn_86 rfl ?_
    refine V_iload (pc := 88) C dX12_isIn_88 rfl ?_
    refine V_icmp_gt (tgt := 173) (pc := 90) C dX12_isIn_90 (by decide) (fun hc => ?_) (fun hc => ?_)
    · have h := it_t hc h
      refine V_iload (pc := 173) C dX12_isIn_173 rfl ?_
      refine V_if_eq (tgt := 193) (pc := 175) C dX12_isIn_175 (by decide) (fun hc => ?_) (fun hc => ?_)
      · have h := it_t hc h
        refine V_iconst (pc := 193) C dX12_isIn_193 kc_i_0 ?_
        cases h
        exact hR 194 _ ⟨_, rfl, zB0⟩ dX12_isIn_194
      · have h := it_f hc h
        refine V_aload_n (pc := 178) C dX12_isIn_178 rfl rfl ?_
        refine V_aload_n (pc := 179) C dX12_isIn_179 rfl rfl ?_
        refine V_getF (p1 := 16) (pc := 180) C z1_mW_12 fl_RX12_59 rfl (zf_mW_12_30 z1_mW_12) dX12_isIn_180 ?_
        obtain ⟨r12, S13, er12, h⟩ := b2_some h
        refine V_callV (As := [.ref 16]) (pc := 183) C (mX12_isFortieth _ (za_mW_12_30 z1_mW_12) er12) zm_X12_isFortieth zi_X12_isFortieth ml_RX12_422 z1_mW_12 rfl ⟨Nat.le_of_ble_eq_true rfl, Nat.le_of_ble_eq_true rfl⟩ rfl rfl (Nat.le_of_ble_eq_true rfl) dX12_isIn_183 ?_
        show V K 186 [some (.ref 0), some (.int v1), some (.int v2), none, some (.int v4), some (.int v5), some (.int v6), some (.int v7)] [.int r12] S13
        refine V_if_eq (tgt := 193) (pc := 186) C dX12_isIn_186 (by decide) (fun hc => ?_) (fun hc => ?_)
        · have h := it_t hc h
          refine V_iconst (pc := 193) C dX12_isIn_193 kc_i_0 ?_
          cases h
          exact hR 194 _ ⟨_, rfl, zB0⟩ dX12_isIn_194
        · have h := it_f hc h
          refine V_iconst (pc := 189) C dX12_isIn_189 kc_i_1 ?_
          refine V_goto (tgt := 194) (pc := 190) C dX12_isIn_190 (by decide) ?_
          cases h
          exact hR 194 _ ⟨_, rfl, zB1⟩ dX12_isIn_194
    · have h := it_f hc h
      refine V_iload (pc := 93) C dX12_isIn_93 rfl ?_
      refine V_iload (pc := 95) C dX12_isIn_95 rfl ?_
      refine V_icmp_ne (tgt := 135) (pc := 97) C dX12_isIn_97 (by decide) (fun hc => ?_) (fun hc => ?_)
      · have h := it_f hc h
        refine V_aload_n (pc := 135) C dX12_isIn_135 rfl rfl ?_
        refine V_iload_n (pc := 136) C dX12_isIn_136 rfl rfl ?_
        refine V_iload (pc := 137) C dX12_isIn_137 rfl ?_
        obtain ⟨S15, euS15, h⟩ := b1_some h
        refine V_callV (As := [.int v1, .int v7]) (pc := 139) C (mX12_grows _ euS15) zm_X12_grows zi_X12_grows ml_RX12_426 z1_mW_12 rfl ⟨Nat.le_of_ble_eq_true rfl, Nat.le_of_ble_eq_true rfl⟩ rfl rfl (Nat.le_of_ble_eq_true rfl) dX12_isIn_139 ?_
        show V K 142 [some (.ref 0), some (.int v1), some (.int v2), none, some (.int v4), some (.int v5), some (.int v6), some (.int v7)] [] S15
        refine V_iload (pc := 142) C dX12_isIn_142 rfl ?_
        refine V_iload (pc := 144) C dX12_isIn_144 rfl ?_
        refine V_icmp_ge (tgt := 167) (pc := 146) C dX12_isIn_146 (by decide) (fun hc => ?_) (fun hc => ?_)
        · have h := it_t hc h
          refine V_iinc (L' := [some (.ref 0), some (.int v1), some (.int v2), none, some (.int v4), some (.int v5), some (.int v6), some (.int (v7 + (1 : Int32)))]) (v := (v7 + (1 : Int32))) (pc := 167) C dX12_isIn_167 rfl (congrArg (v7 + ·) kc_i_1) (by decide) rfl ?_
          refine V_goto (tgt := 86) (pc := 170) C dX12_isIn_170 (by decide) ?_
          exact V_mask [true, true, true, false, true, true, true, true] (ih _ _ _ _ _ h hR)
        · have h := it_f hc h
          refine V_aload_n (pc := 149) C dX12_isIn_149 rfl rfl ?_
          refine V_getF (p1 := 15) (pc := 150) C z1_mW_12 fl_RX12_56 rfl (zf_mW_12_29 z1_mW_12) dX12_isIn_150 ?_
          refine V_iload_n (pc := 153) C dX12_isIn_153 rfl rfl ?_
          refine V_i2l (pc := 154) C dX12_isIn_154 ?_
          obtain ⟨S17, euS17, h⟩ := b1_some h
          refine V_callS (As := [.ref 15, .long v2.toInt64]) (pc := 155) C (mX12_times _ (za_mW_12_29 z1_mW_12) euS17) zm_X12_times zs_X12_times ml_RX12_407 ⟨Nat.le_of_ble_eq_true rfl, Nat.le_of_ble_eq_true rfl⟩ rfl rfl (Nat.le_of_ble_eq_true rfl) dX12_isIn_155 ?_
          show V K 158 [some (.ref 0), some (.int v1), some (.int v2), none, some (.int v4), some (.int v5), some (.int v6), some (.int v7)] [] S17
          refine V_aload_n (pc := 158) C dX12_isIn_158 rfl rfl ?_
          refine V_getF (p1 := 15) (pc := 159) C z1_mW_12 fl_RX12_56 rfl (zf_mW_12_29 z1_mW_12) dX12_isIn_159 ?_
          refine V_iload (pc := 162) C dX12_isIn_162 rfl ?_
          obtain ⟨S19, euS19, h⟩ := b1_some h
          refine V_callS (As := [.ref 15, .int v5]) (pc := 164) C (mX12_over _ (za_mW_12_29 z1_mW_12) euS19) zm_X12_over zs_X12_over ml_RX12_429 ⟨Nat.le_of_ble_eq_true rfl, Nat.le_of_ble_eq_true rfl⟩ rfl rfl (Nat.le_of_ble_eq_true rfl) dX12_isIn_164 ?_
          show V K 167 [some (.ref 0), some (.int v1), some (.int v2), none, some (.int v4), some (.int v5), some (.int v6), some (.int v7)] [] S19
          refine V_iinc (L' := [some (.ref 0), some (.int v1), some (.int v2), none, some (.int v4), some (.int v5), some (.int v6), some (.int (v7 + (1 : Int32)))]) (v := (v7 + (1 : Int32))) (pc := 167) C dX12_isIn_167 rfl (congrArg (v7 + ·) kc_i_1) (by decide) rfl ?_
          refine V_goto (tgt := 86) (pc := 170) C dX12_isIn_170 (by decide) ?_
          exact V_mask [true, true, true, false, true, true, true, true] (ih _ _ _ _ _ h hR)
      · have h := it_t hc h
        refine V_aload_n (pc := 100) C dX12_isIn_100 rfl rfl ?_
        refine V_getF (p1 := 17) (pc := 101) C z1_mW_12 fl_RX12_62 rfl (zf_mW_12_31 z1_mW_12) dX12_isIn_101 ?_
        refine V_aload_n (pc := 104) C dX12_isIn_104 rfl rfl ?_
        refine V_getF (p1 := 18) (pc := 105) C z1_mW_12 fl_RX12_65 rfl (zf_mW_12_32 z1_mW_12) dX12_isIn_105 ?_
        obtain ⟨S21, euS21, h⟩ := b1_some h
        refine V_callS (As := [.ref 17, .ref 18]) (pc := 108) C (mX12_copy _ (za_mW_12_31 z1_mW_12) (za_mW_12_32 z1_mW_12) euS21) zm_X12_copy zs_X12_copy ml_RX12_401 ⟨Nat.le_of_ble_eq_true rfl, Nat.le_of_ble_eq_true rfl⟩ rfl rfl (Nat.le_of_ble_eq_true rfl) dX12_isIn_108 ?_
        show V K 111 [some (.ref 0), some (.int v1), some (.int v2), none, some (.int v4), some (.int v5), some (.int v6), some (.int v7)] [] S21
        refine V_aload_n (pc := 111) C dX12_isIn_111 rfl rfl ?_
        refine V_getF (p1 := 18) (pc := 112) C z1_mW_12 fl_RX12_65 rfl (zf_mW_12_32 z1_mW_12) dX12_isIn_112 ?_
        refine V_aload_n (pc := 115) C dX12_isIn_115 rfl rfl ?_
        refine V_getF (p1 := 16) (pc := 116) C z1_mW_12 fl_RX12_59 rfl (zf_mW_12_30 z1_mW_12) dX12_isIn_116 ?_
        refine V_ldc2 (pc := 119) C dX12_isIn_119 kl_RX12_420 ?_
        obtain ⟨S23, euS23, h⟩ := b1_some h
        refine V_callS (As := [.ref 18, .ref 16, .long (-1 : Int64)]) (pc := 122) C (mX12_add _ (za_mW_12_32 z1_mW_12) (za_mW_12_30 z1_mW_12) euS23) zm_X12_add zs_X12_add ml_RX12_397 ⟨Nat.le_of_ble_eq_true rfl, Nat.le_of_ble_eq_true rfl⟩ rfl rfl (Nat.le_of_ble_eq_true rfl) dX12_isIn_122 ?_
        show V K 125 [some (.ref 0), some (.int v1), some (.int v2), none, some (.int v4), some (.int v5), some (.int v6), some (.int v7)] [] S23
        refine V_aload_n (pc := 125) C dX12_isIn_125 rfl rfl ?_
        refine V_aload_n (pc := 126) C dX12_isIn_126 rfl rfl ?_
        refine V_getF (p1 := 18) (pc := 127) C z1_mW_12 fl_RX12_65 rfl (zf_mW_12_32 z1_mW_12) dX12_isIn_127 ?_
        obtain ⟨r24, S25, er24, h⟩ := b2_some h
        refine V_callV (As := [.ref 18]) (pc := 130) C (mX12_isFortieth _ (za_mW_12_32 z1_mW_12) er24) zm_X12_isFortieth zi_X12_isFortieth ml_RX12_422 z1_mW_12 rfl ⟨Nat.le_of_ble_eq_true rfl, Nat.le_of_ble_eq_true rfl⟩ rfl rfl (Nat.le_of_ble_eq_true rfl) dX12_isIn_130 ?_
        show V K 133 [some (.ref 0), some (.int v1), some (.int v2), none, some (.int v4), some (.int v5), some (.int v6), some (.int v7)] [.int r24] S25
        refine V_istore (L' := [some (.ref 0), some (.int v1), some (.int v2), none, some (.int v4), some (.int v5), some (.int r24), some (.int v7)]) (pc := 133) C dX12_isIn_133 (by decide) rfl ?_
        obtain ⟨out', e135, hi, hb⟩ := lm_some h
        refine V_mask [true, true, true, false, true, true, true, true] (mX12_isIn_J135 C  e135 ?_)
        · intro v6 v7 S eo
          have h := hb _ eo
          exact ih _ _ _ _ _ h hR
set_option maxRecDepth 100000 in
theorem mX12_isIn (l : Launch) {S : zM} {a1 : Int32} {a2 : Int32} {a3 : Int32} {a4 : Int32} {r : Int32} {S' : zM}  (h : gX12_isIn S a1 a2 a3 a4 = some (r, S')) : zMet l mW zS0 yX12_isIn cX12_isIn 8 (some .boolean) 2 50 [.ref 0, .int a1, .int a2, .int a3, .int a4] S (some (.int r)) S' := by
  refine zmeth (by decide +kernel) (by rfl) (fun K hKl C hR => ?_)
  show V K 0 [some (.ref 0), some (.int a1), some (.int a2), some (.int a3), some (.int a4), none, none, none] [] S
  unfold gX12_isIn at h
  refine V_iload_n (pc := 0) C dX12_isIn_0 rfl rfl ?_
  refine V_iload_n (pc := 1) C dX12_isIn_1 rfl rfl ?_
  refine V_isub (pc := 2) C dX12_isIn_2 ?_
  refine V_istore (L' := [some (.ref 0), some (.int a1), some (.int a2), some (.int a3), some (.int a4), some (.int (a3 - a2)), none, none]) (pc := 3) C dX12_isIn_3 (by decide) rfl ?_
  refine V_iload (pc := 5) C dX12_isIn_5 rfl ?_
  refine V_if_ne (tgt := 22) (pc := 7) C dX12_isIn_7 (by decide) (fun hc => ?_) (fun hc => ?_)
  · have h := it_f hc h
    refine V_aload_n (pc := 22) C dX12_isIn_22 rfl rfl ?_
    refine V_getF (p1 := 17) (pc := 23) C z1_mW_12 fl_RX12_62 rfl (zf_mW_12_31 z1_mW_12) dX12_isIn_23 ?_
    refine V_iconst (pc := 26) C dX12_isIn_26 kc_i_1 ?_
    obtain ⟨S2, euS2, h⟩ := b1_some h
    refine V_callS (As := [.ref 17, .int (1 : Int32)]) (pc := 27) C (mX12_become _ (za_mW_12_31 z1_mW_12) euS2) zm_X12_become zs_X12_become ml_RX12_416 ⟨Nat.le_of_ble_eq_true rfl, Nat.le_of_ble_eq_true rfl⟩ rfl rfl (Nat.le_of_ble_eq_true rfl) dX12_isIn_27 ?_
    show V K 30 [some (.ref 0), some (.int a1), some (.int a2), some (.int a3), some (.int a4), some (.int (a3 - a2)), none, none] [] S2
    refine V_aload_n (pc := 30) C dX12_isIn_30 rfl rfl ?_
    refine V_getF (p1 := 15) (pc := 31) C z1_mW_12 fl_RX12_56 rfl (zf_mW_12_29 z1_mW_12) dX12_isIn_31 ?_
    refine V_iconst (pc := 34) C dX12_isIn_34 kc_i_1 ?_
    obtain ⟨S4, euS4, h⟩ := b1_some h
    refine V_callS (As := [.ref 15, .int (1 : Int32)]) (pc := 35) C (mX12_become _ (za_mW_12_29 z1_mW_12) euS4) zm_X12_become zs_X12_become ml_RX12_416 ⟨Nat.le_of_ble_eq_true rfl, Nat.le_of_ble_eq_true rfl⟩ rfl rfl (Nat.le_of_ble_eq_true rfl) dX12_isIn_35 ?_
    show V K 38 [some (.ref 0), some (.int a1), some (.int a2), some (.int a3), some (.int a4), some (.int (a3 - a2)), none, none] [] S4
    refine V_aload_n (pc := 38) C dX12_isIn_38 rfl rfl ?_
    refine V_getF (p1 := 16) (pc := 39) C z1_mW_12 fl_RX12_59 rfl (zf_mW_12_30 z1_mW_12) dX12_isIn_39 ?_
    refine V_iconst (pc := 42) C dX12_isIn_42 kc_i_0 ?_
    obtain ⟨S6, euS6, h⟩ := b1_some h
    refine V_callS (As := [.ref 16, .int (0 : Int32)]) (pc := 43) C (mX12_become _ (za_mW_12_30 z1_mW_12) euS6) zm_X12_become zs_X12_become ml_RX12_416 ⟨Nat.le_of_ble_eq_true rfl, Nat.le_of_ble_eq_true rfl⟩ rfl rfl (Nat.le_of_ble_eq_true rfl) dX12_isIn_43 ?_
    show V K 46 [some (.ref 0), some (.int a1), some (.int a2), some (.int a3), some (.int a4), some (.int (a3 - a2)), none, none] [] S6
    refine V_iconst (pc := 46) C dX12_isIn_46 kc_i_0 ?_
    refine V_istore (L' := [some (.ref 0), some (.int a1), some (.int a2), some (.int a3), some (.int a4), some (.int (a3 - a2)), some (.int (0 : Int32)), none]) (pc := 47) C dX12_isIn_47 (by decide) rfl ?_
    obtain ⟨S11, e49, h⟩ := b1_some h
    refine V_mask [true, true, true, true, true, true, true, false] (mX12_isIn_L49 C  FU _ _ _ e49 ?_)
    refine V_iconst (pc := 80) C dX12_isIn_80 kc_i_0 ?_
    refine V_istore (L' := [some (.ref 0), some (.int a1), some (.int a2), none, some (.int a4), some (.int (a3 - a2)), some (.int (0 : Int32)), none]) (pc := 81) C dX12_isIn_81 (by decide) rfl ?_
    refine V_iconst (pc := 83) C dX12_isIn_83 kc_i_0 ?_
    refine V_istore (L' := [some (.ref 0), some (.int a1), some (.int a2), none, some (.int a4), some (.int (a3 - a2)), some (.int (0 : Int32)), some (.int (0 : Int32))]) (pc := 84) C dX12_isIn_84 (by decide) rfl ?_
    exact V_mask [true, true, true, false, true, true, true, true] (mX12_isIn_L86 C  FU _ _ _ _ _ h hR)
  · have h := it_t hc h
    refine V_iload (pc := 10) C dX12_isIn_10 rfl ?_
    refine V_iload_n (pc := 12) C dX12_isIn_12 rfl rfl ?_
    refine V_icmp_ne (tgt := 20) (pc := 13) C dX12_isIn_13 (by decide) (fun hc => ?_) (fun hc => ?_)
    · have h := it_f hc h
      refine V_iconst (pc := 20) C dX12_isIn_20 kc_i_0 ?_
      cases h
      exact hR 21 _ ⟨_, rfl, zB0⟩ dX12_isIn_21
    · have h := it_t hc h
      refine V_iconst (pc := 16) C dX12_isIn_16 kc_i_1 ?_
      refine V_goto (tgt := 21) (pc := 17) C dX12_isIn_17 (by decide) ?_
      cases h
      exact hR 21 _ ⟨_, rfl, zB1⟩ dX12_isIn_21
set_option maxRecDepth 100000 in
theorem mX12_spanOf_L6 {K : zK} (C : zC K cX12_spanOf yX12_spanOf.cls 8 3 77 mW) {v1 : Int32} {v2 : Int32} {v3 : Int32} {v4 : Int32}  : ∀ (f : Nat) (S : zM) (v5 : Int32) (v6 : Int32) (r : Int32) (S' : zM), gX12_spanOf_L6 v1 v2 v3 v4 f S v5 v6 = some (r, S') → zR K cX12_spanOf (some .int) S' (some (.int r)) → V K 6 [some (.ref 0), some (.int v1), some (.int v2), some (.int v3), some (.int v4), some (.int v5), some (.int v6), none] [] S := by
  intro f
  induction f with
  | zero => intro S v5 v6 r S' h hR; cases h
  | succ n ih =>
    intro S v5 v6 r S' h hR
    unfold gX12_spanOf_L6 at h
    refine V_iload (pc := 6) C dX12_spanOf_6 rfl ?_
    refine V_iload_n (pc := 8) C dX12_spanOf_8 rfl rfl ?_
    refine V_icmp_gt (tgt := 61) (pc := 9) C dX12_spanOf_9 (by decide) (fun hc => ?_) (fun hc => ?_)
    · have h := it_t hc h
      refine V_iload (pc := 61) C dX12_spanOf_61 rfl ?_
      cases h
      exact hR 63 _ ⟨_, rfl, rfl⟩ dX12_spanOf_63
    · have h := it_f hc h
      refine V_iload (pc := 12) C dX12_spanOf_12 rfl ?_
      refine V_if_ne (tgt := 22) (pc := 14) C dX12_spanOf_14 (by decide) (fun hc => ?_) (fun hc => ?_)
      · have h := it_f hc h
        refine V_aload_n (pc := 22) C dX12_spanOf_22 rfl rfl ?_
        refine V_iload_n (pc := 23) C dX12_spanOf_23 rfl rfl ?_
        refine V_iload_n (pc := 24) C dX12_spanOf_24 rfl rfl ?_
        refine V_iload_n (pc := 25) C dX12_spanOf_25 rfl rfl ?_
        refine V_iload (pc := 26) C dX12_spanOf_26 rfl ?_
        obtain ⟨r1, S2, er1, h⟩ := b2_some h
        refine V_callV (As := [.int v1, .int v2, .int v3, .int v6]) (pc := 28) C (mX12_isIn _ er1) zm_X12_isIn zi_X12_isIn ml_RX12_432 z1_mW_12 rfl ⟨Nat.le_of_ble_eq_true rfl, Nat.le_of_ble_eq_true rfl⟩ rfl rfl (Nat.le_of_ble_eq_true rfl) dX12_spanOf_28 ?_
        show V K 31 [some (.ref 0), some (.int v1), some (.int v2), some (.int v3), some (.int v4), some (.int v5), some (.int v6), none] [.int r1] S2
        refine V_if_eq (tgt := 38) (pc := 31) C dX12_spanOf_31 (by decide) (fun hc => ?_) (fun hc => ?_)
        · have h := it_t hc h
          refine V_iconst (pc := 38) C dX12_spanOf_38 kc_i_0 ?_
          refine V_istore (L' := [some (.ref 0), some (.int v1), some (.int v2), some (.int v3), some (.int v4), some (.int v5), some (.int v6), some (.int (0 : Int32))]) (pc := 39) C dX12_spanOf_39 (by decide) rfl ?_
          refine V_iload (pc := 41) C dX12_spanOf_41 rfl ?_
          refine V_if_eq (tgt := 51) (pc := 43) C dX12_spanOf_43 (by decide) (fun _ => ?_) (fun hc => absurd hc (by decide))
          refine V_iload (pc := 51) C dX12_spanOf_51 rfl ?_
          refine V_istore (L' := [some (.ref 0), some (.int v1), some (.int v2), some (.int v3), some (.int v4), some (.int v5), some (.int v6), some (.int (0 : Int32))]) (pc := 53) C dX12_spanOf_53 (by decide) rfl ?_
          refine V_iinc (L' := [some (.ref 0), some (.int v1), some (.int v2), some (.int v3), some (.int v4), some (.int v5), some (.int (v6 + (1 : Int32))), some (.int (0 : Int32))]) (v := (v6 + (1 : Int32))) (pc := 55) C dX12_spanOf_55 rfl (congrArg (v6 + ·) kc_i_1) (by decide) rfl ?_
          refine V_goto (tgt := 6) (pc := 58) C dX12_spanOf_58 (by decide) ?_
          exact V_mask [true, true, true, true, true, true, true, false] (ih _ _ _ _ _ h hR)
        · have h := it_f hc h
          refine V_iconst (pc := 34) C dX12_spanOf_34 kc_i_1 ?_
          refine V_goto (tgt := 39) (pc := 35) C dX12_spanOf_35 (by decide) ?_
          refine V_istore (L' := [some (.ref 0), some (.int v1), some (.int v2), some (.int v3), some (.int v4), some (.int v5), some (.int v6), some (.int (1 : Int32))]) (pc := 39) C dX12_spanOf_39 (by decide) rfl ?_
          refine V_iload (pc := 41) C dX12_spanOf_41 rfl ?_
          refine V_if_eq (tgt := 51) (pc := 43) C dX12_spanOf_43 (by decide) (fun hc => absurd hc (by decide)) (fun _ => ?_)
          refine V_iload (pc := 46) C dX12_spanOf_46 rfl ?_
          refine V_goto (tgt := 53) (pc := 48) C dX12_spanOf_48 (by decide) ?_
          refine V_istore (L' := [some (.ref 0), some (.int v1), some (.int v2), some (.int v3), some (.int v4), some (.int v6), some (.int v6), some (.int (1 : Int32))]) (pc := 53) C dX12_spanOf_53 (by decide) rfl ?_
          refine V_iinc (L' := [some (.ref 0), some (.int v1), some (.int v2), some (.int v3), some (.int v4), some (.int v6), some (.int (v6 + (1 : Int32))), some (.int (1 : Int32))]) (v := (v6 + (1 : Int32))) (pc := 55) C dX12_spanOf_55 rfl (congrArg (v6 + ·) kc_i_1) (by decide) rfl ?_
          refine V_goto (tgt := 6) (pc := 58) C dX12_spanOf_58 (by decide) ?_
          exact V_mask [true, true, true, true, true, true, true, false] (ih _ _ _ _ _ h hR)
      · have h := it_t hc h
        refine V_iload (pc := 17) C dX12_spanOf_17 rfl ?_
        refine V_if_ge (tgt := 38) (pc := 19) C dX12_spanOf_19 (by decide) (fun hc => ?_) (fun hc => ?_)
        · have h := it_t hc h
          refine V_iconst (pc := 38) C dX12_spanOf_38 kc_i_0 ?_
          refine V_istore (L' := [some (.ref 0), some (.int v1), some (.int v2), some (.int v3), some (.int v4), some (.int v5), some (.int v6), some (.int (0 : Int32))]) (pc := 39) C dX12_spanOf_39 (by decide) rfl ?_
          refine V_iload (pc := 41) C dX12_spanOf_41 rfl ?_
          refine V_if_eq (tgt := 51) (pc := 43) C dX12_spanOf_43 (by decide) (fun _ => ?_) (fun hc => absurd hc (by decide))
          refine V_iload (pc := 51) C dX12_spanOf_51 rfl ?_
          refine V_istore (L' := [some (.ref 0), some (.int v1), some (.int v2), some (.int v3), some (.int v4), some (.int v5), some (.int v6), some (.int (0 : Int32))]) (pc := 53) C dX12_spanOf_53 (by decide) rfl ?_
          refine V_iinc (L' := [some (.ref 0), some (.int v1), some (.int v2), some (.int v3), some (.int v4), some (.int v5), some (.int (v6 + (1 : Int32))), some (.int (0 : Int32))]) (v := (v6 + (1 : Int32))) (pc := 55) C dX12_spanOf_55 rfl (congrArg (v6 + ·) kc_i_1) (by decide) rfl ?_
          refine V_goto (tgt := 6) (pc := 58) C dX12_spanOf_58 (by decide) ?_
          exact V_mask [true, true, true, true, true, true, true, false] (ih _ _ _ _ _ h hR)
        · have h := it_f hc h
          refine V_aload_n (pc := 22) C dX12_spanOf_22 rfl rfl ?_
          refine V_iload_n (pc := 23) C dX12_spanOf_23 rfl rfl ?_
          refine V_iload_n (pc := 24) C dX12_spanOf_24 rfl rfl ?_
          refine V_iload_n (pc := 25) C dX12_spanOf_25 rfl rfl ?_
          refine V_iload (pc := 26) C dX12_spanOf_26 rfl ?_
          obtain ⟨r3, S4, er3, h⟩ := b2_some h
          refine V_callV (As := [.int v1, .int v2, .int v3, .int v6]) (pc := 28) C (mX12_isIn _ er3) zm_X12_isIn zi_X12_isIn ml_RX12_432 z1_mW_12 rfl ⟨Nat.le_of_ble_eq_true rfl, Nat.le_of_ble_eq_true rfl⟩ rfl rfl (Nat.le_of_ble_eq_true rfl) dX12_spanOf_28 ?_
          show V K 31 [some (.ref 0), some (.int v1), some (.int v2), some (.int v3), some (.int v4), some (.int v5), some (.int v6), none] [.int r3] S4
          refine V_if_eq (tgt := 38) (pc := 31) C dX12_spanOf_31 (by decide) (fun hc => ?_) (fun hc => ?_)
          · have h := it_t hc h
            refine V_iconst (pc := 38) C dX12_spanOf_38 kc_i_0 ?_
            refine V_istore (L' := [some (.ref 0), some (.int v1), some (.int v2), some (.int v3), some (.int v4), some (.int v5), some (.int v6), some (.int (0 : Int32))]) (pc := 39) C dX12_spanOf_39 (by decide) rfl ?_
            refine V_iload (pc := 41) C dX12_spanOf_41 rfl ?_
            refine V_if_eq (tgt := 51) (pc := 43) C dX12_spanOf_43 (by decide) (fun _ => ?_) (fun hc => absurd hc (by decide))
            refine V_iload (pc := 51) C dX12_spanOf_51 rfl ?_
            refine V_istore (L' := [some (.ref 0), some (.int v1), some (.int v2), some (.int v3), some (.int v4), some (.int v5), some (.int v6), some (.int (0 : Int32))]) (pc := 53) C dX12_spanOf_53 (by decide) rfl ?_
            refine V_iinc (L' := [some (.ref 0), some (.int v1), some (.int v2), some (.int v3), some (.int v4), some (.int v5), some (.int (v6 + (1 : Int32))), some (.int (0 : Int32))]) (v := (v6 + (1 : Int32))) (pc := 55) C dX12_spanOf_55 rfl (congrArg (v6 + ·) kc_i_1) (by decide) rfl ?_
            refine V_goto (tgt := 6) (pc := 58) C dX12_spanOf_58 (by decide) ?_
            exact V_mask [true, true, true, true, true, true, true, false] (ih _ _ _ _ _ h hR)
          · have h := it_f hc h
            refine V_iconst (pc := 34) C dX12_spanOf_34 kc_i_1 ?_
            refine V_goto (tgt := 39) (pc := 35) C dX12_spanOf_35 (by decide) ?_
            refine V_istore (L' := [some (.ref 0), some (.int v1), some (.int v2), some (.int v3), some (.int v4), some (.int v5), some (.int v6), some (.int (1 : Int32))]) (pc := 39) C dX12_spanOf_39 (by decide) rfl ?_
            refine V_iload (pc := 41) C dX12_spanOf_41 rfl ?_
            refine V_if_eq (tgt := 51) (pc := 43) C dX12_spanOf_43 (by decide) (fun hc => absurd hc (by decide)) (fun _ => ?_)
            refine V_iload (pc := 46) C dX12_spanOf_46 rfl ?_
            refine V_goto (tgt := 53) (pc := 48) C dX12_spanOf_48 (by decide) ?_
            refine V_istore (L' := [some (.ref 0), some (.int v1), some (.int v2), some (.int v3), some (.int v4), some (.int v6), some (.int v6), some (.int (1 : Int32))]) (pc := 53) C dX12_spanOf_53 (by decide) rfl ?_
            refine V_iinc (L' := [some (.ref 0), some (.int v1), some (.int v2), some (.int v3), some (.int v4), some (.int v6), some (.int (v6 + (1 : Int32))), some (.int (1 : Int32))]) (v := (v6 + (1 : Int32))) (pc := 55) C dX12_spanOf_55 rfl (congrArg (v6 + ·) kc_i_1) (by decide) rfl ?_
            refine V_goto (tgt := 6) (pc := 58) C dX12_spanOf_58 (by decide) ?_
            exact V_mask [true, true, true, true, true, true, true, false] (ih _ _ _ _ _ h hR)
set_option maxRecDepth 100000 in
theorem mX12_spanOf (l : Launch) {S : zM} {a1 : Int32} {a2 : Int32} {a3 : Int32} {a4 : Int32} {r : Int32} {S' : zM}  (h : gX12_spanOf S a1 a2 a3 a4 = some (r, S')) : zMet l mW zS0 yX12_spanOf cX12_spanOf 8 (some .int) 3 77 [.ref 0, .int a1, .int a2, .int a3, .int a4] S (some (.int r)) S' := by
  refine zmeth (by decide +kernel) (by rfl) (fun K hKl C hR => ?_)
  show V K 0 [some (.ref 0), some (.int a1), some (.int a2), some (.int a3), some (.int a4), none, none, none] [] S
  unfold gX12_spanOf at h
  refine V_iconst (pc := 0) C dX12_spanOf_0 kc_i_m1 ?_
  refine V_istore (L' := [some (.ref 0), some (.int a1), some (.int a2), some (.int a3), some (.int a4), some (.int (-1 : Int32)), none, none]) (pc := 1) C dX12_spanOf_1 (by decide) rfl ?_
  refine V_iconst (pc := 3) C dX12_spanOf_3 kc_i_0 ?_
  refine V_istore (L' := [some (.ref 0), some (.int a1), some (.int a2), some (.int a3), some (.int a4), some (.int (-1 : Int32)), some (.int (0 : Int32)), none]) (pc := 4) C dX12_spanOf_4 (by decide) rfl ?_
  exact V_mask [true, true, true, true, true, true, true, false] (mX12_spanOf_L6 C  FU _ _ _ _ _ h hR)
set_option maxRecDepth 100000 in
theorem mX12_span (l : Launch) {S : zM} {a1 : Int32} {a2 : Int32} {a3 : Int32} {a4 : Int32} {r : Int32} {S' : zM}  (h : gX12_span S a1 a2 a3 a4 = some (r, S')) : zMet l mW zS0 yX12_span cX12_span 6 (some .int) 4 104 [.ref 0, .int a1, .int a2, .int a3, .int a4] S (some (.int r)) S' := by
  refine zmeth (by decide +kernel) (by rfl) (fun K hKl C hR => ?_)
  show V K 0 [some (.ref 0), some (.int a1), some (.int a2), some (.int a3), some (.int a4), none] [] S
  unfold gX12_span at h
  refine V_aload_n (pc := 0) C dX12_span_0 rfl rfl ?_
  obtain ⟨S2, euS2, h⟩ := b1_some h
  refine V_callV (As := []) (pc := 1) C (mX12_good _ euS2) zm_X12_good zi_X12_good ml_RX12_211 z1_mW_12 rfl ⟨Nat.le_of_ble_eq_true rfl, Nat.le_of_ble_eq_true rfl⟩ rfl rfl (Nat.le_of_ble_eq_true rfl) dX12_span_1 ?_
  show V K 4 [some (.ref 0), some (.int a1), some (.int a2), some (.int a3), some (.int a4), none] [] S2
  refine V_iload_n (pc := 4) C dX12_span_4 rfl rfl ?_
  refine V_iconst (pc := 5) C dX12_span_5 kc_i_1 ?_
  refine V_bipush (pc := 6) C dX12_span_6 kc_b_40 ?_
  obtain ⟨r3, er3, h⟩ := b1_some h
  refine V_callS (As := [.int a1, .int (1 : Int32), .int (40 : Int32)]) (pc := 8) C (mX12_within _ er3) zm_X12_within zs_X12_within ml_RX12_203 ⟨Nat.le_of_ble_eq_true rfl, Nat.le_of_ble_eq_true rfl⟩ rfl rfl (Nat.le_of_ble_eq_true rfl) dX12_span_8 ?_
  show V K 11 [some (.ref 0), some (.int a1), some (.int a2), some (.int a3), some (.int a4), none] [.int r3] S2
  refine V_if_eq (tgt := 34) (pc := 11) C dX12_span_11 (by decide) (fun hc => ?_) (fun hc => ?_)
  · have h := it_t hc h
    refine V_aload_n (pc := 34) C dX12_span_34 rfl rfl ?_
    refine V_iconst (pc := 35) C dX12_span_35 kc_i_2 ?_
    obtain ⟨r4, S5, er4, h⟩ := b2_some h
    refine V_callV (As := [.int (2 : Int32)]) (pc := 36) C (mX12_no _ er4) zm_X12_no zi_X12_no ml_RX12_214 z1_mW_12 rfl ⟨Nat.le_of_ble_eq_true rfl, Nat.le_of_ble_eq_true rfl⟩ rfl rfl (Nat.le_of_ble_eq_true rfl) dX12_span_36 ?_
    show V K 39 [some (.ref 0), some (.int a1), some (.int a2), some (.int a3), some (.int a4), none] [.int r4] S5
    cases h
    exact hR 39 _ ⟨_, rfl, rfl⟩ dX12_span_39
  · have h := it_f hc h
    refine V_iload_n (pc := 14) C dX12_span_14 rfl rfl ?_
    refine V_iconst (pc := 15) C dX12_span_15 kc_i_1 ?_
    refine V_sipush (pc := 16) C dX12_span_16 kc_s_10000 ?_
    obtain ⟨r6, er6, h⟩ := b1_some h
    refine V_callS (As := [.int a3, .int (1 : Int32), .int (10000 : Int32)]) (pc := 19) C (mX12_within _ er6) zm_X12_within zs_X12_within ml_RX12_203 ⟨Nat.le_of_ble_eq_true rfl, Nat.le_of_ble_eq_true rfl⟩ rfl rfl (Nat.le_of_ble_eq_true rfl) dX12_span_19 ?_
    show V K 22 [some (.ref 0), some (.int a1), some (.int a2), some (.int a3), some (.int a4), none] [.int r6] S2
    refine V_if_eq (tgt := 34) (pc := 22) C dX12_span_22 (by decide) (fun hc => ?_) (fun hc => ?_)
    · have h := it_t hc h
      refine V_aload_n (pc := 34) C dX12_span_34 rfl rfl ?_
      refine V_iconst (pc := 35) C dX12_span_35 kc_i_2 ?_
      obtain ⟨r7, S8, er7, h⟩ := b2_some h
      refine V_callV (As := [.int (2 : Int32)]) (pc := 36) C (mX12_no _ er7) zm_X12_no zi_X12_no ml_RX12_214 z1_mW_12 rfl ⟨Nat.le_of_ble_eq_true rfl, Nat.le_of_ble_eq_true rfl⟩ rfl rfl (Nat.le_of_ble_eq_true rfl) dX12_span_36 ?_
      show V K 39 [some (.ref 0), some (.int a1), some (.int a2), some (.int a3), some (.int a4), none] [.int r7] S8
      cases h
      exact hR 39 _ ⟨_, rfl, rfl⟩ dX12_span_39
    · have h := it_f hc h
      refine V_iload_n (pc := 25) C dX12_span_25 rfl rfl ?_
      refine V_iconst (pc := 26) C dX12_span_26 kc_i_0 ?_
      refine V_iload_n (pc := 27) C dX12_span_27 rfl rfl ?_
      obtain ⟨r9, er9, h⟩ := b1_some h
      refine V_callS (As := [.int a2, .int (0 : Int32), .int a3]) (pc := 28) C (mX12_within _ er9) zm_X12_within zs_X12_within ml_RX12_203 ⟨Nat.le_of_ble_eq_true rfl, Nat.le_of_ble_eq_true rfl⟩ rfl rfl (Nat.le_of_ble_eq_true rfl) dX12_span_28 ?_
      show V K 31 [some (.ref 0), some (.int a1), some (.int a2), some (.int a3), some (.int a4), none] [.int r9] S2
      refine V_if_ne (tgt := 40) (pc := 31) C dX12_span_31 (by decide) (fun hc => ?_) (fun hc => ?_)
      · have h := it_f hc h
        refine V_aload_n (pc := 40) C dX12_span_40 rfl rfl ?_
        refine V_iload_n (pc := 41) C dX12_span_41 rfl rfl ?_
        refine V_iload_n (pc := 42) C dX12_span_42 rfl rfl ?_
        refine V_iload_n (pc := 43) C dX12_span_43 rfl rfl ?_
        refine V_iload (pc := 44) C dX12_span_44 rfl ?_
        obtain ⟨r10, S11, er10, h⟩ := b2_some h
        refine V_callV (As := [.int a1, .int a2, .int a3, .int a4]) (pc := 46) C (mX12_spanOf _ er10) zm_X12_spanOf zi_X12_spanOf ml_RX12_436 z1_mW_12 rfl ⟨Nat.le_of_ble_eq_true rfl, Nat.le_of_ble_eq_true rfl⟩ rfl rfl (Nat.le_of_ble_eq_true rfl) dX12_span_46 ?_
        show V K 49 [some (.ref 0), some (.int a1), some (.int a2), some (.int a3), some (.int a4), none] [.int r10] S11
        refine V_istore (L' := [some (.ref 0), some (.int a1), some (.int a2), some (.int a3), some (.int a4), some (.int r10)]) (pc := 49) C dX12_span_49 (by decide) rfl ?_
        refine V_iload (pc := 51) C dX12_span_51 rfl ?_
        refine V_if_ge (tgt := 65) (pc := 53) C dX12_span_53 (by decide) (fun hc => ?_) (fun hc => ?_)
        · have h := it_t hc h
          refine V_iload (pc := 65) C dX12_span_65 rfl ?_
          cases h
          exact hR 67 _ ⟨_, rfl, rfl⟩ dX12_span_67
        · have h := it_f hc h
          refine V_aload_n (pc := 56) C dX12_span_56 rfl rfl ?_
          refine V_bipush (pc := 57) C dX12_span_57 kc_b_6 ?_
          obtain ⟨r12, S13, er12, h⟩ := b2_some h
          refine V_callV (As := [.int (6 : Int32)]) (pc := 59) C (mX12_no _ er12) zm_X12_no zi_X12_no ml_RX12_214 z1_mW_12 rfl ⟨Nat.le_of_ble_eq_true rfl, Nat.le_of_ble_eq_true rfl⟩ rfl rfl (Nat.le_of_ble_eq_true rfl) dX12_span_59 ?_
          show V K 62 [some (.ref 0), some (.int a1), some (.int a2), some (.int a3), some (.int a4), some (.int r10)] [.int r12] S13
          refine V_goto (tgt := 67) (pc := 62) C dX12_span_62 (by decide) ?_
          cases h
          exact hR 67 _ ⟨_, rfl, rfl⟩ dX12_span_67
      · have h := it_t hc h
        refine V_aload_n (pc := 34) C dX12_span_34 rfl rfl ?_
        refine V_iconst (pc := 35) C dX12_span_35 kc_i_2 ?_
        obtain ⟨r14, S15, er14, h⟩ := b2_some h
        refine V_callV (As := [.int (2 : Int32)]) (pc := 36) C (mX12_no _ er14) zm_X12_no zi_X12_no ml_RX12_214 z1_mW_12 rfl ⟨Nat.le_of_ble_eq_true rfl, Nat.le_of_ble_eq_true rfl⟩ rfl rfl (Nat.le_of_ble_eq_true rfl) dX12_span_36 ?_
        show V K 39 [some (.ref 0), some (.int a1), some (.int a2), some (.int a3), some (.int a4), none] [.int r14] S15
        cases h
        exact hR 39 _ ⟨_, rfl, rfl⟩ dX12_span_39
set_option maxRecDepth 100000 in
theorem mX12_lays_L43 {K : zK} (C : zC K cX12_lays yX12_lays.cls 6 0 0 mW) {S : zM} {v1 : Int32} {v2 : Int32} {v3 : Int32}  : ∀ (f : Nat) (v4 : Int32) (o4 : Int32), gX12_lays_L43 S v1 v2 v3 f v4 = some o4 → V K 106 [some (.ref 0), some (.int v1), some (.int v2), some (.int v3), some (.int o4), none] [] S → V K 43 [some (.ref 0), some (.int v1), some (.int v2), some (.int v3), some (.int v4), none] [] S := by
  intro f
  induction f with
  | zero => intro v4 o4 h hx; cases h
  | succ n ih =>
    intro v4 o4 h hx
    unfold gX12_lays_L43 at h
    refine V_iload (pc := 43) C dX12_lays_43 rfl ?_
    refine V_aload_n (pc := 45) C dX12_lays_45 rfl rfl ?_
    refine V_getI (pc := 46) C z1_mW_12 fl_RX12_440 (by decide) dX12_lays_46 ?_
    refine V_icmp_ge (tgt := 106) (pc := 49) C dX12_lays_49 (by decide) (fun hc => ?_) (fun hc => ?_)
    · have h := it_t hc h
      cases h
      exact V_mask [true, true, true, true, true, false] hx
    · have h := it_f hc h
      refine V_aload_n (pc := 52) C dX12_lays_52 rfl rfl ?_
      refine V_getF (p1 := 20) (pc := 53) C z1_mW_12 fl_RX12_71 rfl (zf_mW_12_35 z1_mW_12) dX12_lays_53 ?_
      refine V_iload (pc := 56) C dX12_lays_56 rfl ?_
      obtain ⟨k4, h⟩ := ck_some h
      refine V_iald (pc := 58) C (za_mW_12_35 z1_mW_12) k4 dX12_lays_58 ?_
      refine V_aload_n (pc := 59) C dX12_lays_59 rfl rfl ?_
      refine V_getF (p1 := 9) (pc := 60) C z1_mW_12 fl_RX12_38 rfl (zf_mW_12_23 z1_mW_12) dX12_lays_60 ?_
      refine V_iload_n (pc := 63) C dX12_lays_63 rfl rfl ?_
      obtain ⟨k5, h⟩ := ck_some h
      refine V_iald (pc := 64) C (za_mW_12_23 z1_mW_12) k5 dX12_lays_64 ?_
      refine V_icmp_ne (tgt := 100) (pc := 65) C dX12_lays_65 (by decide) (fun hc => ?_) (fun hc => ?_)
      · have h := it_f hc h
        refine V_iinc (L' := [some (.ref 0), some (.int v1), some (.int v2), some (.int v3), some (.int (v4 + (1 : Int32))), none]) (v := (v4 + (1 : Int32))) (pc := 100) C dX12_lays_100 rfl (congrArg (v4 + ·) kc_i_1) (by decide) rfl ?_
        refine V_goto (tgt := 43) (pc := 103) C dX12_lays_103 (by decide) ?_
        exact V_mask [true, true, true, true, true, false] (ih _ _ h hx)
      · have h := it_t hc h
        refine V_aload_n (pc := 68) C dX12_lays_68 rfl rfl ?_
        refine V_getF (p1 := 21) (pc := 69) C z1_mW_12 fl_RX12_74 rfl (zf_mW_12_36 z1_mW_12) dX12_lays_69 ?_
        refine V_iload (pc := 72) C dX12_lays_72 rfl ?_
        obtain ⟨k6, h⟩ := ck_some h
        refine V_iald (pc := 74) C (za_mW_12_36 z1_mW_12) k6 dX12_lays_74 ?_
        refine V_aload_n (pc := 75) C dX12_lays_75 rfl rfl ?_
        refine V_getF (p1 := 10) (pc := 76) C z1_mW_12 fl_RX12_41 rfl (zf_mW_12_24 z1_mW_12) dX12_lays_76 ?_
        refine V_iload_n (pc := 79) C dX12_lays_79 rfl rfl ?_
        obtain ⟨k7, h⟩ := ck_some h
        refine V_iald (pc := 80) C (za_mW_12_24 z1_mW_12) k7 dX12_lays_80 ?_
        refine V_icmp_ne (tgt := 100) (pc := 81) C dX12_lays_81 (by decide) (fun hc => ?_) (fun hc => ?_)
        · have h := it_f hc h
          refine V_iinc (L' := [some (.ref 0), some (.int v1), some (.int v2), some (.int v3), some (.int (v4 + (1 : Int32))), none]) (v := (v4 + (1 : Int32))) (pc := 100) C dX12_lays_100 rfl (congrArg (v4 + ·) kc_i_1) (by decide) rfl ?_
          refine V_goto (tgt := 43) (pc := 103) C dX12_lays_103 (by decide) ?_
          exact V_mask [true, true, true, true, true, false] (ih _ _ h hx)
        · have h := it_t hc h
          refine V_aload_n (pc := 84) C dX12_lays_84 rfl rfl ?_
          refine V_getF (p1 := 22) (pc := 85) C z1_mW_12 fl_RX12_77 rfl (zf_mW_12_37 z1_mW_12) dX12_lays_85 ?_
          refine V_iload (pc := 88) C dX12_lays_88 rfl ?_
          obtain ⟨k8, h⟩ := ck_some h
          refine V_iald (pc := 90) C (za_mW_12_37 z1_mW_12) k8 dX12_lays_90 ?_
          refine V_aload_n (pc := 91) C dX12_lays_91 rfl rfl ?_
          refine V_getF (p1 := 11) (pc := 92) C z1_mW_12 fl_RX12_44 rfl (zf_mW_12_25 z1_mW_12) dX12_lays_92 ?_
          refine V_iload_n (pc := 95) C dX12_lays_95 rfl rfl ?_
          obtain ⟨k9, h⟩ := ck_some h
          refine V_iald (pc := 96) C (za_mW_12_25 z1_mW_12) k9 dX12_lays_96 ?_
          refine V_icmp_eq (tgt := 106) (pc := 97) C dX12_lays_97 (by decide) (fun hc => ?_) (fun hc => ?_)
          · have h := it_t hc h
            cases h
            exact V_mask [true, true, true, true, true, false] hx
          · have h := it_f hc h
            refine V_iinc (L' := [some (.ref 0), some (.int v1), some (.int v2), some (.int v3), some (.int (v4 + (1 : Int32))), none]) (v := (v4 + (1 : Int32))) (pc := 100) C dX12_lays_100 rfl (congrArg (v4 + ·) kc_i_1) (by decide) rfl ?_
            refine V_goto (tgt := 43) (pc := 103) C dX12_lays_103 (by decide) ?_
            exact V_mask [true, true, true, true, true, false] (ih _ _ h hx)
set_option maxRecDepth 100000 in
theorem mX12_lays_L165 {K : zK} (C : zC K cX12_lays yX12_lays.cls 6 0 0 mW) {v1 : Int32} {v2 : Int32} {v3 : Int32} {v4 : Int32}  : ∀ (f : Nat) (S : zM) (v5 : Int32) (S' : zM), gX12_lays_L165 v1 v2 v3 v4 f S v5 = some S' → V K 190 [some (.ref 0), some (.int v1), some (.int v2), some (.int v3), some (.int v4), none] [] S' → V K 165 [some (.ref 0), some (.int v1), some (.int v2), some (.int v3), some (.int v4), some (.int v5)] [] S := by
  intro f
  induction f with
  | zero => intro S v5 S' h hx; cases h
  | succ n ih =>
    intro S v5 S' h hx
    unfold gX12_lays_L165 at h
    refine V_iload (pc := 165) C dX12_lays_165 rfl ?_
    refine V_iconst (pc := 167) C dX12_lays_167 kc_i_3 ?_
    refine V_icmp_ge (tgt := 190) (pc := 168) C dX12_lays_168 (by decide) (fun hc => ?_) (fun hc => ?_)
    · have h := it_t hc h
      cases h
      exact V_mask [true, true, true, true, true, false] hx
    · have h := it_f hc h
      refine V_aload_n (pc := 171) C dX12_lays_171 rfl rfl ?_
      refine V_getF (p1 := 24) (pc := 172) C z1_mW_12 fl_RX12_83 rfl (zf_mW_12_39 z1_mW_12) dX12_lays_172 ?_
      refine V_iconst (pc := 175) C dX12_lays_175 kc_i_3 ?_
      refine V_iload (pc := 176) C dX12_lays_176 rfl ?_
      refine V_imul (pc := 178) C dX12_lays_178 ?_
      refine V_iload (pc := 179) C dX12_lays_179 rfl ?_
      refine V_iadd (pc := 181) C dX12_lays_181 ?_
      refine V_iconst (pc := 182) C dX12_lays_182 kc_i_0 ?_
      obtain ⟨k26, h⟩ := ck_some h
      refine V_iast (pc := 183) C (za_mW_12_39 z1_mW_12) k26 dX12_lays_183 ?_
      refine V_iinc (L' := [some (.ref 0), some (.int v1), some (.int v2), some (.int v3), some (.int v4), some (.int (v5 + (1 : Int32)))]) (v := (v5 + (1 : Int32))) (pc := 184) C dX12_lays_184 rfl (congrArg (v5 + ·) kc_i_1) (by decide) rfl ?_
      refine V_goto (tgt := 165) (pc := 187) C dX12_lays_187 (by decide) ?_
      exact V_mask [true, true, true, true, true, true] (ih _ _ _ h hx)
set_option maxRecDepth 100000 in
theorem mX12_lays_J200 {K : zK} (C : zC K cX12_lays yX12_lays.cls 6 0 0 mW) {S : zM} {v1 : Int32} {v2 : Int32} {v3 : Int32} {v4 : Int32} {out : (Int32 × zM) ⊕ (Int32 × Int32 × zM)}  (h : gX12_lays_J200 S v1 v2 v3 v4 = some out) (hb : ∀ (b2 : Int32) (b3 : Int32) (S' : zM), out = .inr (b2, b3, S') → V K 9 [some (.ref 0), some (.int v1), some (.int b2), some (.int b3), none, none] [] S') : V K 200 [some (.ref 0), some (.int v1), some (.int v2), some (.int v3), some (.int v4), none] [] S := by
  unfold gX12_lays_J200 at h
  refine V_aload_n (pc := 200) C dX12_lays_200 rfl rfl ?_
  refine V_getF (p1 := 23) (pc := 201) C z1_mW_12 fl_RX12_80 rfl (zf_mW_12_38 z1_mW_12) dX12_lays_201 ?_
  refine V_iload (pc := 204) C dX12_lays_204 rfl ?_
  refine V_dup2 (pc := 206) C dX12_lays_206 rfl rfl ?_
  obtain ⟨k28, h⟩ := ck_some h
  refine V_iald (pc := 207) C (za_mW_12_38 z1_mW_12) k28 dX12_lays_207 ?_
  refine V_iconst (pc := 208) C dX12_lays_208 kc_i_1 ?_
  refine V_iadd (pc := 209) C dX12_lays_209 ?_
  obtain ⟨k29, h⟩ := ck_some h
  refine V_iast (pc := 210) C (za_mW_12_38 z1_mW_12) k29 dX12_lays_210 ?_
  refine V_aload_n (pc := 211) C dX12_lays_211 rfl rfl ?_
  refine V_getF (p1 := 24) (pc := 212) C z1_mW_12 fl_RX12_83 rfl (zf_mW_12_39 z1_mW_12) dX12_lays_212 ?_
  refine V_iconst (pc := 215) C dX12_lays_215 kc_i_3 ?_
  refine V_iload (pc := 216) C dX12_lays_216 rfl ?_
  refine V_imul (pc := 218) C dX12_lays_218 ?_
  refine V_aload_n (pc := 219) C dX12_lays_219 rfl rfl ?_
  refine V_getF (p1 := 13) (pc := 220) C z1_mW_12 fl_RX12_50 rfl (zf_mW_12_27 z1_mW_12) dX12_lays_220 ?_
  refine V_iload_n (pc := 223) C dX12_lays_223 rfl rfl ?_
  obtain ⟨k30, h⟩ := ck_some h
  refine V_iald (pc := 224) C (za_mW_12_27 z1_mW_12) k30 dX12_lays_224 ?_
  refine V_iadd (pc := 225) C dX12_lays_225 ?_
  refine V_dup2 (pc := 226) C dX12_lays_226 rfl rfl ?_
  obtain ⟨k31, h⟩ := ck_some h
  refine V_iald (pc := 227) C (za_mW_12_39 z1_mW_12) k31 dX12_lays_227 ?_
  refine V_iconst (pc := 228) C dX12_lays_228 kc_i_1 ?_
  refine V_iadd (pc := 229) C dX12_lays_229 ?_
  obtain ⟨k32, h⟩ := ck_some h
  refine V_iast (pc := 230) C (za_mW_12_39 z1_mW_12) k32 dX12_lays_230 ?_
  obtain ⟨S33, eS33, h⟩ := lt_some h
  refine V_nmS eS33 ?_
  refine V_iload_n (pc := 231) C dX12_lays_231 rfl rfl ?_
  refine V_if_eq (tgt := 251) (pc := 232) C dX12_lays_232 (by decide) (fun hc => ?_) (fun hc => ?_)
  · have h := it_t hc h
    refine V_iconst (pc := 251) C dX12_lays_251 kc_i_0 ?_
    refine V_istore_n (L' := [some (.ref 0), some (.int v1), some (.int (0 : Int32)), some (.int v3), some (.int v4), none]) (pc := 252) C dX12_lays_252 rfl (by decide) rfl ?_
    refine V_iinc (L' := [some (.ref 0), some (.int v1), some (.int (0 : Int32)), some (.int (v3 + (1 : Int32))), some (.int v4), none]) (v := (v3 + (1 : Int32))) (pc := 253) C dX12_lays_253 rfl (congrArg (v3 + ·) kc_i_1) (by decide) rfl ?_
    refine V_goto (tgt := 9) (pc := 256) C dX12_lays_256 (by decide) ?_
    cases h
    exact V_mask [true, true, true, true, false, false] (hb _ _ _ rfl)
  · have h := it_f hc h
    refine V_aload_n (pc := 235) C dX12_lays_235 rfl rfl ?_
    refine V_getF (p1 := 23) (pc := 236) C z1_mW_12 fl_RX12_80 rfl (zf_mW_12_38 z1_mW_12) dX12_lays_236 ?_
    refine V_iload (pc := 239) C dX12_lays_239 rfl ?_
    obtain ⟨k34, h⟩ := ck_some h
    refine V_iald (pc := 241) C (za_mW_12_38 z1_mW_12) k34 dX12_lays_241 ?_
    refine V_bipush (pc := 242) C dX12_lays_242 kc_b_40 ?_
    refine V_icmp_gt (tgt := 251) (pc := 244) C dX12_lays_244 (by decide) (fun hc => ?_) (fun hc => ?_)
    · have h := it_t hc h
      refine V_iconst (pc := 251) C dX12_lays_251 kc_i_0 ?_
      refine V_istore_n (L' := [some (.ref 0), some (.int v1), some (.int (0 : Int32)), some (.int v3), some (.int v4), none]) (pc := 252) C dX12_lays_252 rfl (by decide) rfl ?_
      refine V_iinc (L' := [some (.ref 0), some (.int v1), some (.int (0 : Int32)), some (.int (v3 + (1 : Int32))), some (.int v4), none]) (v := (v3 + (1 : Int32))) (pc := 253) C dX12_lays_253 rfl (congrArg (v3 + ·) kc_i_1) (by decide) rfl ?_
      refine V_goto (tgt := 9) (pc := 256) C dX12_lays_256 (by decide) ?_
      cases h
      exact V_mask [true, true, true, true, false, false] (hb _ _ _ rfl)
    · have h := it_f hc h
      refine V_iconst (pc := 247) C dX12_lays_247 kc_i_1 ?_
      refine V_goto (tgt := 252) (pc := 248) C dX12_lays_248 (by decide) ?_
      refine V_istore_n (L' := [some (.ref 0), some (.int v1), some (.int (1 : Int32)), some (.int v3), some (.int v4), none]) (pc := 252) C dX12_lays_252 rfl (by decide) rfl ?_
      refine V_iinc (L' := [some (.ref 0), some (.int v1), some (.int (1 : Int32)), some (.int (v3 + (1 : Int32))), some (.int v4), none]) (v := (v3 + (1 : Int32))) (pc := 253) C dX12_lays_253 rfl (congrArg (v3 + ·) kc_i_1) (by decide) rfl ?_
      refine V_goto (tgt := 9) (pc := 256) C dX12_lays_256 (by decide) ?_
      cases h
      exact V_mask [true, true, true, true, false, false] (hb _ _ _ rfl)
set_option maxRecDepth 100000 in
theorem mX12_lays_L9 {K : zK} (C : zC K cX12_lays yX12_lays.cls 6 0 0 mW) {v1 : Int32}  : ∀ (f : Nat) (S : zM) (v2 : Int32) (v3 : Int32) (r : Int32) (S' : zM), gX12_lays_L9 v1 f S v2 v3 = some (r, S') → zR K cX12_lays (some .boolean) S' (some (.int r)) → V K 9 [some (.ref 0), some (.int v1), some (.int v2), some (.int v3), none, none] [] S := by
  intro f
  induction f with
  | zero => intro S v2 v3 r S' h hR; cases h
  | succ n ih =>
    intro S v2 v3 r S' h hR
    unfold gX12_lays_L9 at h
    refine V_iload_n (pc := 9) C dX12_lays_9 rfl rfl ?_
    refine V_aload_n (pc := 10) C dX12_lays_10 rfl rfl ?_
    refine V_getI (pc := 11) C z1_mW_12 fl_RX12_226 (by decide) dX12_lays_11 ?_
    refine V_icmp_ge (tgt := 259) (pc := 14) C dX12_lays_14 (by decide) (fun hc => ?_) (fun hc => ?_)
    · have h := it_t hc h
      refine V_iload_n (pc := 259) C dX12_lays_259 rfl rfl ?_
      obtain ⟨k1, h⟩ := ck_some h
      cases h
      exact hR 260 _ ⟨_, rfl, isB_nar k1⟩ dX12_lays_260
    · have h := it_f hc h
      refine V_aload_n (pc := 17) C dX12_lays_17 rfl rfl ?_
      refine V_getF (p1 := 8) (pc := 18) C z1_mW_12 fl_RX12_35 rfl (zf_mW_12_22 z1_mW_12) dX12_lays_18 ?_
      refine V_iload_n (pc := 21) C dX12_lays_21 rfl rfl ?_
      obtain ⟨k2, h⟩ := ck_some h
      refine V_iald (pc := 22) C (za_mW_12_22 z1_mW_12) k2 dX12_lays_22 ?_
      refine V_iload_n (pc := 23) C dX12_lays_23 rfl rfl ?_
      refine V_icmp_ne (tgt := 253) (pc := 24) C dX12_lays_24 (by decide) (fun hc => ?_) (fun hc => ?_)
      · have h := it_f hc h
        refine V_iinc (L' := [some (.ref 0), some (.int v1), some (.int v2), some (.int (v3 + (1 : Int32))), none, none]) (v := (v3 + (1 : Int32))) (pc := 253) C dX12_lays_253 rfl (congrArg (v3 + ·) kc_i_1) (by decide) rfl ?_
        refine V_goto (tgt := 9) (pc := 256) C dX12_lays_256 (by decide) ?_
        exact V_mask [true, true, true, true, false, false] (ih _ _ _ _ _ h hR)
      · have h := it_t hc h
        refine V_aload_n (pc := 27) C dX12_lays_27 rfl rfl ?_
        refine V_getF (p1 := 9) (pc := 28) C z1_mW_12 fl_RX12_38 rfl (zf_mW_12_23 z1_mW_12) dX12_lays_28 ?_
        refine V_iload_n (pc := 31) C dX12_lays_31 rfl rfl ?_
        obtain ⟨k3, h⟩ := ck_some h
        refine V_iald (pc := 32) C (za_mW_12_23 z1_mW_12) k3 dX12_lays_32 ?_
        refine V_iconst (pc := 33) C dX12_lays_33 kc_i_1 ?_
        refine V_icmp_le (tgt := 40) (pc := 34) C dX12_lays_34 (by decide) (fun hc => ?_) (fun hc => ?_)
        · have h := it_t hc h
          refine V_iconst (pc := 40) C dX12_lays_40 kc_i_0 ?_
          refine V_istore (L' := [some (.ref 0), some (.int v1), some (.int v2), some (.int v3), some (.int (0 : Int32)), none]) (pc := 41) C dX12_lays_41 (by decide) rfl ?_
          obtain ⟨w10, e43, h⟩ := b1_some h
          refine V_mask [true, true, true, true, true, false] (mX12_lays_L43 C  FU _ _ e43 ?_)
          refine V_iload (pc := 106) C dX12_lays_106 rfl ?_
          refine V_aload_n (pc := 108) C dX12_lays_108 rfl rfl ?_
          refine V_getI (pc := 109) C z1_mW_12 fl_RX12_440 (by decide) dX12_lays_109 ?_
          refine V_icmp_ne (tgt := 200) (pc := 112) C dX12_lays_112 (by decide) (fun hc => ?_) (fun hc => ?_)
          · have h := it_f hc h
            refine V_aload_n (pc := 200) C dX12_lays_200 rfl rfl ?_
            refine V_getF (p1 := 23) (pc := 201) C z1_mW_12 fl_RX12_80 rfl (zf_mW_12_38 z1_mW_12) dX12_lays_201 ?_
            refine V_iload (pc := 204) C dX12_lays_204 rfl ?_
            refine V_dup2 (pc := 206) C dX12_lays_206 rfl rfl ?_
            obtain ⟨k11, h⟩ := ck_some h
            refine V_iald (pc := 207) C (za_mW_12_38 z1_mW_12) k11 dX12_lays_207 ?_
            refine V_iconst (pc := 208) C dX12_lays_208 kc_i_1 ?_
            refine V_iadd (pc := 209) C dX12_lays_209 ?_
            obtain ⟨k12, h⟩ := ck_some h
            refine V_iast (pc := 210) C (za_mW_12_38 z1_mW_12) k12 dX12_lays_210 ?_
            refine V_aload_n (pc := 211) C dX12_lays_211 rfl rfl ?_
            refine V_getF (p1 := 24) (pc := 212) C z1_mW_12 fl_RX12_83 rfl (zf_mW_12_39 z1_mW_12) dX12_lays_212 ?_
            refine V_iconst (pc := 215) C dX12_lays_215 kc_i_3 ?_
            refine V_iload (pc := 216) C dX12_lays_216 rfl ?_
            refine V_imul (pc := 218) C dX12_lays_218 ?_
            refine V_aload_n (pc := 219) C dX12_lays_219 rfl rfl ?_
            refine V_getF (p1 := 13) (pc := 220) C z1_mW_12 fl_RX12_50 rfl (zf_mW_12_27 z1_mW_12) dX12_lays_220 ?_
            refine V_iload_n (pc := 223) C dX12_lays_223 rfl rfl ?_
            obtain ⟨k13, h⟩ := ck_some h
            refine V_iald (pc := 224) C (za_mW_12_27 z1_mW_12) k13 dX12_lays_224 ?_
            refine V_iadd (pc := 225) C dX12_lays_225 ?_
            refine V_dup2 (pc := 226) C dX12_lays_226 rfl rfl ?_
            obtain ⟨k14, h⟩ := ck_some h
            refine V_iald (pc := 227) C (za_mW_12_39 z1_mW_12) k14 dX12_lays_227 ?_
            refine V_iconst (pc := 228) C dX12_lays_228 kc_i_1 ?_
            refine V_iadd (pc := 229) C dX12_lays_229 ?_
            obtain ⟨k15, h⟩ := ck_some h
            refine V_iast (pc := 230) C (za_mW_12_39 z1_mW_12) k15 dX12_lays_230 ?_
            obtain ⟨S16, eS16, h⟩ := lt_some h
            refine V_nmS eS16 ?_
            refine V_iload_n (pc := 231) C dX12_lays_231 rfl rfl ?_
            refine V_if_eq (tgt := 251) (pc := 232) C dX12_lays_232 (by decide) (fun hc => ?_) (fun hc => ?_)
            · have h := it_t hc h
              refine V_iconst (pc := 251) C dX12_lays_251 kc_i_0 ?_
              refine V_istore_n (L' := [some (.ref 0), some (.int v1), some (.int (0 : Int32)), some (.int v3), some (.int w10), none]) (pc := 252) C dX12_lays_252 rfl (by decide) rfl ?_
              refine V_iinc (L' := [some (.ref 0), some (.int v1), some (.int (0 : Int32)), some (.int (v3 + (1 : Int32))), some (.int w10), none]) (v := (v3 + (1 : Int32))) (pc := 253) C dX12_lays_253 rfl (congrArg (v3 + ·) kc_i_1) (by decide) rfl ?_
              refine V_goto (tgt := 9) (pc := 256) C dX12_lays_256 (by decide) ?_
              exact V_mask [true, true, true, true, false, false] (ih _ _ _ _ _ h hR)
            · have h := it_f hc h
              refine V_aload_n (pc := 235) C dX12_lays_235 rfl rfl ?_
              refine V_getF (p1 := 23) (pc := 236) C z1_mW_12 fl_RX12_80 rfl (zf_mW_12_38 z1_mW_12) dX12_lays_236 ?_
              refine V_iload (pc := 239) C dX12_lays_239 rfl ?_
              obtain ⟨k17, h⟩ := ck_some h
              refine V_iald (pc := 241) C (za_mW_12_38 z1_mW_12) k17 dX12_lays_241 ?_
              refine V_bipush (pc := 242) C dX12_lays_242 kc_b_40 ?_
              refine V_icmp_gt (tgt := 251) (pc := 244) C dX12_lays_244 (by decide) (fun hc => ?_) (fun hc => ?_)
              · have h := it_t hc h
                refine V_iconst (pc := 251) C dX12_lays_251 kc_i_0 ?_
                refine V_istore_n (L' := [some (.ref 0), some (.int v1), some (.int (0 : Int32)), some (.int v3), some (.int w10), none]) (pc := 252) C dX12_lays_252 rfl (by decide) rfl ?_
                refine V_iinc (L' := [some (.ref 0), some (.int v1), some (.int (0 : Int32)), some (.int (v3 + (1 : Int32))), some (.int w10), none]) (v := (v3 + (1 : Int32))) (pc := 253) C dX12_lays_253 rfl (congrArg (v3 + ·) kc_i_1) (by decide) rfl ?_
                refine V_goto (tgt := 9) (pc := 256) C dX12_lays_256 (by decide) ?_
                exact V_mask [true, true, true, true, false, false] (ih _ _ _ _ _ h hR)
              · have h := it_f hc h
                refine V_iconst (pc := 247) C dX12_lays_247 kc_i_1 ?_
                refine V_goto (tgt := 252) (pc := 248) C dX12_lays_248 (by decide) ?_
                refine V_istore_n (L' := [some (.ref 0), some (.int v1), some (.int (1 : Int32)), some (.int v3), some (.int w10), none]) (pc := 252) C dX12_lays_252 rfl (by decide) rfl ?_
                refine V_iinc (L' := [some (.ref 0), some (.int v1), some (.int (1 : Int32)), some (.int (v3 + (1 : Int32))), some (.int w10), none]) (v := (v3 + (1 : Int32))) (pc := 253) C dX12_lays_253 rfl (congrArg (v3 + ·) kc_i_1) (by decide) rfl ?_
                refine V_goto (tgt := 9) (pc := 256) C dX12_lays_256 (by decide) ?_
                exact V_mask [true, true, true, true, false, false] (ih _ _ _ _ _ h hR)
          · have h := it_t hc h
            refine V_aload_n (pc := 115) C dX12_lays_115 rfl rfl ?_
            refine V_getF (p1 := 20) (pc := 116) C z1_mW_12 fl_RX12_71 rfl (zf_mW_12_35 z1_mW_12) dX12_lays_116 ?_
            refine V_iload (pc := 119) C dX12_lays_119 rfl ?_
            refine V_aload_n (pc := 121) C dX12_lays_121 rfl rfl ?_
            refine V_getF (p1 := 9) (pc := 122) C z1_mW_12 fl_RX12_38 rfl (zf_mW_12_23 z1_mW_12) dX12_lays_122 ?_
            refine V_iload_n (pc := 125) C dX12_lays_125 rfl rfl ?_
            obtain ⟨k18, h⟩ := ck_some h
            refine V_iald (pc := 126) C (za_mW_12_23 z1_mW_12) k18 dX12_lays_126 ?_
            obtain ⟨k19, h⟩ := ck_some h
            refine V_iast (pc := 127) C (za_mW_12_35 z1_mW_12) k19 dX12_lays_127 ?_
            refine V_aload_n (pc := 128) C dX12_lays_128 rfl rfl ?_
            refine V_getF (p1 := 21) (pc := 129) C z1_mW_12 fl_RX12_74 rfl (zf_mW_12_36 z1_mW_12) dX12_lays_129 ?_
            refine V_iload (pc := 132) C dX12_lays_132 rfl ?_
            refine V_aload_n (pc := 134) C dX12_lays_134 rfl rfl ?_
            refine V_getF (p1 := 10) (pc := 135) C z1_mW_12 fl_RX12_41 rfl (zf_mW_12_24 z1_mW_12) dX12_lays_135 ?_
            refine V_iload_n (pc := 138) C dX12_lays_138 rfl rfl ?_
            obtain ⟨k20, h⟩ := ck_some h
            refine V_iald (pc := 139) C (za_mW_12_24 z1_mW_12) k20 dX12_lays_139 ?_
            obtain ⟨k21, h⟩ := ck_some h
            refine V_iast (pc := 140) C (za_mW_12_36 z1_mW_12) k21 dX12_lays_140 ?_
            obtain ⟨S22, eS22, h⟩ := lt_some h
            refine V_nmS eS22 ?_
            refine V_aload_n (pc := 141) C dX12_lays_141 rfl rfl ?_
            refine V_getF (p1 := 22) (pc := 142) C z1_mW_12 fl_RX12_77 rfl (zf_mW_12_37 z1_mW_12) dX12_lays_142 ?_
            refine V_iload (pc := 145) C dX12_lays_145 rfl ?_
            refine V_aload_n (pc := 147) C dX12_lays_147 rfl rfl ?_
            refine V_getF (p1 := 11) (pc := 148) C z1_mW_12 fl_RX12_44 rfl (zf_mW_12_25 z1_mW_12) dX12_lays_148 ?_
            refine V_iload_n (pc := 151) C dX12_lays_151 rfl rfl ?_
            obtain ⟨k23, h⟩ := ck_some h
            refine V_iald (pc := 152) C (za_mW_12_25 z1_mW_12) k23 dX12_lays_152 ?_
            obtain ⟨k24, h⟩ := ck_some h
            refine V_iast (pc := 153) C (za_mW_12_37 z1_mW_12) k24 dX12_lays_153 ?_
            refine V_aload_n (pc := 154) C dX12_lays_154 rfl rfl ?_
            refine V_getF (p1 := 23) (pc := 155) C z1_mW_12 fl_RX12_80 rfl (zf_mW_12_38 z1_mW_12) dX12_lays_155 ?_
            refine V_iload (pc := 158) C dX12_lays_158 rfl ?_
            refine V_iconst (pc := 160) C dX12_lays_160 kc_i_0 ?_
            obtain ⟨k25, h⟩ := ck_some h
            refine V_iast (pc := 161) C (za_mW_12_38 z1_mW_12) k25 dX12_lays_161 ?_
            refine V_iconst (pc := 162) C dX12_lays_162 kc_i_0 ?_
            refine V_istore (L' := [some (.ref 0), some (.int v1), some (.int v2), some (.int v3), some (.int w10), some (.int (0 : Int32))]) (pc := 163) C dX12_lays_163 (by decide) rfl ?_
            obtain ⟨S27, e165, h⟩ := b1_some h
            refine V_mask [true, true, true, true, true, true] (mX12_lays_L165 C  FU _ _ _ e165 ?_)
            refine V_aload_n (pc := 190) C dX12_lays_190 rfl rfl ?_
            refine V_dup (pc := 191) C dX12_lays_191 rfl ?_
            refine V_getI (pc := 192) C z1_mW_12 fl_RX12_440 (by decide) dX12_lays_192 ?_
            refine V_iconst (pc := 195) C dX12_lays_195 kc_i_1 ?_
            refine V_iadd (pc := 196) C dX12_lays_196 ?_
            refine V_putI (pc := 197) C z1_mW_12 fp_RX12_440 rfl rfl dX12_lays_197 ?_
            obtain ⟨out', e200, hi, hb⟩ := lm_some h
            refine V_mask [true, true, true, true, true, false] (mX12_lays_J200 C  e200 ?_)
            · intro v2 v3 S eo
              have h := hb _ eo
              exact ih _ _ _ _ _ h hR
        · have h := it_f hc h
          refine V_goto (tgt := 253) (pc := 37) C dX12_lays_37 (by decide) ?_
          refine V_iinc (L' := [some (.ref 0), some (.int v1), some (.int v2), some (.int (v3 + (1 : Int32))), none, none]) (v := (v3 + (1 : Int32))) (pc := 253) C dX12_lays_253 rfl (congrArg (v3 + ·) kc_i_1) (by decide) rfl ?_
          refine V_goto (tgt := 9) (pc := 256) C dX12_lays_256 (by decide) ?_
          exact V_mask [true, true, true, true, false, false] (ih _ _ _ _ _ h hR)
set_option maxRecDepth 100000 in
theorem mX12_lays (l : Launch) {S : zM} {a1 : Int32} {r : Int32} {S' : zM}  (h : gX12_lays S a1 = some (r, S')) : zMet l mW zS0 yX12_lays cX12_lays 6 (some .boolean) 0 0 [.ref 0, .int a1] S (some (.int r)) S' := by
  refine zmeth (by decide +kernel) (by rfl) (fun K hKl C hR => ?_)
  show V K 0 [some (.ref 0), some (.int a1), none, none, none, none] [] S
  unfold gX12_lays at h
  refine V_aload_n (pc := 0) C dX12_lays_0 rfl rfl ?_
  refine V_iconst (pc := 1) C dX12_lays_1 kc_i_0 ?_
  refine V_putI (pc := 2) C z1_mW_12 fp_RX12_440 rfl rfl dX12_lays_2 ?_
  refine V_iconst (pc := 5) C dX12_lays_5 kc_i_1 ?_
  refine V_istore_n (L' := [some (.ref 0), some (.int a1), some (.int (1 : Int32)), none, none, none]) (pc := 6) C dX12_lays_6 rfl (by decide) rfl ?_
  refine V_iconst (pc := 7) C dX12_lays_7 kc_i_0 ?_
  refine V_istore_n (L' := [some (.ref 0), some (.int a1), some (.int (1 : Int32)), some (.int (0 : Int32)), none, none]) (pc := 8) C dX12_lays_8 rfl (by decide) rfl ?_
  exact V_mask [true, true, true, true, false, false] (mX12_lays_L9 C  FU _ _ _ _ _ h hR)
set_option maxRecDepth 100000 in
theorem mX12_letsLine_L52 {K : zK} (C : zC K cX12_letsLine yX12_letsLine.cls 8 3 77 mW) {S : zM} {v1 : Int32} {v2 : Int32} {v3 : Int32} {v5 : Int32}  : ∀ (f : Nat) (v6 : Int32) (v7 : Int32) (o6 : Int32), gX12_letsLine_L52 S v1 v2 v3 v5 f v6 v7 = some o6 → V K 104 [some (.ref 0), some (.int v1), some (.int v2), some (.int v3), none, some (.int v5), some (.int o6), none] [] S → V K 52 [some (.ref 0), some (.int v1), some (.int v2), some (.int v3), none, some (.int v5), some (.int v6), some (.int v7)] [] S := by
  intro f
  induction f with
  | zero => intro v6 v7 o6 h hx; cases h
  | succ n ih =>
    intro v6 v7 o6 h hx
    unfold gX12_letsLine_L52 at h
    refine V_iload (pc := 52) C dX12_letsLine_52 rfl ?_
    refine V_iconst (pc := 54) C dX12_letsLine_54 kc_i_5 ?_
    refine V_icmp_gt (tgt := 104) (pc := 55) C dX12_letsLine_55 (by decide) (fun hc => ?_) (fun hc => ?_)
    · have h := it_t hc h
      cases h
      exact V_mask [true, true, true, true, false, true, true, false] hx
    · have h := it_f hc h
      refine V_iload (pc := 58) C dX12_letsLine_58 rfl ?_
      refine V_aload_n (pc := 60) C dX12_letsLine_60 rfl rfl ?_
      refine V_iload_n (pc := 61) C dX12_letsLine_61 rfl rfl ?_
      refine V_aload_n (pc := 62) C dX12_letsLine_62 rfl rfl ?_
      refine V_getF (p1 := 21) (pc := 63) C z1_mW_12 fl_RX12_74 rfl (zf_mW_12_36 z1_mW_12) dX12_letsLine_63 ?_
      refine V_iload (pc := 66) C dX12_letsLine_66 rfl ?_
      obtain ⟨k6, h⟩ := ck_some h
      refine V_iald (pc := 68) C (za_mW_12_36 z1_mW_12) k6 dX12_letsLine_68 ?_
      obtain ⟨r7, er7, h⟩ := b1_some h
      refine V_callV (As := [.int v1, .int (gI S 21 (ix v5))]) (pc := 69) C (mX12_levelOf _ er7) zm_X12_levelOf zi_X12_levelOf ml_RX12_330 z1_mW_12 rfl ⟨Nat.le_of_ble_eq_true rfl, Nat.le_of_ble_eq_true rfl⟩ rfl rfl (Nat.le_of_ble_eq_true rfl) dX12_letsLine_69 ?_
      show V K 72 [some (.ref 0), some (.int v1), some (.int v2), some (.int v3), none, some (.int v5), some (.int v6), some (.int v7)] [.int r7, .int v6] S
      refine V_iload (pc := 72) C dX12_letsLine_72 rfl ?_
      refine V_iadd (pc := 74) C dX12_letsLine_74 ?_
      refine V_iload_n (pc := 75) C dX12_letsLine_75 rfl rfl ?_
      refine V_icmp_le (tgt := 94) (pc := 76) C dX12_letsLine_76 (by decide) (fun hc => ?_) (fun hc => ?_)
      · have h := it_t hc h
        refine V_iconst (pc := 94) C dX12_letsLine_94 kc_i_0 ?_
        refine V_iadd (pc := 95) C dX12_letsLine_95 ?_
        refine V_istore (L' := [some (.ref 0), some (.int v1), some (.int v2), some (.int v3), none, some (.int v5), some (.int (v6 + (0 : Int32))), some (.int v7)]) (pc := 96) C dX12_letsLine_96 (by decide) rfl ?_
        refine V_iinc (L' := [some (.ref 0), some (.int v1), some (.int v2), some (.int v3), none, some (.int v5), some (.int (v6 + (0 : Int32))), some (.int (v7 + (1 : Int32)))]) (v := (v7 + (1 : Int32))) (pc := 98) C dX12_letsLine_98 rfl (congrArg (v7 + ·) kc_i_1) (by decide) rfl ?_
        refine V_goto (tgt := 52) (pc := 101) C dX12_letsLine_101 (by decide) ?_
        exact V_mask [true, true, true, true, false, true, true, true] (ih _ _ _ h hx)
      · have h := it_f hc h
        refine V_aload_n (pc := 79) C dX12_letsLine_79 rfl rfl ?_
        refine V_iload_n (pc := 80) C dX12_letsLine_80 rfl rfl ?_
        refine V_iload (pc := 81) C dX12_letsLine_81 rfl ?_
        refine V_aload_n (pc := 83) C dX12_letsLine_83 rfl rfl ?_
        refine V_iload_n (pc := 84) C dX12_letsLine_84 rfl rfl ?_
        obtain ⟨r8, er8, h⟩ := b1_some h
        refine V_callV (As := [.int v1]) (pc := 85) C (mX12_fullOf _ er8) zm_X12_fullOf zi_X12_fullOf ml_RX12_443 z1_mW_12 rfl ⟨Nat.le_of_ble_eq_true rfl, Nat.le_of_ble_eq_true rfl⟩ rfl rfl (Nat.le_of_ble_eq_true rfl) dX12_letsLine_85 ?_
        show V K 88 [some (.ref 0), some (.int v1), some (.int v2), some (.int v3), none, some (.int v5), some (.int v6), some (.int v7)] [.int r8, .int v7, .int v1, .ref 0, .int v6] S
        obtain ⟨r9, er9, h⟩ := b1_some h
        refine V_callV (As := [.int v1, .int v7, .int r8]) (pc := 88) C (mX12_often _ er9) zm_X12_often zi_X12_often ml_RX12_309 z1_mW_12 rfl ⟨Nat.le_of_ble_eq_true rfl, Nat.le_of_ble_eq_true rfl⟩ rfl rfl (Nat.le_of_ble_eq_true rfl) dX12_letsLine_88 ?_
        show V K 91 [some (.ref 0), some (.int v1), some (.int v2), some (.int v3), none, some (.int v5), some (.int v6), some (.int v7)] [.int r9, .int v6] S
        refine V_goto (tgt := 95) (pc := 91) C dX12_letsLine_91 (by decide) ?_
        refine V_iadd (pc := 95) C dX12_letsLine_95 ?_
        refine V_istore (L' := [some (.ref 0), some (.int v1), some (.int v2), some (.int v3), none, some (.int v5), some (.int (v6 + r9)), some (.int v7)]) (pc := 96) C dX12_letsLine_96 (by decide) rfl ?_
        refine V_iinc (L' := [some (.ref 0), some (.int v1), some (.int v2), some (.int v3), none, some (.int v5), some (.int (v6 + r9)), some (.int (v7 + (1 : Int32)))]) (v := (v7 + (1 : Int32))) (pc := 98) C dX12_letsLine_98 rfl (congrArg (v7 + ·) kc_i_1) (by decide) rfl ?_
        refine V_goto (tgt := 52) (pc := 101) C dX12_letsLine_101 (by decide) ?_
        exact V_mask [true, true, true, true, false, true, true, true] (ih _ _ _ h hx)
set_option maxRecDepth 100000 in
theorem mX12_letsLine_L17 {K : zK} (C : zC K cX12_letsLine yX12_letsLine.cls 8 3 77 mW) {v1 : Int32} {v2 : Int32} {v3 : Int32}  : ∀ (f : Nat) (S : zM) (v4 : Int32) (v5 : Int32) (r : Int32) (S' : zM), gX12_letsLine_L17 v1 v2 v3 f S v4 v5 = some (r, S') → zR K cX12_letsLine (some .boolean) S' (some (.int r)) → V K 17 [some (.ref 0), some (.int v1), some (.int v2), some (.int v3), some (.int v4), some (.int v5), none, none] [] S := by
  intro f
  induction f with
  | zero => intro S v4 v5 r S' h hR; cases h
  | succ n ih =>
    intro S v4 v5 r S' h hR
    unfold gX12_letsLine_L17 at h
    refine V_iload (pc := 17) C dX12_letsLine_17 rfl ?_
    refine V_aload_n (pc := 19) C dX12_letsLine_19 rfl rfl ?_
    refine V_getI (pc := 20) C z1_mW_12 fl_RX12_440 (by decide) dX12_letsLine_20 ?_
    refine V_icmp_ge (tgt := 173) (pc := 23) C dX12_letsLine_23 (by decide) (fun hc => ?_) (fun hc => ?_)
    · have h := it_t hc h
      refine V_iload (pc := 173) C dX12_letsLine_173 rfl ?_
      obtain ⟨k3, h⟩ := ck_some h
      cases h
      exact hR 175 _ ⟨_, rfl, isB_nar k3⟩ dX12_letsLine_175
    · have h := it_f hc h
      refine V_iload (pc := 26) C dX12_letsLine_26 rfl ?_
      refine V_if_eq (tgt := 173) (pc := 28) C dX12_letsLine_28 (by decide) (fun hc => ?_) (fun hc => ?_)
      · have h := it_t hc h
        refine V_iload (pc := 173) C dX12_letsLine_173 rfl ?_
        obtain ⟨k4, h⟩ := ck_some h
        cases h
        exact hR 175 _ ⟨_, rfl, isB_nar k4⟩ dX12_letsLine_175
      · have h := it_f hc h
        refine V_aload_n (pc := 31) C dX12_letsLine_31 rfl rfl ?_
        refine V_getF (p1 := 20) (pc := 32) C z1_mW_12 fl_RX12_71 rfl (zf_mW_12_35 z1_mW_12) dX12_letsLine_32 ?_
        refine V_iload (pc := 35) C dX12_letsLine_35 rfl ?_
        obtain ⟨k5, h⟩ := ck_some h
        refine V_iald (pc := 37) C (za_mW_12_35 z1_mW_12) k5 dX12_letsLine_37 ?_
        refine V_iconst (pc := 38) C dX12_letsLine_38 kc_i_1 ?_
        refine V_icmp_eq (tgt := 45) (pc := 39) C dX12_letsLine_39 (by decide) (fun hc => ?_) (fun hc => ?_)
        · have h := it_t hc h
          refine V_iconst (pc := 45) C dX12_letsLine_45 kc_i_0 ?_
          refine V_istore (L' := [some (.ref 0), some (.int v1), some (.int v2), some (.int v3), some (.int v4), some (.int v5), some (.int (0 : Int32)), none]) (pc := 46) C dX12_letsLine_46 (by decide) rfl ?_
          refine V_bipush (pc := 48) C dX12_letsLine_48 kc_b_m5 ?_
          refine V_istore (L' := [some (.ref 0), some (.int v1), some (.int v2), some (.int v3), some (.int v4), some (.int v5), some (.int (0 : Int32)), some (.int (-5 : Int32))]) (pc := 50) C dX12_letsLine_50 (by decide) rfl ?_
          obtain ⟨w10, e52, h⟩ := b1_some h
          refine V_mask [true, true, true, true, false, true, true, true] (mX12_letsLine_L52 C  FU _ _ _ e52 ?_)
          refine V_aload_n (pc := 104) C dX12_letsLine_104 rfl rfl ?_
          refine V_aload_n (pc := 105) C dX12_letsLine_105 rfl rfl ?_
          refine V_getF (p1 := 23) (pc := 106) C z1_mW_12 fl_RX12_80 rfl (zf_mW_12_38 z1_mW_12) dX12_letsLine_106 ?_
          refine V_iload (pc := 109) C dX12_letsLine_109 rfl ?_
          obtain ⟨k11, h⟩ := ck_some h
          refine V_iald (pc := 111) C (za_mW_12_38 z1_mW_12) k11 dX12_letsLine_111 ?_
          refine V_iload (pc := 112) C dX12_letsLine_112 rfl ?_
          refine V_iload_n (pc := 114) C dX12_letsLine_114 rfl rfl ?_
          refine V_aload_n (pc := 115) C dX12_letsLine_115 rfl rfl ?_
          refine V_getF (p1 := 24) (pc := 116) C z1_mW_12 fl_RX12_83 rfl (zf_mW_12_39 z1_mW_12) dX12_letsLine_116 ?_
          refine V_iconst (pc := 119) C dX12_letsLine_119 kc_i_3 ?_
          refine V_iload (pc := 120) C dX12_letsLine_120 rfl ?_
          refine V_imul (pc := 122) C dX12_letsLine_122 ?_
          refine V_iconst (pc := 123) C dX12_letsLine_123 kc_i_1 ?_
          refine V_iadd (pc := 124) C dX12_letsLine_124 ?_
          obtain ⟨k12, h⟩ := ck_some h
          refine V_iald (pc := 125) C (za_mW_12_39 z1_mW_12) k12 dX12_letsLine_125 ?_
          obtain ⟨r13, S14, er13, h⟩ := b2_some h
          refine V_callV (As := [.int (gI S 23 (ix v5)), .int w10, .int v3, .int (gI S 24 (ix (((3 : Int32) * v5) + (1 : Int32))))]) (pc := 126) C (mX12_isIn _ er13) zm_X12_isIn zi_X12_isIn ml_RX12_432 z1_mW_12 rfl ⟨Nat.le_of_ble_eq_true rfl, Nat.le_of_ble_eq_true rfl⟩ rfl rfl (Nat.le_of_ble_eq_true rfl) dX12_letsLine_126 ?_
          show V K 129 [some (.ref 0), some (.int v1), some (.int v2), some (.int v3), none, some (.int v5), some (.int w10), none] [.int r13] S14
          refine V_if_eq (tgt := 164) (pc := 129) C dX12_letsLine_129 (by decide) (fun hc => ?_) (fun hc => ?_)
          · have h := it_t hc h
            refine V_iconst (pc := 164) C dX12_letsLine_164 kc_i_0 ?_
            refine V_istore (L' := [some (.ref 0), some (.int v1), some (.int v2), some (.int v3), some (.int (0 : Int32)), some (.int v5), some (.int w10), none]) (pc := 165) C dX12_letsLine_165 (by decide) rfl ?_
            refine V_iinc (L' := [some (.ref 0), some (.int v1), some (.int v2), some (.int v3), some (.int (0 : Int32)), some (.int (v5 + (1 : Int32))), some (.int w10), none]) (v := (v5 + (1 : Int32))) (pc := 167) C dX12_letsLine_167 rfl (congrArg (v5 + ·) kc_i_1) (by decide) rfl ?_
            refine V_goto (tgt := 17) (pc := 170) C dX12_letsLine_170 (by decide) ?_
            exact V_mask [true, true, true, true, true, true, false, false] (ih _ _ _ _ _ h hR)
          · have h := it_f hc h
            refine V_aload_n (pc := 132) C dX12_letsLine_132 rfl rfl ?_
            refine V_aload_n (pc := 133) C dX12_letsLine_133 rfl rfl ?_
            refine V_getF (p1 := 23) (pc := 134) C z1_mW_12 fl_RX12_80 rfl (zf_mW_12_38 z1_mW_12) dX12_letsLine_134 ?_
            refine V_iload (pc := 137) C dX12_letsLine_137 rfl ?_
            obtain ⟨k15, h⟩ := ck_some h
            refine V_iald (pc := 139) C (za_mW_12_38 z1_mW_12) k15 dX12_letsLine_139 ?_
            refine V_iload_n (pc := 140) C dX12_letsLine_140 rfl rfl ?_
            refine V_iload (pc := 141) C dX12_letsLine_141 rfl ?_
            refine V_isub (pc := 143) C dX12_letsLine_143 ?_
            refine V_iload_n (pc := 144) C dX12_letsLine_144 rfl rfl ?_
            refine V_aload_n (pc := 145) C dX12_letsLine_145 rfl rfl ?_
            refine V_getF (p1 := 24) (pc := 146) C z1_mW_12 fl_RX12_83 rfl (zf_mW_12_39 z1_mW_12) dX12_letsLine_146 ?_
            refine V_iconst (pc := 149) C dX12_letsLine_149 kc_i_3 ?_
            refine V_iload (pc := 150) C dX12_letsLine_150 rfl ?_
            refine V_imul (pc := 152) C dX12_letsLine_152 ?_
            obtain ⟨k16, h⟩ := ck_some h
            refine V_iald (pc := 153) C (za_mW_12_39 z1_mW_12) k16 dX12_letsLine_153 ?_
            obtain ⟨r17, S18, er17, h⟩ := b2_some h
            refine V_callV (As := [.int (gI S14 23 (ix v5)), .int (v3 - w10), .int v3, .int (gI S14 24 (ix ((3 : Int32) * v5)))]) (pc := 154) C (mX12_isIn _ er17) zm_X12_isIn zi_X12_isIn ml_RX12_432 z1_mW_12 rfl ⟨Nat.le_of_ble_eq_true rfl, Nat.le_of_ble_eq_true rfl⟩ rfl rfl (Nat.le_of_ble_eq_true rfl) dX12_letsLine_154 ?_
            show V K 157 [some (.ref 0), some (.int v1), some (.int v2), some (.int v3), none, some (.int v5), some (.int w10), none] [.int r17] S18
            refine V_if_eq (tgt := 164) (pc := 157) C dX12_letsLine_157 (by decide) (fun hc => ?_) (fun hc => ?_)
            · have h := it_t hc h
              refine V_iconst (pc := 164) C dX12_letsLine_164 kc_i_0 ?_
              refine V_istore (L' := [some (.ref 0), some (.int v1), some (.int v2), some (.int v3), some (.int (0 : Int32)), some (.int v5), some (.int w10), none]) (pc := 165) C dX12_letsLine_165 (by decide) rfl ?_
              refine V_iinc (L' := [some (.ref 0), some (.int v1), some (.int v2), some (.int v3), some (.int (0 : Int32)), some (.int (v5 + (1 : Int32))), some (.int w10), none]) (v := (v5 + (1 : Int32))) (pc := 167) C dX12_letsLine_167 rfl (congrArg (v5 + ·) kc_i_1) (by decide) rfl ?_
              refine V_goto (tgt := 17) (pc := 170) C dX12_letsLine_170 (by decide) ?_
              exact V_mask [true, true, true, true, true, true, false, false] (ih _ _ _ _ _ h hR)
            · have h := it_f hc h
              refine V_iconst (pc := 160) C dX12_letsLine_160 kc_i_1 ?_
              refine V_goto (tgt := 165) (pc := 161) C dX12_letsLine_161 (by decide) ?_
              refine V_istore (L' := [some (.ref 0), some (.int v1), some (.int v2), some (.int v3), some (.int (1 : Int32)), some (.int v5), some (.int w10), none]) (pc := 165) C dX12_letsLine_165 (by decide) rfl ?_
              refine V_iinc (L' := [some (.ref 0), some (.int v1), some (.int v2), some (.int v3), some (.int (1 : Int32)), some (.int (v5 + (1 : Int32))), some (.int w10), none]) (v := (v5 + (1 : Int32))) (pc := 167) C dX12_letsLine_167 rfl (congrArg (v5 + ·) kc_i_1) (by decide) rfl ?_
              refine V_goto (tgt := 17) (pc := 170) C dX12_letsLine_170 (by decide) ?_
              exact V_mask [true, true, true, true, true, true, false, false] (ih _ _ _ _ _ h hR)
        · have h := it_f hc h
          refine V_goto (tgt := 167) (pc := 42) C dX12_letsLine_42 (by decide) ?_
          refine V_iinc (L' := [some (.ref 0), some (.int v1), some (.int v2), some (.int v3), some (.int v4), some (.int (v5 + (1 : Int32))), none, none]) (v := (v5 + (1 : Int32))) (pc := 167) C dX12_letsLine_167 rfl (congrArg (v5 + ·) kc_i_1) (by decide) rfl ?_
          refine V_goto (tgt := 17) (pc := 170) C dX12_letsLine_170 (by decide) ?_
          exact V_mask [true, true, true, true, true, true, false, false] (ih _ _ _ _ _ h hR)
set_option maxRecDepth 100000 in
theorem mX12_letsLine (l : Launch) {S : zM} {a1 : Int32} {a2 : Int32} {r : Int32} {S' : zM}  (h : gX12_letsLine S a1 a2 = some (r, S')) : zMet l mW zS0 yX12_letsLine cX12_letsLine 8 (some .boolean) 3 77 [.ref 0, .int a1, .int a2] S (some (.int r)) S' := by
  refine zmeth (by decide +kernel) (by rfl) (fun K hKl C hR => ?_)
  show V K 0 [some (.ref 0), some (.int a1), some (.int a2), none, none, none, none, none] [] S
  unfold gX12_letsLine at h
  refine V_aload_n (pc := 0) C dX12_letsLine_0 rfl rfl ?_
  refine V_iload_n (pc := 1) C dX12_letsLine_1 rfl rfl ?_
  refine V_aload_n (pc := 2) C dX12_letsLine_2 rfl rfl ?_
  refine V_iload_n (pc := 3) C dX12_letsLine_3 rfl rfl ?_
  obtain ⟨r1, er1, h⟩ := b1_some h
  refine V_callV (As := [.int a1]) (pc := 4) C (mX12_fullOf _ er1) zm_X12_fullOf zi_X12_fullOf ml_RX12_443 z1_mW_12 rfl ⟨Nat.le_of_ble_eq_true rfl, Nat.le_of_ble_eq_true rfl⟩ rfl rfl (Nat.le_of_ble_eq_true rfl) dX12_letsLine_4 ?_
  show V K 7 [some (.ref 0), some (.int a1), some (.int a2), none, none, none, none, none] [.int r1, .int a1, .ref 0] S
  obtain ⟨r2, er2, h⟩ := b1_some h
  refine V_callV (As := [.int a1, .int r1]) (pc := 7) C (mX12_all _ er2) zm_X12_all zi_X12_all ml_RX12_324 z1_mW_12 rfl ⟨Nat.le_of_ble_eq_true rfl, Nat.le_of_ble_eq_true rfl⟩ rfl rfl (Nat.le_of_ble_eq_true rfl) dX12_letsLine_7 ?_
  show V K 10 [some (.ref 0), some (.int a1), some (.int a2), none, none, none, none, none] [.int r2] S
  refine V_istore_n (L' := [some (.ref 0), some (.int a1), some (.int a2), some (.int r2), none, none, none, none]) (pc := 10) C dX12_letsLine_10 rfl (by decide) rfl ?_
  refine V_iconst (pc := 11) C dX12_letsLine_11 kc_i_1 ?_
  refine V_istore (L' := [some (.ref 0), some (.int a1), some (.int a2), some (.int r2), some (.int (1 : Int32)), none, none, none]) (pc := 12) C dX12_letsLine_12 (by decide) rfl ?_
  refine V_iconst (pc := 14) C dX12_letsLine_14 kc_i_0 ?_
  refine V_istore (L' := [some (.ref 0), some (.int a1), some (.int a2), some (.int r2), some (.int (1 : Int32)), some (.int (0 : Int32)), none, none]) (pc := 15) C dX12_letsLine_15 (by decide) rfl ?_
  exact V_mask [true, true, true, true, true, true, false, false] (mX12_letsLine_L17 C  FU _ _ _ _ _ h hR)
set_option maxRecDepth 100000 in
theorem mX12_pairs_L3 {K : zK} (C : zC K cX12_pairs yX12_pairs.cls 8 1 24 mW) {v1 : Int32} {v2 : Int32} {v3 : Int32} {v4 : Int32}  : ∀ (f : Nat) (S : zM) (v5 : Int32) (S' : zM), gX12_pairs_L3 v1 v2 v3 v4 f S v5 = some S' → V K 23 [some (.ref 0), some (.int v1), some (.int v2), some (.int v3), some (.int v4), none, none, none] [] S' → V K 3 [some (.ref 0), some (.int v1), some (.int v2), some (.int v3), some (.int v4), some (.int v5), none, none] [] S := by
  intro f
  induction f with
  | zero => intro S v5 S' h hx; cases h
  | succ n ih =>
    intro S v5 S' h hx
    unfold gX12_pairs_L3 at h
    refine V_iload (pc := 3) C dX12_pairs_3 rfl ?_
    refine V_iconst (pc := 5) C dX12_pairs_5 kc_i_3 ?_
    refine V_icmp_ge (tgt := 23) (pc := 6) C dX12_pairs_6 (by decide) (fun hc => ?_) (fun hc => ?_)
    · have h := it_t hc h
      cases h
      exact V_mask [true, true, true, true, true, false, false, false] hx
    · have h := it_f hc h
      refine V_aload_n (pc := 9) C dX12_pairs_9 rfl rfl ?_
      refine V_getF (p1 := 25) (pc := 10) C z1_mW_12 fl_RX12_86 rfl (zf_mW_12_40 z1_mW_12) dX12_pairs_10 ?_
      refine V_iload (pc := 13) C dX12_pairs_13 rfl ?_
      refine V_iconst (pc := 15) C dX12_pairs_15 kc_i_0 ?_
      obtain ⟨k1, h⟩ := ck_some h
      refine V_iast (pc := 16) C (za_mW_12_40 z1_mW_12) k1 dX12_pairs_16 ?_
      refine V_iinc (L' := [some (.ref 0), some (.int v1), some (.int v2), some (.int v3), some (.int v4), some (.int (v5 + (1 : Int32))), none, none]) (v := (v5 + (1 : Int32))) (pc := 17) C dX12_pairs_17 rfl (congrArg (v5 + ·) kc_i_1) (by decide) rfl ?_
      refine V_goto (tgt := 3) (pc := 20) C dX12_pairs_20 (by decide) ?_
      exact V_mask [true, true, true, true, true, true, false, false] (ih _ _ _ h hx)
set_option maxRecDepth 100000 in
theorem mX12_pairs_L37 {K : zK} (C : zC K cX12_pairs yX12_pairs.cls 8 1 24 mW) {v1 : Int32} {v2 : Int32} {v3 : Int32} {v4 : Int32} {v5 : Int32}  : ∀ (f : Nat) (S : zM) (v6 : Int32) (S' : zM), gX12_pairs_L37 v1 v2 v3 v4 v5 f S v6 = some S' → V K 111 [some (.ref 0), some (.int v1), some (.int v2), some (.int v3), some (.int v4), some (.int v5), none, none] [] S' → V K 37 [some (.ref 0), some (.int v1), some (.int v2), some (.int v3), some (.int v4), some (.int v5), some (.int v6), none] [] S := by
  intro f
  induction f with
  | zero => intro S v6 S' h hx; cases h
  | succ n ih =>
    intro S v6 S' h hx
    unfold gX12_pairs_L37 at h
    refine V_iload (pc := 37) C dX12_pairs_37 rfl ?_
    refine V_iconst (pc := 39) C dX12_pairs_39 kc_i_5 ?_
    refine V_icmp_gt (tgt := 111) (pc := 40) C dX12_pairs_40 (by decide) (fun hc => ?_) (fun hc => ?_)
    · have h := it_t hc h
      cases h
      exact V_mask [true, true, true, true, true, true, false, false] hx
    · have h := it_f hc h
      refine V_aload_n (pc := 43) C dX12_pairs_43 rfl rfl ?_
      refine V_iload_n (pc := 44) C dX12_pairs_44 rfl rfl ?_
      refine V_iload_n (pc := 45) C dX12_pairs_45 rfl rfl ?_
      obtain ⟨r3, er3, h⟩ := b1_some h
      refine V_callV (As := [.int v1, .int v3]) (pc := 46) C (mX12_levelOf _ er3) zm_X12_levelOf zi_X12_levelOf ml_RX12_330 z1_mW_12 rfl ⟨Nat.le_of_ble_eq_true rfl, Nat.le_of_ble_eq_true rfl⟩ rfl rfl (Nat.le_of_ble_eq_true rfl) dX12_pairs_46 ?_
      show V K 49 [some (.ref 0), some (.int v1), some (.int v2), some (.int v3), some (.int v4), some (.int v5), some (.int v6), none] [.int r3] S
      refine V_iload (pc := 49) C dX12_pairs_49 rfl ?_
      refine V_iadd (pc := 51) C dX12_pairs_51 ?_
      refine V_iload (pc := 52) C dX12_pairs_52 rfl ?_
      refine V_iadd (pc := 54) C dX12_pairs_54 ?_
      refine V_aload_n (pc := 55) C dX12_pairs_55 rfl rfl ?_
      refine V_iload_n (pc := 56) C dX12_pairs_56 rfl rfl ?_
      refine V_iload_n (pc := 57) C dX12_pairs_57 rfl rfl ?_
      obtain ⟨r4, er4, h⟩ := b1_some h
      refine V_callV (As := [.int v1, .int v2]) (pc := 58) C (mX12_levelOf _ er4) zm_X12_levelOf zi_X12_levelOf ml_RX12_330 z1_mW_12 rfl ⟨Nat.le_of_ble_eq_true rfl, Nat.le_of_ble_eq_true rfl⟩ rfl rfl (Nat.le_of_ble_eq_true rfl) dX12_pairs_58 ?_
      show V K 61 [some (.ref 0), some (.int v1), some (.int v2), some (.int v3), some (.int v4), some (.int v5), some (.int v6), none] [.int r4, .int ((r3 + v6) + v4)] S
      refine V_isub (pc := 61) C dX12_pairs_61 ?_
      refine V_iload (pc := 62) C dX12_pairs_62 rfl ?_
      refine V_isub (pc := 64) C dX12_pairs_64 ?_
      obtain ⟨x5, ex5, h⟩ := lt_some h
      refine V_nmI ex5 ?_
      refine V_istore (L' := [some (.ref 0), some (.int v1), some (.int v2), some (.int v3), some (.int v4), some (.int v5), some (.int v6), some (.int x5)]) (pc := 65) C dX12_pairs_65 (by decide) rfl ?_
      refine V_aload_n (pc := 67) C dX12_pairs_67 rfl rfl ?_
      refine V_getF (p1 := 25) (pc := 68) C z1_mW_12 fl_RX12_86 rfl (zf_mW_12_40 z1_mW_12) dX12_pairs_68 ?_
      refine V_iload (pc := 71) C dX12_pairs_71 rfl ?_
      obtain ⟨r6, er6, h⟩ := b1_some h
      refine V_callS (As := [.int x5]) (pc := 73) C (mX12_ordered _ er6) zm_X12_ordered zs_X12_ordered ml_RX12_336 ⟨Nat.le_of_ble_eq_true rfl, Nat.le_of_ble_eq_true rfl⟩ rfl rfl (Nat.le_of_ble_eq_true rfl) dX12_pairs_73 ?_
      show V K 76 [some (.ref 0), some (.int v1), some (.int v2), some (.int v3), some (.int v4), some (.int v5), some (.int v6), some (.int x5)] [.int r6, .ref 25] S
      refine V_dup2 (pc := 76) C dX12_pairs_76 rfl rfl ?_
      obtain ⟨k7, h⟩ := ck_some h
      refine V_iald (pc := 77) C (za_mW_12_40 z1_mW_12) k7 dX12_pairs_77 ?_
      refine V_aload_n (pc := 78) C dX12_pairs_78 rfl rfl ?_
      refine V_iload_n (pc := 79) C dX12_pairs_79 rfl rfl ?_
      refine V_iload (pc := 80) C dX12_pairs_80 rfl ?_
      refine V_aload_n (pc := 82) C dX12_pairs_82 rfl rfl ?_
      refine V_iload_n (pc := 83) C dX12_pairs_83 rfl rfl ?_
      obtain ⟨r8, er8, h⟩ := b1_some h
      refine V_callV (As := [.int v1]) (pc := 84) C (mX12_fullOf _ er8) zm_X12_fullOf zi_X12_fullOf ml_RX12_443 z1_mW_12 rfl ⟨Nat.le_of_ble_eq_true rfl, Nat.le_of_ble_eq_true rfl⟩ rfl rfl (Nat.le_of_ble_eq_true rfl) dX12_pairs_84 ?_
      show V K 87 [some (.ref 0), some (.int v1), some (.int v2), some (.int v3), some (.int v4), some (.int v5), some (.int v6), some (.int x5)] [.int r8, .int v5, .int v1, .ref 0, .int (gI S 25 (ix r6)), .int r6, .ref 25] S
      obtain ⟨r9, er9, h⟩ := b1_some h
      refine V_callV (As := [.int v1, .int v5, .int r8]) (pc := 87) C (mX12_often _ er9) zm_X12_often zi_X12_often ml_RX12_309 z1_mW_12 rfl ⟨Nat.le_of_ble_eq_true rfl, Nat.le_of_ble_eq_true rfl⟩ rfl rfl (Nat.le_of_ble_eq_true rfl) dX12_pairs_87 ?_
      show V K 90 [some (.ref 0), some (.int v1), some (.int v2), some (.int v3), some (.int v4), some (.int v5), some (.int v6), some (.int x5)] [.int r9, .int (gI S 25 (ix r6)), .int r6, .ref 25] S
      refine V_aload_n (pc := 90) C dX12_pairs_90 rfl rfl ?_
      refine V_iload_n (pc := 91) C dX12_pairs_91 rfl rfl ?_
      refine V_iload (pc := 92) C dX12_pairs_92 rfl ?_
      refine V_aload_n (pc := 94) C dX12_pairs_94 rfl rfl ?_
      refine V_iload_n (pc := 95) C dX12_pairs_95 rfl rfl ?_
      obtain ⟨r10, er10, h⟩ := b1_some h
      refine V_callV (As := [.int v1]) (pc := 96) C (mX12_fullOf _ er10) zm_X12_fullOf zi_X12_fullOf ml_RX12_443 z1_mW_12 rfl ⟨Nat.le_of_ble_eq_true rfl, Nat.le_of_ble_eq_true rfl⟩ rfl rfl (Nat.le_of_ble_eq_true rfl) dX12_pairs_96 ?_
      show V K 99 [some (.ref 0), some (.int v1), some (.int v2), some (.int v3), some (.int v4), some (.int v5), some (.int v6), some (.int x5)] [.int r10, .int v6, .int v1, .ref 0, .int r9, .int (gI S 25 (ix r6)), .int r6, .ref 25] S
      obtain ⟨r11, er11, h⟩ := b1_some h
      refine V_callV (As := [.int v1, .int v6, .int r10]) (pc := 99) C (mX12_often _ er11) zm_X12_often zi_X12_often ml_RX12_309 z1_mW_12 rfl ⟨Nat.le_of_ble_eq_true rfl, Nat.le_of_ble_eq_true rfl⟩ rfl rfl (Nat.le_of_ble_eq_true rfl) dX12_pairs_99 ?_
      show V K 102 [some (.ref 0), some (.int v1), some (.int v2), some (.int v3), some (.int v4), some (.int v5), some (.int v6), some (.int x5)] [.int r11, .int r9, .int (gI S 25 (ix r6)), .int r6, .ref 25] S
      refine V_imul (pc := 102) C dX12_pairs_102 ?_
      refine V_iadd (pc := 103) C dX12_pairs_103 ?_
      obtain ⟨k12, h⟩ := ck_some h
      refine V_iast (pc := 104) C (za_mW_12_40 z1_mW_12) k12 dX12_pairs_104 ?_
      refine V_iinc (L' := [some (.ref 0), some (.int v1), some (.int v2), some (.int v3), some (.int v4), some (.int v5), some (.int (v6 + (1 : Int32))), some (.int x5)]) (v := (v6 + (1 : Int32))) (pc := 105) C dX12_pairs_105 rfl (congrArg (v6 + ·) kc_i_1) (by decide) rfl ?_
      refine V_goto (tgt := 37) (pc := 108) C dX12_pairs_108 (by decide) ?_
      exact V_mask [true, true, true, true, true, true, true, false] (ih _ _ _ h hx)
set_option maxRecDepth 100000 in
theorem mX12_pairs_L27 {K : zK} (C : zC K cX12_pairs yX12_pairs.cls 8 1 24 mW) {v1 : Int32} {v2 : Int32} {v3 : Int32} {v4 : Int32}  : ∀ (f : Nat) (S : zM) (v5 : Int32) (S' : zM), gX12_pairs_L27 v1 v2 v3 v4 f S v5 = some S' → zR K cX12_pairs (none) S' none → V K 27 [some (.ref 0), some (.int v1), some (.int v2), some (.int v3), some (.int v4), some (.int v5), none, none] [] S := by
  intro f
  induction f with
  | zero => intro S v5 S' h hR; cases h
  | succ n ih =>
    intro S v5 S' h hR
    unfold gX12_pairs_L27 at h
    refine V_iload (pc := 27) C dX12_pairs_27 rfl ?_
    refine V_iconst (pc := 29) C dX12_pairs_29 kc_i_5 ?_
    refine V_icmp_gt (tgt := 117) (pc := 30) C dX12_pairs_30 (by decide) (fun hc => ?_) (fun hc => ?_)
    · have h := it_t hc h
      cases h
      exact hR 117 _ rfl dX12_pairs_117
    · have h := it_f hc h
      refine V_bipush (pc := 33) C dX12_pairs_33 kc_b_m5 ?_
      refine V_istore (L' := [some (.ref 0), some (.int v1), some (.int v2), some (.int v3), some (.int v4), some (.int v5), some (.int (-5 : Int32)), none]) (pc := 35) C dX12_pairs_35 (by decide) rfl ?_
      obtain ⟨S13, e37, h⟩ := b1_some h
      refine V_mask [true, true, true, true, true, true, true, false] (mX12_pairs_L37 C  FU _ _ _ e37 ?_)
      refine V_iinc (L' := [some (.ref 0), some (.int v1), some (.int v2), some (.int v3), some (.int v4), some (.int (v5 + (1 : Int32))), none, none]) (v := (v5 + (1 : Int32))) (pc := 111) C dX12_pairs_111 rfl (congrArg (v5 + ·) kc_i_1) (by decide) rfl ?_
      refine V_goto (tgt := 27) (pc := 114) C dX12_pairs_114 (by decide) ?_
      exact V_mask [true, true, true, true, true, true, false, false] (ih _ _ _ h hR)
set_option maxRecDepth 100000 in
theorem mX12_pairs (l : Launch) {S : zM} {a1 : Int32} {a2 : Int32} {a3 : Int32} {a4 : Int32} {S' : zM}  (h : gX12_pairs S a1 a2 a3 a4 = some S') : zMet l mW zS0 yX12_pairs cX12_pairs 8 (none) 1 24 [.ref 0, .int a1, .int a2, .int a3, .int a4] S none S' := by
  refine zmeth (by decide +kernel) (by rfl) (fun K hKl C hR => ?_)
  show V K 0 [some (.ref 0), some (.int a1), some (.int a2), some (.int a3), some (.int a4), none, none, none] [] S
  unfold gX12_pairs at h
  refine V_iconst (pc := 0) C dX12_pairs_0 kc_i_0 ?_
  refine V_istore (L' := [some (.ref 0), some (.int a1), some (.int a2), some (.int a3), some (.int a4), some (.int (0 : Int32)), none, none]) (pc := 1) C dX12_pairs_1 (by decide) rfl ?_
  obtain ⟨S2, e3, h⟩ := b1_some h
  refine V_mask [true, true, true, true, true, true, false, false] (mX12_pairs_L3 C  FU _ _ _ e3 ?_)
  refine V_bipush (pc := 23) C dX12_pairs_23 kc_b_m5 ?_
  refine V_istore (L' := [some (.ref 0), some (.int a1), some (.int a2), some (.int a3), some (.int a4), some (.int (-5 : Int32)), none, none]) (pc := 25) C dX12_pairs_25 (by decide) rfl ?_
  exact V_mask [true, true, true, true, true, true, false, false] (mX12_pairs_L27 C  FU _ _ _ h hR)
set_option maxRecDepth 100000 in
theorem mX12_letsSecond_J198 {K : zK} (C : zC K cX12_letsSecond yX12_letsSecond.cls 11 3 77 mW) {S : zM} {v1 : Int32} {v2 : Int32} {v3 : Int32} {v4 : Int32} {v6 : Int32} {v7 : Int32} {v10 : Int32} {s0 : Int32} {out : (Int32 × zM) ⊕ (Int32 × Int32 × zM)}  (h : gX12_letsSecond_J198 S v1 v2 v3 v4 v6 v7 v10 s0 = some out) (hb : ∀ (b5 : Int32) (b6 : Int32) (S' : zM), out = .inr (b5, b6, S') → V K 18 [some (.ref 0), some (.int v1), some (.int v2), some (.int v3), some (.int v4), some (.int b5), some (.int b6), none, none, none, none] [] S') : V K 198 [some (.ref 0), some (.int v1), some (.int v2), some (.int v3), some (.int v4), none, some (.int v6), some (.int v7), none, none, some (.int v10)] [.int s0] S := by
  unfold gX12_letsSecond_J198 at h
  refine V_istore (L' := [some (.ref 0), some (.int v1), some (.int v2), some (.int v3), some (.int v4), some (.int s0), some (.int v6), some (.int v7), none, none, some (.int v10)]) (pc := 198) C dX12_letsSecond_198 (by decide) rfl ?_
  refine V_iload (pc := 200) C dX12_letsSecond_200 rfl ?_
  refine V_if_eq (tgt := 246) (pc := 202) C dX12_letsSecond_202 (by decide) (fun hc => ?_) (fun hc => ?_)
  · have h := it_t hc h
    refine V_iconst (pc := 246) C dX12_letsSecond_246 kc_i_0 ?_
    refine V_istore (L' := [some (.ref 0), some (.int v1), some (.int v2), some (.int v3), some (.int v4), some (.int (0 : Int32)), some (.int v6), some (.int v7), none, none, some (.int v10)]) (pc := 247) C dX12_letsSecond_247 (by decide) rfl ?_
    refine V_iinc (L' := [some (.ref 0), some (.int v1), some (.int v2), some (.int v3), some (.int v4), some (.int (0 : Int32)), some (.int (v6 + (1 : Int32))), some (.int v7), none, none, some (.int v10)]) (v := (v6 + (1 : Int32))) (pc := 249) C dX12_letsSecond_249 rfl (congrArg (v6 + ·) kc_i_1) (by decide) rfl ?_
    refine V_goto (tgt := 18) (pc := 252) C dX12_letsSecond_252 (by decide) ?_
    cases h
    exact V_mask [true, true, true, true, true, true, true, false, false, false, false] (hb _ _ _ rfl)
  · have h := it_f hc h
    refine V_iload (pc := 205) C dX12_letsSecond_205 rfl ?_
    refine V_if_ne (tgt := 242) (pc := 207) C dX12_letsSecond_207 (by decide) (fun hc => ?_) (fun hc => ?_)
    · have h := it_f hc h
      refine V_iconst (pc := 242) C dX12_letsSecond_242 kc_i_1 ?_
      refine V_goto (tgt := 247) (pc := 243) C dX12_letsSecond_243 (by decide) ?_
      refine V_istore (L' := [some (.ref 0), some (.int v1), some (.int v2), some (.int v3), some (.int v4), some (.int (1 : Int32)), some (.int v6), some (.int v7), none, none, some (.int v10)]) (pc := 247) C dX12_letsSecond_247 (by decide) rfl ?_
      refine V_iinc (L' := [some (.ref 0), some (.int v1), some (.int v2), some (.int v3), some (.int v4), some (.int (1 : Int32)), some (.int (v6 + (1 : Int32))), some (.int v7), none, none, some (.int v10)]) (v := (v6 + (1 : Int32))) (pc := 249) C dX12_letsSecond_249 rfl (congrArg (v6 + ·) kc_i_1) (by decide) rfl ?_
      refine V_goto (tgt := 18) (pc := 252) C dX12_letsSecond_252 (by decide) ?_
      cases h
      exact V_mask [true, true, true, true, true, true, true, false, false, false, false] (hb _ _ _ rfl)
    · have h := it_t hc h
      refine V_aload_n (pc := 210) C dX12_letsSecond_210 rfl rfl ?_
      refine V_aload_n (pc := 211) C dX12_letsSecond_211 rfl rfl ?_
      refine V_getF (p1 := 23) (pc := 212) C z1_mW_12 fl_RX12_80 rfl (zf_mW_12_38 z1_mW_12) dX12_letsSecond_212 ?_
      refine V_iload (pc := 215) C dX12_letsSecond_215 rfl ?_
      obtain ⟨k18, h⟩ := ck_some h
      refine V_iald (pc := 217) C (za_mW_12_38 z1_mW_12) k18 dX12_letsSecond_217 ?_
      refine V_iload (pc := 218) C dX12_letsSecond_218 rfl ?_
      refine V_iload (pc := 220) C dX12_letsSecond_220 rfl ?_
      refine V_iload (pc := 222) C dX12_letsSecond_222 rfl ?_
      refine V_imul (pc := 224) C dX12_letsSecond_224 ?_
      refine V_aload_n (pc := 225) C dX12_letsSecond_225 rfl rfl ?_
      refine V_getF (p1 := 24) (pc := 226) C z1_mW_12 fl_RX12_83 rfl (zf_mW_12_39 z1_mW_12) dX12_letsSecond_226 ?_
      refine V_iconst (pc := 229) C dX12_letsSecond_229 kc_i_3 ?_
      refine V_iload (pc := 230) C dX12_letsSecond_230 rfl ?_
      refine V_imul (pc := 232) C dX12_letsSecond_232 ?_
      refine V_iconst (pc := 233) C dX12_letsSecond_233 kc_i_2 ?_
      refine V_iadd (pc := 234) C dX12_letsSecond_234 ?_
      obtain ⟨k19, h⟩ := ck_some h
      refine V_iald (pc := 235) C (za_mW_12_39 z1_mW_12) k19 dX12_letsSecond_235 ?_
      obtain ⟨r20, S21, er20, h⟩ := b2_some h
      refine V_callV (As := [.int (gI S 23 (ix v6)), .int v10, .int (v4 * v4), .int (gI S 24 (ix (((3 : Int32) * v6) + (2 : Int32))))]) (pc := 236) C (mX12_isIn _ er20) zm_X12_isIn zi_X12_isIn ml_RX12_432 z1_mW_12 rfl ⟨Nat.le_of_ble_eq_true rfl, Nat.le_of_ble_eq_true rfl⟩ rfl rfl (Nat.le_of_ble_eq_true rfl) dX12_letsSecond_236 ?_
      show V K 239 [some (.ref 0), some (.int v1), some (.int v2), some (.int v3), some (.int v4), some (.int s0), some (.int v6), some (.int v7), none, none, some (.int v10)] [.int r20] S21
      refine V_if_eq (tgt := 246) (pc := 239) C dX12_letsSecond_239 (by decide) (fun hc => ?_) (fun hc => ?_)
      · have h := it_t hc h
        refine V_iconst (pc := 246) C dX12_letsSecond_246 kc_i_0 ?_
        refine V_istore (L' := [some (.ref 0), some (.int v1), some (.int v2), some (.int v3), some (.int v4), some (.int (0 : Int32)), some (.int v6), some (.int v7), none, none, some (.int v10)]) (pc := 247) C dX12_letsSecond_247 (by decide) rfl ?_
        refine V_iinc (L' := [some (.ref 0), some (.int v1), some (.int v2), some (.int v3), some (.int v4), some (.int (0 : Int32)), some (.int (v6 + (1 : Int32))), some (.int v7), none, none, some (.int v10)]) (v := (v6 + (1 : Int32))) (pc := 249) C dX12_letsSecond_249 rfl (congrArg (v6 + ·) kc_i_1) (by decide) rfl ?_
        refine V_goto (tgt := 18) (pc := 252) C dX12_letsSecond_252 (by decide) ?_
        cases h
        exact V_mask [true, true, true, true, true, true, true, false, false, false, false] (hb _ _ _ rfl)
      · have h := it_f hc h
        refine V_iconst (pc := 242) C dX12_letsSecond_242 kc_i_1 ?_
        refine V_goto (tgt := 247) (pc := 243) C dX12_letsSecond_243 (by decide) ?_
        refine V_istore (L' := [some (.ref 0), some (.int v1), some (.int v2), some (.int v3), some (.int v4), some (.int (1 : Int32)), some (.int v6), some (.int v7), none, none, some (.int v10)]) (pc := 247) C dX12_letsSecond_247 (by decide) rfl ?_
        refine V_iinc (L' := [some (.ref 0), some (.int v1), some (.int v2), some (.int v3), some (.int v4), some (.int (1 : Int32)), some (.int (v6 + (1 : Int32))), some (.int v7), none, none, some (.int v10)]) (v := (v6 + (1 : Int32))) (pc := 249) C dX12_letsSecond_249 rfl (congrArg (v6 + ·) kc_i_1) (by decide) rfl ?_
        refine V_goto (tgt := 18) (pc := 252) C dX12_letsSecond_252 (by decide) ?_
        cases h
        exact V_mask [true, true, true, true, true, true, true, false, false, false, false] (hb _ _ _ rfl)
set_option maxRecDepth 100000 in
theorem mX12_letsSecond_J121 {K : zK} (C : zC K cX12_letsSecond yX12_letsSecond.cls 11 3 77 mW) {S : zM} {v1 : Int32} {v2 : Int32} {v3 : Int32} {v4 : Int32} {v6 : Int32} {v7 : Int32} {v8 : Int32} {s0 : Int32} {out : (Int32 × zM) ⊕ (Int32 × Int32 × zM)}  (h : gX12_letsSecond_J121 S v1 v2 v3 v4 v6 v7 v8 s0 = some out) (hb : ∀ (b5 : Int32) (b6 : Int32) (S' : zM), out = .inr (b5, b6, S') → V K 18 [some (.ref 0), some (.int v1), some (.int v2), some (.int v3), some (.int v4), some (.int b5), some (.int b6), none, none, none, none] [] S') : V K 121 [some (.ref 0), some (.int v1), some (.int v2), some (.int v3), some (.int v4), none, some (.int v6), some (.int v7), some (.int v8), none, none] [.int s0] S := by
  unfold gX12_letsSecond_J121 at h
  refine V_istore (L' := [some (.ref 0), some (.int v1), some (.int v2), some (.int v3), some (.int v4), none, some (.int v6), some (.int v7), some (.int v8), some (.int s0), none]) (pc := 121) C dX12_letsSecond_121 (by decide) rfl ?_
  refine V_aload_n (pc := 123) C dX12_letsSecond_123 rfl rfl ?_
  refine V_getF (p1 := 25) (pc := 124) C z1_mW_12 fl_RX12_86 rfl (zf_mW_12_40 z1_mW_12) dX12_letsSecond_124 ?_
  refine V_iconst (pc := 127) C dX12_letsSecond_127 kc_i_2 ?_
  obtain ⟨k13, h⟩ := ck_some h
  refine V_iald (pc := 128) C (za_mW_12_40 z1_mW_12) k13 dX12_letsSecond_128 ?_
  refine V_istore (L' := [some (.ref 0), some (.int v1), some (.int v2), some (.int v3), some (.int v4), none, some (.int v6), some (.int v7), some (.int v8), some (.int s0), some (.int (gI S 25 (ix (2 : Int32))))]) (pc := 129) C dX12_letsSecond_129 (by decide) rfl ?_
  refine V_aload_n (pc := 131) C dX12_letsSecond_131 rfl rfl ?_
  refine V_aload_n (pc := 132) C dX12_letsSecond_132 rfl rfl ?_
  refine V_getF (p1 := 23) (pc := 133) C z1_mW_12 fl_RX12_80 rfl (zf_mW_12_38 z1_mW_12) dX12_letsSecond_133 ?_
  refine V_iload (pc := 136) C dX12_letsSecond_136 rfl ?_
  obtain ⟨k14, h⟩ := ck_some h
  refine V_iald (pc := 138) C (za_mW_12_38 z1_mW_12) k14 dX12_letsSecond_138 ?_
  refine V_iload (pc := 139) C dX12_letsSecond_139 rfl ?_
  refine V_iload (pc := 141) C dX12_letsSecond_141 rfl ?_
  refine V_iload (pc := 143) C dX12_letsSecond_143 rfl ?_
  refine V_imul (pc := 145) C dX12_letsSecond_145 ?_
  refine V_aload_n (pc := 146) C dX12_letsSecond_146 rfl rfl ?_
  refine V_getF (p1 := 24) (pc := 147) C z1_mW_12 fl_RX12_83 rfl (zf_mW_12_39 z1_mW_12) dX12_letsSecond_147 ?_
  refine V_iconst (pc := 150) C dX12_letsSecond_150 kc_i_3 ?_
  refine V_iload (pc := 151) C dX12_letsSecond_151 rfl ?_
  refine V_imul (pc := 153) C dX12_letsSecond_153 ?_
  obtain ⟨k15, h⟩ := ck_some h
  refine V_iald (pc := 154) C (za_mW_12_39 z1_mW_12) k15 dX12_letsSecond_154 ?_
  obtain ⟨r16, S17, er16, h⟩ := b2_some h
  refine V_callV (As := [.int (gI S 23 (ix v6)), .int v8, .int (v4 * v4), .int (gI S 24 (ix ((3 : Int32) * v6)))]) (pc := 155) C (mX12_isIn _ er16) zm_X12_isIn zi_X12_isIn ml_RX12_432 z1_mW_12 rfl ⟨Nat.le_of_ble_eq_true rfl, Nat.le_of_ble_eq_true rfl⟩ rfl rfl (Nat.le_of_ble_eq_true rfl) dX12_letsSecond_155 ?_
  show V K 158 [some (.ref 0), some (.int v1), some (.int v2), some (.int v3), some (.int v4), none, some (.int v6), some (.int v7), some (.int v8), some (.int s0), some (.int (gI S 25 (ix (2 : Int32))))] [.int r16] S17
  refine V_if_eq (tgt := 197) (pc := 158) C dX12_letsSecond_158 (by decide) (fun hc => ?_) (fun hc => ?_)
  · have h := it_t hc h
    refine V_iconst (pc := 197) C dX12_letsSecond_197 kc_i_0 ?_
    exact V_mask [true, true, true, true, true, false, true, true, false, false, true] (mX12_letsSecond_J198 C  h hb)
  · have h := it_f hc h
    refine V_aload_n (pc := 161) C dX12_letsSecond_161 rfl rfl ?_
    refine V_aload_n (pc := 162) C dX12_letsSecond_162 rfl rfl ?_
    refine V_getF (p1 := 23) (pc := 163) C z1_mW_12 fl_RX12_80 rfl (zf_mW_12_38 z1_mW_12) dX12_letsSecond_163 ?_
    refine V_iload (pc := 166) C dX12_letsSecond_166 rfl ?_
    obtain ⟨k22, h⟩ := ck_some h
    refine V_iald (pc := 168) C (za_mW_12_38 z1_mW_12) k22 dX12_letsSecond_168 ?_
    refine V_iload (pc := 169) C dX12_letsSecond_169 rfl ?_
    refine V_iload (pc := 171) C dX12_letsSecond_171 rfl ?_
    refine V_iload (pc := 173) C dX12_letsSecond_173 rfl ?_
    refine V_imul (pc := 175) C dX12_letsSecond_175 ?_
    refine V_aload_n (pc := 176) C dX12_letsSecond_176 rfl rfl ?_
    refine V_getF (p1 := 24) (pc := 177) C z1_mW_12 fl_RX12_83 rfl (zf_mW_12_39 z1_mW_12) dX12_letsSecond_177 ?_
    refine V_iconst (pc := 180) C dX12_letsSecond_180 kc_i_3 ?_
    refine V_iload (pc := 181) C dX12_letsSecond_181 rfl ?_
    refine V_imul (pc := 183) C dX12_letsSecond_183 ?_
    refine V_iconst (pc := 184) C dX12_letsSecond_184 kc_i_1 ?_
    refine V_iadd (pc := 185) C dX12_letsSecond_185 ?_
    obtain ⟨k23, h⟩ := ck_some h
    refine V_iald (pc := 186) C (za_mW_12_39 z1_mW_12) k23 dX12_letsSecond_186 ?_
    obtain ⟨r24, S25, er24, h⟩ := b2_some h
    refine V_callV (As := [.int (gI S17 23 (ix v6)), .int s0, .int (v4 * v4), .int (gI S17 24 (ix (((3 : Int32) * v6) + (1 : Int32))))]) (pc := 187) C (mX12_isIn _ er24) zm_X12_isIn zi_X12_isIn ml_RX12_432 z1_mW_12 rfl ⟨Nat.le_of_ble_eq_true rfl, Nat.le_of_ble_eq_true rfl⟩ rfl rfl (Nat.le_of_ble_eq_true rfl) dX12_letsSecond_187 ?_
    show V K 190 [some (.ref 0), some (.int v1), some (.int v2), some (.int v3), some (.int v4), none, some (.int v6), some (.int v7), some (.int v8), some (.int s0), some (.int (gI S 25 (ix (2 : Int32))))] [.int r24] S25
    refine V_if_eq (tgt := 197) (pc := 190) C dX12_letsSecond_190 (by decide) (fun hc => ?_) (fun hc => ?_)
    · have h := it_t hc h
      refine V_iconst (pc := 197) C dX12_letsSecond_197 kc_i_0 ?_
      exact V_mask [true, true, true, true, true, false, true, true, false, false, true] (mX12_letsSecond_J198 C  h hb)
    · have h := it_f hc h
      refine V_iconst (pc := 193) C dX12_letsSecond_193 kc_i_1 ?_
      refine V_goto (tgt := 198) (pc := 194) C dX12_letsSecond_194 (by decide) ?_
      exact V_mask [true, true, true, true, true, false, true, true, false, false, true] (mX12_letsSecond_J198 C  h hb)
set_option maxRecDepth 100000 in
theorem mX12_letsSecond_J84 {K : zK} (C : zC K cX12_letsSecond yX12_letsSecond.cls 11 3 77 mW) {S : zM} {v1 : Int32} {v2 : Int32} {v3 : Int32} {v4 : Int32} {v6 : Int32} {s0 : Int32} {out : (Int32 × zM) ⊕ (Int32 × Int32 × zM)}  (h : gX12_letsSecond_J84 S v1 v2 v3 v4 v6 s0 = some out) (hb : ∀ (b5 : Int32) (b6 : Int32) (S' : zM), out = .inr (b5, b6, S') → V K 18 [some (.ref 0), some (.int v1), some (.int v2), some (.int v3), some (.int v4), some (.int b5), some (.int b6), none, none, none, none] [] S') : V K 84 [some (.ref 0), some (.int v1), some (.int v2), some (.int v3), some (.int v4), none, some (.int v6), none, none, none, none] [.int s0] S := by
  unfold gX12_letsSecond_J84 at h
  refine V_istore (L' := [some (.ref 0), some (.int v1), some (.int v2), some (.int v3), some (.int v4), none, some (.int v6), some (.int s0), none, none, none]) (pc := 84) C dX12_letsSecond_84 (by decide) rfl ?_
  refine V_aload_n (pc := 86) C dX12_letsSecond_86 rfl rfl ?_
  refine V_getF (p1 := 25) (pc := 87) C z1_mW_12 fl_RX12_86 rfl (zf_mW_12_40 z1_mW_12) dX12_letsSecond_87 ?_
  refine V_iconst (pc := 90) C dX12_letsSecond_90 kc_i_0 ?_
  obtain ⟨k11, h⟩ := ck_some h
  refine V_iald (pc := 91) C (za_mW_12_40 z1_mW_12) k11 dX12_letsSecond_91 ?_
  refine V_istore (L' := [some (.ref 0), some (.int v1), some (.int v2), some (.int v3), some (.int v4), none, some (.int v6), some (.int s0), some (.int (gI S 25 (ix (0 : Int32)))), none, none]) (pc := 92) C dX12_letsSecond_92 (by decide) rfl ?_
  refine V_iload (pc := 94) C dX12_letsSecond_94 rfl ?_
  refine V_if_eq (tgt := 115) (pc := 96) C dX12_letsSecond_96 (by decide) (fun hc => ?_) (fun hc => ?_)
  · have h := it_t hc h
    refine V_aload_n (pc := 115) C dX12_letsSecond_115 rfl rfl ?_
    refine V_getF (p1 := 25) (pc := 116) C z1_mW_12 fl_RX12_86 rfl (zf_mW_12_40 z1_mW_12) dX12_letsSecond_116 ?_
    refine V_iconst (pc := 119) C dX12_letsSecond_119 kc_i_1 ?_
    obtain ⟨k12, h⟩ := ck_some h
    refine V_iald (pc := 120) C (za_mW_12_40 z1_mW_12) k12 dX12_letsSecond_120 ?_
    exact V_mask [true, true, true, true, true, false, true, true, true, false, false] (mX12_letsSecond_J121 C  h hb)
  · have h := it_f hc h
    refine V_aload_n (pc := 99) C dX12_letsSecond_99 rfl rfl ?_
    refine V_getF (p1 := 25) (pc := 100) C z1_mW_12 fl_RX12_86 rfl (zf_mW_12_40 z1_mW_12) dX12_letsSecond_100 ?_
    refine V_iconst (pc := 103) C dX12_letsSecond_103 kc_i_1 ?_
    obtain ⟨k26, h⟩ := ck_some h
    refine V_iald (pc := 104) C (za_mW_12_40 z1_mW_12) k26 dX12_letsSecond_104 ?_
    refine V_aload_n (pc := 105) C dX12_letsSecond_105 rfl rfl ?_
    refine V_getF (p1 := 25) (pc := 106) C z1_mW_12 fl_RX12_86 rfl (zf_mW_12_40 z1_mW_12) dX12_letsSecond_106 ?_
    refine V_iconst (pc := 109) C dX12_letsSecond_109 kc_i_2 ?_
    obtain ⟨k27, h⟩ := ck_some h
    refine V_iald (pc := 110) C (za_mW_12_40 z1_mW_12) k27 dX12_letsSecond_110 ?_
    refine V_iadd (pc := 111) C dX12_letsSecond_111 ?_
    refine V_goto (tgt := 121) (pc := 112) C dX12_letsSecond_112 (by decide) ?_
    exact V_mask [true, true, true, true, true, false, true, true, true, false, false] (mX12_letsSecond_J121 C  h hb)
set_option maxRecDepth 100000 in
theorem mX12_letsSecond_L18 {K : zK} (C : zC K cX12_letsSecond yX12_letsSecond.cls 11 3 77 mW) {v1 : Int32} {v2 : Int32} {v3 : Int32} {v4 : Int32}  : ∀ (f : Nat) (S : zM) (v5 : Int32) (v6 : Int32) (r : Int32) (S' : zM), gX12_letsSecond_L18 v1 v2 v3 v4 f S v5 v6 = some (r, S') → zR K cX12_letsSecond (some .boolean) S' (some (.int r)) → V K 18 [some (.ref 0), some (.int v1), some (.int v2), some (.int v3), some (.int v4), some (.int v5), some (.int v6), none, none, none, none] [] S := by
  intro f
  induction f with
  | zero => intro S v5 v6 r S' h hR; cases h
  | succ n ih =>
    intro S v5 v6 r S' h hR
    unfold gX12_letsSecond_L18 at h
    refine V_iload (pc := 18) C dX12_letsSecond_18 rfl ?_
    refine V_aload_n (pc := 20) C dX12_letsSecond_20 rfl rfl ?_
    refine V_getI (pc := 21) C z1_mW_12 fl_RX12_440 (by decide) dX12_letsSecond_21 ?_
    refine V_icmp_ge (tgt := 255) (pc := 24) C dX12_letsSecond_24 (by decide) (fun hc => ?_) (fun hc => ?_)
    · have h := it_t hc h
      refine V_iload (pc := 255) C dX12_letsSecond_255 rfl ?_
      obtain ⟨k3, h⟩ := ck_some h
      cases h
      exact hR 257 _ ⟨_, rfl, isB_nar k3⟩ dX12_letsSecond_257
    · have h := it_f hc h
      refine V_iload (pc := 27) C dX12_letsSecond_27 rfl ?_
      refine V_if_eq (tgt := 255) (pc := 29) C dX12_letsSecond_29 (by decide) (fun hc => ?_) (fun hc => ?_)
      · have h := it_t hc h
        refine V_iload (pc := 255) C dX12_letsSecond_255 rfl ?_
        obtain ⟨k4, h⟩ := ck_some h
        cases h
        exact hR 257 _ ⟨_, rfl, isB_nar k4⟩ dX12_letsSecond_257
      · have h := it_f hc h
        refine V_aload_n (pc := 32) C dX12_letsSecond_32 rfl rfl ?_
        refine V_getF (p1 := 20) (pc := 33) C z1_mW_12 fl_RX12_71 rfl (zf_mW_12_35 z1_mW_12) dX12_letsSecond_33 ?_
        refine V_iload (pc := 36) C dX12_letsSecond_36 rfl ?_
        obtain ⟨k5, h⟩ := ck_some h
        refine V_iald (pc := 38) C (za_mW_12_35 z1_mW_12) k5 dX12_letsSecond_38 ?_
        refine V_if_eq (tgt := 45) (pc := 39) C dX12_letsSecond_39 (by decide) (fun hc => ?_) (fun hc => ?_)
        · have h := it_t hc h
          refine V_aload_n (pc := 45) C dX12_letsSecond_45 rfl rfl ?_
          refine V_iload_n (pc := 46) C dX12_letsSecond_46 rfl rfl ?_
          refine V_aload_n (pc := 47) C dX12_letsSecond_47 rfl rfl ?_
          refine V_getF (p1 := 21) (pc := 48) C z1_mW_12 fl_RX12_74 rfl (zf_mW_12_36 z1_mW_12) dX12_letsSecond_48 ?_
          refine V_iload (pc := 51) C dX12_letsSecond_51 rfl ?_
          obtain ⟨k6, h⟩ := ck_some h
          refine V_iald (pc := 53) C (za_mW_12_36 z1_mW_12) k6 dX12_letsSecond_53 ?_
          refine V_aload_n (pc := 54) C dX12_letsSecond_54 rfl rfl ?_
          refine V_getF (p1 := 22) (pc := 55) C z1_mW_12 fl_RX12_77 rfl (zf_mW_12_37 z1_mW_12) dX12_letsSecond_55 ?_
          refine V_iload (pc := 58) C dX12_letsSecond_58 rfl ?_
          obtain ⟨k7, h⟩ := ck_some h
          refine V_iald (pc := 60) C (za_mW_12_37 z1_mW_12) k7 dX12_letsSecond_60 ?_
          refine V_iload_n (pc := 61) C dX12_letsSecond_61 rfl rfl ?_
          obtain ⟨S9, euS9, h⟩ := b1_some h
          refine V_callV (As := [.int v2, .int (gI S 21 (ix v6)), .int (gI S 22 (ix v6)), .int v3]) (pc := 62) C (mX12_pairs _ euS9) zm_X12_pairs zi_X12_pairs ml_RX12_446 z1_mW_12 rfl ⟨Nat.le_of_ble_eq_true rfl, Nat.le_of_ble_eq_true rfl⟩ rfl rfl (Nat.le_of_ble_eq_true rfl) dX12_letsSecond_62 ?_
          show V K 65 [some (.ref 0), some (.int v1), some (.int v2), some (.int v3), some (.int v4), some (.int v5), some (.int v6), none, none, none, none] [] S9
          refine V_aload_n (pc := 65) C dX12_letsSecond_65 rfl rfl ?_
          refine V_getF (p1 := 3) (pc := 66) C z1_mW_12 fl_RX12_20 rfl (zf_mW_12_15 z1_mW_12) dX12_letsSecond_66 ?_
          refine V_sipush (pc := 69) C dX12_letsSecond_69 kc_s_150 ?_
          refine V_iload_n (pc := 72) C dX12_letsSecond_72 rfl rfl ?_
          refine V_iadd (pc := 73) C dX12_letsSecond_73 ?_
          obtain ⟨k10, h⟩ := ck_some h
          refine V_iald (pc := 74) C (za_mW_12_15 z1_mW_12) k10 dX12_letsSecond_74 ?_
          refine V_iconst (pc := 75) C dX12_letsSecond_75 kc_i_1 ?_
          refine V_icmp_ne (tgt := 83) (pc := 76) C dX12_letsSecond_76 (by decide) (fun hc => ?_) (fun hc => ?_)
          · have h := it_f hc h
            refine V_iconst (pc := 83) C dX12_letsSecond_83 kc_i_0 ?_
            obtain ⟨out', e84, hi, hb⟩ := lm_some h
            refine V_mask [true, true, true, true, true, false, true, false, false, false, false] (mX12_letsSecond_J84 C  e84 ?_)
            · intro v5 v6 S eo
              have h := hb _ eo
              exact ih _ _ _ _ _ h hR
          · have h := it_t hc h
            refine V_iconst (pc := 79) C dX12_letsSecond_79 kc_i_1 ?_
            refine V_goto (tgt := 84) (pc := 80) C dX12_letsSecond_80 (by decide) ?_
            obtain ⟨out', e84, hi, hb⟩ := lm_some h
            refine V_mask [true, true, true, true, true, false, true, false, false, false, false] (mX12_letsSecond_J84 C  e84 ?_)
            · intro v5 v6 S eo
              have h := hb _ eo
              exact ih _ _ _ _ _ h hR
        · have h := it_f hc h
          refine V_goto (tgt := 249) (pc := 42) C dX12_letsSecond_42 (by decide) ?_
          refine V_iinc (L' := [some (.ref 0), some (.int v1), some (.int v2), some (.int v3), some (.int v4), some (.int v5), some (.int (v6 + (1 : Int32))), none, none, none, none]) (v := (v6 + (1 : Int32))) (pc := 249) C dX12_letsSecond_249 rfl (congrArg (v6 + ·) kc_i_1) (by decide) rfl ?_
          refine V_goto (tgt := 18) (pc := 252) C dX12_letsSecond_252 (by decide) ?_
          exact V_mask [true, true, true, true, true, true, true, false, false, false, false] (ih _ _ _ _ _ h hR)
set_option maxRecDepth 100000 in
theorem mX12_letsSecond (l : Launch) {S : zM} {a1 : Int32} {a2 : Int32} {a3 : Int32} {r : Int32} {S' : zM}  (h : gX12_letsSecond S a1 a2 a3 = some (r, S')) : zMet l mW zS0 yX12_letsSecond cX12_letsSecond 11 (some .boolean) 3 77 [.ref 0, .int a1, .int a2, .int a3] S (some (.int r)) S' := by
  refine zmeth (by decide +kernel) (by rfl) (fun K hKl C hR => ?_)
  show V K 0 [some (.ref 0), some (.int a1), some (.int a2), some (.int a3), none, none, none, none, none, none, none] [] S
  unfold gX12_letsSecond at h
  refine V_aload_n (pc := 0) C dX12_letsSecond_0 rfl rfl ?_
  refine V_iload_n (pc := 1) C dX12_letsSecond_1 rfl rfl ?_
  refine V_aload_n (pc := 2) C dX12_letsSecond_2 rfl rfl ?_
  refine V_iload_n (pc := 3) C dX12_letsSecond_3 rfl rfl ?_
  obtain ⟨r1, er1, h⟩ := b1_some h
  refine V_callV (As := [.int a2]) (pc := 4) C (mX12_fullOf _ er1) zm_X12_fullOf zi_X12_fullOf ml_RX12_443 z1_mW_12 rfl ⟨Nat.le_of_ble_eq_true rfl, Nat.le_of_ble_eq_true rfl⟩ rfl rfl (Nat.le_of_ble_eq_true rfl) dX12_letsSecond_4 ?_
  show V K 7 [some (.ref 0), some (.int a1), some (.int a2), some (.int a3), none, none, none, none, none, none, none] [.int r1, .int a2, .ref 0] S
  obtain ⟨r2, er2, h⟩ := b1_some h
  refine V_callV (As := [.int a2, .int r1]) (pc := 7) C (mX12_all _ er2) zm_X12_all zi_X12_all ml_RX12_324 z1_mW_12 rfl ⟨Nat.le_of_ble_eq_true rfl, Nat.le_of_ble_eq_true rfl⟩ rfl rfl (Nat.le_of_ble_eq_true rfl) dX12_letsSecond_7 ?_
  show V K 10 [some (.ref 0), some (.int a1), some (.int a2), some (.int a3), none, none, none, none, none, none, none] [.int r2] S
  refine V_istore (L' := [some (.ref 0), some (.int a1), some (.int a2), some (.int a3), some (.int r2), none, none, none, none, none, none]) (pc := 10) C dX12_letsSecond_10 (by decide) rfl ?_
  refine V_iconst (pc := 12) C dX12_letsSecond_12 kc_i_1 ?_
  refine V_istore (L' := [some (.ref 0), some (.int a1), some (.int a2), some (.int a3), some (.int r2), some (.int (1 : Int32)), none, none, none, none, none]) (pc := 13) C dX12_letsSecond_13 (by decide) rfl ?_
  refine V_iconst (pc := 15) C dX12_letsSecond_15 kc_i_0 ?_
  refine V_istore (L' := [some (.ref 0), some (.int a1), some (.int a2), some (.int a3), some (.int r2), some (.int (1 : Int32)), some (.int (0 : Int32)), none, none, none, none]) (pc := 16) C dX12_letsSecond_16 (by decide) rfl ?_
  exact V_mask [true, true, true, true, true, true, true, false, false, false, false] (mX12_letsSecond_L18 C  FU _ _ _ _ _ h hR)
set_option maxRecDepth 100000 in
theorem mX12_lets (l : Launch) {S : zM} {a1 : Int32} {a2 : Int32} {a3 : Int32} {a4 : Int32} {r : Int32} {S' : zM}  (h : gX12_lets S a1 a2 a3 a4 = some (r, S')) : zMet l mW zS0 yX12_lets cX12_lets 5 (some .int) 4 107 [.ref 0, .int a1, .int a2, .int a3, .int a4] S (some (.int r)) S' := by
  refine zmeth (by decide +kernel) (by rfl) (fun K hKl C hR => ?_)
  show V K 0 [some (.ref 0), some (.int a1), some (.int a2), some (.int a3), some (.int a4)] [] S
  unfold gX12_lets at h
  refine V_aload_n (pc := 0) C dX12_lets_0 rfl rfl ?_
  obtain ⟨S2, euS2, h⟩ := b1_some h
  refine V_callV (As := []) (pc := 1) C (mX12_good _ euS2) zm_X12_good zi_X12_good ml_RX12_211 z1_mW_12 rfl ⟨Nat.le_of_ble_eq_true rfl, Nat.le_of_ble_eq_true rfl⟩ rfl rfl (Nat.le_of_ble_eq_true rfl) dX12_lets_1 ?_
  show V K 4 [some (.ref 0), some (.int a1), some (.int a2), some (.int a3), some (.int a4)] [] S2
  refine V_aload_n (pc := 4) C dX12_lets_4 rfl rfl ?_
  refine V_iload_n (pc := 5) C dX12_lets_5 rfl rfl ?_
  obtain ⟨r3, er3, h⟩ := b1_some h
  refine V_callV (As := [.int a1]) (pc := 6) C (mX12_isSayer _ er3) zm_X12_isSayer zi_X12_isSayer ml_RX12_315 z1_mW_12 rfl ⟨Nat.le_of_ble_eq_true rfl, Nat.le_of_ble_eq_true rfl⟩ rfl rfl (Nat.le_of_ble_eq_true rfl) dX12_lets_6 ?_
  show V K 9 [some (.ref 0), some (.int a1), some (.int a2), some (.int a3), some (.int a4)] [.int r3] S2
  refine V_if_eq (tgt := 20) (pc := 9) C dX12_lets_9 (by decide) (fun hc => ?_) (fun hc => ?_)
  · have h := it_t hc h
    refine V_aload_n (pc := 20) C dX12_lets_20 rfl rfl ?_
    refine V_iconst (pc := 21) C dX12_lets_21 kc_i_1 ?_
    obtain ⟨r4, S5, er4, h⟩ := b2_some h
    refine V_callV (As := [.int (1 : Int32)]) (pc := 22) C (mX12_no _ er4) zm_X12_no zi_X12_no ml_RX12_214 z1_mW_12 rfl ⟨Nat.le_of_ble_eq_true rfl, Nat.le_of_ble_eq_true rfl⟩ rfl rfl (Nat.le_of_ble_eq_true rfl) dX12_lets_22 ?_
    show V K 25 [some (.ref 0), some (.int a1), some (.int a2), some (.int a3), some (.int a4)] [.int r4] S5
    cases h
    exact hR 25 _ ⟨_, rfl, rfl⟩ dX12_lets_25
  · have h := it_f hc h
    refine V_aload_n (pc := 12) C dX12_lets_12 rfl rfl ?_
    refine V_iload_n (pc := 13) C dX12_lets_13 rfl rfl ?_
    obtain ⟨r6, er6, h⟩ := b1_some h
    refine V_callV (As := [.int a2]) (pc := 14) C (mX12_isSense _ er6) zm_X12_isSense zi_X12_isSense ml_RX12_306 z1_mW_12 rfl ⟨Nat.le_of_ble_eq_true rfl, Nat.le_of_ble_eq_true rfl⟩ rfl rfl (Nat.le_of_ble_eq_true rfl) dX12_lets_14 ?_
    show V K 17 [some (.ref 0), some (.int a1), some (.int a2), some (.int a3), some (.int a4)] [.int r6] S2
    refine V_if_ne (tgt := 26) (pc := 17) C dX12_lets_17 (by decide) (fun hc => ?_) (fun hc => ?_)
    · have h := it_f hc h
      refine V_iload_n (pc := 26) C dX12_lets_26 rfl rfl ?_
      refine V_bipush (pc := 27) C dX12_lets_27 kc_b_m50 ?_
      refine V_bipush (pc := 29) C dX12_lets_29 kc_b_50 ?_
      obtain ⟨r7, er7, h⟩ := b1_some h
      refine V_callS (As := [.int a3, .int (-50 : Int32), .int (50 : Int32)]) (pc := 31) C (mX12_within _ er7) zm_X12_within zs_X12_within ml_RX12_203 ⟨Nat.le_of_ble_eq_true rfl, Nat.le_of_ble_eq_true rfl⟩ rfl rfl (Nat.le_of_ble_eq_true rfl) dX12_lets_31 ?_
      show V K 34 [some (.ref 0), some (.int a1), some (.int a2), some (.int a3), some (.int a4)] [.int r7] S2
      refine V_if_eq (tgt := 49) (pc := 34) C dX12_lets_34 (by decide) (fun hc => ?_) (fun hc => ?_)
      · have h := it_t hc h
        refine V_aload_n (pc := 49) C dX12_lets_49 rfl rfl ?_
        refine V_iconst (pc := 50) C dX12_lets_50 kc_i_2 ?_
        obtain ⟨r8, S9, er8, h⟩ := b2_some h
        refine V_callV (As := [.int (2 : Int32)]) (pc := 51) C (mX12_no _ er8) zm_X12_no zi_X12_no ml_RX12_214 z1_mW_12 rfl ⟨Nat.le_of_ble_eq_true rfl, Nat.le_of_ble_eq_true rfl⟩ rfl rfl (Nat.le_of_ble_eq_true rfl) dX12_lets_51 ?_
        show V K 54 [some (.ref 0), some (.int a1), some (.int a2), some (.int a3), some (.int a4)] [.int r8] S9
        cases h
        exact hR 54 _ ⟨_, rfl, rfl⟩ dX12_lets_54
      · have h := it_f hc h
        refine V_iload (pc := 37) C dX12_lets_37 rfl ?_
        refine V_bipush (pc := 39) C dX12_lets_39 kc_b_m50 ?_
        refine V_bipush (pc := 41) C dX12_lets_41 kc_b_50 ?_
        obtain ⟨r10, er10, h⟩ := b1_some h
        refine V_callS (As := [.int a4, .int (-50 : Int32), .int (50 : Int32)]) (pc := 43) C (mX12_within _ er10) zm_X12_within zs_X12_within ml_RX12_203 ⟨Nat.le_of_ble_eq_true rfl, Nat.le_of_ble_eq_true rfl⟩ rfl rfl (Nat.le_of_ble_eq_true rfl) dX12_lets_43 ?_
        show V K 46 [some (.ref 0), some (.int a1), some (.int a2), some (.int a3), some (.int a4)] [.int r10] S2
        refine V_if_ne (tgt := 55) (pc := 46) C dX12_lets_46 (by decide) (fun hc => ?_) (fun hc => ?_)
        · have h := it_f hc h
          refine V_aload_n (pc := 55) C dX12_lets_55 rfl rfl ?_
          refine V_iload_n (pc := 56) C dX12_lets_56 rfl rfl ?_
          obtain ⟨r11, S12, er11, h⟩ := b2_some h
          refine V_callV (As := [.int a1]) (pc := 57) C (mX12_lays _ er11) zm_X12_lays zi_X12_lays ml_RX12_450 z1_mW_12 rfl ⟨Nat.le_of_ble_eq_true rfl, Nat.le_of_ble_eq_true rfl⟩ rfl rfl (Nat.le_of_ble_eq_true rfl) dX12_lets_57 ?_
          show V K 60 [some (.ref 0), some (.int a1), some (.int a2), some (.int a3), some (.int a4)] [.int r11] S12
          refine V_if_ne (tgt := 69) (pc := 60) C dX12_lets_60 (by decide) (fun hc => ?_) (fun hc => ?_)
          · have h := it_f hc h
            refine V_aload_n (pc := 69) C dX12_lets_69 rfl rfl ?_
            refine V_iload_n (pc := 70) C dX12_lets_70 rfl rfl ?_
            refine V_iload_n (pc := 71) C dX12_lets_71 rfl rfl ?_
            obtain ⟨r13, S14, er13, h⟩ := b2_some h
            refine V_callV (As := [.int a2, .int a3]) (pc := 72) C (mX12_letsLine _ er13) zm_X12_letsLine zi_X12_letsLine ml_RX12_453 z1_mW_12 rfl ⟨Nat.le_of_ble_eq_true rfl, Nat.le_of_ble_eq_true rfl⟩ rfl rfl (Nat.le_of_ble_eq_true rfl) dX12_lets_72 ?_
            show V K 75 [some (.ref 0), some (.int a1), some (.int a2), some (.int a3), some (.int a4)] [.int r13] S14
            refine V_if_eq (tgt := 93) (pc := 75) C dX12_lets_75 (by decide) (fun hc => ?_) (fun hc => ?_)
            · have h := it_t hc h
              refine V_iconst (pc := 93) C dX12_lets_93 kc_i_0 ?_
              cases h
              exact hR 94 _ ⟨_, rfl, rfl⟩ dX12_lets_94
            · have h := it_f hc h
              refine V_aload_n (pc := 78) C dX12_lets_78 rfl rfl ?_
              refine V_iload_n (pc := 79) C dX12_lets_79 rfl rfl ?_
              refine V_iload_n (pc := 80) C dX12_lets_80 rfl rfl ?_
              refine V_iload (pc := 81) C dX12_lets_81 rfl ?_
              obtain ⟨r15, S16, er15, h⟩ := b2_some h
              refine V_callV (As := [.int a1, .int a2, .int a4]) (pc := 83) C (mX12_letsSecond _ er15) zm_X12_letsSecond zi_X12_letsSecond ml_RX12_457 z1_mW_12 rfl ⟨Nat.le_of_ble_eq_true rfl, Nat.le_of_ble_eq_true rfl⟩ rfl rfl (Nat.le_of_ble_eq_true rfl) dX12_lets_83 ?_
              show V K 86 [some (.ref 0), some (.int a1), some (.int a2), some (.int a3), some (.int a4)] [.int r15] S16
              refine V_if_eq (tgt := 93) (pc := 86) C dX12_lets_86 (by decide) (fun hc => ?_) (fun hc => ?_)
              · have h := it_t hc h
                refine V_iconst (pc := 93) C dX12_lets_93 kc_i_0 ?_
                cases h
                exact hR 94 _ ⟨_, rfl, rfl⟩ dX12_lets_94
              · have h := it_f hc h
                refine V_iconst (pc := 89) C dX12_lets_89 kc_i_1 ?_
                refine V_goto (tgt := 94) (pc := 90) C dX12_lets_90 (by decide) ?_
                cases h
                exact hR 94 _ ⟨_, rfl, rfl⟩ dX12_lets_94
          · have h := it_t hc h
            refine V_aload_n (pc := 63) C dX12_lets_63 rfl rfl ?_
            refine V_iconst (pc := 64) C dX12_lets_64 kc_i_3 ?_
            obtain ⟨r17, S18, er17, h⟩ := b2_some h
            refine V_callV (As := [.int (3 : Int32)]) (pc := 65) C (mX12_no _ er17) zm_X12_no zi_X12_no ml_RX12_214 z1_mW_12 rfl ⟨Nat.le_of_ble_eq_true rfl, Nat.le_of_ble_eq_true rfl⟩ rfl rfl (Nat.le_of_ble_eq_true rfl) dX12_lets_65 ?_
            show V K 68 [some (.ref 0), some (.int a1), some (.int a2), some (.int a3), some (.int a4)] [.int r17] S18
            cases h
            exact hR 68 _ ⟨_, rfl, rfl⟩ dX12_lets_68
        · have h := it_t hc h
          refine V_aload_n (pc := 49) C dX12_lets_49 rfl rfl ?_
          refine V_iconst (pc := 50) C dX12_lets_50 kc_i_2 ?_
          obtain ⟨r19, S20, er19, h⟩ := b2_some h
          refine V_callV (As := [.int (2 : Int32)]) (pc := 51) C (mX12_no _ er19) zm_X12_no zi_X12_no ml_RX12_214 z1_mW_12 rfl ⟨Nat.le_of_ble_eq_true rfl, Nat.le_of_ble_eq_true rfl⟩ rfl rfl (Nat.le_of_ble_eq_true rfl) dX12_lets_51 ?_
          show V K 54 [some (.ref 0), some (.int a1), some (.int a2), some (.int a3), some (.int a4)] [.int r19] S20
          cases h
          exact hR 54 _ ⟨_, rfl, rfl⟩ dX12_lets_54
    · have h := it_t hc h
      refine V_aload_n (pc := 20) C dX12_lets_20 rfl rfl ?_
      refine V_iconst (pc := 21) C dX12_lets_21 kc_i_1 ?_
      obtain ⟨r21, S22, er21, h⟩ := b2_some h
      refine V_callV (As := [.int (1 : Int32)]) (pc := 22) C (mX12_no _ er21) zm_X12_no zi_X12_no ml_RX12_214 z1_mW_12 rfl ⟨Nat.le_of_ble_eq_true rfl, Nat.le_of_ble_eq_true rfl⟩ rfl rfl (Nat.le_of_ble_eq_true rfl) dX12_lets_22 ?_
      show V K 25 [some (.ref 0), some (.int a1), some (.int a2), some (.int a3), some (.int a4)] [.int r21] S22
      cases h
      exact hR 25 _ ⟨_, rfl, rfl⟩ dX12_lets_25
set_option maxRecDepth 100000 in
theorem mX12_fit_L17 {K : zK} (C : zC K cX12_fit yX12_fit.cls 4 4 107 mW) {v1 : Int32} {v2 : Int32}  : ∀ (f : Nat) (S : zM) (v3 : Int32) (S' : zM), gX12_fit_L17 v1 v2 f S v3 = some S' → V K 49 [some (.ref 0), some (.int v1), some (.int v2), none] [] S' → V K 17 [some (.ref 0), some (.int v1), some (.int v2), some (.int v3)] [] S := by
  intro f
  induction f with
  | zero => intro S v3 S' h hx; cases h
  | succ n ih =>
    intro S v3 S' h hx
    unfold gX12_fit_L17 at h
    refine V_iload_n (pc := 17) C dX12_fit_17 rfl rfl ?_
    refine V_bipush (pc := 18) C dX12_fit_18 kc_b_10 ?_
    refine V_icmp_gt (tgt := 49) (pc := 20) C dX12_fit_20 (by decide) (fun hc => ?_) (fun hc => ?_)
    · have h := it_t hc h
      cases h
      exact V_mask [true, true, true, false] hx
    · have h := it_f hc h
      refine V_aload_n (pc := 23) C dX12_fit_23 rfl rfl ?_
      refine V_getF (p1 := 26) (pc := 24) C z1_mW_12 fl_RX12_89 rfl (zf_mW_12_41 z1_mW_12) dX12_fit_24 ?_
      refine V_bipush (pc := 27) C dX12_fit_27 kc_b_21 ?_
      refine V_iload_n (pc := 29) C dX12_fit_29 rfl rfl ?_
      refine V_imul (pc := 30) C dX12_fit_30 ?_
      refine V_iload_n (pc := 31) C dX12_fit_31 rfl rfl ?_
      refine V_iadd (pc := 32) C dX12_fit_32 ?_
      refine V_bipush (pc := 33) C dX12_fit_33 kc_b_10 ?_
      refine V_iadd (pc := 35) C dX12_fit_35 ?_
      refine V_aload_n (pc := 36) C dX12_fit_36 rfl rfl ?_
      refine V_iload_n (pc := 37) C dX12_fit_37 rfl rfl ?_
      refine V_iload_n (pc := 38) C dX12_fit_38 rfl rfl ?_
      obtain ⟨r2, S3, er2, h⟩ := b2_some h
      refine V_callV (As := [.int v2, .int v3]) (pc := 39) C (mX12_letsLine _ er2) zm_X12_letsLine zi_X12_letsLine ml_RX12_453 z1_mW_12 rfl ⟨Nat.le_of_ble_eq_true rfl, Nat.le_of_ble_eq_true rfl⟩ rfl rfl (Nat.le_of_ble_eq_true rfl) dX12_fit_39 ?_
      show V K 42 [some (.ref 0), some (.int v1), some (.int v2), some (.int v3)] [.int r2, .int ((((21 : Int32) * v2) + v3) + (10 : Int32)), .ref 26] S3
      obtain ⟨k4, h⟩ := ck_some h
      refine V_zast (pc := 42) C (za_mW_12_41 z1_mW_12) k4 dX12_fit_42 ?_
      refine V_iinc (L' := [some (.ref 0), some (.int v1), some (.int v2), some (.int (v3 + (1 : Int32)))]) (v := (v3 + (1 : Int32))) (pc := 43) C dX12_fit_43 rfl (congrArg (v3 + ·) kc_i_1) (by decide) rfl ?_
      refine V_goto (tgt := 17) (pc := 46) C dX12_fit_46 (by decide) ?_
      exact V_mask [true, true, true, true] (ih _ _ _ h hx)
set_option maxRecDepth 100000 in
theorem mX12_fit_L52 {K : zK} (C : zC K cX12_fit yX12_fit.cls 4 4 107 mW) {v1 : Int32} {v2 : Int32}  : ∀ (f : Nat) (S : zM) (v3 : Int32) (S' : zM), gX12_fit_L52 v1 v2 f S v3 = some S' → V K 83 [some (.ref 0), some (.int v1), some (.int v2), none] [] S' → V K 52 [some (.ref 0), some (.int v1), some (.int v2), some (.int v3)] [] S := by
  intro f
  induction f with
  | zero => intro S v3 S' h hx; cases h
  | succ n ih =>
    intro S v3 S' h hx
    unfold gX12_fit_L52 at h
    refine V_iload_n (pc := 52) C dX12_fit_52 rfl rfl ?_
    refine V_iconst (pc := 53) C dX12_fit_53 kc_i_5 ?_
    refine V_icmp_gt (tgt := 83) (pc := 54) C dX12_fit_54 (by decide) (fun hc => ?_) (fun hc => ?_)
    · have h := it_t hc h
      cases h
      exact V_mask [true, true, true, false] hx
    · have h := it_f hc h
      refine V_aload_n (pc := 57) C dX12_fit_57 rfl rfl ?_
      refine V_getF (p1 := 27) (pc := 58) C z1_mW_12 fl_RX12_93 rfl (zf_mW_12_42 z1_mW_12) dX12_fit_58 ?_
      refine V_bipush (pc := 61) C dX12_fit_61 kc_b_11 ?_
      refine V_iload_n (pc := 63) C dX12_fit_63 rfl rfl ?_
      refine V_imul (pc := 64) C dX12_fit_64 ?_
      refine V_iload_n (pc := 65) C dX12_fit_65 rfl rfl ?_
      refine V_iadd (pc := 66) C dX12_fit_66 ?_
      refine V_iconst (pc := 67) C dX12_fit_67 kc_i_5 ?_
      refine V_iadd (pc := 68) C dX12_fit_68 ?_
      refine V_aload_n (pc := 69) C dX12_fit_69 rfl rfl ?_
      refine V_iload_n (pc := 70) C dX12_fit_70 rfl rfl ?_
      refine V_iload_n (pc := 71) C dX12_fit_71 rfl rfl ?_
      refine V_iload_n (pc := 72) C dX12_fit_72 rfl rfl ?_
      obtain ⟨r6, S7, er6, h⟩ := b2_some h
      refine V_callV (As := [.int v1, .int v2, .int v3]) (pc := 73) C (mX12_letsSecond _ er6) zm_X12_letsSecond zi_X12_letsSecond ml_RX12_457 z1_mW_12 rfl ⟨Nat.le_of_ble_eq_true rfl, Nat.le_of_ble_eq_true rfl⟩ rfl rfl (Nat.le_of_ble_eq_true rfl) dX12_fit_73 ?_
      show V K 76 [some (.ref 0), some (.int v1), some (.int v2), some (.int v3)] [.int r6, .int ((((11 : Int32) * v2) + v3) + (5 : Int32)), .ref 27] S7
      obtain ⟨k8, h⟩ := ck_some h
      refine V_zast (pc := 76) C (za_mW_12_42 z1_mW_12) k8 dX12_fit_76 ?_
      refine V_iinc (L' := [some (.ref 0), some (.int v1), some (.int v2), some (.int (v3 + (1 : Int32)))]) (v := (v3 + (1 : Int32))) (pc := 77) C dX12_fit_77 rfl (congrArg (v3 + ·) kc_i_1) (by decide) rfl ?_
      refine V_goto (tgt := 52) (pc := 80) C dX12_fit_80 (by decide) ?_
      exact V_mask [true, true, true, true] (ih _ _ _ h hx)
set_option maxRecDepth 100000 in
theorem mX12_fit_L2 {K : zK} (C : zC K cX12_fit yX12_fit.cls 4 4 107 mW) {v1 : Int32}  : ∀ (f : Nat) (S : zM) (v2 : Int32) (S' : zM), gX12_fit_L2 v1 f S v2 = some S' → zR K cX12_fit (none) S' none → V K 2 [some (.ref 0), some (.int v1), some (.int v2), none] [] S := by
  intro f
  induction f with
  | zero => intro S v2 S' h hR; cases h
  | succ n ih =>
    intro S v2 S' h hR
    unfold gX12_fit_L2 at h
    refine V_iload_n (pc := 2) C dX12_fit_2 rfl rfl ?_
    refine V_aload_n (pc := 3) C dX12_fit_3 rfl rfl ?_
    refine V_getF (p1 := 3) (pc := 4) C z1_mW_12 fl_RX12_20 rfl (zf_mW_12_15 z1_mW_12) dX12_fit_4 ?_
    refine V_sipush (pc := 7) C dX12_fit_7 kc_s_238 ?_
    obtain ⟨k1, h⟩ := ck_some h
    refine V_iald (pc := 10) C (za_mW_12_15 z1_mW_12) k1 dX12_fit_10 ?_
    refine V_icmp_ge (tgt := 89) (pc := 11) C dX12_fit_11 (by decide) (fun hc => ?_) (fun hc => ?_)
    · have h := it_t hc h
      cases h
      exact hR 89 _ rfl dX12_fit_89
    · have h := it_f hc h
      refine V_bipush (pc := 14) C dX12_fit_14 kc_b_m10 ?_
      refine V_istore_n (L' := [some (.ref 0), some (.int v1), some (.int v2), some (.int (-10 : Int32))]) (pc := 16) C dX12_fit_16 rfl (by decide) rfl ?_
      obtain ⟨S5, e17, h⟩ := b1_some h
      refine V_mask [true, true, true, true] (mX12_fit_L17 C  FU _ _ _ e17 ?_)
      refine V_bipush (pc := 49) C dX12_fit_49 kc_b_m5 ?_
      refine V_istore_n (L' := [some (.ref 0), some (.int v1), some (.int v2), some (.int (-5 : Int32))]) (pc := 51) C dX12_fit_51 rfl (by decide) rfl ?_
      obtain ⟨S9, e52, h⟩ := b1_some h
      refine V_mask [true, true, true, true] (mX12_fit_L52 C  FU _ _ _ e52 ?_)
      refine V_iinc (L' := [some (.ref 0), some (.int v1), some (.int (v2 + (1 : Int32))), none]) (v := (v2 + (1 : Int32))) (pc := 83) C dX12_fit_83 rfl (congrArg (v2 + ·) kc_i_1) (by decide) rfl ?_
      refine V_goto (tgt := 2) (pc := 86) C dX12_fit_86 (by decide) ?_
      exact V_mask [true, true, true, false] (ih _ _ _ h hR)
set_option maxRecDepth 100000 in
theorem mX12_fit (l : Launch) {S : zM} {a1 : Int32} {S' : zM}  (h : gX12_fit S a1 = some S') : zMet l mW zS0 yX12_fit cX12_fit 4 (none) 4 107 [.ref 0, .int a1] S none S' := by
  refine zmeth (by decide +kernel) (by rfl) (fun K hKl C hR => ?_)
  show V K 0 [some (.ref 0), some (.int a1), none, none] [] S
  unfold gX12_fit at h
  refine V_iconst (pc := 0) C dX12_fit_0 kc_i_0 ?_
  refine V_istore_n (L' := [some (.ref 0), some (.int a1), some (.int (0 : Int32)), none]) (pc := 1) C dX12_fit_1 rfl (by decide) rfl ?_
  exact V_mask [true, true, true, false] (mX12_fit_L2 C  FU _ _ _ h hR)
set_option maxRecDepth 100000 in
theorem mX12_fitsOf_L7 {K : zK} (C : zC K cX12_fitsOf yX12_fitsOf.cls 5 0 0 mW) {S : zM} {v1 : Int32} {v3 : Int32}  : ∀ (f : Nat) (v2 : Int32) (v4 : Int32) (o2 : Int32), gX12_fitsOf_L7 S v1 v3 f v2 v4 = some o2 → V K 43 [some (.ref 0), some (.int v1), some (.int o2), some (.int v3), none] [] S → V K 7 [some (.ref 0), some (.int v1), some (.int v2), some (.int v3), some (.int v4)] [] S := by
  intro f
  induction f with
  | zero => intro v2 v4 o2 h hx; cases h
  | succ n ih =>
    intro v2 v4 o2 h hx
    unfold gX12_fitsOf_L7 at h
    refine V_iload (pc := 7) C dX12_fitsOf_7 rfl ?_
    refine V_bipush (pc := 9) C dX12_fitsOf_9 kc_b_21 ?_
    refine V_icmp_ge (tgt := 43) (pc := 11) C dX12_fitsOf_11 (by decide) (fun hc => ?_) (fun hc => ?_)
    · have h := it_t hc h
      cases h
      exact V_mask [true, true, true, true, false] hx
    · have h := it_f hc h
      refine V_iload_n (pc := 14) C dX12_fitsOf_14 rfl rfl ?_
      refine V_aload_n (pc := 15) C dX12_fitsOf_15 rfl rfl ?_
      refine V_getF (p1 := 26) (pc := 16) C z1_mW_12 fl_RX12_89 rfl (zf_mW_12_41 z1_mW_12) dX12_fitsOf_16 ?_
      refine V_bipush (pc := 19) C dX12_fitsOf_19 kc_b_21 ?_
      refine V_iload_n (pc := 21) C dX12_fitsOf_21 rfl rfl ?_
      refine V_imul (pc := 22) C dX12_fitsOf_22 ?_
      refine V_iload (pc := 23) C dX12_fitsOf_23 rfl ?_
      refine V_iadd (pc := 25) C dX12_fitsOf_25 ?_
      obtain ⟨k1, h⟩ := ck_some h
      refine V_zald (pc := 26) C (za_mW_12_41 z1_mW_12) k1 dX12_fitsOf_26 ?_
      refine V_if_eq (tgt := 34) (pc := 27) C dX12_fitsOf_27 (by decide) (fun hc => ?_) (fun hc => ?_)
      · have h := it_t hc h
        refine V_iconst (pc := 34) C dX12_fitsOf_34 kc_i_0 ?_
        refine V_iadd (pc := 35) C dX12_fitsOf_35 ?_
        refine V_istore_n (L' := [some (.ref 0), some (.int v1), some (.int (v2 + (0 : Int32))), some (.int v3), some (.int v4)]) (pc := 36) C dX12_fitsOf_36 rfl (by decide) rfl ?_
        refine V_iinc (L' := [some (.ref 0), some (.int v1), some (.int (v2 + (0 : Int32))), some (.int v3), some (.int (v4 + (1 : Int32)))]) (v := (v4 + (1 : Int32))) (pc := 37) C dX12_fitsOf_37 rfl (congrArg (v4 + ·) kc_i_1) (by decide) rfl ?_
        refine V_goto (tgt := 7) (pc := 40) C dX12_fitsOf_40 (by decide) ?_
        exact V_mask [true, true, true, true, true] (ih _ _ _ h hx)
      · have h := it_f hc h
        refine V_iconst (pc := 30) C dX12_fitsOf_30 kc_i_1 ?_
        refine V_goto (tgt := 35) (pc := 31) C dX12_fitsOf_31 (by decide) ?_
        refine V_iadd (pc := 35) C dX12_fitsOf_35 ?_
        refine V_istore_n (L' := [some (.ref 0), some (.int v1), some (.int (v2 + (1 : Int32))), some (.int v3), some (.int v4)]) (pc := 36) C dX12_fitsOf_36 rfl (by decide) rfl ?_
        refine V_iinc (L' := [some (.ref 0), some (.int v1), some (.int (v2 + (1 : Int32))), some (.int v3), some (.int (v4 + (1 : Int32)))]) (v := (v4 + (1 : Int32))) (pc := 37) C dX12_fitsOf_37 rfl (congrArg (v4 + ·) kc_i_1) (by decide) rfl ?_
        refine V_goto (tgt := 7) (pc := 40) C dX12_fitsOf_40 (by decide) ?_
        exact V_mask [true, true, true, true, true] (ih _ _ _ h hx)
set_option maxRecDepth 100000 in
theorem mX12_fitsOf_L46 {K : zK} (C : zC K cX12_fitsOf yX12_fitsOf.cls 5 0 0 mW) {S : zM} {v1 : Int32} {v2 : Int32}  : ∀ (f : Nat) (v3 : Int32) (v4 : Int32) (r : Int32), gX12_fitsOf_L46 S v1 v2 f v3 v4 = some r → zR K cX12_fitsOf (some .int) S (some (.int r)) → V K 46 [some (.ref 0), some (.int v1), some (.int v2), some (.int v3), some (.int v4)] [] S := by
  intro f
  induction f with
  | zero => intro v3 v4 r h hR; cases h
  | succ n ih =>
    intro v3 v4 r h hR
    unfold gX12_fitsOf_L46 at h
    refine V_iload (pc := 46) C dX12_fitsOf_46 rfl ?_
    refine V_bipush (pc := 48) C dX12_fitsOf_48 kc_b_11 ?_
    refine V_icmp_ge (tgt := 82) (pc := 50) C dX12_fitsOf_50 (by decide) (fun hc => ?_) (fun hc => ?_)
    · have h := it_t hc h
      refine V_iload_n (pc := 82) C dX12_fitsOf_82 rfl rfl ?_
      refine V_iload_n (pc := 83) C dX12_fitsOf_83 rfl rfl ?_
      refine V_imul (pc := 84) C dX12_fitsOf_84 ?_
      cases h
      exact hR 85 _ ⟨_, rfl, rfl⟩ dX12_fitsOf_85
    · have h := it_f hc h
      refine V_iload_n (pc := 53) C dX12_fitsOf_53 rfl rfl ?_
      refine V_aload_n (pc := 54) C dX12_fitsOf_54 rfl rfl ?_
      refine V_getF (p1 := 27) (pc := 55) C z1_mW_12 fl_RX12_93 rfl (zf_mW_12_42 z1_mW_12) dX12_fitsOf_55 ?_
      refine V_bipush (pc := 58) C dX12_fitsOf_58 kc_b_11 ?_
      refine V_iload_n (pc := 60) C dX12_fitsOf_60 rfl rfl ?_
      refine V_imul (pc := 61) C dX12_fitsOf_61 ?_
      refine V_iload (pc := 62) C dX12_fitsOf_62 rfl ?_
      refine V_iadd (pc := 64) C dX12_fitsOf_64 ?_
      obtain ⟨k3, h⟩ := ck_some h
      refine V_zald (pc := 65) C (za_mW_12_42 z1_mW_12) k3 dX12_fitsOf_65 ?_
      refine V_if_eq (tgt := 73) (pc := 66) C dX12_fitsOf_66 (by decide) (fun hc => ?_) (fun hc => ?_)
      · have h := it_t hc h
        refine V_iconst (pc := 73) C dX12_fitsOf_73 kc_i_0 ?_
        refine V_iadd (pc := 74) C dX12_fitsOf_74 ?_
        refine V_istore_n (L' := [some (.ref 0), some (.int v1), some (.int v2), some (.int (v3 + (0 : Int32))), some (.int v4)]) (pc := 75) C dX12_fitsOf_75 rfl (by decide) rfl ?_
        refine V_iinc (L' := [some (.ref 0), some (.int v1), some (.int v2), some (.int (v3 + (0 : Int32))), some (.int (v4 + (1 : Int32)))]) (v := (v4 + (1 : Int32))) (pc := 76) C dX12_fitsOf_76 rfl (congrArg (v4 + ·) kc_i_1) (by decide) rfl ?_
        refine V_goto (tgt := 46) (pc := 79) C dX12_fitsOf_79 (by decide) ?_
        exact V_mask [true, true, true, true, true] (ih _ _ _ h hR)
      · have h := it_f hc h
        refine V_iconst (pc := 69) C dX12_fitsOf_69 kc_i_1 ?_
        refine V_goto (tgt := 74) (pc := 70) C dX12_fitsOf_70 (by decide) ?_
        refine V_iadd (pc := 74) C dX12_fitsOf_74 ?_
        refine V_istore_n (L' := [some (.ref 0), some (.int v1), some (.int v2), some (.int (v3 + (1 : Int32))), some (.int v4)]) (pc := 75) C dX12_fitsOf_75 rfl (by decide) rfl ?_
        refine V_iinc (L' := [some (.ref 0), some (.int v1), some (.int v2), some (.int (v3 + (1 : Int32))), some (.int (v4 + (1 : Int32)))]) (v := (v4 + (1 : Int32))) (pc := 76) C dX12_fitsOf_76 rfl (congrArg (v4 + ·) kc_i_1) (by decide) rfl ?_
        refine V_goto (tgt := 46) (pc := 79) C dX12_fitsOf_79 (by decide) ?_
        exact V_mask [true, true, true, true, true] (ih _ _ _ h hR)
set_option maxRecDepth 100000 in
theorem mX12_fitsOf (l : Launch) {S : zM} {a1 : Int32} {r : Int32}  (h : gX12_fitsOf S a1 = some r) : zMet l mW zS0 yX12_fitsOf cX12_fitsOf 5 (some .int) 0 0 [.ref 0, .int a1] S (some (.int r)) S := by
  refine zmeth (by decide +kernel) (by rfl) (fun K hKl C hR => ?_)
  show V K 0 [some (.ref 0), some (.int a1), none, none, none] [] S
  unfold gX12_fitsOf at h
  refine V_iconst (pc := 0) C dX12_fitsOf_0 kc_i_0 ?_
  refine V_istore_n (L' := [some (.ref 0), some (.int a1), some (.int (0 : Int32)), none, none]) (pc := 1) C dX12_fitsOf_1 rfl (by decide) rfl ?_
  refine V_iconst (pc := 2) C dX12_fitsOf_2 kc_i_0 ?_
  refine V_istore_n (L' := [some (.ref 0), some (.int a1), some (.int (0 : Int32)), some (.int (0 : Int32)), none]) (pc := 3) C dX12_fitsOf_3 rfl (by decide) rfl ?_
  refine V_iconst (pc := 4) C dX12_fitsOf_4 kc_i_0 ?_
  refine V_istore (L' := [some (.ref 0), some (.int a1), some (.int (0 : Int32)), some (.int (0 : Int32)), some (.int (0 : Int32))]) (pc := 5) C dX12_fitsOf_5 (by decide) rfl ?_
  obtain ⟨w2, e7, h⟩ := b1_some h
  refine V_mask [true, true, true, true, true] (mX12_fitsOf_L7 C  FU _ _ _ e7 ?_)
  refine V_iconst (pc := 43) C dX12_fitsOf_43 kc_i_0 ?_
  refine V_istore (L' := [some (.ref 0), some (.int a1), some (.int w2), some (.int (0 : Int32)), some (.int (0 : Int32))]) (pc := 44) C dX12_fitsOf_44 (by decide) rfl ?_
  exact V_mask [true, true, true, true, true] (mX12_fitsOf_L46 C  FU _ _ _ h hR)
set_option maxRecDepth 100000 in
theorem mX12_fitsMany_L4 {K : zK} (C : zC K cX12_fitsMany yX12_fitsMany.cls 3 1 24 mW) {S : zM}   : ∀ (f : Nat) (v1 : Int32) (v2 : Int32) (r : Int32), gX12_fitsMany_L4 S f v1 v2 = some r → zR K cX12_fitsMany (some .int) S (some (.int r)) → V K 4 [some (.ref 0), some (.int v1), some (.int v2)] [] S := by
  intro f
  induction f with
  | zero => intro v1 v2 r h hR; cases h
  | succ n ih =>
    intro v1 v2 r h hR
    unfold gX12_fitsMany_L4 at h
    refine V_iload_n (pc := 4) C dX12_fitsMany_4 rfl rfl ?_
    refine V_aload_n (pc := 5) C dX12_fitsMany_5 rfl rfl ?_
    refine V_getF (p1 := 3) (pc := 6) C z1_mW_12 fl_RX12_20 rfl (zf_mW_12_15 z1_mW_12) dX12_fitsMany_6 ?_
    refine V_sipush (pc := 9) C dX12_fitsMany_9 kc_s_238 ?_
    obtain ⟨k1, h⟩ := ck_some h
    refine V_iald (pc := 12) C (za_mW_12_15 z1_mW_12) k1 dX12_fitsMany_12 ?_
    refine V_icmp_ge (tgt := 30) (pc := 13) C dX12_fitsMany_13 (by decide) (fun hc => ?_) (fun hc => ?_)
    · have h := it_t hc h
      refine V_iload_n (pc := 30) C dX12_fitsMany_30 rfl rfl ?_
      cases h
      exact hR 31 _ ⟨_, rfl, rfl⟩ dX12_fitsMany_31
    · have h := it_f hc h
      refine V_iload_n (pc := 16) C dX12_fitsMany_16 rfl rfl ?_
      refine V_aload_n (pc := 17) C dX12_fitsMany_17 rfl rfl ?_
      refine V_iload_n (pc := 18) C dX12_fitsMany_18 rfl rfl ?_
      obtain ⟨r2, er2, h⟩ := b1_some h
      refine V_callV (As := [.int v2]) (pc := 19) C (mX12_fitsOf _ er2) zm_X12_fitsOf zi_X12_fitsOf ml_RX12_460 z1_mW_12 rfl ⟨Nat.le_of_ble_eq_true rfl, Nat.le_of_ble_eq_true rfl⟩ rfl rfl (Nat.le_of_ble_eq_true rfl) dX12_fitsMany_19 ?_
      show V K 22 [some (.ref 0), some (.int v1), some (.int v2)] [.int r2, .int v1] S
      refine V_iadd (pc := 22) C dX12_fitsMany_22 ?_
      refine V_istore_n (L' := [some (.ref 0), some (.int (v1 + r2)), some (.int v2)]) (pc := 23) C dX12_fitsMany_23 rfl (by decide) rfl ?_
      refine V_iinc (L' := [some (.ref 0), some (.int (v1 + r2)), some (.int (v2 + (1 : Int32)))]) (v := (v2 + (1 : Int32))) (pc := 24) C dX12_fitsMany_24 rfl (congrArg (v2 + ·) kc_i_1) (by decide) rfl ?_
      refine V_goto (tgt := 4) (pc := 27) C dX12_fitsMany_27 (by decide) ?_
      exact V_mask [true, true, true] (ih _ _ _ h hR)
set_option maxRecDepth 100000 in
theorem mX12_fitsMany (l : Launch) {S : zM}  {r : Int32}  (h : gX12_fitsMany S = some r) : zMet l mW zS0 yX12_fitsMany cX12_fitsMany 3 (some .int) 1 24 [.ref 0] S (some (.int r)) S := by
  refine zmeth (by decide +kernel) (by rfl) (fun K hKl C hR => ?_)
  show V K 0 [some (.ref 0), none, none] [] S
  unfold gX12_fitsMany at h
  refine V_iconst (pc := 0) C dX12_fitsMany_0 kc_i_0 ?_
  refine V_istore_n (L' := [some (.ref 0), some (.int (0 : Int32)), none]) (pc := 1) C dX12_fitsMany_1 rfl (by decide) rfl ?_
  refine V_iconst (pc := 2) C dX12_fitsMany_2 kc_i_0 ?_
  refine V_istore_n (L' := [some (.ref 0), some (.int (0 : Int32)), some (.int (0 : Int32))]) (pc := 3) C dX12_fitsMany_3 rfl (by decide) rfl ?_
  exact V_mask [true, true, true] (mX12_fitsMany_L4 C  FU _ _ _ h hR)
set_option maxRecDepth 100000 in
theorem mX12_fits (l : Launch) {S : zM} {a1 : Int32} {r : Int32} {S' : zM}  (h : gX12_fits S a1 = some (r, S')) : zMet l mW zS0 yX12_fits cX12_fits 2 (some .int) 5 130 [.ref 0, .int a1] S (some (.int r)) S' := by
  refine zmeth (by decide +kernel) (by rfl) (fun K hKl C hR => ?_)
  show V K 0 [some (.ref 0), some (.int a1)] [] S
  unfold gX12_fits at h
  refine V_aload_n (pc := 0) C dX12_fits_0 rfl rfl ?_
  obtain ⟨S2, euS2, h⟩ := b1_some h
  refine V_callV (As := []) (pc := 1) C (mX12_good _ euS2) zm_X12_good zi_X12_good ml_RX12_211 z1_mW_12 rfl ⟨Nat.le_of_ble_eq_true rfl, Nat.le_of_ble_eq_true rfl⟩ rfl rfl (Nat.le_of_ble_eq_true rfl) dX12_fits_1 ?_
  show V K 4 [some (.ref 0), some (.int a1)] [] S2
  refine V_aload_n (pc := 4) C dX12_fits_4 rfl rfl ?_
  refine V_iload_n (pc := 5) C dX12_fits_5 rfl rfl ?_
  obtain ⟨r3, er3, h⟩ := b1_some h
  refine V_callV (As := [.int a1]) (pc := 6) C (mX12_isSayer _ er3) zm_X12_isSayer zi_X12_isSayer ml_RX12_315 z1_mW_12 rfl ⟨Nat.le_of_ble_eq_true rfl, Nat.le_of_ble_eq_true rfl⟩ rfl rfl (Nat.le_of_ble_eq_true rfl) dX12_fits_6 ?_
  show V K 9 [some (.ref 0), some (.int a1)] [.int r3] S2
  refine V_if_ne (tgt := 18) (pc := 9) C dX12_fits_9 (by decide) (fun hc => ?_) (fun hc => ?_)
  · have h := it_f hc h
    refine V_aload_n (pc := 18) C dX12_fits_18 rfl rfl ?_
    refine V_iload_n (pc := 19) C dX12_fits_19 rfl rfl ?_
    obtain ⟨r4, S5, er4, h⟩ := b2_some h
    refine V_callV (As := [.int a1]) (pc := 20) C (mX12_lays _ er4) zm_X12_lays zi_X12_lays ml_RX12_450 z1_mW_12 rfl ⟨Nat.le_of_ble_eq_true rfl, Nat.le_of_ble_eq_true rfl⟩ rfl rfl (Nat.le_of_ble_eq_true rfl) dX12_fits_20 ?_
    show V K 23 [some (.ref 0), some (.int a1)] [.int r4] S5
    refine V_if_ne (tgt := 32) (pc := 23) C dX12_fits_23 (by decide) (fun hc => ?_) (fun hc => ?_)
    · have h := it_f hc h
      refine V_aload_n (pc := 32) C dX12_fits_32 rfl rfl ?_
      refine V_iload_n (pc := 33) C dX12_fits_33 rfl rfl ?_
      obtain ⟨S7, euS7, h⟩ := b1_some h
      refine V_callV (As := [.int a1]) (pc := 34) C (mX12_fit _ euS7) zm_X12_fit zi_X12_fit ml_RX12_463 z1_mW_12 rfl ⟨Nat.le_of_ble_eq_true rfl, Nat.le_of_ble_eq_true rfl⟩ rfl rfl (Nat.le_of_ble_eq_true rfl) dX12_fits_34 ?_
      show V K 37 [some (.ref 0), some (.int a1)] [] S7
      refine V_aload_n (pc := 37) C dX12_fits_37 rfl rfl ?_
      obtain ⟨r8, er8, h⟩ := b1_some h
      refine V_callV (As := []) (pc := 38) C (mX12_fitsMany _ er8) zm_X12_fitsMany zi_X12_fitsMany ml_RX12_466 z1_mW_12 rfl ⟨Nat.le_of_ble_eq_true rfl, Nat.le_of_ble_eq_true rfl⟩ rfl rfl (Nat.le_of_ble_eq_true rfl) dX12_fits_38 ?_
      show V K 41 [some (.ref 0), some (.int a1)] [.int r8] S7
      cases h
      exact hR 41 _ ⟨_, rfl, rfl⟩ dX12_fits_41
    · have h := it_t hc h
      refine V_aload_n (pc := 26) C dX12_fits_26 rfl rfl ?_
      refine V_iconst (pc := 27) C dX12_fits_27 kc_i_3 ?_
      obtain ⟨r9, S10, er9, h⟩ := b2_some h
      refine V_callV (As := [.int (3 : Int32)]) (pc := 28) C (mX12_no _ er9) zm_X12_no zi_X12_no ml_RX12_214 z1_mW_12 rfl ⟨Nat.le_of_ble_eq_true rfl, Nat.le_of_ble_eq_true rfl⟩ rfl rfl (Nat.le_of_ble_eq_true rfl) dX12_fits_28 ?_
      show V K 31 [some (.ref 0), some (.int a1)] [.int r9] S10
      cases h
      exact hR 31 _ ⟨_, rfl, rfl⟩ dX12_fits_31
  · have h := it_t hc h
    refine V_aload_n (pc := 12) C dX12_fits_12 rfl rfl ?_
    refine V_iconst (pc := 13) C dX12_fits_13 kc_i_1 ?_
    obtain ⟨r11, S12, er11, h⟩ := b2_some h
    refine V_callV (As := [.int (1 : Int32)]) (pc := 14) C (mX12_no _ er11) zm_X12_no zi_X12_no ml_RX12_214 z1_mW_12 rfl ⟨Nat.le_of_ble_eq_true rfl, Nat.le_of_ble_eq_true rfl⟩ rfl rfl (Nat.le_of_ble_eq_true rfl) dX12_fits_14 ?_
    show V K 17 [some (.ref 0), some (.int a1)] [.int r11] S12
    cases h
    exact hR 17 _ ⟨_, rfl, rfl⟩ dX12_fits_17
