set_option maxRecDepth 100000 in
theorem mX12_brings_J62 {K : zK} (C : zC K cX12_brings yX12_brings.cls 8 1 24 mW) {S : zM} {v1 : Int32} {v2 : Int32} {v3 : Int32} {v4 : Int32} {v5 : Int32} {s0 : Int32} {out : Int32 ⊕ (Int32 × Int32)}  (h : gX12_brings_J62 S v1 v2 v3 v4 v5 s0 = some out) (hb : ∀ (b4 : Int32) (b5 : Int32), out = .inr (b4, b5) → V K 7 [some (.ref 0), some (.int v1), some (.int v2), some (.int v3), some (.int b4), some (.int b5), none, none] [] S) : V K 62 [some (.ref 0), some (.int v1), some (.int v2), some (.int v3), some (.int v4), some (.int v5), none, none] [.int s0] S := by
  unfold gX12_brings_J62 at h
  refine V_istore (L' := [some (.ref 0), some (.int v1), some (.int v2), some (.int v3), some (.int v4), some (.int v5), none, some (.int s0)]) (pc := 62) C dX12_brings_62 (by decide) rfl ?_
  refine V_iload (pc := 64) C dX12_brings_64 rfl ?_
  refine V_iload (pc := 66) C dX12_brings_66 rfl ?_
  refine V_if_eq (tgt := 86) (pc := 68) C dX12_brings_68 (by decide) (fun hc => ?_) (fun hc => ?_)
  · have h := it_t hc h
    refine V_iconst (pc := 86) C dX12_brings_86 kc_i_0 ?_
    refine V_iadd (pc := 87) C dX12_brings_87 ?_
    refine V_istore (L' := [some (.ref 0), some (.int v1), some (.int v2), some (.int v3), some (.int (v4 + (0 : Int32))), some (.int v5), none, some (.int s0)]) (pc := 88) C dX12_brings_88 (by decide) rfl ?_
    refine V_iinc (L' := [some (.ref 0), some (.int v1), some (.int v2), some (.int v3), some (.int (v4 + (0 : Int32))), some (.int (v5 + (1 : Int32))), none, some (.int s0)]) (v := (v5 + (1 : Int32))) (pc := 90) C dX12_brings_90 rfl (congrArg (v5 + ·) kc_i_1) (by decide) rfl ?_
    refine V_goto (tgt := 7) (pc := 93) C dX12_brings_93 (by decide) ?_
    cases h
    exact V_mask [true, true, true, true, true, true, false, false] (hb _ _ rfl)
  · have h := it_f hc h
    refine V_aload_n (pc := 71) C dX12_brings_71 rfl rfl ?_
    refine V_iload_n (pc := 72) C dX12_brings_72 rfl rfl ?_
    refine V_iload (pc := 73) C dX12_brings_73 rfl ?_
    refine V_aload_n (pc := 75) C dX12_brings_75 rfl rfl ?_
    refine V_iload_n (pc := 76) C dX12_brings_76 rfl rfl ?_
    obtain ⟨r2, er2, h⟩ := b1_some h
    refine V_callV (As := [.int v1]) (pc := 77) C (mX12_fullOf _ er2) zm_X12_fullOf zi_X12_fullOf ml_RX12_443 z1_mW_12 rfl ⟨Nat.le_of_ble_eq_true rfl, Nat.le_of_ble_eq_true rfl⟩ rfl rfl (Nat.le_of_ble_eq_true rfl) dX12_brings_77 ?_
    show V K 80 [some (.ref 0), some (.int v1), some (.int v2), some (.int v3), some (.int v4), some (.int v5), none, some (.int s0)] [.int r2, .int v5, .int v1, .ref 0, .int v4] S
    obtain ⟨r3, er3, h⟩ := b1_some h
    refine V_callV (As := [.int v1, .int v5, .int r2]) (pc := 80) C (mX12_often _ er3) zm_X12_often zi_X12_often ml_RX12_309 z1_mW_12 rfl ⟨Nat.le_of_ble_eq_true rfl, Nat.le_of_ble_eq_true rfl⟩ rfl rfl (Nat.le_of_ble_eq_true rfl) dX12_brings_80 ?_
    show V K 83 [some (.ref 0), some (.int v1), some (.int v2), some (.int v3), some (.int v4), some (.int v5), none, some (.int s0)] [.int r3, .int v4] S
    refine V_goto (tgt := 87) (pc := 83) C dX12_brings_83 (by decide) ?_
    refine V_iadd (pc := 87) C dX12_brings_87 ?_
    refine V_istore (L' := [some (.ref 0), some (.int v1), some (.int v2), some (.int v3), some (.int (v4 + r3)), some (.int v5), none, some (.int s0)]) (pc := 88) C dX12_brings_88 (by decide) rfl ?_
    refine V_iinc (L' := [some (.ref 0), some (.int v1), some (.int v2), some (.int v3), some (.int (v4 + r3)), some (.int (v5 + (1 : Int32))), none, some (.int s0)]) (v := (v5 + (1 : Int32))) (pc := 90) C dX12_brings_90 rfl (congrArg (v5 + ·) kc_i_1) (by decide) rfl ?_
    refine V_goto (tgt := 7) (pc := 93) C dX12_brings_93 (by decide) ?_
    cases h
    exact V_mask [true, true, true, true, true, true, false, false] (hb _ _ rfl)
set_option maxRecDepth 100000 in
theorem mX12_brings_J53 {K : zK} (C : zC K cX12_brings yX12_brings.cls 8 1 24 mW) {S : zM} {v1 : Int32} {v2 : Int32} {v3 : Int32} {v4 : Int32} {v5 : Int32} {s0 : Int32} {out : Int32 ⊕ (Int32 × Int32)}  (h : gX12_brings_J53 S v1 v2 v3 v4 v5 s0 = some out) (hb : ∀ (b4 : Int32) (b5 : Int32), out = .inr (b4, b5) → V K 7 [some (.ref 0), some (.int v1), some (.int v2), some (.int v3), some (.int b4), some (.int b5), none, none] [] S) : V K 53 [some (.ref 0), some (.int v1), some (.int v2), some (.int v3), some (.int v4), some (.int v5), none, none] [.int s0] S := by
  unfold gX12_brings_J53 at h
  refine V_iload_n (pc := 53) C dX12_brings_53 rfl rfl ?_
  refine V_icmp_ne (tgt := 61) (pc := 54) C dX12_brings_54 (by decide) (fun hc => ?_) (fun hc => ?_)
  · have h := it_f hc h
    refine V_iconst (pc := 61) C dX12_brings_61 kc_i_0 ?_
    exact V_mask [true, true, true, true, true, true, false, false] (mX12_brings_J62 C  h hb)
  · have h := it_t hc h
    refine V_iconst (pc := 57) C dX12_brings_57 kc_i_1 ?_
    refine V_goto (tgt := 62) (pc := 58) C dX12_brings_58 (by decide) ?_
    exact V_mask [true, true, true, true, true, true, false, false] (mX12_brings_J62 C  h hb)
set_option maxRecDepth 100000 in
theorem mX12_brings_L7 {K : zK} (C : zC K cX12_brings yX12_brings.cls 8 1 24 mW) {S : zM} {v1 : Int32} {v2 : Int32} {v3 : Int32}  : ∀ (f : Nat) (v4 : Int32) (v5 : Int32) (r : Int32), gX12_brings_L7 S v1 v2 v3 f v4 v5 = some r → zR K cX12_brings (some .int) S (some (.int r)) → V K 7 [some (.ref 0), some (.int v1), some (.int v2), some (.int v3), some (.int v4), some (.int v5), none, none] [] S := by
  intro f
  induction f with
  | zero => intro v4 v5 r h hR; cases h
  | succ n ih =>
    intro v4 v5 r h hR
    unfold gX12_brings_L7 at h
    refine V_iload (pc := 7) C dX12_brings_7 rfl ?_
    refine V_iconst (pc := 9) C dX12_brings_9 kc_i_5 ?_
    refine V_icmp_gt (tgt := 96) (pc := 10) C dX12_brings_10 (by decide) (fun hc => ?_) (fun hc => ?_)
    · have h := it_t hc h
      refine V_iload (pc := 96) C dX12_brings_96 rfl ?_
      cases h
      exact hR 98 _ ⟨_, rfl, rfl⟩ dX12_brings_98
    · have h := it_f hc h
      refine V_aload_n (pc := 13) C dX12_brings_13 rfl rfl ?_
      refine V_iload_n (pc := 14) C dX12_brings_14 rfl rfl ?_
      refine V_iload_n (pc := 15) C dX12_brings_15 rfl rfl ?_
      obtain ⟨r1, er1, h⟩ := b1_some h
      refine V_callV (As := [.int v1, .int v2]) (pc := 16) C (mX12_levelOf _ er1) zm_X12_levelOf zi_X12_levelOf ml_RX12_330 z1_mW_12 rfl ⟨Nat.le_of_ble_eq_true rfl, Nat.le_of_ble_eq_true rfl⟩ rfl rfl (Nat.le_of_ble_eq_true rfl) dX12_brings_16 ?_
      show V K 19 [some (.ref 0), some (.int v1), some (.int v2), some (.int v3), some (.int v4), some (.int v5), none, none] [.int r1] S
      refine V_iload (pc := 19) C dX12_brings_19 rfl ?_
      refine V_iadd (pc := 21) C dX12_brings_21 ?_
      refine V_istore (L' := [some (.ref 0), some (.int v1), some (.int v2), some (.int v3), some (.int v4), some (.int v5), some (.int (r1 + v5)), none]) (pc := 22) C dX12_brings_22 (by decide) rfl ?_
      refine V_iload_n (pc := 24) C dX12_brings_24 rfl rfl ?_
      refine V_iconst (pc := 25) C dX12_brings_25 kc_i_m1 ?_
      refine V_icmp_ne (tgt := 42) (pc := 26) C dX12_brings_26 (by decide) (fun hc => ?_) (fun hc => ?_)
      · have h := it_f hc h
        refine V_iload (pc := 42) C dX12_brings_42 rfl ?_
        refine V_if_ge (tgt := 51) (pc := 44) C dX12_brings_44 (by decide) (fun hc => ?_) (fun hc => ?_)
        · have h := it_t hc h
          refine V_iload (pc := 51) C dX12_brings_51 rfl ?_
          obtain ⟨out', e53, hi, hb⟩ := lm_some h
          refine V_mask [true, true, true, true, true, true, false, false] (mX12_brings_J53 C  e53 ?_)
          · intro v4 v5 eo
            have h := hb _ eo
            exact ih _ _ _ h hR
        · have h := it_f hc h
          refine V_iconst (pc := 47) C dX12_brings_47 kc_i_0 ?_
          refine V_goto (tgt := 53) (pc := 48) C dX12_brings_48 (by decide) ?_
          obtain ⟨out', e53, hi, hb⟩ := lm_some h
          refine V_mask [true, true, true, true, true, true, false, false] (mX12_brings_J53 C  e53 ?_)
          · intro v4 v5 eo
            have h := hb _ eo
            exact ih _ _ _ h hR
      · have h := it_t hc h
        refine V_iload (pc := 29) C dX12_brings_29 rfl ?_
        refine V_if_le (tgt := 38) (pc := 31) C dX12_brings_31 (by decide) (fun hc => ?_) (fun hc => ?_)
        · have h := it_t hc h
          refine V_iconst (pc := 38) C dX12_brings_38 kc_i_0 ?_
          refine V_goto (tgt := 62) (pc := 39) C dX12_brings_39 (by decide) ?_
          obtain ⟨out', e62, hi, hb⟩ := lm_some h
          refine V_mask [true, true, true, true, true, true, false, false] (mX12_brings_J62 C  e62 ?_)
          · intro v4 v5 eo
            have h := hb _ eo
            exact ih _ _ _ h hR
        · have h := it_f hc h
          refine V_iconst (pc := 34) C dX12_brings_34 kc_i_1 ?_
          refine V_goto (tgt := 62) (pc := 35) C dX12_brings_35 (by decide) ?_
          obtain ⟨out', e62, hi, hb⟩ := lm_some h
          refine V_mask [true, true, true, true, true, true, false, false] (mX12_brings_J62 C  e62 ?_)
          · intro v4 v5 eo
            have h := hb _ eo
            exact ih _ _ _ h hR
set_option maxRecDepth 100000 in
theorem mX12_brings (l : Launch) {S : zM} {a1 : Int32} {a2 : Int32} {a3 : Int32} {r : Int32}  (h : gX12_brings S a1 a2 a3 = some r) : zMet l mW zS0 yX12_brings cX12_brings 8 (some .int) 1 24 [.ref 0, .int a1, .int a2, .int a3] S (some (.int r)) S := by
  refine zmeth (by decide +kernel) (by rfl) (fun K hKl C hR => ?_)
  show V K 0 [some (.ref 0), some (.int a1), some (.int a2), some (.int a3), none, none, none, none] [] S
  unfold gX12_brings at h
  refine V_iconst (pc := 0) C dX12_brings_0 kc_i_0 ?_
  refine V_istore (L' := [some (.ref 0), some (.int a1), some (.int a2), some (.int a3), some (.int (0 : Int32)), none, none, none]) (pc := 1) C dX12_brings_1 (by decide) rfl ?_
  refine V_bipush (pc := 3) C dX12_brings_3 kc_b_m5 ?_
  refine V_istore (L' := [some (.ref 0), some (.int a1), some (.int a2), some (.int a3), some (.int (0 : Int32)), some (.int (-5 : Int32)), none, none]) (pc := 5) C dX12_brings_5 (by decide) rfl ?_
  exact V_mask [true, true, true, true, true, true, false, false] (mX12_brings_L7 C  FU _ _ _ h hR)
set_option maxRecDepth 100000 in
theorem mX12_areUnlike_J129 {K : zK} (C : zC K cX12_areUnlike yX12_areUnlike.cls 11 2 51 mW) {S : zM} {v1 : Int32} {v2 : Int32} {v4 : Int32} {v5 : Int32} {v6 : Int32} {v7 : Int32} {v8 : Int32} {v9 : Int32} {s0 : Int32} {out : Int32 ⊕ (Int32 × Int32)}  (h : gX12_areUnlike_J129 S v1 v2 v4 v5 v6 v7 v8 v9 s0 = some out) (hb : ∀ (b7 : Int32) (b8 : Int32), out = .inr (b7, b8) → V K 67 [some (.ref 0), some (.int v1), some (.int v2), none, some (.int v4), some (.int v5), some (.int v6), some (.int b7), some (.int b8), none, none] [] S) : V K 129 [some (.ref 0), some (.int v1), some (.int v2), none, some (.int v4), some (.int v5), some (.int v6), some (.int v7), some (.int v8), some (.int v9), none] [.int s0] S := by
  unfold gX12_areUnlike_J129 at h
  refine V_istore (L' := [some (.ref 0), some (.int v1), some (.int v2), none, some (.int v4), some (.int v5), some (.int v6), some (.int v7), some (.int v8), some (.int v9), some (.int s0)]) (pc := 129) C dX12_areUnlike_129 (by decide) rfl ?_
  refine V_iload (pc := 131) C dX12_areUnlike_131 rfl ?_
  refine V_if_ne (tgt := 190) (pc := 133) C dX12_areUnlike_133 (by decide) (fun hc => ?_) (fun hc => ?_)
  · have h := it_f hc h
    refine V_iconst (pc := 190) C dX12_areUnlike_190 kc_i_1 ?_
    refine V_goto (tgt := 195) (pc := 191) C dX12_areUnlike_191 (by decide) ?_
    refine V_istore (L' := [some (.ref 0), some (.int v1), some (.int v2), none, some (.int v4), some (.int v5), some (.int v6), some (.int (1 : Int32)), some (.int v8), some (.int v9), some (.int s0)]) (pc := 195) C dX12_areUnlike_195 (by decide) rfl ?_
    refine V_iinc (L' := [some (.ref 0), some (.int v1), some (.int v2), none, some (.int v4), some (.int v5), some (.int v6), some (.int (1 : Int32)), some (.int (v8 + (1 : Int32))), some (.int v9), some (.int s0)]) (v := (v8 + (1 : Int32))) (pc := 197) C dX12_areUnlike_197 rfl (congrArg (v8 + ·) kc_i_1) (by decide) rfl ?_
    refine V_goto (tgt := 67) (pc := 200) C dX12_areUnlike_200 (by decide) ?_
    cases h
    exact V_mask [true, true, true, false, true, true, true, true, true, false, false] (hb _ _ rfl)
  · have h := it_t hc h
    refine V_aload_n (pc := 136) C dX12_areUnlike_136 rfl rfl ?_
    refine V_iload_n (pc := 137) C dX12_areUnlike_137 rfl rfl ?_
    refine V_iload (pc := 138) C dX12_areUnlike_138 rfl ?_
    refine V_iload (pc := 140) C dX12_areUnlike_140 rfl ?_
    obtain ⟨r10, er10, h⟩ := b1_some h
    refine V_callV (As := [.int v1, .int v4, .int v9]) (pc := 142) C (mX12_brings _ er10) zm_X12_brings zi_X12_brings ml_RX12_497 z1_mW_12 rfl ⟨Nat.le_of_ble_eq_true rfl, Nat.le_of_ble_eq_true rfl⟩ rfl rfl (Nat.le_of_ble_eq_true rfl) dX12_areUnlike_142 ?_
    show V K 145 [some (.ref 0), some (.int v1), some (.int v2), none, some (.int v4), some (.int v5), some (.int v6), some (.int v7), some (.int v8), some (.int v9), some (.int s0)] [.int r10] S
    refine V_iload (pc := 145) C dX12_areUnlike_145 rfl ?_
    refine V_imul (pc := 147) C dX12_areUnlike_147 ?_
    refine V_aload_n (pc := 148) C dX12_areUnlike_148 rfl rfl ?_
    refine V_iload_n (pc := 149) C dX12_areUnlike_149 rfl rfl ?_
    refine V_iload (pc := 150) C dX12_areUnlike_150 rfl ?_
    refine V_iload (pc := 152) C dX12_areUnlike_152 rfl ?_
    obtain ⟨r11, er11, h⟩ := b1_some h
    refine V_callV (As := [.int v2, .int v4, .int v9]) (pc := 154) C (mX12_brings _ er11) zm_X12_brings zi_X12_brings ml_RX12_497 z1_mW_12 rfl ⟨Nat.le_of_ble_eq_true rfl, Nat.le_of_ble_eq_true rfl⟩ rfl rfl (Nat.le_of_ble_eq_true rfl) dX12_areUnlike_154 ?_
    show V K 157 [some (.ref 0), some (.int v1), some (.int v2), none, some (.int v4), some (.int v5), some (.int v6), some (.int v7), some (.int v8), some (.int v9), some (.int s0)] [.int r11, .int (r10 * v6)] S
    refine V_iload (pc := 157) C dX12_areUnlike_157 rfl ?_
    refine V_imul (pc := 159) C dX12_areUnlike_159 ?_
    refine V_icmp_ne (tgt := 190) (pc := 160) C dX12_areUnlike_160 (by decide) (fun hc => ?_) (fun hc => ?_)
    · have h := it_f hc h
      refine V_iconst (pc := 190) C dX12_areUnlike_190 kc_i_1 ?_
      refine V_goto (tgt := 195) (pc := 191) C dX12_areUnlike_191 (by decide) ?_
      refine V_istore (L' := [some (.ref 0), some (.int v1), some (.int v2), none, some (.int v4), some (.int v5), some (.int v6), some (.int (1 : Int32)), some (.int v8), some (.int v9), some (.int s0)]) (pc := 195) C dX12_areUnlike_195 (by decide) rfl ?_
      refine V_iinc (L' := [some (.ref 0), some (.int v1), some (.int v2), none, some (.int v4), some (.int v5), some (.int v6), some (.int (1 : Int32)), some (.int (v8 + (1 : Int32))), some (.int v9), some (.int s0)]) (v := (v8 + (1 : Int32))) (pc := 197) C dX12_areUnlike_197 rfl (congrArg (v8 + ·) kc_i_1) (by decide) rfl ?_
      refine V_goto (tgt := 67) (pc := 200) C dX12_areUnlike_200 (by decide) ?_
      cases h
      exact V_mask [true, true, true, false, true, true, true, true, true, false, false] (hb _ _ rfl)
    · have h := it_t hc h
      refine V_aload_n (pc := 163) C dX12_areUnlike_163 rfl rfl ?_
      refine V_iload_n (pc := 164) C dX12_areUnlike_164 rfl rfl ?_
      refine V_iload (pc := 165) C dX12_areUnlike_165 rfl ?_
      refine V_iload (pc := 167) C dX12_areUnlike_167 rfl ?_
      obtain ⟨r12, er12, h⟩ := b1_some h
      refine V_callV (As := [.int v1, .int v4, .int s0]) (pc := 169) C (mX12_brings _ er12) zm_X12_brings zi_X12_brings ml_RX12_497 z1_mW_12 rfl ⟨Nat.le_of_ble_eq_true rfl, Nat.le_of_ble_eq_true rfl⟩ rfl rfl (Nat.le_of_ble_eq_true rfl) dX12_areUnlike_169 ?_
      show V K 172 [some (.ref 0), some (.int v1), some (.int v2), none, some (.int v4), some (.int v5), some (.int v6), some (.int v7), some (.int v8), some (.int v9), some (.int s0)] [.int r12] S
      refine V_iload (pc := 172) C dX12_areUnlike_172 rfl ?_
      refine V_imul (pc := 174) C dX12_areUnlike_174 ?_
      refine V_aload_n (pc := 175) C dX12_areUnlike_175 rfl rfl ?_
      refine V_iload_n (pc := 176) C dX12_areUnlike_176 rfl rfl ?_
      refine V_iload (pc := 177) C dX12_areUnlike_177 rfl ?_
      refine V_iload (pc := 179) C dX12_areUnlike_179 rfl ?_
      obtain ⟨r13, er13, h⟩ := b1_some h
      refine V_callV (As := [.int v2, .int v4, .int s0]) (pc := 181) C (mX12_brings _ er13) zm_X12_brings zi_X12_brings ml_RX12_497 z1_mW_12 rfl ⟨Nat.le_of_ble_eq_true rfl, Nat.le_of_ble_eq_true rfl⟩ rfl rfl (Nat.le_of_ble_eq_true rfl) dX12_areUnlike_181 ?_
      show V K 184 [some (.ref 0), some (.int v1), some (.int v2), none, some (.int v4), some (.int v5), some (.int v6), some (.int v7), some (.int v8), some (.int v9), some (.int s0)] [.int r13, .int (r12 * v6)] S
      refine V_iload (pc := 184) C dX12_areUnlike_184 rfl ?_
      refine V_imul (pc := 186) C dX12_areUnlike_186 ?_
      refine V_icmp_eq (tgt := 194) (pc := 187) C dX12_areUnlike_187 (by decide) (fun hc => ?_) (fun hc => ?_)
      · have h := it_t hc h
        refine V_iconst (pc := 194) C dX12_areUnlike_194 kc_i_0 ?_
        refine V_istore (L' := [some (.ref 0), some (.int v1), some (.int v2), none, some (.int v4), some (.int v5), some (.int v6), some (.int (0 : Int32)), some (.int v8), some (.int v9), some (.int s0)]) (pc := 195) C dX12_areUnlike_195 (by decide) rfl ?_
        refine V_iinc (L' := [some (.ref 0), some (.int v1), some (.int v2), none, some (.int v4), some (.int v5), some (.int v6), some (.int (0 : Int32)), some (.int (v8 + (1 : Int32))), some (.int v9), some (.int s0)]) (v := (v8 + (1 : Int32))) (pc := 197) C dX12_areUnlike_197 rfl (congrArg (v8 + ·) kc_i_1) (by decide) rfl ?_
        refine V_goto (tgt := 67) (pc := 200) C dX12_areUnlike_200 (by decide) ?_
        cases h
        exact V_mask [true, true, true, false, true, true, true, true, true, false, false] (hb _ _ rfl)
      · have h := it_f hc h
        refine V_iconst (pc := 190) C dX12_areUnlike_190 kc_i_1 ?_
        refine V_goto (tgt := 195) (pc := 191) C dX12_areUnlike_191 (by decide) ?_
        refine V_istore (L' := [some (.ref 0), some (.int v1), some (.int v2), none, some (.int v4), some (.int v5), some (.int v6), some (.int (1 : Int32)), some (.int v8), some (.int v9), some (.int s0)]) (pc := 195) C dX12_areUnlike_195 (by decide) rfl ?_
        refine V_iinc (L' := [some (.ref 0), some (.int v1), some (.int v2), none, some (.int v4), some (.int v5), some (.int v6), some (.int (1 : Int32)), some (.int (v8 + (1 : Int32))), some (.int v9), some (.int s0)]) (v := (v8 + (1 : Int32))) (pc := 197) C dX12_areUnlike_197 rfl (congrArg (v8 + ·) kc_i_1) (by decide) rfl ?_
        refine V_goto (tgt := 67) (pc := 200) C dX12_areUnlike_200 (by decide) ?_
        cases h
        exact V_mask [true, true, true, false, true, true, true, true, true, false, false] (hb _ _ rfl)
set_option maxRecDepth 100000 in
theorem mX12_areUnlike_J100 {K : zK} (C : zC K cX12_areUnlike yX12_areUnlike.cls 11 2 51 mW) {S : zM} {v1 : Int32} {v2 : Int32} {v4 : Int32} {v5 : Int32} {v6 : Int32} {v7 : Int32} {v8 : Int32} {s0 : Int32} {out : Int32 ⊕ (Int32 × Int32)}  (h : gX12_areUnlike_J100 S v1 v2 v4 v5 v6 v7 v8 s0 = some out) (hb : ∀ (b7 : Int32) (b8 : Int32), out = .inr (b7, b8) → V K 67 [some (.ref 0), some (.int v1), some (.int v2), none, some (.int v4), some (.int v5), some (.int v6), some (.int b7), some (.int b8), none, none] [] S) : V K 100 [some (.ref 0), some (.int v1), some (.int v2), none, some (.int v4), some (.int v5), some (.int v6), some (.int v7), some (.int v8), none, none] [.int s0] S := by
  unfold gX12_areUnlike_J100 at h
  refine V_istore (L' := [some (.ref 0), some (.int v1), some (.int v2), none, some (.int v4), some (.int v5), some (.int v6), some (.int v7), some (.int v8), some (.int s0), none]) (pc := 100) C dX12_areUnlike_100 (by decide) rfl ?_
  refine V_aload_n (pc := 102) C dX12_areUnlike_102 rfl rfl ?_
  refine V_iload_n (pc := 103) C dX12_areUnlike_103 rfl rfl ?_
  refine V_iload (pc := 104) C dX12_areUnlike_104 rfl ?_
  obtain ⟨r8, er8, h⟩ := b1_some h
  refine V_callV (As := [.int v2, .int v4]) (pc := 106) C (mX12_levelOf _ er8) zm_X12_levelOf zi_X12_levelOf ml_RX12_330 z1_mW_12 rfl ⟨Nat.le_of_ble_eq_true rfl, Nat.le_of_ble_eq_true rfl⟩ rfl rfl (Nat.le_of_ble_eq_true rfl) dX12_areUnlike_106 ?_
  show V K 109 [some (.ref 0), some (.int v1), some (.int v2), none, some (.int v4), some (.int v5), some (.int v6), some (.int v7), some (.int v8), some (.int s0), none] [.int r8] S
  refine V_iload (pc := 109) C dX12_areUnlike_109 rfl ?_
  refine V_iadd (pc := 111) C dX12_areUnlike_111 ?_
  refine V_if_ge (tgt := 119) (pc := 112) C dX12_areUnlike_112 (by decide) (fun hc => ?_) (fun hc => ?_)
  · have h := it_t hc h
    refine V_aload_n (pc := 119) C dX12_areUnlike_119 rfl rfl ?_
    refine V_iload_n (pc := 120) C dX12_areUnlike_120 rfl rfl ?_
    refine V_iload (pc := 121) C dX12_areUnlike_121 rfl ?_
    obtain ⟨r9, er9, h⟩ := b1_some h
    refine V_callV (As := [.int v2, .int v4]) (pc := 123) C (mX12_levelOf _ er9) zm_X12_levelOf zi_X12_levelOf ml_RX12_330 z1_mW_12 rfl ⟨Nat.le_of_ble_eq_true rfl, Nat.le_of_ble_eq_true rfl⟩ rfl rfl (Nat.le_of_ble_eq_true rfl) dX12_areUnlike_123 ?_
    show V K 126 [some (.ref 0), some (.int v1), some (.int v2), none, some (.int v4), some (.int v5), some (.int v6), some (.int v7), some (.int v8), some (.int s0), none] [.int r9] S
    refine V_iload (pc := 126) C dX12_areUnlike_126 rfl ?_
    refine V_iadd (pc := 128) C dX12_areUnlike_128 ?_
    exact V_mask [true, true, true, false, true, true, true, true, true, true, false] (mX12_areUnlike_J129 C  h hb)
  · have h := it_f hc h
    refine V_iconst (pc := 115) C dX12_areUnlike_115 kc_i_0 ?_
    refine V_goto (tgt := 129) (pc := 116) C dX12_areUnlike_116 (by decide) ?_
    exact V_mask [true, true, true, false, true, true, true, true, true, true, false] (mX12_areUnlike_J129 C  h hb)
set_option maxRecDepth 100000 in
theorem mX12_areUnlike_L67 {K : zK} (C : zC K cX12_areUnlike yX12_areUnlike.cls 11 2 51 mW) {S : zM} {v1 : Int32} {v2 : Int32} {v4 : Int32} {v5 : Int32} {v6 : Int32}  : ∀ (f : Nat) (v7 : Int32) (v8 : Int32) (r : Int32), gX12_areUnlike_L67 S v1 v2 v4 v5 v6 f v7 v8 = some r → zR K cX12_areUnlike (some .boolean) S (some (.int r)) → V K 67 [some (.ref 0), some (.int v1), some (.int v2), none, some (.int v4), some (.int v5), some (.int v6), some (.int v7), some (.int v8), none, none] [] S := by
  intro f
  induction f with
  | zero => intro v7 v8 r h hR; cases h
  | succ n ih =>
    intro v7 v8 r h hR
    unfold gX12_areUnlike_L67 at h
    refine V_iload (pc := 67) C dX12_areUnlike_67 rfl ?_
    refine V_iconst (pc := 69) C dX12_areUnlike_69 kc_i_5 ?_
    refine V_icmp_gt (tgt := 203) (pc := 70) C dX12_areUnlike_70 (by decide) (fun hc => ?_) (fun hc => ?_)
    · have h := it_t hc h
      refine V_iload (pc := 203) C dX12_areUnlike_203 rfl ?_
      obtain ⟨k5, h⟩ := ck_some h
      cases h
      exact hR 205 _ ⟨_, rfl, isB_nar k5⟩ dX12_areUnlike_205
    · have h := it_f hc h
      refine V_aload_n (pc := 73) C dX12_areUnlike_73 rfl rfl ?_
      refine V_iload_n (pc := 74) C dX12_areUnlike_74 rfl rfl ?_
      refine V_iload (pc := 75) C dX12_areUnlike_75 rfl ?_
      obtain ⟨r6, er6, h⟩ := b1_some h
      refine V_callV (As := [.int v1, .int v4]) (pc := 77) C (mX12_levelOf _ er6) zm_X12_levelOf zi_X12_levelOf ml_RX12_330 z1_mW_12 rfl ⟨Nat.le_of_ble_eq_true rfl, Nat.le_of_ble_eq_true rfl⟩ rfl rfl (Nat.le_of_ble_eq_true rfl) dX12_areUnlike_77 ?_
      show V K 80 [some (.ref 0), some (.int v1), some (.int v2), none, some (.int v4), some (.int v5), some (.int v6), some (.int v7), some (.int v8), none, none] [.int r6] S
      refine V_iload (pc := 80) C dX12_areUnlike_80 rfl ?_
      refine V_iadd (pc := 82) C dX12_areUnlike_82 ?_
      refine V_if_ge (tgt := 90) (pc := 83) C dX12_areUnlike_83 (by decide) (fun hc => ?_) (fun hc => ?_)
      · have h := it_t hc h
        refine V_aload_n (pc := 90) C dX12_areUnlike_90 rfl rfl ?_
        refine V_iload_n (pc := 91) C dX12_areUnlike_91 rfl rfl ?_
        refine V_iload (pc := 92) C dX12_areUnlike_92 rfl ?_
        obtain ⟨r7, er7, h⟩ := b1_some h
        refine V_callV (As := [.int v1, .int v4]) (pc := 94) C (mX12_levelOf _ er7) zm_X12_levelOf zi_X12_levelOf ml_RX12_330 z1_mW_12 rfl ⟨Nat.le_of_ble_eq_true rfl, Nat.le_of_ble_eq_true rfl⟩ rfl rfl (Nat.le_of_ble_eq_true rfl) dX12_areUnlike_94 ?_
        show V K 97 [some (.ref 0), some (.int v1), some (.int v2), none, some (.int v4), some (.int v5), some (.int v6), some (.int v7), some (.int v8), none, none] [.int r7] S
        refine V_iload (pc := 97) C dX12_areUnlike_97 rfl ?_
        refine V_iadd (pc := 99) C dX12_areUnlike_99 ?_
        obtain ⟨out', e100, hi, hb⟩ := lm_some h
        refine V_mask [true, true, true, false, true, true, true, true, true, false, false] (mX12_areUnlike_J100 C  e100 ?_)
        · intro v7 v8 eo
          have h := hb _ eo
          exact ih _ _ _ h hR
      · have h := it_f hc h
        refine V_iconst (pc := 86) C dX12_areUnlike_86 kc_i_0 ?_
        refine V_goto (tgt := 100) (pc := 87) C dX12_areUnlike_87 (by decide) ?_
        obtain ⟨out', e100, hi, hb⟩ := lm_some h
        refine V_mask [true, true, true, false, true, true, true, true, true, false, false] (mX12_areUnlike_J100 C  e100 ?_)
        · intro v7 v8 eo
          have h := hb _ eo
          exact ih _ _ _ h hR
set_option maxRecDepth 100000 in
theorem mX12_areUnlike (l : Launch) {S : zM} {a1 : Int32} {a2 : Int32} {a3 : Int32} {a4 : Int32} {r : Int32}  (h : gX12_areUnlike S a1 a2 a3 a4 = some r) : zMet l mW zS0 yX12_areUnlike cX12_areUnlike 11 (some .boolean) 2 51 [.ref 0, .int a1, .int a2, .int a3, .int a4] S (some (.int r)) S := by
  refine zmeth (by decide +kernel) (by rfl) (fun K hKl C hR => ?_)
  show V K 0 [some (.ref 0), some (.int a1), some (.int a2), some (.int a3), some (.int a4), none, none, none, none, none, none] [] S
  unfold gX12_areUnlike at h
  refine V_aload_n (pc := 0) C dX12_areUnlike_0 rfl rfl ?_
  refine V_iload_n (pc := 1) C dX12_areUnlike_1 rfl rfl ?_
  refine V_aload_n (pc := 2) C dX12_areUnlike_2 rfl rfl ?_
  refine V_iload_n (pc := 3) C dX12_areUnlike_3 rfl rfl ?_
  obtain ⟨r1, er1, h⟩ := b1_some h
  refine V_callV (As := [.int a1]) (pc := 4) C (mX12_fullOf _ er1) zm_X12_fullOf zi_X12_fullOf ml_RX12_443 z1_mW_12 rfl ⟨Nat.le_of_ble_eq_true rfl, Nat.le_of_ble_eq_true rfl⟩ rfl rfl (Nat.le_of_ble_eq_true rfl) dX12_areUnlike_4 ?_
  show V K 7 [some (.ref 0), some (.int a1), some (.int a2), some (.int a3), some (.int a4), none, none, none, none, none, none] [.int r1, .int a1, .ref 0] S
  obtain ⟨r2, er2, h⟩ := b1_some h
  refine V_callV (As := [.int a1, .int r1]) (pc := 7) C (mX12_all _ er2) zm_X12_all zi_X12_all ml_RX12_324 z1_mW_12 rfl ⟨Nat.le_of_ble_eq_true rfl, Nat.le_of_ble_eq_true rfl⟩ rfl rfl (Nat.le_of_ble_eq_true rfl) dX12_areUnlike_7 ?_
  show V K 10 [some (.ref 0), some (.int a1), some (.int a2), some (.int a3), some (.int a4), none, none, none, none, none, none] [.int r2] S
  refine V_istore (L' := [some (.ref 0), some (.int a1), some (.int a2), some (.int a3), some (.int a4), some (.int r2), none, none, none, none, none]) (pc := 10) C dX12_areUnlike_10 (by decide) rfl ?_
  refine V_aload_n (pc := 12) C dX12_areUnlike_12 rfl rfl ?_
  refine V_iload_n (pc := 13) C dX12_areUnlike_13 rfl rfl ?_
  refine V_aload_n (pc := 14) C dX12_areUnlike_14 rfl rfl ?_
  refine V_iload_n (pc := 15) C dX12_areUnlike_15 rfl rfl ?_
  obtain ⟨r3, er3, h⟩ := b1_some h
  refine V_callV (As := [.int a2]) (pc := 16) C (mX12_fullOf _ er3) zm_X12_fullOf zi_X12_fullOf ml_RX12_443 z1_mW_12 rfl ⟨Nat.le_of_ble_eq_true rfl, Nat.le_of_ble_eq_true rfl⟩ rfl rfl (Nat.le_of_ble_eq_true rfl) dX12_areUnlike_16 ?_
  show V K 19 [some (.ref 0), some (.int a1), some (.int a2), some (.int a3), some (.int a4), some (.int r2), none, none, none, none, none] [.int r3, .int a2, .ref 0] S
  obtain ⟨r4, er4, h⟩ := b1_some h
  refine V_callV (As := [.int a2, .int r3]) (pc := 19) C (mX12_all _ er4) zm_X12_all zi_X12_all ml_RX12_324 z1_mW_12 rfl ⟨Nat.le_of_ble_eq_true rfl, Nat.le_of_ble_eq_true rfl⟩ rfl rfl (Nat.le_of_ble_eq_true rfl) dX12_areUnlike_19 ?_
  show V K 22 [some (.ref 0), some (.int a1), some (.int a2), some (.int a3), some (.int a4), some (.int r2), none, none, none, none, none] [.int r4] S
  refine V_istore (L' := [some (.ref 0), some (.int a1), some (.int a2), some (.int a3), some (.int a4), some (.int r2), some (.int r4), none, none, none, none]) (pc := 22) C dX12_areUnlike_22 (by decide) rfl ?_
  refine V_iload_n (pc := 24) C dX12_areUnlike_24 rfl rfl ?_
  refine V_iconst (pc := 25) C dX12_areUnlike_25 kc_i_1 ?_
  refine V_icmp_ne (tgt := 60) (pc := 26) C dX12_areUnlike_26 (by decide) (fun hc => ?_) (fun hc => ?_)
  · have h := it_f hc h
    refine V_iconst (pc := 60) C dX12_areUnlike_60 kc_i_0 ?_
    refine V_istore (L' := [some (.ref 0), some (.int a1), some (.int a2), some (.int a3), some (.int a4), some (.int r2), some (.int r4), some (.int (0 : Int32)), none, none, none]) (pc := 61) C dX12_areUnlike_61 (by decide) rfl ?_
    refine V_bipush (pc := 63) C dX12_areUnlike_63 kc_b_m5 ?_
    refine V_istore (L' := [some (.ref 0), some (.int a1), some (.int a2), some (.int a3), some (.int a4), some (.int r2), some (.int r4), some (.int (0 : Int32)), some (.int (-5 : Int32)), none, none]) (pc := 65) C dX12_areUnlike_65 (by decide) rfl ?_
    exact V_mask [true, true, true, false, true, true, true, true, true, false, false] (mX12_areUnlike_L67 C  FU _ _ _ h hR)
  · have h := it_t hc h
    refine V_aload_n (pc := 29) C dX12_areUnlike_29 rfl rfl ?_
    refine V_iload_n (pc := 30) C dX12_areUnlike_30 rfl rfl ?_
    refine V_iload (pc := 31) C dX12_areUnlike_31 rfl ?_
    refine V_iconst (pc := 33) C dX12_areUnlike_33 kc_i_m1 ?_
    obtain ⟨r14, er14, h⟩ := b1_some h
    refine V_callV (As := [.int a1, .int a4, .int (-1 : Int32)]) (pc := 34) C (mX12_brings _ er14) zm_X12_brings zi_X12_brings ml_RX12_497 z1_mW_12 rfl ⟨Nat.le_of_ble_eq_true rfl, Nat.le_of_ble_eq_true rfl⟩ rfl rfl (Nat.le_of_ble_eq_true rfl) dX12_areUnlike_34 ?_
    show V K 37 [some (.ref 0), some (.int a1), some (.int a2), some (.int a3), some (.int a4), some (.int r2), some (.int r4), none, none, none, none] [.int r14] S
    refine V_iload (pc := 37) C dX12_areUnlike_37 rfl ?_
    refine V_imul (pc := 39) C dX12_areUnlike_39 ?_
    refine V_aload_n (pc := 40) C dX12_areUnlike_40 rfl rfl ?_
    refine V_iload_n (pc := 41) C dX12_areUnlike_41 rfl rfl ?_
    refine V_iload (pc := 42) C dX12_areUnlike_42 rfl ?_
    refine V_iconst (pc := 44) C dX12_areUnlike_44 kc_i_m1 ?_
    obtain ⟨r15, er15, h⟩ := b1_some h
    refine V_callV (As := [.int a2, .int a4, .int (-1 : Int32)]) (pc := 45) C (mX12_brings _ er15) zm_X12_brings zi_X12_brings ml_RX12_497 z1_mW_12 rfl ⟨Nat.le_of_ble_eq_true rfl, Nat.le_of_ble_eq_true rfl⟩ rfl rfl (Nat.le_of_ble_eq_true rfl) dX12_areUnlike_45 ?_
    show V K 48 [some (.ref 0), some (.int a1), some (.int a2), some (.int a3), some (.int a4), some (.int r2), some (.int r4), none, none, none, none] [.int r15, .int (r14 * r4)] S
    refine V_iload (pc := 48) C dX12_areUnlike_48 rfl ?_
    refine V_imul (pc := 50) C dX12_areUnlike_50 ?_
    refine V_icmp_eq (tgt := 58) (pc := 51) C dX12_areUnlike_51 (by decide) (fun hc => ?_) (fun hc => ?_)
    · have h := it_t hc h
      refine V_iconst (pc := 58) C dX12_areUnlike_58 kc_i_0 ?_
      cases h
      exact hR 59 _ ⟨_, rfl, zB0⟩ dX12_areUnlike_59
    · have h := it_f hc h
      refine V_iconst (pc := 54) C dX12_areUnlike_54 kc_i_1 ?_
      refine V_goto (tgt := 59) (pc := 55) C dX12_areUnlike_55 (by decide) ?_
      cases h
      exact hR 59 _ ⟨_, rfl, zB1⟩ dX12_areUnlike_59
set_option maxRecDepth 100000 in
theorem mX12_parted_L122 {K : zK} (C : zC K cX12_parted yX12_parted.cls 9 3 81 mW) {v1 : Int32} {v2 : Int32} {v3 : Int32} {v4 : Int32} {v5 : Int32} {v7 : Int32}  : ∀ (f : Nat) (S : zM) (v8 : Int32) (out : ((Int32 × zM) ⊕ zM)), gX12_parted_L122 v1 v2 v3 v4 v5 v7 f S v8 = some out → (∀ (S' : zM), out = .inr S' → V K 162 [some (.ref 0), some (.int v1), some (.int v2), some (.int v3), some (.int v4), some (.int v5), none, some (.int v7), none] [] S') → (∀ r' : (Int32 × zM), out = .inl r' → zR K cX12_parted (some .int) r'.2 (some (.int (r'.1)))) → V K 122 [some (.ref 0), some (.int v1), some (.int v2), some (.int v3), some (.int v4), some (.int v5), none, some (.int v7), some (.int v8)] [] S := by
  intro f
  induction f with
  | zero => intro S v8 out h hx hret; cases h
  | succ n ih =>
    intro S v8 out h hx hret
    unfold gX12_parted_L122 at h
    refine V_iload (pc := 122) C dX12_parted_122 rfl ?_
    refine V_iload (pc := 124) C dX12_parted_124 rfl ?_
    refine V_icmp_gt (tgt := 162) (pc := 126) C dX12_parted_126 (by decide) (fun hc => ?_) (fun hc => ?_)
    · have h := it_t hc h
      cases h
      exact V_mask [true, true, true, true, true, true, false, true, false] (hx _ rfl)
    · have h := it_f hc h
      refine V_iload_n (pc := 129) C dX12_parted_129 rfl rfl ?_
      refine V_if_ne (tgt := 162) (pc := 130) C dX12_parted_130 (by decide) (fun hc => ?_) (fun hc => ?_)
      · have h := it_f hc h
        cases h
        exact V_mask [true, true, true, true, true, true, false, true, false] (hx _ rfl)
      · have h := it_t hc h
        refine V_aload_n (pc := 133) C dX12_parted_133 rfl rfl ?_
        refine V_iload_n (pc := 134) C dX12_parted_134 rfl rfl ?_
        refine V_iload_n (pc := 135) C dX12_parted_135 rfl rfl ?_
        refine V_iload (pc := 136) C dX12_parted_136 rfl ?_
        refine V_iload (pc := 138) C dX12_parted_138 rfl ?_
        obtain ⟨r13, S14, er13, h⟩ := b2_some h
        refine V_callV (As := [.int v1, .int v2, .int v7, .int v8]) (pc := 140) C (mX12_arePairsUnlike _ er13) zm_X12_arePairsUnlike zi_X12_arePairsUnlike ml_RX12_503 z1_mW_12 rfl ⟨Nat.le_of_ble_eq_true rfl, Nat.le_of_ble_eq_true rfl⟩ rfl rfl (Nat.le_of_ble_eq_true rfl) dX12_parted_140 ?_
        show V K 143 [some (.ref 0), some (.int v1), some (.int v2), some (.int v3), some (.int v4), some (.int v5), none, some (.int v7), some (.int v8)] [.int r13] S14
        refine V_if_eq (tgt := 156) (pc := 143) C dX12_parted_143 (by decide) (fun hc => ?_) (fun hc => ?_)
        · have h := it_t hc h
          refine V_iinc (L' := [some (.ref 0), some (.int v1), some (.int v2), some (.int v3), some (.int v4), some (.int v5), none, some (.int v7), some (.int (v8 + (1 : Int32)))]) (v := (v8 + (1 : Int32))) (pc := 156) C dX12_parted_156 rfl (congrArg (v8 + ·) kc_i_1) (by decide) rfl ?_
          refine V_goto (tgt := 122) (pc := 159) C dX12_parted_159 (by decide) ?_
          exact V_mask [true, true, true, true, true, true, false, true, true] (ih _ _ _ h hx hret)
        · have h := it_f hc h
          refine V_sipush (pc := 146) C dX12_parted_146 kc_s_1000 ?_
          refine V_iload (pc := 149) C dX12_parted_149 rfl ?_
          refine V_imul (pc := 151) C dX12_parted_151 ?_
          refine V_iload (pc := 152) C dX12_parted_152 rfl ?_
          refine V_iadd (pc := 154) C dX12_parted_154 ?_
          cases h
          exact (hret _ rfl) 155 _ ⟨_, rfl, rfl⟩ dX12_parted_155
set_option maxRecDepth 100000 in
theorem mX12_parted_L88 {K : zK} (C : zC K cX12_parted yX12_parted.cls 9 3 81 mW) {v1 : Int32} {v2 : Int32} {v3 : Int32} {v4 : Int32} {v5 : Int32}  : ∀ (f : Nat) (S : zM) (v7 : Int32) (r : Int32) (S' : zM), gX12_parted_L88 v1 v2 v3 v4 v5 f S v7 = some (r, S') → zR K cX12_parted (some .int) S' (some (.int r)) → V K 88 [some (.ref 0), some (.int v1), some (.int v2), some (.int v3), some (.int v4), some (.int v5), none, some (.int v7), none] [] S := by
  intro f
  induction f with
  | zero => intro S v7 r S' h hR; cases h
  | succ n ih =>
    intro S v7 r S' h hR
    unfold gX12_parted_L88 at h
    refine V_iload (pc := 88) C dX12_parted_88 rfl ?_
    refine V_iload (pc := 90) C dX12_parted_90 rfl ?_
    refine V_icmp_gt (tgt := 168) (pc := 92) C dX12_parted_92 (by decide) (fun hc => ?_) (fun hc => ?_)
    · have h := it_t hc h
      refine V_bipush (pc := 168) C dX12_parted_168 kc_b_m2 ?_
      cases h
      exact hR 170 _ ⟨_, rfl, rfl⟩ dX12_parted_170
    · have h := it_f hc h
      refine V_iload_n (pc := 95) C dX12_parted_95 rfl rfl ?_
      refine V_if_eq (tgt := 118) (pc := 96) C dX12_parted_96 (by decide) (fun hc => ?_) (fun hc => ?_)
      · have h := it_t hc h
        refine V_iload (pc := 118) C dX12_parted_118 rfl ?_
        refine V_istore (L' := [some (.ref 0), some (.int v1), some (.int v2), some (.int v3), some (.int v4), some (.int v5), none, some (.int v7), some (.int v4)]) (pc := 120) C dX12_parted_120 (by decide) rfl ?_
        obtain ⟨out122, e122, hr122, hx122⟩ := lm_some h
        refine V_mask [true, true, true, true, true, true, false, true, true] (mX12_parted_L122 C  FU _ _ _ e122 ?_ ?_)
        · intro S15 eo
          have h := hx122 _ eo
          refine V_iinc (L' := [some (.ref 0), some (.int v1), some (.int v2), some (.int v3), some (.int v4), some (.int v5), none, some (.int (v7 + (1 : Int32))), none]) (v := (v7 + (1 : Int32))) (pc := 162) C dX12_parted_162 rfl (congrArg (v7 + ·) kc_i_1) (by decide) rfl ?_
          refine V_goto (tgt := 88) (pc := 165) C dX12_parted_165 (by decide) ?_
          exact V_mask [true, true, true, true, true, true, false, true, false] (ih _ _ _ _ h hR)
        · intro r' eo
          cases hr122 _ eo
          exact hR
      · have h := it_f hc h
        refine V_aload_n (pc := 99) C dX12_parted_99 rfl rfl ?_
        refine V_iload_n (pc := 100) C dX12_parted_100 rfl rfl ?_
        refine V_iload_n (pc := 101) C dX12_parted_101 rfl rfl ?_
        refine V_iload_n (pc := 102) C dX12_parted_102 rfl rfl ?_
        refine V_iload (pc := 103) C dX12_parted_103 rfl ?_
        obtain ⟨r16, er16, h⟩ := b1_some h
        refine V_callV (As := [.int v1, .int v2, .int v3, .int v7]) (pc := 105) C (mX12_areUnlike _ er16) zm_X12_areUnlike zi_X12_areUnlike ml_RX12_500 z1_mW_12 rfl ⟨Nat.le_of_ble_eq_true rfl, Nat.le_of_ble_eq_true rfl⟩ rfl rfl (Nat.le_of_ble_eq_true rfl) dX12_parted_105 ?_
        show V K 108 [some (.ref 0), some (.int v1), some (.int v2), some (.int v3), some (.int v4), some (.int v5), none, some (.int v7), none] [.int r16] S
        refine V_if_eq (tgt := 118) (pc := 108) C dX12_parted_108 (by decide) (fun hc => ?_) (fun hc => ?_)
        · have h := it_t hc h
          refine V_iload (pc := 118) C dX12_parted_118 rfl ?_
          refine V_istore (L' := [some (.ref 0), some (.int v1), some (.int v2), some (.int v3), some (.int v4), some (.int v5), none, some (.int v7), some (.int v4)]) (pc := 120) C dX12_parted_120 (by decide) rfl ?_
          obtain ⟨out122, e122, hr122, hx122⟩ := lm_some h
          refine V_mask [true, true, true, true, true, true, false, true, true] (mX12_parted_L122 C  FU _ _ _ e122 ?_ ?_)
          · intro S19 eo
            have h := hx122 _ eo
            refine V_iinc (L' := [some (.ref 0), some (.int v1), some (.int v2), some (.int v3), some (.int v4), some (.int v5), none, some (.int (v7 + (1 : Int32))), none]) (v := (v7 + (1 : Int32))) (pc := 162) C dX12_parted_162 rfl (congrArg (v7 + ·) kc_i_1) (by decide) rfl ?_
            refine V_goto (tgt := 88) (pc := 165) C dX12_parted_165 (by decide) ?_
            exact V_mask [true, true, true, true, true, true, false, true, false] (ih _ _ _ _ h hR)
          · intro r' eo
            cases hr122 _ eo
            exact hR
        · have h := it_f hc h
          refine V_sipush (pc := 111) C dX12_parted_111 kc_s_1000 ?_
          refine V_iload (pc := 114) C dX12_parted_114 rfl ?_
          refine V_imul (pc := 116) C dX12_parted_116 ?_
          cases h
          exact hR 117 _ ⟨_, rfl, rfl⟩ dX12_parted_117
set_option maxRecDepth 100000 in
theorem mX12_parted_J50 {K : zK} (C : zC K cX12_parted yX12_parted.cls 9 3 81 mW) {S : zM} {v1 : Int32} {v2 : Int32} {v3 : Int32} {v4 : Int32} {v5 : Int32} {s0 : Int32} {r : Int32} {S' : zM}  (hR : zR K cX12_parted (some .int) S' (some (.int r))) (h : gX12_parted_J50 S v1 v2 v3 v4 v5 s0 = some (r, S')) : V K 50 [some (.ref 0), some (.int v1), some (.int v2), some (.int v3), some (.int v4), some (.int v5), none, none, none] [.int s0] S := by
  unfold gX12_parted_J50 at h
  refine V_istore (L' := [some (.ref 0), some (.int v1), some (.int v2), some (.int v3), some (.int v4), some (.int v5), some (.int s0), none, none]) (pc := 50) C dX12_parted_50 (by decide) rfl ?_
  refine V_iload (pc := 52) C dX12_parted_52 rfl ?_
  refine V_iload (pc := 54) C dX12_parted_54 rfl ?_
  refine V_sipush (pc := 56) C dX12_parted_56 kc_s_400 ?_
  obtain ⟨r9, er9, h⟩ := b1_some h
  refine V_callS (As := [.int v4, .int s0, .int (400 : Int32)]) (pc := 59) C (mX12_within _ er9) zm_X12_within zs_X12_within ml_RX12_203 ⟨Nat.le_of_ble_eq_true rfl, Nat.le_of_ble_eq_true rfl⟩ rfl rfl (Nat.le_of_ble_eq_true rfl) dX12_parted_59 ?_
  show V K 62 [some (.ref 0), some (.int v1), some (.int v2), some (.int v3), some (.int v4), some (.int v5), some (.int s0), none, none] [.int r9] S
  refine V_if_eq (tgt := 78) (pc := 62) C dX12_parted_62 (by decide) (fun hc => ?_) (fun hc => ?_)
  · have h := it_t hc h
    refine V_aload_n (pc := 78) C dX12_parted_78 rfl rfl ?_
    refine V_iconst (pc := 79) C dX12_parted_79 kc_i_2 ?_
    obtain ⟨r10, S11, er10, h⟩ := b2_some h
    refine V_callV (As := [.int (2 : Int32)]) (pc := 80) C (mX12_no _ er10) zm_X12_no zi_X12_no ml_RX12_214 z1_mW_12 rfl ⟨Nat.le_of_ble_eq_true rfl, Nat.le_of_ble_eq_true rfl⟩ rfl rfl (Nat.le_of_ble_eq_true rfl) dX12_parted_80 ?_
    show V K 83 [some (.ref 0), some (.int v1), some (.int v2), some (.int v3), some (.int v4), some (.int v5), some (.int s0), none, none] [.int r10] S11
    cases h
    exact hR 83 _ ⟨_, rfl, rfl⟩ dX12_parted_83
  · have h := it_f hc h
    refine V_iload (pc := 65) C dX12_parted_65 rfl ?_
    refine V_iload (pc := 67) C dX12_parted_67 rfl ?_
    refine V_sipush (pc := 69) C dX12_parted_69 kc_s_400 ?_
    obtain ⟨r12, er12, h⟩ := b1_some h
    refine V_callS (As := [.int v5, .int v4, .int (400 : Int32)]) (pc := 72) C (mX12_within _ er12) zm_X12_within zs_X12_within ml_RX12_203 ⟨Nat.le_of_ble_eq_true rfl, Nat.le_of_ble_eq_true rfl⟩ rfl rfl (Nat.le_of_ble_eq_true rfl) dX12_parted_72 ?_
    show V K 75 [some (.ref 0), some (.int v1), some (.int v2), some (.int v3), some (.int v4), some (.int v5), some (.int s0), none, none] [.int r12] S
    refine V_if_ne (tgt := 84) (pc := 75) C dX12_parted_75 (by decide) (fun hc => ?_) (fun hc => ?_)
    · have h := it_f hc h
      refine V_iload (pc := 84) C dX12_parted_84 rfl ?_
      refine V_istore (L' := [some (.ref 0), some (.int v1), some (.int v2), some (.int v3), some (.int v4), some (.int v5), some (.int s0), some (.int v4), none]) (pc := 86) C dX12_parted_86 (by decide) rfl ?_
      exact V_mask [true, true, true, true, true, true, false, true, false] (mX12_parted_L88 C  FU _ _ _ _ h hR)
    · have h := it_t hc h
      refine V_aload_n (pc := 78) C dX12_parted_78 rfl rfl ?_
      refine V_iconst (pc := 79) C dX12_parted_79 kc_i_2 ?_
      obtain ⟨r20, S21, er20, h⟩ := b2_some h
      refine V_callV (As := [.int (2 : Int32)]) (pc := 80) C (mX12_no _ er20) zm_X12_no zi_X12_no ml_RX12_214 z1_mW_12 rfl ⟨Nat.le_of_ble_eq_true rfl, Nat.le_of_ble_eq_true rfl⟩ rfl rfl (Nat.le_of_ble_eq_true rfl) dX12_parted_80 ?_
      show V K 83 [some (.ref 0), some (.int v1), some (.int v2), some (.int v3), some (.int v4), some (.int v5), some (.int s0), none, none] [.int r20] S21
      cases h
      exact hR 83 _ ⟨_, rfl, rfl⟩ dX12_parted_83
set_option maxRecDepth 100000 in
theorem mX12_parted (l : Launch) {S : zM} {a1 : Int32} {a2 : Int32} {a3 : Int32} {a4 : Int32} {a5 : Int32} {r : Int32} {S' : zM}  (h : gX12_parted S a1 a2 a3 a4 a5 = some (r, S')) : zMet l mW zS0 yX12_parted cX12_parted 9 (some .int) 3 81 [.ref 0, .int a1, .int a2, .int a3, .int a4, .int a5] S (some (.int r)) S' := by
  refine zmeth (by decide +kernel) (by rfl) (fun K hKl C hR => ?_)
  show V K 0 [some (.ref 0), some (.int a1), some (.int a2), some (.int a3), some (.int a4), some (.int a5), none, none, none] [] S
  unfold gX12_parted at h
  refine V_aload_n (pc := 0) C dX12_parted_0 rfl rfl ?_
  obtain ⟨S2, euS2, h⟩ := b1_some h
  refine V_callV (As := []) (pc := 1) C (mX12_good _ euS2) zm_X12_good zi_X12_good ml_RX12_211 z1_mW_12 rfl ⟨Nat.le_of_ble_eq_true rfl, Nat.le_of_ble_eq_true rfl⟩ rfl rfl (Nat.le_of_ble_eq_true rfl) dX12_parted_1 ?_
  show V K 4 [some (.ref 0), some (.int a1), some (.int a2), some (.int a3), some (.int a4), some (.int a5), none, none, none] [] S2
  refine V_aload_n (pc := 4) C dX12_parted_4 rfl rfl ?_
  refine V_iload_n (pc := 5) C dX12_parted_5 rfl rfl ?_
  obtain ⟨r3, er3, h⟩ := b1_some h
  refine V_callV (As := [.int a1]) (pc := 6) C (mX12_isSense _ er3) zm_X12_isSense zi_X12_isSense ml_RX12_306 z1_mW_12 rfl ⟨Nat.le_of_ble_eq_true rfl, Nat.le_of_ble_eq_true rfl⟩ rfl rfl (Nat.le_of_ble_eq_true rfl) dX12_parted_6 ?_
  show V K 9 [some (.ref 0), some (.int a1), some (.int a2), some (.int a3), some (.int a4), some (.int a5), none, none, none] [.int r3] S2
  refine V_if_eq (tgt := 34) (pc := 9) C dX12_parted_9 (by decide) (fun hc => ?_) (fun hc => ?_)
  · have h := it_t hc h
    refine V_aload_n (pc := 34) C dX12_parted_34 rfl rfl ?_
    refine V_iconst (pc := 35) C dX12_parted_35 kc_i_1 ?_
    obtain ⟨r4, S5, er4, h⟩ := b2_some h
    refine V_callV (As := [.int (1 : Int32)]) (pc := 36) C (mX12_no _ er4) zm_X12_no zi_X12_no ml_RX12_214 z1_mW_12 rfl ⟨Nat.le_of_ble_eq_true rfl, Nat.le_of_ble_eq_true rfl⟩ rfl rfl (Nat.le_of_ble_eq_true rfl) dX12_parted_36 ?_
    show V K 39 [some (.ref 0), some (.int a1), some (.int a2), some (.int a3), some (.int a4), some (.int a5), none, none, none] [.int r4] S5
    cases h
    exact hR 39 _ ⟨_, rfl, rfl⟩ dX12_parted_39
  · have h := it_f hc h
    refine V_aload_n (pc := 12) C dX12_parted_12 rfl rfl ?_
    refine V_iload_n (pc := 13) C dX12_parted_13 rfl rfl ?_
    obtain ⟨r6, er6, h⟩ := b1_some h
    refine V_callV (As := [.int a2]) (pc := 14) C (mX12_isSense _ er6) zm_X12_isSense zi_X12_isSense ml_RX12_306 z1_mW_12 rfl ⟨Nat.le_of_ble_eq_true rfl, Nat.le_of_ble_eq_true rfl⟩ rfl rfl (Nat.le_of_ble_eq_true rfl) dX12_parted_14 ?_
    show V K 17 [some (.ref 0), some (.int a1), some (.int a2), some (.int a3), some (.int a4), some (.int a5), none, none, none] [.int r6] S2
    refine V_if_eq (tgt := 34) (pc := 17) C dX12_parted_17 (by decide) (fun hc => ?_) (fun hc => ?_)
    · have h := it_t hc h
      refine V_aload_n (pc := 34) C dX12_parted_34 rfl rfl ?_
      refine V_iconst (pc := 35) C dX12_parted_35 kc_i_1 ?_
      obtain ⟨r7, S8, er7, h⟩ := b2_some h
      refine V_callV (As := [.int (1 : Int32)]) (pc := 36) C (mX12_no _ er7) zm_X12_no zi_X12_no ml_RX12_214 z1_mW_12 rfl ⟨Nat.le_of_ble_eq_true rfl, Nat.le_of_ble_eq_true rfl⟩ rfl rfl (Nat.le_of_ble_eq_true rfl) dX12_parted_36 ?_
      show V K 39 [some (.ref 0), some (.int a1), some (.int a2), some (.int a3), some (.int a4), some (.int a5), none, none, none] [.int r7] S8
      cases h
      exact hR 39 _ ⟨_, rfl, rfl⟩ dX12_parted_39
    · have h := it_f hc h
      refine V_iload_n (pc := 20) C dX12_parted_20 rfl rfl ?_
      refine V_if_eq (tgt := 40) (pc := 21) C dX12_parted_21 (by decide) (fun hc => ?_) (fun hc => ?_)
      · have h := it_t hc h
        refine V_iload_n (pc := 40) C dX12_parted_40 rfl rfl ?_
        refine V_iconst (pc := 41) C dX12_parted_41 kc_i_1 ?_
        refine V_icmp_ne (tgt := 49) (pc := 42) C dX12_parted_42 (by decide) (fun hc => ?_) (fun hc => ?_)
        · have h := it_f hc h
          refine V_iconst (pc := 49) C dX12_parted_49 kc_i_1 ?_
          exact V_mask [true, true, true, true, true, true, false, false, false] (mX12_parted_J50 C  hR h)
        · have h := it_t hc h
          refine V_iconst (pc := 45) C dX12_parted_45 kc_i_0 ?_
          refine V_goto (tgt := 50) (pc := 46) C dX12_parted_46 (by decide) ?_
          exact V_mask [true, true, true, true, true, true, false, false, false] (mX12_parted_J50 C  hR h)
      · have h := it_f hc h
        refine V_iload_n (pc := 24) C dX12_parted_24 rfl rfl ?_
        refine V_iconst (pc := 25) C dX12_parted_25 kc_i_1 ?_
        refine V_icmp_eq (tgt := 40) (pc := 26) C dX12_parted_26 (by decide) (fun hc => ?_) (fun hc => ?_)
        · have h := it_t hc h
          refine V_iload_n (pc := 40) C dX12_parted_40 rfl rfl ?_
          refine V_iconst (pc := 41) C dX12_parted_41 kc_i_1 ?_
          refine V_icmp_ne (tgt := 49) (pc := 42) C dX12_parted_42 (by decide) (fun hc => ?_) (fun hc => ?_)
          · have h := it_f hc h
            refine V_iconst (pc := 49) C dX12_parted_49 kc_i_1 ?_
            exact V_mask [true, true, true, true, true, true, false, false, false] (mX12_parted_J50 C  hR h)
          · have h := it_t hc h
            refine V_iconst (pc := 45) C dX12_parted_45 kc_i_0 ?_
            refine V_goto (tgt := 50) (pc := 46) C dX12_parted_46 (by decide) ?_
            exact V_mask [true, true, true, true, true, true, false, false, false] (mX12_parted_J50 C  hR h)
        · have h := it_f hc h
          refine V_iload_n (pc := 29) C dX12_parted_29 rfl rfl ?_
          refine V_iconst (pc := 30) C dX12_parted_30 kc_i_3 ?_
          refine V_icmp_eq (tgt := 40) (pc := 31) C dX12_parted_31 (by decide) (fun hc => ?_) (fun hc => ?_)
          · have h := it_t hc h
            refine V_iload_n (pc := 40) C dX12_parted_40 rfl rfl ?_
            refine V_iconst (pc := 41) C dX12_parted_41 kc_i_1 ?_
            refine V_icmp_ne (tgt := 49) (pc := 42) C dX12_parted_42 (by decide) (fun hc => ?_) (fun hc => ?_)
            · have h := it_f hc h
              refine V_iconst (pc := 49) C dX12_parted_49 kc_i_1 ?_
              exact V_mask [true, true, true, true, true, true, false, false, false] (mX12_parted_J50 C  hR h)
            · have h := it_t hc h
              refine V_iconst (pc := 45) C dX12_parted_45 kc_i_0 ?_
              refine V_goto (tgt := 50) (pc := 46) C dX12_parted_46 (by decide) ?_
              exact V_mask [true, true, true, true, true, true, false, false, false] (mX12_parted_J50 C  hR h)
          · have h := it_f hc h
            refine V_aload_n (pc := 34) C dX12_parted_34 rfl rfl ?_
            refine V_iconst (pc := 35) C dX12_parted_35 kc_i_1 ?_
            obtain ⟨r22, S23, er22, h⟩ := b2_some h
            refine V_callV (As := [.int (1 : Int32)]) (pc := 36) C (mX12_no _ er22) zm_X12_no zi_X12_no ml_RX12_214 z1_mW_12 rfl ⟨Nat.le_of_ble_eq_true rfl, Nat.le_of_ble_eq_true rfl⟩ rfl rfl (Nat.le_of_ble_eq_true rfl) dX12_parted_36 ?_
            show V K 39 [some (.ref 0), some (.int a1), some (.int a2), some (.int a3), some (.int a4), some (.int a5), none, none, none] [.int r22] S23
            cases h
            exact hR 39 _ ⟨_, rfl, rfl⟩ dX12_parted_39
set_option maxRecDepth 100000 in
theorem mX12_fewest_L116 {K : zK} (C : zC K cX12_fewest yX12_fewest.cls 11 4 104 mW) {v5 : Int32} {v6 : Int32} {v7 : Int32} {v8 : Int32}  : ∀ (f : Nat) (S : zM) (v9 : Int32) (r : Int32) (S' : zM), gX12_fewest_L116 v5 v6 v7 v8 f S v9 = some (r, S') → zR K cX12_fewest (some .int) S' (some (.int r)) → V K 116 [some (.ref 0), none, none, none, none, some (.int v5), some (.int v6), some (.int v7), some (.int v8), some (.int v9), none] [] S := by
  intro f
  induction f with
  | zero => intro S v9 r S' h hR; cases h
  | succ n ih =>
    intro S v9 r S' h hR
    unfold gX12_fewest_L116 at h
    refine V_iload (pc := 116) C dX12_fewest_116 rfl ?_
    refine V_bipush (pc := 118) C dX12_fewest_118 kc_b_40 ?_
    refine V_icmp_gt (tgt := 206) (pc := 120) C dX12_fewest_120 (by decide) (fun hc => ?_) (fun hc => ?_)
    · have h := it_t hc h
      refine V_bipush (pc := 206) C dX12_fewest_206 kc_b_m2 ?_
      cases h
      exact hR 208 _ ⟨_, rfl, rfl⟩ dX12_fewest_208
    · have h := it_f hc h
      refine V_aload_n (pc := 123) C dX12_fewest_123 rfl rfl ?_
      refine V_iload (pc := 124) C dX12_fewest_124 rfl ?_
      refine V_iload (pc := 126) C dX12_fewest_126 rfl ?_
      refine V_iload (pc := 128) C dX12_fewest_128 rfl ?_
      refine V_iload (pc := 130) C dX12_fewest_130 rfl ?_
      refine V_imul (pc := 132) C dX12_fewest_132 ?_
      refine V_iconst (pc := 133) C dX12_fewest_133 kc_i_1 ?_
      obtain ⟨r21, S22, er21, h⟩ := b2_some h
      refine V_callV (As := [.int v9, .int v7, .int (v5 * v5), .int (1 : Int32)]) (pc := 134) C (mX12_spanOf _ er21) zm_X12_spanOf zi_X12_spanOf ml_RX12_436 z1_mW_12 rfl ⟨Nat.le_of_ble_eq_true rfl, Nat.le_of_ble_eq_true rfl⟩ rfl rfl (Nat.le_of_ble_eq_true rfl) dX12_fewest_134 ?_
      show V K 137 [some (.ref 0), none, none, none, none, some (.int v5), some (.int v6), some (.int v7), some (.int v8), some (.int v9), none] [.int r21] S22
      refine V_aload_n (pc := 137) C dX12_fewest_137 rfl rfl ?_
      refine V_iload (pc := 138) C dX12_fewest_138 rfl ?_
      refine V_iload (pc := 140) C dX12_fewest_140 rfl ?_
      refine V_iload (pc := 142) C dX12_fewest_142 rfl ?_
      refine V_iload (pc := 144) C dX12_fewest_144 rfl ?_
      refine V_imul (pc := 146) C dX12_fewest_146 ?_
      refine V_iconst (pc := 147) C dX12_fewest_147 kc_i_0 ?_
      obtain ⟨r23, S24, er23, h⟩ := b2_some h
      refine V_callV (As := [.int v9, .int v8, .int (v6 * v6), .int (0 : Int32)]) (pc := 148) C (mX12_spanOf _ er23) zm_X12_spanOf zi_X12_spanOf ml_RX12_436 z1_mW_12 rfl ⟨Nat.le_of_ble_eq_true rfl, Nat.le_of_ble_eq_true rfl⟩ rfl rfl (Nat.le_of_ble_eq_true rfl) dX12_fewest_148 ?_
      show V K 151 [some (.ref 0), none, none, none, none, some (.int v5), some (.int v6), some (.int v7), some (.int v8), some (.int v9), none] [.int r23, .int r21] S24
      refine V_icmp_lt (tgt := 185) (pc := 151) C dX12_fewest_151 (by decide) (fun hc => ?_) (fun hc => ?_)
      · have h := it_t hc h
        refine V_iconst (pc := 185) C dX12_fewest_185 kc_i_1 ?_
        refine V_goto (tgt := 190) (pc := 186) C dX12_fewest_186 (by decide) ?_
        refine V_istore (L' := [some (.ref 0), none, none, none, none, some (.int v5), some (.int v6), some (.int v7), some (.int v8), some (.int v9), some (.int (1 : Int32))]) (pc := 190) C dX12_fewest_190 (by decide) rfl ?_
        refine V_iload (pc := 192) C dX12_fewest_192 rfl ?_
        refine V_if_eq (tgt := 200) (pc := 194) C dX12_fewest_194 (by decide) (fun hc => absurd hc (by decide)) (fun _ => ?_)
        refine V_iload (pc := 197) C dX12_fewest_197 rfl ?_
        cases h
        exact hR 199 _ ⟨_, rfl, rfl⟩ dX12_fewest_199
      · have h := it_f hc h
        refine V_aload_n (pc := 154) C dX12_fewest_154 rfl rfl ?_
        refine V_iload (pc := 155) C dX12_fewest_155 rfl ?_
        refine V_iload (pc := 157) C dX12_fewest_157 rfl ?_
        refine V_iload (pc := 159) C dX12_fewest_159 rfl ?_
        refine V_iload (pc := 161) C dX12_fewest_161 rfl ?_
        refine V_imul (pc := 163) C dX12_fewest_163 ?_
        refine V_iconst (pc := 164) C dX12_fewest_164 kc_i_1 ?_
        obtain ⟨r25, S26, er25, h⟩ := b2_some h
        refine V_callV (As := [.int v9, .int v8, .int (v6 * v6), .int (1 : Int32)]) (pc := 165) C (mX12_spanOf _ er25) zm_X12_spanOf zi_X12_spanOf ml_RX12_436 z1_mW_12 rfl ⟨Nat.le_of_ble_eq_true rfl, Nat.le_of_ble_eq_true rfl⟩ rfl rfl (Nat.le_of_ble_eq_true rfl) dX12_fewest_165 ?_
        show V K 168 [some (.ref 0), none, none, none, none, some (.int v5), some (.int v6), some (.int v7), some (.int v8), some (.int v9), none] [.int r25] S26
        refine V_aload_n (pc := 168) C dX12_fewest_168 rfl rfl ?_
        refine V_iload (pc := 169) C dX12_fewest_169 rfl ?_
        refine V_iload (pc := 171) C dX12_fewest_171 rfl ?_
        refine V_iload (pc := 173) C dX12_fewest_173 rfl ?_
        refine V_iload (pc := 175) C dX12_fewest_175 rfl ?_
        refine V_imul (pc := 177) C dX12_fewest_177 ?_
        refine V_iconst (pc := 178) C dX12_fewest_178 kc_i_0 ?_
        obtain ⟨r27, S28, er27, h⟩ := b2_some h
        refine V_callV (As := [.int v9, .int v7, .int (v5 * v5), .int (0 : Int32)]) (pc := 179) C (mX12_spanOf _ er27) zm_X12_spanOf zi_X12_spanOf ml_RX12_436 z1_mW_12 rfl ⟨Nat.le_of_ble_eq_true rfl, Nat.le_of_ble_eq_true rfl⟩ rfl rfl (Nat.le_of_ble_eq_true rfl) dX12_fewest_179 ?_
        show V K 182 [some (.ref 0), none, none, none, none, some (.int v5), some (.int v6), some (.int v7), some (.int v8), some (.int v9), none] [.int r27, .int r25] S28
        refine V_icmp_ge (tgt := 189) (pc := 182) C dX12_fewest_182 (by decide) (fun hc => ?_) (fun hc => ?_)
        · have h := it_t hc h
          refine V_iconst (pc := 189) C dX12_fewest_189 kc_i_0 ?_
          refine V_istore (L' := [some (.ref 0), none, none, none, none, some (.int v5), some (.int v6), some (.int v7), some (.int v8), some (.int v9), some (.int (0 : Int32))]) (pc := 190) C dX12_fewest_190 (by decide) rfl ?_
          refine V_iload (pc := 192) C dX12_fewest_192 rfl ?_
          refine V_if_eq (tgt := 200) (pc := 194) C dX12_fewest_194 (by decide) (fun _ => ?_) (fun hc => absurd hc (by decide))
          refine V_iinc (L' := [some (.ref 0), none, none, none, none, some (.int v5), some (.int v6), some (.int v7), some (.int v8), some (.int (v9 + (1 : Int32))), some (.int (0 : Int32))]) (v := (v9 + (1 : Int32))) (pc := 200) C dX12_fewest_200 rfl (congrArg (v9 + ·) kc_i_1) (by decide) rfl ?_
          refine V_goto (tgt := 116) (pc := 203) C dX12_fewest_203 (by decide) ?_
          exact V_mask [true, false, false, false, false, true, true, true, true, true, false] (ih _ _ _ _ h hR)
        · have h := it_f hc h
          refine V_iconst (pc := 185) C dX12_fewest_185 kc_i_1 ?_
          refine V_goto (tgt := 190) (pc := 186) C dX12_fewest_186 (by decide) ?_
          refine V_istore (L' := [some (.ref 0), none, none, none, none, some (.int v5), some (.int v6), some (.int v7), some (.int v8), some (.int v9), some (.int (1 : Int32))]) (pc := 190) C dX12_fewest_190 (by decide) rfl ?_
          refine V_iload (pc := 192) C dX12_fewest_192 rfl ?_
          refine V_if_eq (tgt := 200) (pc := 194) C dX12_fewest_194 (by decide) (fun hc => absurd hc (by decide)) (fun _ => ?_)
          refine V_iload (pc := 197) C dX12_fewest_197 rfl ?_
          cases h
          exact hR 199 _ ⟨_, rfl, rfl⟩ dX12_fewest_199
set_option maxRecDepth 100000 in
theorem mX12_fewest (l : Launch) {S : zM} {a1 : Int32} {a2 : Int32} {a3 : Int32} {a4 : Int32} {r : Int32} {S' : zM}  (h : gX12_fewest S a1 a2 a3 a4 = some (r, S')) : zMet l mW zS0 yX12_fewest cX12_fewest 11 (some .int) 4 104 [.ref 0, .int a1, .int a2, .int a3, .int a4] S (some (.int r)) S' := by
  refine zmeth (by decide +kernel) (by rfl) (fun K hKl C hR => ?_)
  show V K 0 [some (.ref 0), some (.int a1), some (.int a2), some (.int a3), some (.int a4), none, none, none, none, none, none] [] S
  unfold gX12_fewest at h
  refine V_aload_n (pc := 0) C dX12_fewest_0 rfl rfl ?_
  obtain ⟨S2, euS2, h⟩ := b1_some h
  refine V_callV (As := []) (pc := 1) C (mX12_good _ euS2) zm_X12_good zi_X12_good ml_RX12_211 z1_mW_12 rfl ⟨Nat.le_of_ble_eq_true rfl, Nat.le_of_ble_eq_true rfl⟩ rfl rfl (Nat.le_of_ble_eq_true rfl) dX12_fewest_1 ?_
  show V K 4 [some (.ref 0), some (.int a1), some (.int a2), some (.int a3), some (.int a4), none, none, none, none, none, none] [] S2
  refine V_aload_n (pc := 4) C dX12_fewest_4 rfl rfl ?_
  refine V_iload_n (pc := 5) C dX12_fewest_5 rfl rfl ?_
  obtain ⟨r3, er3, h⟩ := b1_some h
  refine V_callV (As := [.int a1]) (pc := 6) C (mX12_isSense _ er3) zm_X12_isSense zi_X12_isSense ml_RX12_306 z1_mW_12 rfl ⟨Nat.le_of_ble_eq_true rfl, Nat.le_of_ble_eq_true rfl⟩ rfl rfl (Nat.le_of_ble_eq_true rfl) dX12_fewest_6 ?_
  show V K 9 [some (.ref 0), some (.int a1), some (.int a2), some (.int a3), some (.int a4), none, none, none, none, none, none] [.int r3] S2
  refine V_if_eq (tgt := 20) (pc := 9) C dX12_fewest_9 (by decide) (fun hc => ?_) (fun hc => ?_)
  · have h := it_t hc h
    refine V_aload_n (pc := 20) C dX12_fewest_20 rfl rfl ?_
    refine V_iconst (pc := 21) C dX12_fewest_21 kc_i_1 ?_
    obtain ⟨r4, S5, er4, h⟩ := b2_some h
    refine V_callV (As := [.int (1 : Int32)]) (pc := 22) C (mX12_no _ er4) zm_X12_no zi_X12_no ml_RX12_214 z1_mW_12 rfl ⟨Nat.le_of_ble_eq_true rfl, Nat.le_of_ble_eq_true rfl⟩ rfl rfl (Nat.le_of_ble_eq_true rfl) dX12_fewest_22 ?_
    show V K 25 [some (.ref 0), some (.int a1), some (.int a2), some (.int a3), some (.int a4), none, none, none, none, none, none] [.int r4] S5
    cases h
    exact hR 25 _ ⟨_, rfl, rfl⟩ dX12_fewest_25
  · have h := it_f hc h
    refine V_aload_n (pc := 12) C dX12_fewest_12 rfl rfl ?_
    refine V_iload_n (pc := 13) C dX12_fewest_13 rfl rfl ?_
    obtain ⟨r6, er6, h⟩ := b1_some h
    refine V_callV (As := [.int a2]) (pc := 14) C (mX12_isSense _ er6) zm_X12_isSense zi_X12_isSense ml_RX12_306 z1_mW_12 rfl ⟨Nat.le_of_ble_eq_true rfl, Nat.le_of_ble_eq_true rfl⟩ rfl rfl (Nat.le_of_ble_eq_true rfl) dX12_fewest_14 ?_
    show V K 17 [some (.ref 0), some (.int a1), some (.int a2), some (.int a3), some (.int a4), none, none, none, none, none, none] [.int r6] S2
    refine V_if_ne (tgt := 26) (pc := 17) C dX12_fewest_17 (by decide) (fun hc => ?_) (fun hc => ?_)
    · have h := it_f hc h
      refine V_iload_n (pc := 26) C dX12_fewest_26 rfl rfl ?_
      refine V_iconst (pc := 27) C dX12_fewest_27 kc_i_1 ?_
      refine V_sipush (pc := 28) C dX12_fewest_28 kc_s_400 ?_
      obtain ⟨r7, er7, h⟩ := b1_some h
      refine V_callS (As := [.int a3, .int (1 : Int32), .int (400 : Int32)]) (pc := 31) C (mX12_within _ er7) zm_X12_within zs_X12_within ml_RX12_203 ⟨Nat.le_of_ble_eq_true rfl, Nat.le_of_ble_eq_true rfl⟩ rfl rfl (Nat.le_of_ble_eq_true rfl) dX12_fewest_31 ?_
      show V K 34 [some (.ref 0), some (.int a1), some (.int a2), some (.int a3), some (.int a4), none, none, none, none, none, none] [.int r7] S2
      refine V_if_eq (tgt := 49) (pc := 34) C dX12_fewest_34 (by decide) (fun hc => ?_) (fun hc => ?_)
      · have h := it_t hc h
        refine V_aload_n (pc := 49) C dX12_fewest_49 rfl rfl ?_
        refine V_iconst (pc := 50) C dX12_fewest_50 kc_i_2 ?_
        obtain ⟨r8, S9, er8, h⟩ := b2_some h
        refine V_callV (As := [.int (2 : Int32)]) (pc := 51) C (mX12_no _ er8) zm_X12_no zi_X12_no ml_RX12_214 z1_mW_12 rfl ⟨Nat.le_of_ble_eq_true rfl, Nat.le_of_ble_eq_true rfl⟩ rfl rfl (Nat.le_of_ble_eq_true rfl) dX12_fewest_51 ?_
        show V K 54 [some (.ref 0), some (.int a1), some (.int a2), some (.int a3), some (.int a4), none, none, none, none, none, none] [.int r8] S9
        cases h
        exact hR 54 _ ⟨_, rfl, rfl⟩ dX12_fewest_54
      · have h := it_f hc h
        refine V_iload (pc := 37) C dX12_fewest_37 rfl ?_
        refine V_iconst (pc := 39) C dX12_fewest_39 kc_i_1 ?_
        refine V_sipush (pc := 40) C dX12_fewest_40 kc_s_400 ?_
        obtain ⟨r10, er10, h⟩ := b1_some h
        refine V_callS (As := [.int a4, .int (1 : Int32), .int (400 : Int32)]) (pc := 43) C (mX12_within _ er10) zm_X12_within zs_X12_within ml_RX12_203 ⟨Nat.le_of_ble_eq_true rfl, Nat.le_of_ble_eq_true rfl⟩ rfl rfl (Nat.le_of_ble_eq_true rfl) dX12_fewest_43 ?_
        show V K 46 [some (.ref 0), some (.int a1), some (.int a2), some (.int a3), some (.int a4), none, none, none, none, none, none] [.int r10] S2
        refine V_if_ne (tgt := 55) (pc := 46) C dX12_fewest_46 (by decide) (fun hc => ?_) (fun hc => ?_)
        · have h := it_f hc h
          refine V_aload_n (pc := 55) C dX12_fewest_55 rfl rfl ?_
          refine V_iload_n (pc := 56) C dX12_fewest_56 rfl rfl ?_
          refine V_aload_n (pc := 57) C dX12_fewest_57 rfl rfl ?_
          refine V_iload_n (pc := 58) C dX12_fewest_58 rfl rfl ?_
          obtain ⟨r11, er11, h⟩ := b1_some h
          refine V_callV (As := [.int a1]) (pc := 59) C (mX12_fullOf _ er11) zm_X12_fullOf zi_X12_fullOf ml_RX12_443 z1_mW_12 rfl ⟨Nat.le_of_ble_eq_true rfl, Nat.le_of_ble_eq_true rfl⟩ rfl rfl (Nat.le_of_ble_eq_true rfl) dX12_fewest_59 ?_
          show V K 62 [some (.ref 0), some (.int a1), some (.int a2), some (.int a3), some (.int a4), none, none, none, none, none, none] [.int r11, .int a1, .ref 0] S2
          obtain ⟨r12, er12, h⟩ := b1_some h
          refine V_callV (As := [.int a1, .int r11]) (pc := 62) C (mX12_all _ er12) zm_X12_all zi_X12_all ml_RX12_324 z1_mW_12 rfl ⟨Nat.le_of_ble_eq_true rfl, Nat.le_of_ble_eq_true rfl⟩ rfl rfl (Nat.le_of_ble_eq_true rfl) dX12_fewest_62 ?_
          show V K 65 [some (.ref 0), some (.int a1), some (.int a2), some (.int a3), some (.int a4), none, none, none, none, none, none] [.int r12] S2
          refine V_istore (L' := [some (.ref 0), some (.int a1), some (.int a2), some (.int a3), some (.int a4), some (.int r12), none, none, none, none, none]) (pc := 65) C dX12_fewest_65 (by decide) rfl ?_
          refine V_aload_n (pc := 67) C dX12_fewest_67 rfl rfl ?_
          refine V_iload_n (pc := 68) C dX12_fewest_68 rfl rfl ?_
          refine V_aload_n (pc := 69) C dX12_fewest_69 rfl rfl ?_
          refine V_iload_n (pc := 70) C dX12_fewest_70 rfl rfl ?_
          obtain ⟨r13, er13, h⟩ := b1_some h
          refine V_callV (As := [.int a2]) (pc := 71) C (mX12_fullOf _ er13) zm_X12_fullOf zi_X12_fullOf ml_RX12_443 z1_mW_12 rfl ⟨Nat.le_of_ble_eq_true rfl, Nat.le_of_ble_eq_true rfl⟩ rfl rfl (Nat.le_of_ble_eq_true rfl) dX12_fewest_71 ?_
          show V K 74 [some (.ref 0), some (.int a1), some (.int a2), some (.int a3), some (.int a4), some (.int r12), none, none, none, none, none] [.int r13, .int a2, .ref 0] S2
          obtain ⟨r14, er14, h⟩ := b1_some h
          refine V_callV (As := [.int a2, .int r13]) (pc := 74) C (mX12_all _ er14) zm_X12_all zi_X12_all ml_RX12_324 z1_mW_12 rfl ⟨Nat.le_of_ble_eq_true rfl, Nat.le_of_ble_eq_true rfl⟩ rfl rfl (Nat.le_of_ble_eq_true rfl) dX12_fewest_74 ?_
          show V K 77 [some (.ref 0), some (.int a1), some (.int a2), some (.int a3), some (.int a4), some (.int r12), none, none, none, none, none] [.int r14] S2
          refine V_istore (L' := [some (.ref 0), some (.int a1), some (.int a2), some (.int a3), some (.int a4), some (.int r12), some (.int r14), none, none, none, none]) (pc := 77) C dX12_fewest_77 (by decide) rfl ?_
          refine V_aload_n (pc := 79) C dX12_fewest_79 rfl rfl ?_
          refine V_iload_n (pc := 80) C dX12_fewest_80 rfl rfl ?_
          refine V_iload_n (pc := 81) C dX12_fewest_81 rfl rfl ?_
          refine V_iload (pc := 82) C dX12_fewest_82 rfl ?_
          refine V_iconst (pc := 84) C dX12_fewest_84 kc_i_0 ?_
          obtain ⟨S16, euS16, h⟩ := b1_some h
          refine V_callV (As := [.int a1, .int a3, .int a4, .int (0 : Int32)]) (pc := 85) C (mX12_pairs _ euS16) zm_X12_pairs zi_X12_pairs ml_RX12_446 z1_mW_12 rfl ⟨Nat.le_of_ble_eq_true rfl, Nat.le_of_ble_eq_true rfl⟩ rfl rfl (Nat.le_of_ble_eq_true rfl) dX12_fewest_85 ?_
          show V K 88 [some (.ref 0), some (.int a1), some (.int a2), some (.int a3), some (.int a4), some (.int r12), some (.int r14), none, none, none, none] [] S16
          refine V_aload_n (pc := 88) C dX12_fewest_88 rfl rfl ?_
          refine V_getF (p1 := 25) (pc := 89) C z1_mW_12 fl_RX12_86 rfl (zf_mW_12_40 z1_mW_12) dX12_fewest_89 ?_
          refine V_iconst (pc := 92) C dX12_fewest_92 kc_i_1 ?_
          obtain ⟨k17, h⟩ := ck_some h
          refine V_iald (pc := 93) C (za_mW_12_40 z1_mW_12) k17 dX12_fewest_93 ?_
          refine V_istore (L' := [some (.ref 0), some (.int a1), some (.int a2), some (.int a3), some (.int a4), some (.int r12), some (.int r14), some (.int (gI S16 25 (ix (1 : Int32)))), none, none, none]) (pc := 94) C dX12_fewest_94 (by decide) rfl ?_
          refine V_aload_n (pc := 96) C dX12_fewest_96 rfl rfl ?_
          refine V_iload_n (pc := 97) C dX12_fewest_97 rfl rfl ?_
          refine V_iload_n (pc := 98) C dX12_fewest_98 rfl rfl ?_
          refine V_iload (pc := 99) C dX12_fewest_99 rfl ?_
          refine V_iconst (pc := 101) C dX12_fewest_101 kc_i_0 ?_
          obtain ⟨S19, euS19, h⟩ := b1_some h
          refine V_callV (As := [.int a2, .int a3, .int a4, .int (0 : Int32)]) (pc := 102) C (mX12_pairs _ euS19) zm_X12_pairs zi_X12_pairs ml_RX12_446 z1_mW_12 rfl ⟨Nat.le_of_ble_eq_true rfl, Nat.le_of_ble_eq_true rfl⟩ rfl rfl (Nat.le_of_ble_eq_true rfl) dX12_fewest_102 ?_
          show V K 105 [some (.ref 0), some (.int a1), some (.int a2), some (.int a3), some (.int a4), some (.int r12), some (.int r14), some (.int (gI S16 25 (ix (1 : Int32)))), none, none, none] [] S19
          refine V_aload_n (pc := 105) C dX12_fewest_105 rfl rfl ?_
          refine V_getF (p1 := 25) (pc := 106) C z1_mW_12 fl_RX12_86 rfl (zf_mW_12_40 z1_mW_12) dX12_fewest_106 ?_
          refine V_iconst (pc := 109) C dX12_fewest_109 kc_i_1 ?_
          obtain ⟨k20, h⟩ := ck_some h
          refine V_iald (pc := 110) C (za_mW_12_40 z1_mW_12) k20 dX12_fewest_110 ?_
          refine V_istore (L' := [some (.ref 0), some (.int a1), some (.int a2), some (.int a3), some (.int a4), some (.int r12), some (.int r14), some (.int (gI S16 25 (ix (1 : Int32)))), some (.int (gI S19 25 (ix (1 : Int32)))), none, none]) (pc := 111) C dX12_fewest_111 (by decide) rfl ?_
          refine V_iconst (pc := 113) C dX12_fewest_113 kc_i_1 ?_
          refine V_istore (L' := [some (.ref 0), some (.int a1), some (.int a2), some (.int a3), some (.int a4), some (.int r12), some (.int r14), some (.int (gI S16 25 (ix (1 : Int32)))), some (.int (gI S19 25 (ix (1 : Int32)))), some (.int (1 : Int32)), none]) (pc := 114) C dX12_fewest_114 (by decide) rfl ?_
          exact V_mask [true, false, false, false, false, true, true, true, true, true, false] (mX12_fewest_L116 C  FU _ _ _ _ h hR)
        · have h := it_t hc h
          refine V_aload_n (pc := 49) C dX12_fewest_49 rfl rfl ?_
          refine V_iconst (pc := 50) C dX12_fewest_50 kc_i_2 ?_
          obtain ⟨r29, S30, er29, h⟩ := b2_some h
          refine V_callV (As := [.int (2 : Int32)]) (pc := 51) C (mX12_no _ er29) zm_X12_no zi_X12_no ml_RX12_214 z1_mW_12 rfl ⟨Nat.le_of_ble_eq_true rfl, Nat.le_of_ble_eq_true rfl⟩ rfl rfl (Nat.le_of_ble_eq_true rfl) dX12_fewest_51 ?_
          show V K 54 [some (.ref 0), some (.int a1), some (.int a2), some (.int a3), some (.int a4), none, none, none, none, none, none] [.int r29] S30
          cases h
          exact hR 54 _ ⟨_, rfl, rfl⟩ dX12_fewest_54
    · have h := it_t hc h
      refine V_aload_n (pc := 20) C dX12_fewest_20 rfl rfl ?_
      refine V_iconst (pc := 21) C dX12_fewest_21 kc_i_1 ?_
      obtain ⟨r31, S32, er31, h⟩ := b2_some h
      refine V_callV (As := [.int (1 : Int32)]) (pc := 22) C (mX12_no _ er31) zm_X12_no zi_X12_no ml_RX12_214 z1_mW_12 rfl ⟨Nat.le_of_ble_eq_true rfl, Nat.le_of_ble_eq_true rfl⟩ rfl rfl (Nat.le_of_ble_eq_true rfl) dX12_fewest_22 ?_
      show V K 25 [some (.ref 0), some (.int a1), some (.int a2), some (.int a3), some (.int a4), none, none, none, none, none, none] [.int r31] S32
      cases h
      exact hR 25 _ ⟨_, rfl, rfl⟩ dX12_fewest_25
set_option maxRecDepth 100000 in
theorem mX12_match (l : Launch) {S : zM} {a1 : Int32} {a2 : Int32} {a3 : Int32} {r : Int32} {S' : zM}  (h : gX12_match S a1 a2 a3 = some (r, S')) : zMet l mW zS0 yX12_match cX12_match 4 (some .int) 2 46 [.ref 0, .int a1, .int a2, .int a3] S (some (.int r)) S' := by
  refine zmeth (by decide +kernel) (by rfl) (fun K hKl C hR => ?_)
  show V K 0 [some (.ref 0), some (.int a1), some (.int a2), some (.int a3)] [] S
  unfold gX12_match at h
  refine V_aload_n (pc := 0) C dX12_match_0 rfl rfl ?_
  obtain ⟨S2, euS2, h⟩ := b1_some h
  refine V_callV (As := []) (pc := 1) C (mX12_good _ euS2) zm_X12_good zi_X12_good ml_RX12_211 z1_mW_12 rfl ⟨Nat.le_of_ble_eq_true rfl, Nat.le_of_ble_eq_true rfl⟩ rfl rfl (Nat.le_of_ble_eq_true rfl) dX12_match_1 ?_
  show V K 4 [some (.ref 0), some (.int a1), some (.int a2), some (.int a3)] [] S2
  refine V_aload_n (pc := 4) C dX12_match_4 rfl rfl ?_
  refine V_iload_n (pc := 5) C dX12_match_5 rfl rfl ?_
  obtain ⟨r3, er3, h⟩ := b1_some h
  refine V_callV (As := [.int a1]) (pc := 6) C (mX12_isSense _ er3) zm_X12_isSense zi_X12_isSense ml_RX12_306 z1_mW_12 rfl ⟨Nat.le_of_ble_eq_true rfl, Nat.le_of_ble_eq_true rfl⟩ rfl rfl (Nat.le_of_ble_eq_true rfl) dX12_match_6 ?_
  show V K 9 [some (.ref 0), some (.int a1), some (.int a2), some (.int a3)] [.int r3] S2
  refine V_if_eq (tgt := 20) (pc := 9) C dX12_match_9 (by decide) (fun hc => ?_) (fun hc => ?_)
  · have h := it_t hc h
    refine V_aload_n (pc := 20) C dX12_match_20 rfl rfl ?_
    refine V_iconst (pc := 21) C dX12_match_21 kc_i_1 ?_
    obtain ⟨r4, S5, er4, h⟩ := b2_some h
    refine V_callV (As := [.int (1 : Int32)]) (pc := 22) C (mX12_no _ er4) zm_X12_no zi_X12_no ml_RX12_214 z1_mW_12 rfl ⟨Nat.le_of_ble_eq_true rfl, Nat.le_of_ble_eq_true rfl⟩ rfl rfl (Nat.le_of_ble_eq_true rfl) dX12_match_22 ?_
    show V K 25 [some (.ref 0), some (.int a1), some (.int a2), some (.int a3)] [.int r4] S5
    cases h
    exact hR 25 _ ⟨_, rfl, rfl⟩ dX12_match_25
  · have h := it_f hc h
    refine V_aload_n (pc := 12) C dX12_match_12 rfl rfl ?_
    refine V_iload_n (pc := 13) C dX12_match_13 rfl rfl ?_
    obtain ⟨r6, er6, h⟩ := b1_some h
    refine V_callV (As := [.int a3]) (pc := 14) C (mX12_isSense _ er6) zm_X12_isSense zi_X12_isSense ml_RX12_306 z1_mW_12 rfl ⟨Nat.le_of_ble_eq_true rfl, Nat.le_of_ble_eq_true rfl⟩ rfl rfl (Nat.le_of_ble_eq_true rfl) dX12_match_14 ?_
    show V K 17 [some (.ref 0), some (.int a1), some (.int a2), some (.int a3)] [.int r6] S2
    refine V_if_ne (tgt := 26) (pc := 17) C dX12_match_17 (by decide) (fun hc => ?_) (fun hc => ?_)
    · have h := it_f hc h
      refine V_iload_n (pc := 26) C dX12_match_26 rfl rfl ?_
      refine V_iconst (pc := 27) C dX12_match_27 kc_i_1 ?_
      refine V_sipush (pc := 28) C dX12_match_28 kc_s_400 ?_
      obtain ⟨r7, er7, h⟩ := b1_some h
      refine V_callS (As := [.int a2, .int (1 : Int32), .int (400 : Int32)]) (pc := 31) C (mX12_within _ er7) zm_X12_within zs_X12_within ml_RX12_203 ⟨Nat.le_of_ble_eq_true rfl, Nat.le_of_ble_eq_true rfl⟩ rfl rfl (Nat.le_of_ble_eq_true rfl) dX12_match_31 ?_
      show V K 34 [some (.ref 0), some (.int a1), some (.int a2), some (.int a3)] [.int r7] S2
      refine V_if_eq (tgt := 51) (pc := 34) C dX12_match_34 (by decide) (fun hc => ?_) (fun hc => ?_)
      · have h := it_t hc h
        refine V_aload_n (pc := 51) C dX12_match_51 rfl rfl ?_
        refine V_iconst (pc := 52) C dX12_match_52 kc_i_2 ?_
        obtain ⟨r8, S9, er8, h⟩ := b2_some h
        refine V_callV (As := [.int (2 : Int32)]) (pc := 53) C (mX12_no _ er8) zm_X12_no zi_X12_no ml_RX12_214 z1_mW_12 rfl ⟨Nat.le_of_ble_eq_true rfl, Nat.le_of_ble_eq_true rfl⟩ rfl rfl (Nat.le_of_ble_eq_true rfl) dX12_match_53 ?_
        show V K 56 [some (.ref 0), some (.int a1), some (.int a2), some (.int a3)] [.int r8] S9
        cases h
        exact hR 56 _ ⟨_, rfl, rfl⟩ dX12_match_56
      · have h := it_f hc h
        refine V_aload_n (pc := 37) C dX12_match_37 rfl rfl ?_
        refine V_iload_n (pc := 38) C dX12_match_38 rfl rfl ?_
        refine V_aload_n (pc := 39) C dX12_match_39 rfl rfl ?_
        refine V_iload_n (pc := 40) C dX12_match_40 rfl rfl ?_
        refine V_iload_n (pc := 41) C dX12_match_41 rfl rfl ?_
        obtain ⟨r10, er10, h⟩ := b1_some h
        refine V_callV (As := [.int a1, .int a2]) (pc := 42) C (mX12_levelOf _ er10) zm_X12_levelOf zi_X12_levelOf ml_RX12_330 z1_mW_12 rfl ⟨Nat.le_of_ble_eq_true rfl, Nat.le_of_ble_eq_true rfl⟩ rfl rfl (Nat.le_of_ble_eq_true rfl) dX12_match_42 ?_
        show V K 45 [some (.ref 0), some (.int a1), some (.int a2), some (.int a3)] [.int r10, .int a3, .ref 0] S2
        obtain ⟨r11, er11, h⟩ := b1_some h
        refine V_callV (As := [.int a3, .int r10]) (pc := 45) C (mX12_matched _ er11) zm_X12_matched zi_X12_matched ml_RX12_345 z1_mW_12 rfl ⟨Nat.le_of_ble_eq_true rfl, Nat.le_of_ble_eq_true rfl⟩ rfl rfl (Nat.le_of_ble_eq_true rfl) dX12_match_45 ?_
        show V K 48 [some (.ref 0), some (.int a1), some (.int a2), some (.int a3)] [.int r11] S2
        refine V_goto (tgt := 56) (pc := 48) C dX12_match_48 (by decide) ?_
        cases h
        exact hR 56 _ ⟨_, rfl, rfl⟩ dX12_match_56
    · have h := it_t hc h
      refine V_aload_n (pc := 20) C dX12_match_20 rfl rfl ?_
      refine V_iconst (pc := 21) C dX12_match_21 kc_i_1 ?_
      obtain ⟨r12, S13, er12, h⟩ := b2_some h
      refine V_callV (As := [.int (1 : Int32)]) (pc := 22) C (mX12_no _ er12) zm_X12_no zi_X12_no ml_RX12_214 z1_mW_12 rfl ⟨Nat.le_of_ble_eq_true rfl, Nat.le_of_ble_eq_true rfl⟩ rfl rfl (Nat.le_of_ble_eq_true rfl) dX12_match_22 ?_
      show V K 25 [some (.ref 0), some (.int a1), some (.int a2), some (.int a3)] [.int r12] S13
      cases h
      exact hR 25 _ ⟨_, rfl, rfl⟩ dX12_match_25
set_option maxRecDepth 100000 in
theorem mX12_closes (l : Launch) {S : zM} {a1 : Int32} {a2 : Int32} {a3 : Int32} {a4 : Int32} {r : Int32} {S' : zM}  (h : gX12_closes S a1 a2 a3 a4 = some (r, S')) : zMet l mW zS0 yX12_closes cX12_closes 7 (some .int) 2 46 [.ref 0, .int a1, .int a2, .int a3, .int a4] S (some (.int r)) S' := by
  refine zmeth (by decide +kernel) (by rfl) (fun K hKl C hR => ?_)
  show V K 0 [some (.ref 0), some (.int a1), some (.int a2), some (.int a3), some (.int a4), none, none] [] S
  unfold gX12_closes at h
  refine V_aload_n (pc := 0) C dX12_closes_0 rfl rfl ?_
  obtain ⟨S2, euS2, h⟩ := b1_some h
  refine V_callV (As := []) (pc := 1) C (mX12_good _ euS2) zm_X12_good zi_X12_good ml_RX12_211 z1_mW_12 rfl ⟨Nat.le_of_ble_eq_true rfl, Nat.le_of_ble_eq_true rfl⟩ rfl rfl (Nat.le_of_ble_eq_true rfl) dX12_closes_1 ?_
  show V K 4 [some (.ref 0), some (.int a1), some (.int a2), some (.int a3), some (.int a4), none, none] [] S2
  refine V_aload_n (pc := 4) C dX12_closes_4 rfl rfl ?_
  refine V_iload_n (pc := 5) C dX12_closes_5 rfl rfl ?_
  obtain ⟨r3, er3, h⟩ := b1_some h
  refine V_callV (As := [.int a1]) (pc := 6) C (mX12_isSense _ er3) zm_X12_isSense zi_X12_isSense ml_RX12_306 z1_mW_12 rfl ⟨Nat.le_of_ble_eq_true rfl, Nat.le_of_ble_eq_true rfl⟩ rfl rfl (Nat.le_of_ble_eq_true rfl) dX12_closes_6 ?_
  show V K 9 [some (.ref 0), some (.int a1), some (.int a2), some (.int a3), some (.int a4), none, none] [.int r3] S2
  refine V_if_eq (tgt := 28) (pc := 9) C dX12_closes_9 (by decide) (fun hc => ?_) (fun hc => ?_)
  · have h := it_t hc h
    refine V_aload_n (pc := 28) C dX12_closes_28 rfl rfl ?_
    refine V_iconst (pc := 29) C dX12_closes_29 kc_i_1 ?_
    obtain ⟨r4, S5, er4, h⟩ := b2_some h
    refine V_callV (As := [.int (1 : Int32)]) (pc := 30) C (mX12_not _ er4) zm_X12_not zi_X12_not ml_RX12_469 z1_mW_12 rfl ⟨Nat.le_of_ble_eq_true rfl, Nat.le_of_ble_eq_true rfl⟩ rfl rfl (Nat.le_of_ble_eq_true rfl) dX12_closes_30 ?_
    show V K 33 [some (.ref 0), some (.int a1), some (.int a2), some (.int a3), some (.int a4), none, none] [.int r4] S5
    cases h
    exact hR 33 _ ⟨_, rfl, rfl⟩ dX12_closes_33
  · have h := it_f hc h
    refine V_aload_n (pc := 12) C dX12_closes_12 rfl rfl ?_
    refine V_iload_n (pc := 13) C dX12_closes_13 rfl rfl ?_
    obtain ⟨r6, er6, h⟩ := b1_some h
    refine V_callV (As := [.int a2]) (pc := 14) C (mX12_isSense _ er6) zm_X12_isSense zi_X12_isSense ml_RX12_306 z1_mW_12 rfl ⟨Nat.le_of_ble_eq_true rfl, Nat.le_of_ble_eq_true rfl⟩ rfl rfl (Nat.le_of_ble_eq_true rfl) dX12_closes_14 ?_
    show V K 17 [some (.ref 0), some (.int a1), some (.int a2), some (.int a3), some (.int a4), none, none] [.int r6] S2
    refine V_if_eq (tgt := 28) (pc := 17) C dX12_closes_17 (by decide) (fun hc => ?_) (fun hc => ?_)
    · have h := it_t hc h
      refine V_aload_n (pc := 28) C dX12_closes_28 rfl rfl ?_
      refine V_iconst (pc := 29) C dX12_closes_29 kc_i_1 ?_
      obtain ⟨r7, S8, er7, h⟩ := b2_some h
      refine V_callV (As := [.int (1 : Int32)]) (pc := 30) C (mX12_not _ er7) zm_X12_not zi_X12_not ml_RX12_469 z1_mW_12 rfl ⟨Nat.le_of_ble_eq_true rfl, Nat.le_of_ble_eq_true rfl⟩ rfl rfl (Nat.le_of_ble_eq_true rfl) dX12_closes_30 ?_
      show V K 33 [some (.ref 0), some (.int a1), some (.int a2), some (.int a3), some (.int a4), none, none] [.int r7] S8
      cases h
      exact hR 33 _ ⟨_, rfl, rfl⟩ dX12_closes_33
    · have h := it_f hc h
      refine V_aload_n (pc := 20) C dX12_closes_20 rfl rfl ?_
      refine V_iload_n (pc := 21) C dX12_closes_21 rfl rfl ?_
      obtain ⟨r9, er9, h⟩ := b1_some h
      refine V_callV (As := [.int a3]) (pc := 22) C (mX12_isSense _ er9) zm_X12_isSense zi_X12_isSense ml_RX12_306 z1_mW_12 rfl ⟨Nat.le_of_ble_eq_true rfl, Nat.le_of_ble_eq_true rfl⟩ rfl rfl (Nat.le_of_ble_eq_true rfl) dX12_closes_22 ?_
      show V K 25 [some (.ref 0), some (.int a1), some (.int a2), some (.int a3), some (.int a4), none, none] [.int r9] S2
      refine V_if_ne (tgt := 34) (pc := 25) C dX12_closes_25 (by decide) (fun hc => ?_) (fun hc => ?_)
      · have h := it_f hc h
        refine V_iload (pc := 34) C dX12_closes_34 rfl ?_
        refine V_iconst (pc := 36) C dX12_closes_36 kc_i_1 ?_
        refine V_sipush (pc := 37) C dX12_closes_37 kc_s_400 ?_
        obtain ⟨r10, er10, h⟩ := b1_some h
        refine V_callS (As := [.int a4, .int (1 : Int32), .int (400 : Int32)]) (pc := 40) C (mX12_within _ er10) zm_X12_within zs_X12_within ml_RX12_203 ⟨Nat.le_of_ble_eq_true rfl, Nat.le_of_ble_eq_true rfl⟩ rfl rfl (Nat.le_of_ble_eq_true rfl) dX12_closes_40 ?_
        show V K 43 [some (.ref 0), some (.int a1), some (.int a2), some (.int a3), some (.int a4), none, none] [.int r10] S2
        refine V_if_ne (tgt := 52) (pc := 43) C dX12_closes_43 (by decide) (fun hc => ?_) (fun hc => ?_)
        · have h := it_f hc h
          refine V_aload_n (pc := 52) C dX12_closes_52 rfl rfl ?_
          refine V_iload_n (pc := 53) C dX12_closes_53 rfl rfl ?_
          refine V_aload_n (pc := 54) C dX12_closes_54 rfl rfl ?_
          refine V_iload_n (pc := 55) C dX12_closes_55 rfl rfl ?_
          refine V_iload (pc := 56) C dX12_closes_56 rfl ?_
          obtain ⟨r11, er11, h⟩ := b1_some h
          refine V_callV (As := [.int a1, .int a4]) (pc := 58) C (mX12_levelOf _ er11) zm_X12_levelOf zi_X12_levelOf ml_RX12_330 z1_mW_12 rfl ⟨Nat.le_of_ble_eq_true rfl, Nat.le_of_ble_eq_true rfl⟩ rfl rfl (Nat.le_of_ble_eq_true rfl) dX12_closes_58 ?_
          show V K 61 [some (.ref 0), some (.int a1), some (.int a2), some (.int a3), some (.int a4), none, none] [.int r11, .int a2, .ref 0] S2
          obtain ⟨r12, er12, h⟩ := b1_some h
          refine V_callV (As := [.int a2, .int r11]) (pc := 61) C (mX12_matched _ er12) zm_X12_matched zi_X12_matched ml_RX12_345 z1_mW_12 rfl ⟨Nat.le_of_ble_eq_true rfl, Nat.le_of_ble_eq_true rfl⟩ rfl rfl (Nat.le_of_ble_eq_true rfl) dX12_closes_61 ?_
          show V K 64 [some (.ref 0), some (.int a1), some (.int a2), some (.int a3), some (.int a4), none, none] [.int r12] S2
          refine V_istore (L' := [some (.ref 0), some (.int a1), some (.int a2), some (.int a3), some (.int a4), some (.int r12), none]) (pc := 64) C dX12_closes_64 (by decide) rfl ?_
          refine V_aload_n (pc := 66) C dX12_closes_66 rfl rfl ?_
          refine V_iload_n (pc := 67) C dX12_closes_67 rfl rfl ?_
          refine V_aload_n (pc := 68) C dX12_closes_68 rfl rfl ?_
          refine V_iload_n (pc := 69) C dX12_closes_69 rfl rfl ?_
          refine V_iload (pc := 70) C dX12_closes_70 rfl ?_
          obtain ⟨r13, er13, h⟩ := b1_some h
          refine V_callV (As := [.int a2, .int r12]) (pc := 72) C (mX12_levelOf _ er13) zm_X12_levelOf zi_X12_levelOf ml_RX12_330 z1_mW_12 rfl ⟨Nat.le_of_ble_eq_true rfl, Nat.le_of_ble_eq_true rfl⟩ rfl rfl (Nat.le_of_ble_eq_true rfl) dX12_closes_72 ?_
          show V K 75 [some (.ref 0), some (.int a1), some (.int a2), some (.int a3), some (.int a4), some (.int r12), none] [.int r13, .int a3, .ref 0] S2
          obtain ⟨r14, er14, h⟩ := b1_some h
          refine V_callV (As := [.int a3, .int r13]) (pc := 75) C (mX12_matched _ er14) zm_X12_matched zi_X12_matched ml_RX12_345 z1_mW_12 rfl ⟨Nat.le_of_ble_eq_true rfl, Nat.le_of_ble_eq_true rfl⟩ rfl rfl (Nat.le_of_ble_eq_true rfl) dX12_closes_75 ?_
          show V K 78 [some (.ref 0), some (.int a1), some (.int a2), some (.int a3), some (.int a4), some (.int r12), none] [.int r14] S2
          refine V_istore (L' := [some (.ref 0), some (.int a1), some (.int a2), some (.int a3), some (.int a4), some (.int r12), some (.int r14)]) (pc := 78) C dX12_closes_78 (by decide) rfl ?_
          refine V_aload_n (pc := 80) C dX12_closes_80 rfl rfl ?_
          refine V_iload_n (pc := 81) C dX12_closes_81 rfl rfl ?_
          refine V_aload_n (pc := 82) C dX12_closes_82 rfl rfl ?_
          refine V_iload_n (pc := 83) C dX12_closes_83 rfl rfl ?_
          refine V_iload (pc := 84) C dX12_closes_84 rfl ?_
          obtain ⟨r15, er15, h⟩ := b1_some h
          refine V_callV (As := [.int a3, .int r14]) (pc := 86) C (mX12_levelOf _ er15) zm_X12_levelOf zi_X12_levelOf ml_RX12_330 z1_mW_12 rfl ⟨Nat.le_of_ble_eq_true rfl, Nat.le_of_ble_eq_true rfl⟩ rfl rfl (Nat.le_of_ble_eq_true rfl) dX12_closes_86 ?_
          show V K 89 [some (.ref 0), some (.int a1), some (.int a2), some (.int a3), some (.int a4), some (.int r12), some (.int r14)] [.int r15, .int a1, .ref 0] S2
          obtain ⟨r16, er16, h⟩ := b1_some h
          refine V_callV (As := [.int a1, .int r15]) (pc := 89) C (mX12_matched _ er16) zm_X12_matched zi_X12_matched ml_RX12_345 z1_mW_12 rfl ⟨Nat.le_of_ble_eq_true rfl, Nat.le_of_ble_eq_true rfl⟩ rfl rfl (Nat.le_of_ble_eq_true rfl) dX12_closes_89 ?_
          show V K 92 [some (.ref 0), some (.int a1), some (.int a2), some (.int a3), some (.int a4), some (.int r12), some (.int r14)] [.int r16] S2
          refine V_iload (pc := 92) C dX12_closes_92 rfl ?_
          refine V_isub (pc := 94) C dX12_closes_94 ?_
          cases h
          exact hR 95 _ ⟨_, rfl, rfl⟩ dX12_closes_95
        · have h := it_t hc h
          refine V_aload_n (pc := 46) C dX12_closes_46 rfl rfl ?_
          refine V_iconst (pc := 47) C dX12_closes_47 kc_i_2 ?_
          obtain ⟨r17, S18, er17, h⟩ := b2_some h
          refine V_callV (As := [.int (2 : Int32)]) (pc := 48) C (mX12_not _ er17) zm_X12_not zi_X12_not ml_RX12_469 z1_mW_12 rfl ⟨Nat.le_of_ble_eq_true rfl, Nat.le_of_ble_eq_true rfl⟩ rfl rfl (Nat.le_of_ble_eq_true rfl) dX12_closes_48 ?_
          show V K 51 [some (.ref 0), some (.int a1), some (.int a2), some (.int a3), some (.int a4), none, none] [.int r17] S18
          cases h
          exact hR 51 _ ⟨_, rfl, rfl⟩ dX12_closes_51
      · have h := it_t hc h
        refine V_aload_n (pc := 28) C dX12_closes_28 rfl rfl ?_
        refine V_iconst (pc := 29) C dX12_closes_29 kc_i_1 ?_
        obtain ⟨r19, S20, er19, h⟩ := b2_some h
        refine V_callV (As := [.int (1 : Int32)]) (pc := 30) C (mX12_not _ er19) zm_X12_not zi_X12_not ml_RX12_469 z1_mW_12 rfl ⟨Nat.le_of_ble_eq_true rfl, Nat.le_of_ble_eq_true rfl⟩ rfl rfl (Nat.le_of_ble_eq_true rfl) dX12_closes_30 ?_
        show V K 33 [some (.ref 0), some (.int a1), some (.int a2), some (.int a3), some (.int a4), none, none] [.int r19] S20
        cases h
        exact hR 33 _ ⟨_, rfl, rfl⟩ dX12_closes_33
set_option maxRecDepth 100000 in
theorem mX12_stair_L102 {K : zK} (C : zC K cX12_stair yX12_stair.cls 11 5 142 mW) {v1 : Int32} {v2 : Int32} {v3 : Int32} {v4 : Int32} {v5 : Int32} {v6 : Int32}  : ∀ (f : Nat) (S : zM) (v7 : Int32) (S' : zM), gX12_stair_L102 v1 v2 v3 v4 v5 v6 f S v7 = some S' → V K 134 [some (.ref 0), some (.int v1), none, some (.int v3), some (.int v4), some (.int v5), some (.int v6), none, none, none, none] [] S' → V K 102 [some (.ref 0), some (.int v1), some (.int v2), some (.int v3), some (.int v4), some (.int v5), some (.int v6), some (.int v7), none, none, none] [] S := by
  intro f
  induction f with
  | zero => intro S v7 S' h hx; cases h
  | succ n ih =>
    intro S v7 S' h hx
    unfold gX12_stair_L102 at h
    refine V_iload (pc := 102) C dX12_stair_102 rfl ?_
    refine V_sipush (pc := 104) C dX12_stair_104 kc_s_400 ?_
    refine V_icmp_gt (tgt := 134) (pc := 107) C dX12_stair_107 (by decide) (fun hc => ?_) (fun hc => ?_)
    · have h := it_t hc h
      cases h
      exact V_mask [true, true, false, true, true, true, true, false, false, false, false] hx
    · have h := it_f hc h
      refine V_aload_n (pc := 110) C dX12_stair_110 rfl rfl ?_
      refine V_getF (p1 := 28) (pc := 111) C z1_mW_12 fl_RX12_96 rfl (zf_mW_12_43 z1_mW_12) dX12_stair_111 ?_
      refine V_iload (pc := 114) C dX12_stair_114 rfl ?_
      refine V_iload (pc := 116) C dX12_stair_116 rfl ?_
      refine V_iload_n (pc := 118) C dX12_stair_118 rfl rfl ?_
      refine V_icmp_ne (tgt := 126) (pc := 119) C dX12_stair_119 (by decide) (fun hc => ?_) (fun hc => ?_)
      · have h := it_f hc h
        refine V_lconst (pc := 126) C dX12_stair_126 (v := (0 : Int64)) rfl ?_
        obtain ⟨k18, h⟩ := ck_some h
        refine V_last (pc := 127) C (za_mW_12_43 z1_mW_12) k18 dX12_stair_127 ?_
        refine V_iinc (L' := [some (.ref 0), some (.int v1), some (.int v2), some (.int v3), some (.int v4), some (.int v5), some (.int v6), some (.int (v7 + (1 : Int32))), none, none, none]) (v := (v7 + (1 : Int32))) (pc := 128) C dX12_stair_128 rfl (congrArg (v7 + ·) kc_i_1) (by decide) rfl ?_
        refine V_goto (tgt := 102) (pc := 131) C dX12_stair_131 (by decide) ?_
        exact V_mask [true, true, true, true, true, true, true, true, false, false, false] (ih _ _ _ h hx)
      · have h := it_t hc h
        refine V_lconst (pc := 122) C dX12_stair_122 (v := (1 : Int64)) rfl ?_
        refine V_goto (tgt := 127) (pc := 123) C dX12_stair_123 (by decide) ?_
        obtain ⟨k19, h⟩ := ck_some h
        refine V_last (pc := 127) C (za_mW_12_43 z1_mW_12) k19 dX12_stair_127 ?_
        refine V_iinc (L' := [some (.ref 0), some (.int v1), some (.int v2), some (.int v3), some (.int v4), some (.int v5), some (.int v6), some (.int (v7 + (1 : Int32))), none, none, none]) (v := (v7 + (1 : Int32))) (pc := 128) C dX12_stair_128 rfl (congrArg (v7 + ·) kc_i_1) (by decide) rfl ?_
        refine V_goto (tgt := 102) (pc := 131) C dX12_stair_131 (by decide) ?_
        exact V_mask [true, true, true, true, true, true, true, true, false, false, false] (ih _ _ _ h hx)
set_option maxRecDepth 100000 in
theorem mX12_stair_L147 {K : zK} (C : zC K cX12_stair yX12_stair.cls 11 5 142 mW) {v1 : Int32} {v3 : Int32} {v4 : Int32} {v5 : Int32} {v6 : Int32} {v7 : Int32}  : ∀ (f : Nat) (S : zM) (v8 : Int32) (S' : zM), gX12_stair_L147 v1 v3 v4 v5 v6 v7 f S v8 = some S' → V K 169 [some (.ref 0), some (.int v1), none, some (.int v3), some (.int v4), some (.int v5), some (.int v6), some (.int v7), none, none, none] [] S' → V K 147 [some (.ref 0), some (.int v1), none, some (.int v3), some (.int v4), some (.int v5), some (.int v6), some (.int v7), some (.int v8), none, none] [] S := by
  intro f
  induction f with
  | zero => intro S v8 S' h hx; cases h
  | succ n ih =>
    intro S v8 S' h hx
    unfold gX12_stair_L147 at h
    refine V_iload (pc := 147) C dX12_stair_147 rfl ?_
    refine V_sipush (pc := 149) C dX12_stair_149 kc_s_400 ?_
    refine V_icmp_gt (tgt := 169) (pc := 152) C dX12_stair_152 (by decide) (fun hc => ?_) (fun hc => ?_)
    · have h := it_t hc h
      cases h
      exact V_mask [true, true, false, true, true, true, true, true, false, false, false] hx
    · have h := it_f hc h
      refine V_aload_n (pc := 155) C dX12_stair_155 rfl rfl ?_
      refine V_getF (p1 := 29) (pc := 156) C z1_mW_12 fl_RX12_100 rfl (zf_mW_12_44 z1_mW_12) dX12_stair_156 ?_
      refine V_iload (pc := 159) C dX12_stair_159 rfl ?_
      refine V_lconst (pc := 161) C dX12_stair_161 (v := (0 : Int64)) rfl ?_
      obtain ⟨k22, h⟩ := ck_some h
      refine V_last (pc := 162) C (za_mW_12_44 z1_mW_12) k22 dX12_stair_162 ?_
      refine V_iinc (L' := [some (.ref 0), some (.int v1), none, some (.int v3), some (.int v4), some (.int v5), some (.int v6), some (.int v7), some (.int (v8 + (1 : Int32))), none, none]) (v := (v8 + (1 : Int32))) (pc := 163) C dX12_stair_163 rfl (congrArg (v8 + ·) kc_i_1) (by decide) rfl ?_
      refine V_goto (tgt := 147) (pc := 166) C dX12_stair_166 (by decide) ?_
      exact V_mask [true, true, false, true, true, true, true, true, true, false, false] (ih _ _ _ h hx)
set_option maxRecDepth 100000 in
theorem mX12_stair_L172 {K : zK} (C : zC K cX12_stair yX12_stair.cls 11 5 142 mW) {v1 : Int32} {v3 : Int32} {v4 : Int32} {v5 : Int32} {v6 : Int32} {v7 : Int32}  : ∀ (f : Nat) (S : zM) (v8 : Int32) (S' : zM), gX12_stair_L172 v1 v3 v4 v5 v6 v7 f S v8 = some S' → V K 268 [some (.ref 0), some (.int v1), none, some (.int v3), some (.int v4), some (.int v5), some (.int v6), some (.int v7), none, none, none] [] S' → V K 172 [some (.ref 0), some (.int v1), none, some (.int v3), some (.int v4), some (.int v5), some (.int v6), some (.int v7), some (.int v8), none, none] [] S := by
  intro f
  induction f with
  | zero => intro S v8 S' h hx; cases h
  | succ n ih =>
    intro S v8 S' h hx
    unfold gX12_stair_L172 at h
    refine V_iload (pc := 172) C dX12_stair_172 rfl ?_
    refine V_sipush (pc := 174) C dX12_stair_174 kc_s_400 ?_
    refine V_icmp_gt (tgt := 268) (pc := 177) C dX12_stair_177 (by decide) (fun hc => ?_) (fun hc => ?_)
    · have h := it_t hc h
      cases h
      exact V_mask [true, true, false, true, true, true, true, true, false, false, false] hx
    · have h := it_f hc h
      refine V_aload_n (pc := 180) C dX12_stair_180 rfl rfl ?_
      refine V_getF (p1 := 28) (pc := 181) C z1_mW_12 fl_RX12_96 rfl (zf_mW_12_43 z1_mW_12) dX12_stair_181 ?_
      refine V_iload (pc := 184) C dX12_stair_184 rfl ?_
      obtain ⟨k24, h⟩ := ck_some h
      refine V_lald (pc := 186) C (za_mW_12_43 z1_mW_12) k24 dX12_stair_186 ?_
      refine V_lconst (pc := 187) C dX12_stair_187 (v := (0 : Int64)) rfl ?_
      refine V_lcmp_ne (tgt := 195) (pc := 188) C dX12_stair_188 dX12_stair_189 (by decide) (fun hc => ?_) (fun hc => ?_)
      · have h := it_f hc h
        refine V_aload_n (pc := 195) C dX12_stair_195 rfl rfl ?_
        refine V_iload_n (pc := 196) C dX12_stair_196 rfl rfl ?_
        refine V_iconst (pc := 197) C dX12_stair_197 kc_i_1 ?_
        refine V_iload (pc := 198) C dX12_stair_198 rfl ?_
        refine V_iconst (pc := 200) C dX12_stair_200 kc_i_0 ?_
        refine V_iconst (pc := 201) C dX12_stair_201 kc_i_1 ?_
        obtain ⟨r25, er25, h⟩ := b1_some h
        refine V_callV (As := [.int v1, .int (1 : Int32), .int v8, .int (0 : Int32), .int (1 : Int32)]) (pc := 202) C (mX12_freshOdds _ er25) zm_X12_freshOdds zi_X12_freshOdds ml_RX12_472 z1_mW_12 rfl ⟨Nat.le_of_ble_eq_true rfl, Nat.le_of_ble_eq_true rfl⟩ rfl rfl (Nat.le_of_ble_eq_true rfl) dX12_stair_202 ?_
        show V K 205 [some (.ref 0), some (.int v1), none, some (.int v3), some (.int v4), some (.int v5), some (.int v6), some (.int v7), some (.int v8), none, none] [.int r25] S
        refine V_i2l (pc := 205) C dX12_stair_205 ?_
        refine V_lstore (L' := [some (.ref 0), some (.int v1), none, some (.int v3), some (.int v4), some (.int v5), some (.int v6), some (.int v7), some (.int v8), some (.long r25.toInt64), none]) (pc := 206) C dX12_stair_206 (by decide) rfl ?_
        refine V_aload_n (pc := 208) C dX12_stair_208 rfl rfl ?_
        refine V_getF (p1 := 29) (pc := 209) C z1_mW_12 fl_RX12_100 rfl (zf_mW_12_44 z1_mW_12) dX12_stair_209 ?_
        refine V_iload (pc := 212) C dX12_stair_212 rfl ?_
        refine V_iload_n (pc := 214) C dX12_stair_214 rfl rfl ?_
        refine V_isub (pc := 215) C dX12_stair_215 ?_
        obtain ⟨r26, er26, h⟩ := b1_some h
        refine V_callS (As := [.int (v8 - v3)]) (pc := 216) C (mX12_held _ er26) zm_X12_held zs_X12_held ml_RX12_382 ⟨Nat.le_of_ble_eq_true rfl, Nat.le_of_ble_eq_true rfl⟩ rfl rfl (Nat.le_of_ble_eq_true rfl) dX12_stair_216 ?_
        show V K 219 [some (.ref 0), some (.int v1), none, some (.int v3), some (.int v4), some (.int v5), some (.int v6), some (.int v7), some (.int v8), some (.long r25.toInt64), none] [.int r26, .ref 29] S
        refine V_dup2 (pc := 219) C dX12_stair_219 rfl rfl ?_
        obtain ⟨k27, h⟩ := ck_some h
        refine V_lald (pc := 220) C (za_mW_12_44 z1_mW_12) k27 dX12_stair_220 ?_
        refine V_aload_n (pc := 221) C dX12_stair_221 rfl rfl ?_
        refine V_getF (p1 := 28) (pc := 222) C z1_mW_12 fl_RX12_96 rfl (zf_mW_12_43 z1_mW_12) dX12_stair_222 ?_
        refine V_iload (pc := 225) C dX12_stair_225 rfl ?_
        obtain ⟨k28, h⟩ := ck_some h
        refine V_lald (pc := 227) C (za_mW_12_43 z1_mW_12) k28 dX12_stair_227 ?_
        refine V_lload (pc := 228) C dX12_stair_228 rfl ?_
        refine V_lmul (pc := 230) C dX12_stair_230 ?_
        refine V_ladd (pc := 231) C dX12_stair_231 ?_
        obtain ⟨k29, h⟩ := ck_some h
        refine V_last (pc := 232) C (za_mW_12_44 z1_mW_12) k29 dX12_stair_232 ?_
        refine V_aload_n (pc := 233) C dX12_stair_233 rfl rfl ?_
        refine V_getF (p1 := 29) (pc := 234) C z1_mW_12 fl_RX12_100 rfl (zf_mW_12_44 z1_mW_12) dX12_stair_234 ?_
        refine V_iload (pc := 237) C dX12_stair_237 rfl ?_
        refine V_iload_n (pc := 239) C dX12_stair_239 rfl rfl ?_
        refine V_iadd (pc := 240) C dX12_stair_240 ?_
        obtain ⟨r30, er30, h⟩ := b1_some h
        refine V_callS (As := [.int (v8 + v3)]) (pc := 241) C (mX12_held _ er30) zm_X12_held zs_X12_held ml_RX12_382 ⟨Nat.le_of_ble_eq_true rfl, Nat.le_of_ble_eq_true rfl⟩ rfl rfl (Nat.le_of_ble_eq_true rfl) dX12_stair_241 ?_
        show V K 244 [some (.ref 0), some (.int v1), none, some (.int v3), some (.int v4), some (.int v5), some (.int v6), some (.int v7), some (.int v8), some (.long r25.toInt64), none] [.int r30, .ref 29] (pL S 29 (ix r26) ((gL S 29 (ix r26)) + ((gL S 28 (ix v8)) * r25.toInt64)))
        refine V_dup2 (pc := 244) C dX12_stair_244 rfl rfl ?_
        obtain ⟨k31, h⟩ := ck_some h
        refine V_lald (pc := 245) C (za_mW_12_44 z1_mW_12) k31 dX12_stair_245 ?_
        refine V_aload_n (pc := 246) C dX12_stair_246 rfl rfl ?_
        refine V_getF (p1 := 28) (pc := 247) C z1_mW_12 fl_RX12_96 rfl (zf_mW_12_43 z1_mW_12) dX12_stair_247 ?_
        refine V_iload (pc := 250) C dX12_stair_250 rfl ?_
        obtain ⟨k32, h⟩ := ck_some h
        refine V_lald (pc := 252) C (za_mW_12_43 z1_mW_12) k32 dX12_stair_252 ?_
        refine V_iload (pc := 253) C dX12_stair_253 rfl ?_
        refine V_i2l (pc := 255) C dX12_stair_255 ?_
        refine V_lload (pc := 256) C dX12_stair_256 rfl ?_
        refine V_lsub (pc := 258) C dX12_stair_258 ?_
        refine V_lmul (pc := 259) C dX12_stair_259 ?_
        refine V_ladd (pc := 260) C dX12_stair_260 ?_
        obtain ⟨k33, h⟩ := ck_some h
        refine V_last (pc := 261) C (za_mW_12_44 z1_mW_12) k33 dX12_stair_261 ?_
        obtain ⟨S34, eS34, h⟩ := lt_some h
        refine V_nmS eS34 ?_
        refine V_iinc (L' := [some (.ref 0), some (.int v1), none, some (.int v3), some (.int v4), some (.int v5), some (.int v6), some (.int v7), some (.int (v8 + (1 : Int32))), some (.long r25.toInt64), none]) (v := (v8 + (1 : Int32))) (pc := 262) C dX12_stair_262 rfl (congrArg (v8 + ·) kc_i_1) (by decide) rfl ?_
        refine V_goto (tgt := 172) (pc := 265) C dX12_stair_265 (by decide) ?_
        exact V_mask [true, true, false, true, true, true, true, true, true, false, false] (ih _ _ _ h hx)
      · have h := it_t hc h
        refine V_goto (tgt := 262) (pc := 192) C dX12_stair_192 (by decide) ?_
        refine V_iinc (L' := [some (.ref 0), some (.int v1), none, some (.int v3), some (.int v4), some (.int v5), some (.int v6), some (.int v7), some (.int (v8 + (1 : Int32))), none, none]) (v := (v8 + (1 : Int32))) (pc := 262) C dX12_stair_262 rfl (congrArg (v8 + ·) kc_i_1) (by decide) rfl ?_
        refine V_goto (tgt := 172) (pc := 265) C dX12_stair_265 (by decide) ?_
        exact V_mask [true, true, false, true, true, true, true, true, true, false, false] (ih _ _ _ h hx)
set_option maxRecDepth 100000 in
theorem mX12_stair_L271 {K : zK} (C : zC K cX12_stair yX12_stair.cls 11 5 142 mW) {v1 : Int32} {v3 : Int32} {v4 : Int32} {v5 : Int32} {v6 : Int32} {v7 : Int32}  : ∀ (f : Nat) (S : zM) (v8 : Int32) (S' : zM), gX12_stair_L271 v1 v3 v4 v5 v6 v7 f S v8 = some S' → V K 299 [some (.ref 0), some (.int v1), none, some (.int v3), some (.int v4), some (.int v5), some (.int v6), some (.int v7), none, none, none] [] S' → V K 271 [some (.ref 0), some (.int v1), none, some (.int v3), some (.int v4), some (.int v5), some (.int v6), some (.int v7), some (.int v8), none, none] [] S := by
  intro f
  induction f with
  | zero => intro S v8 S' h hx; cases h
  | succ n ih =>
    intro S v8 S' h hx
    unfold gX12_stair_L271 at h
    refine V_iload (pc := 271) C dX12_stair_271 rfl ?_
    refine V_sipush (pc := 273) C dX12_stair_273 kc_s_400 ?_
    refine V_icmp_gt (tgt := 299) (pc := 276) C dX12_stair_276 (by decide) (fun hc => ?_) (fun hc => ?_)
    · have h := it_t hc h
      cases h
      exact V_mask [true, true, false, true, true, true, true, true, false, false, false] hx
    · have h := it_f hc h
      refine V_aload_n (pc := 279) C dX12_stair_279 rfl rfl ?_
      refine V_getF (p1 := 28) (pc := 280) C z1_mW_12 fl_RX12_96 rfl (zf_mW_12_43 z1_mW_12) dX12_stair_280 ?_
      refine V_iload (pc := 283) C dX12_stair_283 rfl ?_
      refine V_aload_n (pc := 285) C dX12_stair_285 rfl rfl ?_
      refine V_getF (p1 := 29) (pc := 286) C z1_mW_12 fl_RX12_100 rfl (zf_mW_12_44 z1_mW_12) dX12_stair_286 ?_
      refine V_iload (pc := 289) C dX12_stair_289 rfl ?_
      obtain ⟨k36, h⟩ := ck_some h
      refine V_lald (pc := 291) C (za_mW_12_44 z1_mW_12) k36 dX12_stair_291 ?_
      obtain ⟨k37, h⟩ := ck_some h
      refine V_last (pc := 292) C (za_mW_12_43 z1_mW_12) k37 dX12_stair_292 ?_
      refine V_iinc (L' := [some (.ref 0), some (.int v1), none, some (.int v3), some (.int v4), some (.int v5), some (.int v6), some (.int v7), some (.int (v8 + (1 : Int32))), none, none]) (v := (v8 + (1 : Int32))) (pc := 293) C dX12_stair_293 rfl (congrArg (v8 + ·) kc_i_1) (by decide) rfl ?_
      refine V_goto (tgt := 271) (pc := 296) C dX12_stair_296 (by decide) ?_
      exact V_mask [true, true, false, true, true, true, true, true, true, false, false] (ih _ _ _ h hx)
set_option maxRecDepth 100000 in
theorem mX12_stair_L137 {K : zK} (C : zC K cX12_stair yX12_stair.cls 11 5 142 mW) {v1 : Int32} {v3 : Int32} {v4 : Int32} {v5 : Int32} {v6 : Int32}  : ∀ (f : Nat) (S : zM) (v7 : Int32) (r : Int64) (S' : zM), gX12_stair_L137 v1 v3 v4 v5 v6 f S v7 = some (r, S') → zR K cX12_stair (some .long) S' (some (.long r)) → V K 137 [some (.ref 0), some (.int v1), none, some (.int v3), some (.int v4), some (.int v5), some (.int v6), some (.int v7), none, none, none] [] S := by
  intro f
  induction f with
  | zero => intro S v7 r S' h hR; cases h
  | succ n ih =>
    intro S v7 r S' h hR
    unfold gX12_stair_L137 at h
    refine V_iload (pc := 137) C dX12_stair_137 rfl ?_
    refine V_iload (pc := 139) C dX12_stair_139 rfl ?_
    refine V_icmp_ge (tgt := 305) (pc := 141) C dX12_stair_141 (by decide) (fun hc => ?_) (fun hc => ?_)
    · have h := it_t hc h
      refine V_aload_n (pc := 305) C dX12_stair_305 rfl rfl ?_
      refine V_getF (p1 := 28) (pc := 306) C z1_mW_12 fl_RX12_96 rfl (zf_mW_12_43 z1_mW_12) dX12_stair_306 ?_
      refine V_iload (pc := 309) C dX12_stair_309 rfl ?_
      obtain ⟨k21, h⟩ := ck_some h
      refine V_lald (pc := 311) C (za_mW_12_43 z1_mW_12) k21 dX12_stair_311 ?_
      cases h
      exact hR 312 _ rfl dX12_stair_312
    · have h := it_f hc h
      refine V_iconst (pc := 144) C dX12_stair_144 kc_i_1 ?_
      refine V_istore (L' := [some (.ref 0), some (.int v1), none, some (.int v3), some (.int v4), some (.int v5), some (.int v6), some (.int v7), some (.int (1 : Int32)), none, none]) (pc := 145) C dX12_stair_145 (by decide) rfl ?_
      obtain ⟨S23, e147, h⟩ := b1_some h
      refine V_mask [true, true, false, true, true, true, true, true, true, false, false] (mX12_stair_L147 C  FU _ _ _ e147 ?_)
      refine V_iconst (pc := 169) C dX12_stair_169 kc_i_1 ?_
      refine V_istore (L' := [some (.ref 0), some (.int v1), none, some (.int v3), some (.int v4), some (.int v5), some (.int v6), some (.int v7), some (.int (1 : Int32)), none, none]) (pc := 170) C dX12_stair_170 (by decide) rfl ?_
      obtain ⟨S35, e172, h⟩ := b1_some h
      refine V_mask [true, true, false, true, true, true, true, true, true, false, false] (mX12_stair_L172 C  FU _ _ _ e172 ?_)
      refine V_iconst (pc := 268) C dX12_stair_268 kc_i_1 ?_
      refine V_istore (L' := [some (.ref 0), some (.int v1), none, some (.int v3), some (.int v4), some (.int v5), some (.int v6), some (.int v7), some (.int (1 : Int32)), none, none]) (pc := 269) C dX12_stair_269 (by decide) rfl ?_
      obtain ⟨S38, e271, h⟩ := b1_some h
      refine V_mask [true, true, false, true, true, true, true, true, true, false, false] (mX12_stair_L271 C  FU _ _ _ e271 ?_)
      refine V_iinc (L' := [some (.ref 0), some (.int v1), none, some (.int v3), some (.int v4), some (.int v5), some (.int v6), some (.int (v7 + (1 : Int32))), none, none, none]) (v := (v7 + (1 : Int32))) (pc := 299) C dX12_stair_299 rfl (congrArg (v7 + ·) kc_i_1) (by decide) rfl ?_
      refine V_goto (tgt := 137) (pc := 302) C dX12_stair_302 (by decide) ?_
      exact V_mask [true, true, false, true, true, true, true, true, false, false, false] (ih _ _ _ _ h hR)
set_option maxRecDepth 100000 in
theorem mX12_stair (l : Launch) {S : zM} {a1 : Int32} {a2 : Int32} {a3 : Int32} {a4 : Int32} {a5 : Int32} {r : Int64} {S' : zM}  (h : gX12_stair S a1 a2 a3 a4 a5 = some (r, S')) : zMet l mW zS0 yX12_stair cX12_stair 11 (some .long) 5 142 [.ref 0, .int a1, .int a2, .int a3, .int a4, .int a5] S (some (.long r)) S' := by
  refine zmeth (by decide +kernel) (by rfl) (fun K hKl C hR => ?_)
  show V K 0 [some (.ref 0), some (.int a1), some (.int a2), some (.int a3), some (.int a4), some (.int a5), none, none, none, none, none] [] S
  unfold gX12_stair at h
  refine V_aload_n (pc := 0) C dX12_stair_0 rfl rfl ?_
  obtain ⟨S2, euS2, h⟩ := b1_some h
  refine V_callV (As := []) (pc := 1) C (mX12_good _ euS2) zm_X12_good zi_X12_good ml_RX12_211 z1_mW_12 rfl ⟨Nat.le_of_ble_eq_true rfl, Nat.le_of_ble_eq_true rfl⟩ rfl rfl (Nat.le_of_ble_eq_true rfl) dX12_stair_1 ?_
  show V K 4 [some (.ref 0), some (.int a1), some (.int a2), some (.int a3), some (.int a4), some (.int a5), none, none, none, none, none] [] S2
  refine V_aload_n (pc := 4) C dX12_stair_4 rfl rfl ?_
  refine V_iload_n (pc := 5) C dX12_stair_5 rfl rfl ?_
  obtain ⟨r3, er3, h⟩ := b1_some h
  refine V_callV (As := [.int a1]) (pc := 6) C (mX12_isSayer _ er3) zm_X12_isSayer zi_X12_isSayer ml_RX12_315 z1_mW_12 rfl ⟨Nat.le_of_ble_eq_true rfl, Nat.le_of_ble_eq_true rfl⟩ rfl rfl (Nat.le_of_ble_eq_true rfl) dX12_stair_6 ?_
  show V K 9 [some (.ref 0), some (.int a1), some (.int a2), some (.int a3), some (.int a4), some (.int a5), none, none, none, none, none] [.int r3] S2
  refine V_if_ne (tgt := 19) (pc := 9) C dX12_stair_9 (by decide) (fun hc => ?_) (fun hc => ?_)
  · have h := it_f hc h
    refine V_iload_n (pc := 19) C dX12_stair_19 rfl rfl ?_
    refine V_iconst (pc := 20) C dX12_stair_20 kc_i_1 ?_
    refine V_sipush (pc := 21) C dX12_stair_21 kc_s_400 ?_
    obtain ⟨r4, er4, h⟩ := b1_some h
    refine V_callS (As := [.int a2, .int (1 : Int32), .int (400 : Int32)]) (pc := 24) C (mX12_within _ er4) zm_X12_within zs_X12_within ml_RX12_203 ⟨Nat.le_of_ble_eq_true rfl, Nat.le_of_ble_eq_true rfl⟩ rfl rfl (Nat.le_of_ble_eq_true rfl) dX12_stair_24 ?_
    show V K 27 [some (.ref 0), some (.int a1), some (.int a2), some (.int a3), some (.int a4), some (.int a5), none, none, none, none, none] [.int r4] S2
    refine V_if_eq (tgt := 64) (pc := 27) C dX12_stair_27 (by decide) (fun hc => ?_) (fun hc => ?_)
    · have h := it_t hc h
      refine V_aload_n (pc := 64) C dX12_stair_64 rfl rfl ?_
      refine V_iconst (pc := 65) C dX12_stair_65 kc_i_2 ?_
      obtain ⟨r5, S6, er5, h⟩ := b2_some h
      refine V_callV (As := [.int (2 : Int32)]) (pc := 66) C (mX12_no _ er5) zm_X12_no zi_X12_no ml_RX12_214 z1_mW_12 rfl ⟨Nat.le_of_ble_eq_true rfl, Nat.le_of_ble_eq_true rfl⟩ rfl rfl (Nat.le_of_ble_eq_true rfl) dX12_stair_66 ?_
      show V K 69 [some (.ref 0), some (.int a1), some (.int a2), some (.int a3), some (.int a4), some (.int a5), none, none, none, none, none] [.int r5] S6
      refine V_i2l (pc := 69) C dX12_stair_69 ?_
      cases h
      exact hR 70 _ rfl dX12_stair_70
    · have h := it_f hc h
      refine V_iload_n (pc := 30) C dX12_stair_30 rfl rfl ?_
      refine V_iconst (pc := 31) C dX12_stair_31 kc_i_1 ?_
      refine V_sipush (pc := 32) C dX12_stair_32 kc_s_400 ?_
      obtain ⟨r7, er7, h⟩ := b1_some h
      refine V_callS (As := [.int a3, .int (1 : Int32), .int (400 : Int32)]) (pc := 35) C (mX12_within _ er7) zm_X12_within zs_X12_within ml_RX12_203 ⟨Nat.le_of_ble_eq_true rfl, Nat.le_of_ble_eq_true rfl⟩ rfl rfl (Nat.le_of_ble_eq_true rfl) dX12_stair_35 ?_
      show V K 38 [some (.ref 0), some (.int a1), some (.int a2), some (.int a3), some (.int a4), some (.int a5), none, none, none, none, none] [.int r7] S2
      refine V_if_eq (tgt := 64) (pc := 38) C dX12_stair_38 (by decide) (fun hc => ?_) (fun hc => ?_)
      · have h := it_t hc h
        refine V_aload_n (pc := 64) C dX12_stair_64 rfl rfl ?_
        refine V_iconst (pc := 65) C dX12_stair_65 kc_i_2 ?_
        obtain ⟨r8, S9, er8, h⟩ := b2_some h
        refine V_callV (As := [.int (2 : Int32)]) (pc := 66) C (mX12_no _ er8) zm_X12_no zi_X12_no ml_RX12_214 z1_mW_12 rfl ⟨Nat.le_of_ble_eq_true rfl, Nat.le_of_ble_eq_true rfl⟩ rfl rfl (Nat.le_of_ble_eq_true rfl) dX12_stair_66 ?_
        show V K 69 [some (.ref 0), some (.int a1), some (.int a2), some (.int a3), some (.int a4), some (.int a5), none, none, none, none, none] [.int r8] S9
        refine V_i2l (pc := 69) C dX12_stair_69 ?_
        cases h
        exact hR 70 _ rfl dX12_stair_70
      · have h := it_f hc h
        refine V_iload (pc := 41) C dX12_stair_41 rfl ?_
        refine V_iconst (pc := 43) C dX12_stair_43 kc_i_1 ?_
        refine V_bipush (pc := 44) C dX12_stair_44 kc_b_9 ?_
        obtain ⟨r10, er10, h⟩ := b1_some h
        refine V_callS (As := [.int a4, .int (1 : Int32), .int (9 : Int32)]) (pc := 46) C (mX12_within _ er10) zm_X12_within zs_X12_within ml_RX12_203 ⟨Nat.le_of_ble_eq_true rfl, Nat.le_of_ble_eq_true rfl⟩ rfl rfl (Nat.le_of_ble_eq_true rfl) dX12_stair_46 ?_
        show V K 49 [some (.ref 0), some (.int a1), some (.int a2), some (.int a3), some (.int a4), some (.int a5), none, none, none, none, none] [.int r10] S2
        refine V_if_eq (tgt := 64) (pc := 49) C dX12_stair_49 (by decide) (fun hc => ?_) (fun hc => ?_)
        · have h := it_t hc h
          refine V_aload_n (pc := 64) C dX12_stair_64 rfl rfl ?_
          refine V_iconst (pc := 65) C dX12_stair_65 kc_i_2 ?_
          obtain ⟨r11, S12, er11, h⟩ := b2_some h
          refine V_callV (As := [.int (2 : Int32)]) (pc := 66) C (mX12_no _ er11) zm_X12_no zi_X12_no ml_RX12_214 z1_mW_12 rfl ⟨Nat.le_of_ble_eq_true rfl, Nat.le_of_ble_eq_true rfl⟩ rfl rfl (Nat.le_of_ble_eq_true rfl) dX12_stair_66 ?_
          show V K 69 [some (.ref 0), some (.int a1), some (.int a2), some (.int a3), some (.int a4), some (.int a5), none, none, none, none, none] [.int r11] S12
          refine V_i2l (pc := 69) C dX12_stair_69 ?_
          cases h
          exact hR 70 _ rfl dX12_stair_70
        · have h := it_f hc h
          refine V_iload (pc := 52) C dX12_stair_52 rfl ?_
          refine V_iconst (pc := 54) C dX12_stair_54 kc_i_1 ?_
          refine V_sipush (pc := 55) C dX12_stair_55 kc_s_400 ?_
          obtain ⟨r13, er13, h⟩ := b1_some h
          refine V_callS (As := [.int a5, .int (1 : Int32), .int (400 : Int32)]) (pc := 58) C (mX12_within _ er13) zm_X12_within zs_X12_within ml_RX12_203 ⟨Nat.le_of_ble_eq_true rfl, Nat.le_of_ble_eq_true rfl⟩ rfl rfl (Nat.le_of_ble_eq_true rfl) dX12_stair_58 ?_
          show V K 61 [some (.ref 0), some (.int a1), some (.int a2), some (.int a3), some (.int a4), some (.int a5), none, none, none, none, none] [.int r13] S2
          refine V_if_ne (tgt := 71) (pc := 61) C dX12_stair_61 (by decide) (fun hc => ?_) (fun hc => ?_)
          · have h := it_f hc h
            refine V_aload_n (pc := 71) C dX12_stair_71 rfl rfl ?_
            refine V_aload_n (pc := 72) C dX12_stair_72 rfl rfl ?_
            refine V_getF (p1 := 3) (pc := 73) C z1_mW_12 fl_RX12_20 rfl (zf_mW_12_15 z1_mW_12) dX12_stair_73 ?_
            refine V_bipush (pc := 76) C dX12_stair_76 kc_b_120 ?_
            refine V_iload_n (pc := 78) C dX12_stair_78 rfl rfl ?_
            refine V_iadd (pc := 79) C dX12_stair_79 ?_
            obtain ⟨k14, h⟩ := ck_some h
            refine V_iald (pc := 80) C (za_mW_12_15 z1_mW_12) k14 dX12_stair_80 ?_
            refine V_aload_n (pc := 81) C dX12_stair_81 rfl rfl ?_
            refine V_aload_n (pc := 82) C dX12_stair_82 rfl rfl ?_
            refine V_getF (p1 := 3) (pc := 83) C z1_mW_12 fl_RX12_20 rfl (zf_mW_12_15 z1_mW_12) dX12_stair_83 ?_
            refine V_bipush (pc := 86) C dX12_stair_86 kc_b_120 ?_
            refine V_iload_n (pc := 88) C dX12_stair_88 rfl rfl ?_
            refine V_iadd (pc := 89) C dX12_stair_89 ?_
            obtain ⟨k15, h⟩ := ck_some h
            refine V_iald (pc := 90) C (za_mW_12_15 z1_mW_12) k15 dX12_stair_90 ?_
            obtain ⟨r16, er16, h⟩ := b1_some h
            refine V_callV (As := [.int (gI S2 3 (ix ((120 : Int32) + a1)))]) (pc := 91) C (mX12_fullOf _ er16) zm_X12_fullOf zi_X12_fullOf ml_RX12_443 z1_mW_12 rfl ⟨Nat.le_of_ble_eq_true rfl, Nat.le_of_ble_eq_true rfl⟩ rfl rfl (Nat.le_of_ble_eq_true rfl) dX12_stair_91 ?_
            show V K 94 [some (.ref 0), some (.int a1), some (.int a2), some (.int a3), some (.int a4), some (.int a5), none, none, none, none, none] [.int r16, .int (gI S2 3 (ix ((120 : Int32) + a1))), .ref 0] S2
            obtain ⟨r17, er17, h⟩ := b1_some h
            refine V_callV (As := [.int (gI S2 3 (ix ((120 : Int32) + a1))), .int r16]) (pc := 94) C (mX12_all _ er17) zm_X12_all zi_X12_all ml_RX12_324 z1_mW_12 rfl ⟨Nat.le_of_ble_eq_true rfl, Nat.le_of_ble_eq_true rfl⟩ rfl rfl (Nat.le_of_ble_eq_true rfl) dX12_stair_94 ?_
            show V K 97 [some (.ref 0), some (.int a1), some (.int a2), some (.int a3), some (.int a4), some (.int a5), none, none, none, none, none] [.int r17] S2
            refine V_istore (L' := [some (.ref 0), some (.int a1), some (.int a2), some (.int a3), some (.int a4), some (.int a5), some (.int r17), none, none, none, none]) (pc := 97) C dX12_stair_97 (by decide) rfl ?_
            refine V_iconst (pc := 99) C dX12_stair_99 kc_i_1 ?_
            refine V_istore (L' := [some (.ref 0), some (.int a1), some (.int a2), some (.int a3), some (.int a4), some (.int a5), some (.int r17), some (.int (1 : Int32)), none, none, none]) (pc := 100) C dX12_stair_100 (by decide) rfl ?_
            obtain ⟨S20, e102, h⟩ := b1_some h
            refine V_mask [true, true, true, true, true, true, true, true, false, false, false] (mX12_stair_L102 C  FU _ _ _ e102 ?_)
            refine V_iconst (pc := 134) C dX12_stair_134 kc_i_0 ?_
            refine V_istore (L' := [some (.ref 0), some (.int a1), none, some (.int a3), some (.int a4), some (.int a5), some (.int r17), some (.int (0 : Int32)), none, none, none]) (pc := 135) C dX12_stair_135 (by decide) rfl ?_
            exact V_mask [true, true, false, true, true, true, true, true, false, false, false] (mX12_stair_L137 C  FU _ _ _ _ h hR)
          · have h := it_t hc h
            refine V_aload_n (pc := 64) C dX12_stair_64 rfl rfl ?_
            refine V_iconst (pc := 65) C dX12_stair_65 kc_i_2 ?_
            obtain ⟨r39, S40, er39, h⟩ := b2_some h
            refine V_callV (As := [.int (2 : Int32)]) (pc := 66) C (mX12_no _ er39) zm_X12_no zi_X12_no ml_RX12_214 z1_mW_12 rfl ⟨Nat.le_of_ble_eq_true rfl, Nat.le_of_ble_eq_true rfl⟩ rfl rfl (Nat.le_of_ble_eq_true rfl) dX12_stair_66 ?_
            show V K 69 [some (.ref 0), some (.int a1), some (.int a2), some (.int a3), some (.int a4), some (.int a5), none, none, none, none, none] [.int r39] S40
            refine V_i2l (pc := 69) C dX12_stair_69 ?_
            cases h
            exact hR 70 _ rfl dX12_stair_70
  · have h := it_t hc h
    refine V_aload_n (pc := 12) C dX12_stair_12 rfl rfl ?_
    refine V_iconst (pc := 13) C dX12_stair_13 kc_i_1 ?_
    obtain ⟨r41, S42, er41, h⟩ := b2_some h
    refine V_callV (As := [.int (1 : Int32)]) (pc := 14) C (mX12_no _ er41) zm_X12_no zi_X12_no ml_RX12_214 z1_mW_12 rfl ⟨Nat.le_of_ble_eq_true rfl, Nat.le_of_ble_eq_true rfl⟩ rfl rfl (Nat.le_of_ble_eq_true rfl) dX12_stair_14 ?_
    show V K 17 [some (.ref 0), some (.int a1), some (.int a2), some (.int a3), some (.int a4), some (.int a5), none, none, none, none, none] [.int r41] S42
    refine V_i2l (pc := 17) C dX12_stair_17 ?_
    cases h
    exact hR 18 _ rfl dX12_stair_18
set_option maxRecDepth 100000 in
theorem mX12_image (l : Launch) {S : zM} {a1 : Int32} {r : Int64} {S' : zM}  (h : gX12_image S a1 = some (r, S')) : zMet l mW zS0 yX12_image cX12_image 2 (some .long) 2 43 [.ref 0, .int a1] S (some (.long r)) S' := by
  refine zmeth (by decide +kernel) (by rfl) (fun K hKl C hR => ?_)
  show V K 0 [some (.ref 0), some (.int a1)] [] S
  unfold gX12_image at h
  refine V_aload_n (pc := 0) C dX12_image_0 rfl rfl ?_
  obtain ⟨S2, euS2, h⟩ := b1_some h
  refine V_callV (As := []) (pc := 1) C (mX12_good _ euS2) zm_X12_good zi_X12_good ml_RX12_211 z1_mW_12 rfl ⟨Nat.le_of_ble_eq_true rfl, Nat.le_of_ble_eq_true rfl⟩ rfl rfl (Nat.le_of_ble_eq_true rfl) dX12_image_1 ?_
  show V K 4 [some (.ref 0), some (.int a1)] [] S2
  refine V_aload_n (pc := 4) C dX12_image_4 rfl rfl ?_
  refine V_iload_n (pc := 5) C dX12_image_5 rfl rfl ?_
  obtain ⟨r3, er3, h⟩ := b1_some h
  refine V_callV (As := [.int a1]) (pc := 6) C (mX12_isSayer _ er3) zm_X12_isSayer zi_X12_isSayer ml_RX12_315 z1_mW_12 rfl ⟨Nat.le_of_ble_eq_true rfl, Nat.le_of_ble_eq_true rfl⟩ rfl rfl (Nat.le_of_ble_eq_true rfl) dX12_image_6 ?_
  show V K 9 [some (.ref 0), some (.int a1)] [.int r3] S2
  refine V_if_ne (tgt := 19) (pc := 9) C dX12_image_9 (by decide) (fun hc => ?_) (fun hc => ?_)
  · have h := it_f hc h
    refine V_aload_n (pc := 19) C dX12_image_19 rfl rfl ?_
    refine V_getF (p1 := 6) (pc := 20) C z1_mW_12 fl_RX12_29 rfl (zf_mW_12_18 z1_mW_12) dX12_image_20 ?_
    refine V_iload_n (pc := 23) C dX12_image_23 rfl rfl ?_
    obtain ⟨k4, h⟩ := ck_some h
    refine V_iald (pc := 24) C (za_mW_12_18 z1_mW_12) k4 dX12_image_24 ?_
    refine V_sipush (pc := 25) C dX12_image_25 kc_s_4095 ?_
    refine V_icmp_le (tgt := 40) (pc := 28) C dX12_image_28 (by decide) (fun hc => ?_) (fun hc => ?_)
    · have h := it_t hc h
      refine V_aload_n (pc := 40) C dX12_image_40 rfl rfl ?_
      refine V_getI (pc := 41) C z1_mW_12 fl_RX12_223 (by decide) dX12_image_41 ?_
      refine V_i2l (pc := 44) C dX12_image_44 ?_
      refine V_ldc2 (pc := 45) C dX12_image_45 kl_RX12_506 ?_
      refine V_aload_n (pc := 48) C dX12_image_48 rfl rfl ?_
      refine V_getF (p1 := 7) (pc := 49) C z1_mW_12 fl_RX12_32 rfl (zf_mW_12_19 z1_mW_12) dX12_image_49 ?_
      refine V_iload_n (pc := 52) C dX12_image_52 rfl rfl ?_
      obtain ⟨k5, h⟩ := ck_some h
      refine V_iald (pc := 53) C (za_mW_12_19 z1_mW_12) k5 dX12_image_53 ?_
      refine V_i2l (pc := 54) C dX12_image_54 ?_
      refine V_ldc2 (pc := 55) C dX12_image_55 kl_RX12_508 ?_
      refine V_aload_n (pc := 58) C dX12_image_58 rfl rfl ?_
      refine V_getF (p1 := 6) (pc := 59) C z1_mW_12 fl_RX12_29 rfl (zf_mW_12_18 z1_mW_12) dX12_image_59 ?_
      refine V_iload_n (pc := 62) C dX12_image_62 rfl rfl ?_
      obtain ⟨k6, h⟩ := ck_some h
      refine V_iald (pc := 63) C (za_mW_12_18 z1_mW_12) k6 dX12_image_63 ?_
      refine V_i2l (pc := 64) C dX12_image_64 ?_
      refine V_lmul (pc := 65) C dX12_image_65 ?_
      refine V_ladd (pc := 66) C dX12_image_66 ?_
      refine V_lmul (pc := 67) C dX12_image_67 ?_
      refine V_ladd (pc := 68) C dX12_image_68 ?_
      cases h
      exact hR 69 _ rfl dX12_image_69
    · have h := it_f hc h
      refine V_aload_n (pc := 31) C dX12_image_31 rfl rfl ?_
      refine V_iconst (pc := 32) C dX12_image_32 kc_i_3 ?_
      obtain ⟨r7, S8, er7, h⟩ := b2_some h
      refine V_callV (As := [.int (3 : Int32)]) (pc := 33) C (mX12_no _ er7) zm_X12_no zi_X12_no ml_RX12_214 z1_mW_12 rfl ⟨Nat.le_of_ble_eq_true rfl, Nat.le_of_ble_eq_true rfl⟩ rfl rfl (Nat.le_of_ble_eq_true rfl) dX12_image_33 ?_
      show V K 36 [some (.ref 0), some (.int a1)] [.int r7] S8
      refine V_i2l (pc := 36) C dX12_image_36 ?_
      refine V_goto (tgt := 69) (pc := 37) C dX12_image_37 (by decide) ?_
      cases h
      exact hR 69 _ rfl dX12_image_69
  · have h := it_t hc h
    refine V_aload_n (pc := 12) C dX12_image_12 rfl rfl ?_
    refine V_iconst (pc := 13) C dX12_image_13 kc_i_1 ?_
    obtain ⟨r9, S10, er9, h⟩ := b2_some h
    refine V_callV (As := [.int (1 : Int32)]) (pc := 14) C (mX12_no _ er9) zm_X12_no zi_X12_no ml_RX12_214 z1_mW_12 rfl ⟨Nat.le_of_ble_eq_true rfl, Nat.le_of_ble_eq_true rfl⟩ rfl rfl (Nat.le_of_ble_eq_true rfl) dX12_image_14 ?_
    show V K 17 [some (.ref 0), some (.int a1)] [.int r9] S10
    refine V_i2l (pc := 17) C dX12_image_17 ?_
    cases h
    exact hR 18 _ rfl dX12_image_18
set_option maxRecDepth 100000 in
theorem mX12_restore (l : Launch) {S : zM} {a1 : Int32} {a2 : Int64} {r : Int32} {S' : zM}  (h : gX12_restore S a1 a2 = some (r, S')) : zMet l mW zS0 yX12_restore cX12_restore 10 (some .boolean) 2 43 [.ref 0, .int a1, .long a2] S (some (.int r)) S' := by
  refine zmeth (by decide +kernel) (by rfl) (fun K hKl C hR => ?_)
  show V K 0 [some (.ref 0), some (.int a1), some (.long a2), none, none, none, none, none, none, none] [] S
  unfold gX12_restore at h
  refine V_aload_n (pc := 0) C dX12_restore_0 rfl rfl ?_
  obtain ⟨S2, euS2, h⟩ := b1_some h
  refine V_callV (As := []) (pc := 1) C (mX12_good _ euS2) zm_X12_good zi_X12_good ml_RX12_211 z1_mW_12 rfl ⟨Nat.le_of_ble_eq_true rfl, Nat.le_of_ble_eq_true rfl⟩ rfl rfl (Nat.le_of_ble_eq_true rfl) dX12_restore_1 ?_
  show V K 4 [some (.ref 0), some (.int a1), some (.long a2), none, none, none, none, none, none, none] [] S2
  refine V_aload_n (pc := 4) C dX12_restore_4 rfl rfl ?_
  refine V_iload_n (pc := 5) C dX12_restore_5 rfl rfl ?_
  obtain ⟨r3, er3, h⟩ := b1_some h
  refine V_callV (As := [.int a1]) (pc := 6) C (mX12_isSayer _ er3) zm_X12_isSayer zi_X12_isSayer ml_RX12_315 z1_mW_12 rfl ⟨Nat.le_of_ble_eq_true rfl, Nat.le_of_ble_eq_true rfl⟩ rfl rfl (Nat.le_of_ble_eq_true rfl) dX12_restore_6 ?_
  show V K 9 [some (.ref 0), some (.int a1), some (.long a2), none, none, none, none, none, none, none] [.int r3] S2
  refine V_if_ne (tgt := 18) (pc := 9) C dX12_restore_9 (by decide) (fun hc => ?_) (fun hc => ?_)
  · have h := it_f hc h
    refine V_lload_n (pc := 18) C dX12_restore_18 rfl rfl ?_
    refine V_lconst (pc := 19) C dX12_restore_19 (v := (0 : Int64)) rfl ?_
    refine V_lcmp_ge (tgt := 30) (pc := 20) C dX12_restore_20 dX12_restore_21 (by decide) (fun hc => ?_) (fun hc => ?_)
    · have h := it_t hc h
      refine V_lload_n (pc := 30) C dX12_restore_30 rfl rfl ?_
      refine V_ldc2 (pc := 31) C dX12_restore_31 kl_RX12_506 ?_
      refine V_ldiv (pc := 34) C dX12_restore_34 (by decide) ?_
      refine V_lstore (L' := [some (.ref 0), some (.int a1), some (.long a2), none, some (.long (a2 / (65537 : Int64))), none, none, none, none, none]) (pc := 35) C dX12_restore_35 (by decide) rfl ?_
      refine V_lload (pc := 37) C dX12_restore_37 rfl ?_
      refine V_ldc2 (pc := 39) C dX12_restore_39 kl_RX12_508 ?_
      refine V_lrem (pc := 42) C dX12_restore_42 (by decide) ?_
      obtain ⟨x4, ex4, h⟩ := lt_some h
      refine V_nmJ ex4 ?_
      refine V_lstore (L' := [some (.ref 0), some (.int a1), some (.long a2), none, some (.long (a2 / (65537 : Int64))), none, some (.long x4), none, none, none]) (pc := 43) C dX12_restore_43 (by decide) rfl ?_
      refine V_lload (pc := 45) C dX12_restore_45 rfl ?_
      refine V_ldc2 (pc := 47) C dX12_restore_47 kl_RX12_508 ?_
      refine V_ldiv (pc := 50) C dX12_restore_50 (by decide) ?_
      obtain ⟨x5, ex5, h⟩ := lt_some h
      refine V_nmJ ex5 ?_
      refine V_lstore (L' := [some (.ref 0), some (.int a1), some (.long a2), none, some (.long (a2 / (65537 : Int64))), none, some (.long x4), none, some (.long x5), none]) (pc := 51) C dX12_restore_51 (by decide) rfl ?_
      refine V_lload (pc := 53) C dX12_restore_53 rfl ?_
      refine V_ldc2 (pc := 55) C dX12_restore_55 kl_RX12_510 ?_
      refine V_lcmp_gt (tgt := 70) (pc := 58) C dX12_restore_58 dX12_restore_59 (by decide) (fun hc => ?_) (fun hc => ?_)
      · have h := it_t hc h
        refine V_aload_n (pc := 70) C dX12_restore_70 rfl rfl ?_
        refine V_iconst (pc := 71) C dX12_restore_71 kc_i_2 ?_
        obtain ⟨r6, S7, er6, h⟩ := b2_some h
        refine V_callV (As := [.int (2 : Int32)]) (pc := 72) C (mX12_isNot _ er6) zm_X12_isNot zi_X12_isNot ml_RX12_327 z1_mW_12 rfl ⟨Nat.le_of_ble_eq_true rfl, Nat.le_of_ble_eq_true rfl⟩ rfl rfl (Nat.le_of_ble_eq_true rfl) dX12_restore_72 ?_
        show V K 75 [some (.ref 0), some (.int a1), some (.long a2), none, some (.long (a2 / (65537 : Int64))), none, some (.long x4), none, some (.long x5), none] [.int r6] S7
        obtain ⟨k8, h⟩ := ck_some h
        cases h
        exact hR 75 _ ⟨_, rfl, isB_nar k8⟩ dX12_restore_75
      · have h := it_f hc h
        refine V_lload (pc := 62) C dX12_restore_62 rfl ?_
        refine V_lload (pc := 64) C dX12_restore_64 rfl ?_
        refine V_lcmp_le (tgt := 76) (pc := 66) C dX12_restore_66 dX12_restore_67 (by decide) (fun hc => ?_) (fun hc => ?_)
        · have h := it_t hc h
          refine V_aload_n (pc := 76) C dX12_restore_76 rfl rfl ?_
          refine V_lload_n (pc := 77) C dX12_restore_77 rfl rfl ?_
          refine V_ldc2 (pc := 78) C dX12_restore_78 kl_RX12_506 ?_
          refine V_lrem (pc := 81) C dX12_restore_81 (by decide) ?_
          refine V_l2i (pc := 82) C dX12_restore_82 ?_
          refine V_putI (pc := 83) C z1_mW_12 fp_RX12_223 rfl rfl dX12_restore_83 ?_
          refine V_aload_n (pc := 86) C dX12_restore_86 rfl rfl ?_
          refine V_getF (p1 := 7) (pc := 87) C z1_mW_12 fl_RX12_32 rfl (zf_mW_12_19 z1_mW_12) dX12_restore_87 ?_
          refine V_iload_n (pc := 90) C dX12_restore_90 rfl rfl ?_
          refine V_lload (pc := 91) C dX12_restore_91 rfl ?_
          refine V_l2i (pc := 93) C dX12_restore_93 ?_
          obtain ⟨k9, h⟩ := ck_some h
          refine V_iast (pc := 94) C (za_mW_12_19 z1_mW_12) k9 dX12_restore_94 ?_
          obtain ⟨S10, eS10, h⟩ := lt_some h
          refine V_nmS eS10 ?_
          refine V_aload_n (pc := 95) C dX12_restore_95 rfl rfl ?_
          refine V_getF (p1 := 6) (pc := 96) C z1_mW_12 fl_RX12_29 rfl (zf_mW_12_18 z1_mW_12) dX12_restore_96 ?_
          refine V_iload_n (pc := 99) C dX12_restore_99 rfl rfl ?_
          refine V_lload (pc := 100) C dX12_restore_100 rfl ?_
          refine V_l2i (pc := 102) C dX12_restore_102 ?_
          obtain ⟨k11, h⟩ := ck_some h
          refine V_iast (pc := 103) C (za_mW_12_18 z1_mW_12) k11 dX12_restore_103 ?_
          refine V_iconst (pc := 104) C dX12_restore_104 kc_i_1 ?_
          cases h
          exact hR 105 _ ⟨_, rfl, zB1⟩ dX12_restore_105
        · have h := it_f hc h
          refine V_aload_n (pc := 70) C dX12_restore_70 rfl rfl ?_
          refine V_iconst (pc := 71) C dX12_restore_71 kc_i_2 ?_
          obtain ⟨r12, S13, er12, h⟩ := b2_some h
          refine V_callV (As := [.int (2 : Int32)]) (pc := 72) C (mX12_isNot _ er12) zm_X12_isNot zi_X12_isNot ml_RX12_327 z1_mW_12 rfl ⟨Nat.le_of_ble_eq_true rfl, Nat.le_of_ble_eq_true rfl⟩ rfl rfl (Nat.le_of_ble_eq_true rfl) dX12_restore_72 ?_
          show V K 75 [some (.ref 0), some (.int a1), some (.long a2), none, some (.long (a2 / (65537 : Int64))), none, some (.long x4), none, some (.long x5), none] [.int r12] S13
          obtain ⟨k14, h⟩ := ck_some h
          cases h
          exact hR 75 _ ⟨_, rfl, isB_nar k14⟩ dX12_restore_75
    · have h := it_f hc h
      refine V_aload_n (pc := 24) C dX12_restore_24 rfl rfl ?_
      refine V_iconst (pc := 25) C dX12_restore_25 kc_i_2 ?_
      obtain ⟨r15, S16, er15, h⟩ := b2_some h
      refine V_callV (As := [.int (2 : Int32)]) (pc := 26) C (mX12_isNot _ er15) zm_X12_isNot zi_X12_isNot ml_RX12_327 z1_mW_12 rfl ⟨Nat.le_of_ble_eq_true rfl, Nat.le_of_ble_eq_true rfl⟩ rfl rfl (Nat.le_of_ble_eq_true rfl) dX12_restore_26 ?_
      show V K 29 [some (.ref 0), some (.int a1), some (.long a2), none, none, none, none, none, none, none] [.int r15] S16
      obtain ⟨k17, h⟩ := ck_some h
      cases h
      exact hR 29 _ ⟨_, rfl, isB_nar k17⟩ dX12_restore_29
  · have h := it_t hc h
    refine V_aload_n (pc := 12) C dX12_restore_12 rfl rfl ?_
    refine V_iconst (pc := 13) C dX12_restore_13 kc_i_1 ?_
    obtain ⟨r18, S19, er18, h⟩ := b2_some h
    refine V_callV (As := [.int (1 : Int32)]) (pc := 14) C (mX12_isNot _ er18) zm_X12_isNot zi_X12_isNot ml_RX12_327 z1_mW_12 rfl ⟨Nat.le_of_ble_eq_true rfl, Nat.le_of_ble_eq_true rfl⟩ rfl rfl (Nat.le_of_ble_eq_true rfl) dX12_restore_14 ?_
    show V K 17 [some (.ref 0), some (.int a1), some (.long a2), none, none, none, none, none, none, none] [.int r18] S19
    obtain ⟨k20, h⟩ := ck_some h
    cases h
    exact hR 17 _ ⟨_, rfl, isB_nar k20⟩ dX12_restore_17
set_option maxRecDepth 100000 in
theorem mX12_clear (l : Launch) {S : zM}  {r : Int32} {S' : zM}  (h : gX12_clear S = some (r, S')) : zMet l mW zS0 yX12_clear cX12_clear 2 (some .int) 0 0 [.ref 0] S (some (.int r)) S' := by
  refine zmeth (by decide +kernel) (by rfl) (fun K hKl C hR => ?_)
  show V K 0 [some (.ref 0), none] [] S
  unfold gX12_clear at h
  refine V_aload_n (pc := 0) C dX12_clear_0 rfl rfl ?_
  refine V_iconst (pc := 1) C dX12_clear_1 kc_i_0 ?_
  refine V_putI (pc := 2) C z1_mW_12 fp_RX12_103 rfl rfl dX12_clear_2 ?_
  refine V_aload_n (pc := 5) C dX12_clear_5 rfl rfl ?_
  refine V_getI (pc := 6) C z1_mW_12 fl_RX12_226 (by decide) dX12_clear_6 ?_
  obtain ⟨x1, ex1, h⟩ := lt_some h
  refine V_nmI ex1 ?_
  refine V_istore_n (L' := [some (.ref 0), some (.int x1)]) (pc := 9) C dX12_clear_9 rfl (by decide) rfl ?_
  refine V_aload_n (pc := 10) C dX12_clear_10 rfl rfl ?_
  refine V_iconst (pc := 11) C dX12_clear_11 kc_i_0 ?_
  refine V_putI (pc := 12) C z1_mW_12 fp_RX12_226 rfl rfl dX12_clear_12 ?_
  refine V_iload_n (pc := 15) C dX12_clear_15 rfl rfl ?_
  cases h
  exact hR 16 _ ⟨_, rfl, rfl⟩ dX12_clear_16
set_option maxRecDepth 100000 in
theorem mX12_size (l : Launch) {S : zM} {a1 : Int32} {r : Int32} {S' : zM}  (h : gX12_size S a1 = some (r, S')) : zMet l mW zS0 yX12_size cX12_size 2 (some .int) 0 0 [.ref 0, .int a1] S (some (.int r)) S' := by
  refine zmeth (by decide +kernel) (by rfl) (fun K hKl C hR => ?_)
  show V K 0 [some (.ref 0), some (.int a1)] [] S
  unfold gX12_size at h
  refine V_aload_n (pc := 0) C dX12_size_0 rfl rfl ?_
  refine V_iconst (pc := 1) C dX12_size_1 kc_i_0 ?_
  refine V_putI (pc := 2) C z1_mW_12 fp_RX12_103 rfl rfl dX12_size_2 ?_
  refine V_iload_n (pc := 5) C dX12_size_5 rfl rfl ?_
  by_cases c6_0 : a1 = (0 : Int32)
  · have h := it_t c6_0 h
    refine V_case (tgt := 48) (off := (42)) (pc := 6) C dX12_size_6 c6_0 (by decide +kernel) (by decide) ?_
    refine V_aload_n (pc := 48) C dX12_size_48 rfl rfl ?_
    refine V_getI (pc := 49) C z1_mW_12 fl_RX12_220 (by decide) dX12_size_49 ?_
    refine V_if_eq (tgt := 66) (pc := 52) C dX12_size_52 (by decide) (fun hc => ?_) (fun hc => ?_)
    · have h := it_t hc h
      refine V_iconst (pc := 66) C dX12_size_66 kc_i_0 ?_
      cases h
      exact hR 67 _ ⟨_, rfl, rfl⟩ dX12_size_67
    · have h := it_f hc h
      refine V_aload_n (pc := 55) C dX12_size_55 rfl rfl ?_
      refine V_getF (p1 := 3) (pc := 56) C z1_mW_12 fl_RX12_20 rfl (zf_mW_12_15 z1_mW_12) dX12_size_56 ?_
      refine V_sipush (pc := 59) C dX12_size_59 kc_s_238 ?_
      obtain ⟨k1, h⟩ := ck_some h
      refine V_iald (pc := 62) C (za_mW_12_15 z1_mW_12) k1 dX12_size_62 ?_
      refine V_goto (tgt := 67) (pc := 63) C dX12_size_63 (by decide) ?_
      cases h
      exact hR 67 _ ⟨_, rfl, rfl⟩ dX12_size_67
  · have h := it_f c6_0 h
    by_cases c6_1 : a1 = (1 : Int32)
    · have h := it_t c6_1 h
      refine V_case (tgt := 68) (off := (62)) (pc := 6) C dX12_size_6 c6_1 (by decide +kernel) (by decide) ?_
      refine V_aload_n (pc := 68) C dX12_size_68 rfl rfl ?_
      refine V_getI (pc := 69) C z1_mW_12 fl_RX12_220 (by decide) dX12_size_69 ?_
      refine V_if_eq (tgt := 86) (pc := 72) C dX12_size_72 (by decide) (fun hc => ?_) (fun hc => ?_)
      · have h := it_t hc h
        refine V_iconst (pc := 86) C dX12_size_86 kc_i_0 ?_
        cases h
        exact hR 87 _ ⟨_, rfl, rfl⟩ dX12_size_87
      · have h := it_f hc h
        refine V_aload_n (pc := 75) C dX12_size_75 rfl rfl ?_
        refine V_getF (p1 := 3) (pc := 76) C z1_mW_12 fl_RX12_20 rfl (zf_mW_12_15 z1_mW_12) dX12_size_76 ?_
        refine V_sipush (pc := 79) C dX12_size_79 kc_s_239 ?_
        obtain ⟨k2, h⟩ := ck_some h
        refine V_iald (pc := 82) C (za_mW_12_15 z1_mW_12) k2 dX12_size_82 ?_
        refine V_goto (tgt := 87) (pc := 83) C dX12_size_83 (by decide) ?_
        cases h
        exact hR 87 _ ⟨_, rfl, rfl⟩ dX12_size_87
    · have h := it_f c6_1 h
      by_cases c6_2 : a1 = (2 : Int32)
      · have h := it_t c6_2 h
        refine V_case (tgt := 88) (off := (82)) (pc := 6) C dX12_size_6 c6_2 (by decide +kernel) (by decide) ?_
        refine V_aload_n (pc := 88) C dX12_size_88 rfl rfl ?_
        refine V_getI (pc := 89) C z1_mW_12 fl_RX12_220 (by decide) dX12_size_89 ?_
        refine V_if_eq (tgt := 106) (pc := 92) C dX12_size_92 (by decide) (fun hc => ?_) (fun hc => ?_)
        · have h := it_t hc h
          refine V_iconst (pc := 106) C dX12_size_106 kc_i_0 ?_
          cases h
          exact hR 107 _ ⟨_, rfl, rfl⟩ dX12_size_107
        · have h := it_f hc h
          refine V_aload_n (pc := 95) C dX12_size_95 rfl rfl ?_
          refine V_getF (p1 := 3) (pc := 96) C z1_mW_12 fl_RX12_20 rfl (zf_mW_12_15 z1_mW_12) dX12_size_96 ?_
          refine V_sipush (pc := 99) C dX12_size_99 kc_s_240 ?_
          obtain ⟨k3, h⟩ := ck_some h
          refine V_iald (pc := 102) C (za_mW_12_15 z1_mW_12) k3 dX12_size_102 ?_
          refine V_goto (tgt := 107) (pc := 103) C dX12_size_103 (by decide) ?_
          cases h
          exact hR 107 _ ⟨_, rfl, rfl⟩ dX12_size_107
      · have h := it_f c6_2 h
        by_cases c6_3 : a1 = (3 : Int32)
        · have h := it_t c6_3 h
          refine V_case (tgt := 108) (off := (102)) (pc := 6) C dX12_size_6 c6_3 (by decide +kernel) (by decide) ?_
          refine V_aload_n (pc := 108) C dX12_size_108 rfl rfl ?_
          refine V_getI (pc := 109) C z1_mW_12 fl_RX12_220 (by decide) dX12_size_109 ?_
          refine V_if_eq (tgt := 126) (pc := 112) C dX12_size_112 (by decide) (fun hc => ?_) (fun hc => ?_)
          · have h := it_t hc h
            refine V_iconst (pc := 126) C dX12_size_126 kc_i_0 ?_
            cases h
            exact hR 127 _ ⟨_, rfl, rfl⟩ dX12_size_127
          · have h := it_f hc h
            refine V_aload_n (pc := 115) C dX12_size_115 rfl rfl ?_
            refine V_getF (p1 := 3) (pc := 116) C z1_mW_12 fl_RX12_20 rfl (zf_mW_12_15 z1_mW_12) dX12_size_116 ?_
            refine V_sipush (pc := 119) C dX12_size_119 kc_s_241 ?_
            obtain ⟨k4, h⟩ := ck_some h
            refine V_iald (pc := 122) C (za_mW_12_15 z1_mW_12) k4 dX12_size_122 ?_
            refine V_goto (tgt := 127) (pc := 123) C dX12_size_123 (by decide) ?_
            cases h
            exact hR 127 _ ⟨_, rfl, rfl⟩ dX12_size_127
        · have h := it_f c6_3 h
          by_cases c6_4 : a1 = (4 : Int32)
          · have h := it_t c6_4 h
            refine V_case (tgt := 128) (off := (122)) (pc := 6) C dX12_size_6 c6_4 (by decide +kernel) (by decide) ?_
            refine V_aload_n (pc := 128) C dX12_size_128 rfl rfl ?_
            refine V_getI (pc := 129) C z1_mW_12 fl_RX12_226 (by decide) dX12_size_129 ?_
            cases h
            exact hR 132 _ ⟨_, rfl, rfl⟩ dX12_size_132
          · have h := it_f c6_4 h
            by_cases c6_5 : a1 = (5 : Int32)
            · have h := it_t c6_5 h
              refine V_case (tgt := 133) (off := (127)) (pc := 6) C dX12_size_6 c6_5 (by decide +kernel) (by decide) ?_
              refine V_aload_n (pc := 133) C dX12_size_133 rfl rfl ?_
              refine V_getI (pc := 134) C z1_mW_12 fl_RX12_223 (by decide) dX12_size_134 ?_
              cases h
              exact hR 137 _ ⟨_, rfl, rfl⟩ dX12_size_137
            · have h := it_f c6_5 h
              by_cases c6_6 : a1 = (6 : Int32)
              · have h := it_t c6_6 h
                refine V_case (tgt := 138) (off := (132)) (pc := 6) C dX12_size_6 c6_6 (by decide +kernel) (by decide) ?_
                refine V_aload_n (pc := 138) C dX12_size_138 rfl rfl ?_
                refine V_getI (pc := 139) C z1_mW_12 fl_RX12_111 (by decide) dX12_size_139 ?_
                cases h
                exact hR 142 _ ⟨_, rfl, rfl⟩ dX12_size_142
              · have h := it_f c6_6 h
                refine V_dflt (tgt := 143) (m := 7) (pc := 6) C dX12_size_6 (by decide) (fun i hi => match i, hi with | 0, _ => c6_0 | 1, _ => c6_1 | 2, _ => c6_2 | 3, _ => c6_3 | 4, _ => c6_4 | 5, _ => c6_5 | 6, _ => c6_6 | k + 7, hi => absurd hi (by omega)) (by decide) ?_
                refine V_iconst (pc := 143) C dX12_size_143 kc_i_m1 ?_
                cases h
                exact hR 144 _ ⟨_, rfl, rfl⟩ dX12_size_144
set_option maxRecDepth 100000 in
theorem mX12_trouble (l : Launch) {S : zM}  {r : Int32} {S' : zM}  (h : gX12_trouble S = some (r, S')) : zMet l mW zS0 yX12_trouble cX12_trouble 1 (some .int) 0 0 [.ref 0] S (some (.int r)) S' := by
  refine zmeth (by decide +kernel) (by rfl) (fun K hKl C hR => ?_)
  show V K 0 [some (.ref 0)] [] S
  unfold gX12_trouble at h
  refine V_aload_n (pc := 0) C dX12_trouble_0 rfl rfl ?_
  refine V_iconst (pc := 1) C dX12_trouble_1 kc_i_0 ?_
  refine V_putI (pc := 2) C z1_mW_12 fp_RX12_103 rfl rfl dX12_trouble_2 ?_
  refine V_aload_n (pc := 5) C dX12_trouble_5 rfl rfl ?_
  refine V_getI (pc := 6) C z1_mW_12 fl_RX12_106 (by decide) dX12_trouble_6 ?_
  cases h
  exact hR 9 _ ⟨_, rfl, rfl⟩ dX12_trouble_9
