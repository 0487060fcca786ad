set_option maxRecDepth 100000 in
theorem mX12_senseLine_L28 {K : zK} (C : zC K cX12_senseLine yX12_senseLine.cls 2 9 239 mW) {v1 : Int32}  : ∀ (f : Nat) (S : zM) (S' : zM), gX12_senseLine_L28 v1 f S = some S' → V K 52 [some (.ref 0), some (.int v1)] [] S' → V K 28 [some (.ref 0), some (.int v1)] [] S := by
  intro f
  induction f with
  | zero => intro S S' h hx; cases h
  | succ n ih =>
    intro S S' h hx
    unfold gX12_senseLine_L28 at h
    refine V_aload_n (pc := 28) C dX12_senseLine_28 rfl rfl ?_
    refine V_getI (pc := 29) C z1_mW_12 fl_RX12_143 (by decide) dX12_senseLine_29 ?_
    refine V_if_ne (tgt := 52) (pc := 32) C dX12_senseLine_32 (by decide) (fun hc => ?_) (fun hc => ?_)
    · have h := it_f hc h
      cases h
      exact V_mask [true, true] hx
    · have h := it_t hc h
      refine V_aload_n (pc := 35) C dX12_senseLine_35 rfl rfl ?_
      refine V_ldcS (j := 33) (pc := 36) C dX12_senseLine_36 rfl ?_
      obtain ⟨r6, S7, er6, h⟩ := b2_some h
      refine V_callV (As := [.ref 10004]) (pc := 38) C (mX12_takes _ zq_4 er6) zm_X12_takes zi_X12_takes ml_RX12_167 z1_mW_12 rfl ⟨Nat.le_of_ble_eq_true rfl, Nat.le_of_ble_eq_true rfl⟩ rfl rfl (Nat.le_of_ble_eq_true rfl) dX12_senseLine_38 ?_
      show V K 41 [some (.ref 0), some (.int v1)] [.int r6] S7
      refine V_if_eq (tgt := 52) (pc := 41) C dX12_senseLine_41 (by decide) (fun hc => ?_) (fun hc => ?_)
      · have h := it_t hc h
        cases h
        exact V_mask [true, true] hx
      · have h := it_f hc h
        refine V_aload_n (pc := 44) C dX12_senseLine_44 rfl rfl ?_
        refine V_iload_n (pc := 45) C dX12_senseLine_45 rfl rfl ?_
        obtain ⟨S9, euS9, h⟩ := b1_some h
        refine V_callV (As := [.int v1]) (pc := 46) C (mX12_stepOf _ euS9) zm_X12_stepOf zi_X12_stepOf ml_RX12_256 z1_mW_12 rfl ⟨Nat.le_of_ble_eq_true rfl, Nat.le_of_ble_eq_true rfl⟩ rfl rfl (Nat.le_of_ble_eq_true rfl) dX12_senseLine_46 ?_
        show V K 49 [some (.ref 0), some (.int v1)] [] S9
        refine V_goto (tgt := 28) (pc := 49) C dX12_senseLine_49 (by decide) ?_
        exact V_mask [true, true] (ih _ _ h hx)
set_option maxRecDepth 100000 in
theorem mX12_senseLine_J158 {K : zK} (C : zC K cX12_senseLine yX12_senseLine.cls 2 9 239 mW) {S : zM} {v1 : Int32} {out : (zM ⊕ zM) ⊕ zM}  (h : gX12_senseLine_J158 S v1 = some out) (hb : ∀ (S' : zM), out = .inr S' → V K 95 [some (.ref 0), some (.int v1)] [] S') (hret : ∀ r' : zM, out = .inl (.inl r') → zR K cX12_senseLine (none) r' none) : V K 158 [some (.ref 0), some (.int v1)] [] S := by
  unfold gX12_senseLine_J158 at h
  refine V_aload_n (pc := 158) C dX12_senseLine_158 rfl rfl ?_
  refine V_getI (pc := 159) C z1_mW_12 fl_RX12_143 (by decide) dX12_senseLine_159 ?_
  refine V_if_eq (tgt := 166) (pc := 162) C dX12_senseLine_162 (by decide) (fun hc => ?_) (fun hc => ?_)
  · have h := it_t hc h
    refine V_aload_n (pc := 166) C dX12_senseLine_166 rfl rfl ?_
    refine V_getF (p1 := 4) (pc := 167) C z1_mW_12 fl_RX12_23 rfl (zf_mW_12_16 z1_mW_12) dX12_senseLine_167 ?_
    refine V_bipush (pc := 170) C dX12_senseLine_170 kc_b_84 ?_
    refine V_bipush (pc := 172) C dX12_senseLine_172 kc_b_6 ?_
    refine V_iload_n (pc := 174) C dX12_senseLine_174 rfl rfl ?_
    refine V_imul (pc := 175) C dX12_senseLine_175 ?_
    refine V_iadd (pc := 176) C dX12_senseLine_176 ?_
    refine V_aload_n (pc := 177) C dX12_senseLine_177 rfl rfl ?_
    refine V_getF (p1 := 4) (pc := 178) C z1_mW_12 fl_RX12_23 rfl (zf_mW_12_16 z1_mW_12) dX12_senseLine_178 ?_
    refine V_bipush (pc := 181) C dX12_senseLine_181 kc_b_78 ?_
    refine V_iload_n (pc := 183) C dX12_senseLine_183 rfl rfl ?_
    refine V_iadd (pc := 184) C dX12_senseLine_184 ?_
    obtain ⟨k29, h⟩ := ck_some h
    refine V_iald (pc := 185) C (za_mW_12_16 z1_mW_12) k29 dX12_senseLine_185 ?_
    refine V_iadd (pc := 186) C dX12_senseLine_186 ?_
    refine V_aload_n (pc := 187) C dX12_senseLine_187 rfl rfl ?_
    refine V_iconst (pc := 188) C dX12_senseLine_188 kc_i_0 ?_
    refine V_bipush (pc := 189) C dX12_senseLine_189 kc_b_9 ?_
    obtain ⟨r30, S31, er30, h⟩ := b2_some h
    refine V_callV (As := [.int (0 : Int32), .int (9 : Int32)]) (pc := 191) C (mX12_number _ er30) zm_X12_number zi_X12_number ml_RX12_207 z1_mW_12 rfl ⟨Nat.le_of_ble_eq_true rfl, Nat.le_of_ble_eq_true rfl⟩ rfl rfl (Nat.le_of_ble_eq_true rfl) dX12_senseLine_191 ?_
    show V K 194 [some (.ref 0), some (.int v1)] [.int r30, .int (((84 : Int32) + ((6 : Int32) * v1)) + (gI S 4 (ix ((78 : Int32) + v1)))), .ref 4] S31
    obtain ⟨k32, h⟩ := ck_some h
    refine V_iast (pc := 194) C (za_mW_12_16 z1_mW_12) k32 dX12_senseLine_194 ?_
    obtain ⟨S33, eS33, h⟩ := lt_some h
    refine V_nmS eS33 ?_
    refine V_aload_n (pc := 195) C dX12_senseLine_195 rfl rfl ?_
    refine V_getF (p1 := 4) (pc := 196) C z1_mW_12 fl_RX12_23 rfl (zf_mW_12_16 z1_mW_12) dX12_senseLine_196 ?_
    refine V_bipush (pc := 199) C dX12_senseLine_199 kc_b_78 ?_
    refine V_iload_n (pc := 201) C dX12_senseLine_201 rfl rfl ?_
    refine V_iadd (pc := 202) C dX12_senseLine_202 ?_
    refine V_dup2 (pc := 203) C dX12_senseLine_203 rfl rfl ?_
    obtain ⟨k34, h⟩ := ck_some h
    refine V_iald (pc := 204) C (za_mW_12_16 z1_mW_12) k34 dX12_senseLine_204 ?_
    refine V_iconst (pc := 205) C dX12_senseLine_205 kc_i_1 ?_
    refine V_iadd (pc := 206) C dX12_senseLine_206 ?_
    obtain ⟨k35, h⟩ := ck_some h
    refine V_iast (pc := 207) C (za_mW_12_16 z1_mW_12) k35 dX12_senseLine_207 ?_
    refine V_goto (tgt := 95) (pc := 208) C dX12_senseLine_208 (by decide) ?_
    cases h
    exact V_mask [true, true] (hb _ rfl)
  · have h := it_f hc h
    cases h
    exact (hret _ rfl) 165 _ rfl dX12_senseLine_165
set_option maxRecDepth 100000 in
theorem mX12_senseLine_L95 {K : zK} (C : zC K cX12_senseLine yX12_senseLine.cls 2 9 239 mW) {v1 : Int32}  : ∀ (f : Nat) (S : zM) (out : (zM ⊕ zM)), gX12_senseLine_L95 v1 f S = some out → (∀ (S' : zM), out = .inr S' → V K 211 [some (.ref 0), none] [] S') → (∀ r' : zM, out = .inl r' → zR K cX12_senseLine (none) r' none) → V K 95 [some (.ref 0), some (.int v1)] [] S := by
  intro f
  induction f with
  | zero => intro S out h hx hret; cases h
  | succ n ih =>
    intro S out h hx hret
    unfold gX12_senseLine_L95 at h
    refine V_aload_n (pc := 95) C dX12_senseLine_95 rfl rfl ?_
    refine V_getI (pc := 96) C z1_mW_12 fl_RX12_143 (by decide) dX12_senseLine_96 ?_
    refine V_if_ne (tgt := 211) (pc := 99) C dX12_senseLine_99 (by decide) (fun hc => ?_) (fun hc => ?_)
    · have h := it_f hc h
      cases h
      exact V_mask [true, false] (hx _ rfl)
    · have h := it_t hc h
      refine V_aload_n (pc := 102) C dX12_senseLine_102 rfl rfl ?_
      refine V_getI (pc := 103) C z1_mW_12 fl_RX12_133 (by decide) dX12_senseLine_103 ?_
      refine V_iconst (pc := 106) C dX12_senseLine_106 kc_i_3 ?_
      refine V_icmp_ne (tgt := 211) (pc := 107) C dX12_senseLine_107 (by decide) (fun hc => ?_) (fun hc => ?_)
      · have h := it_f hc h
        cases h
        exact V_mask [true, false] (hx _ rfl)
      · have h := it_t hc h
        refine V_aload_n (pc := 110) C dX12_senseLine_110 rfl rfl ?_
        refine V_getI (pc := 111) C z1_mW_12 fl_RX12_130 (by decide) dX12_senseLine_111 ?_
        refine V_iconst (pc := 114) C dX12_senseLine_114 kc_i_0 ?_
        refine V_bipush (pc := 115) C dX12_senseLine_115 kc_b_9 ?_
        obtain ⟨r18, er18, h⟩ := b1_some h
        refine V_callS (As := [.int (gI S 0 7), .int (0 : Int32), .int (9 : Int32)]) (pc := 117) C (mX12_within _ er18) zm_X12_within zs_X12_within ml_RX12_203 ⟨Nat.le_of_ble_eq_true rfl, Nat.le_of_ble_eq_true rfl⟩ rfl rfl (Nat.le_of_ble_eq_true rfl) dX12_senseLine_117 ?_
        show V K 120 [some (.ref 0), some (.int v1)] [.int r18] S
        refine V_if_ne (tgt := 135) (pc := 120) C dX12_senseLine_120 (by decide) (fun hc => ?_) (fun hc => ?_)
        · have h := it_f hc h
          refine V_aload_n (pc := 135) C dX12_senseLine_135 rfl rfl ?_
          refine V_getF (p1 := 4) (pc := 136) C z1_mW_12 fl_RX12_23 rfl (zf_mW_12_16 z1_mW_12) dX12_senseLine_136 ?_
          refine V_bipush (pc := 139) C dX12_senseLine_139 kc_b_78 ?_
          refine V_iload_n (pc := 141) C dX12_senseLine_141 rfl rfl ?_
          refine V_iadd (pc := 142) C dX12_senseLine_142 ?_
          obtain ⟨k19, h⟩ := ck_some h
          refine V_iald (pc := 143) C (za_mW_12_16 z1_mW_12) k19 dX12_senseLine_143 ?_
          refine V_bipush (pc := 144) C dX12_senseLine_144 kc_b_6 ?_
          refine V_icmp_ne (tgt := 158) (pc := 146) C dX12_senseLine_146 (by decide) (fun hc => ?_) (fun hc => ?_)
          · have h := it_f hc h
            refine V_aload_n (pc := 158) C dX12_senseLine_158 rfl rfl ?_
            refine V_getI (pc := 159) C z1_mW_12 fl_RX12_143 (by decide) dX12_senseLine_159 ?_
            refine V_if_eq (tgt := 166) (pc := 162) C dX12_senseLine_162 (by decide) (fun hc => ?_) (fun hc => ?_)
            · have h := it_t hc h
              refine V_aload_n (pc := 166) C dX12_senseLine_166 rfl rfl ?_
              refine V_getF (p1 := 4) (pc := 167) C z1_mW_12 fl_RX12_23 rfl (zf_mW_12_16 z1_mW_12) dX12_senseLine_167 ?_
              refine V_bipush (pc := 170) C dX12_senseLine_170 kc_b_84 ?_
              refine V_bipush (pc := 172) C dX12_senseLine_172 kc_b_6 ?_
              refine V_iload_n (pc := 174) C dX12_senseLine_174 rfl rfl ?_
              refine V_imul (pc := 175) C dX12_senseLine_175 ?_
              refine V_iadd (pc := 176) C dX12_senseLine_176 ?_
              refine V_aload_n (pc := 177) C dX12_senseLine_177 rfl rfl ?_
              refine V_getF (p1 := 4) (pc := 178) C z1_mW_12 fl_RX12_23 rfl (zf_mW_12_16 z1_mW_12) dX12_senseLine_178 ?_
              refine V_bipush (pc := 181) C dX12_senseLine_181 kc_b_78 ?_
              refine V_iload_n (pc := 183) C dX12_senseLine_183 rfl rfl ?_
              refine V_iadd (pc := 184) C dX12_senseLine_184 ?_
              obtain ⟨k20, h⟩ := ck_some h
              refine V_iald (pc := 185) C (za_mW_12_16 z1_mW_12) k20 dX12_senseLine_185 ?_
              refine V_iadd (pc := 186) C dX12_senseLine_186 ?_
              refine V_aload_n (pc := 187) C dX12_senseLine_187 rfl rfl ?_
              refine V_iconst (pc := 188) C dX12_senseLine_188 kc_i_0 ?_
              refine V_bipush (pc := 189) C dX12_senseLine_189 kc_b_9 ?_
              obtain ⟨r21, S22, er21, h⟩ := b2_some h
              refine V_callV (As := [.int (0 : Int32), .int (9 : Int32)]) (pc := 191) C (mX12_number _ er21) zm_X12_number zi_X12_number ml_RX12_207 z1_mW_12 rfl ⟨Nat.le_of_ble_eq_true rfl, Nat.le_of_ble_eq_true rfl⟩ rfl rfl (Nat.le_of_ble_eq_true rfl) dX12_senseLine_191 ?_
              show V K 194 [some (.ref 0), some (.int v1)] [.int r21, .int (((84 : Int32) + ((6 : Int32) * v1)) + (gI S 4 (ix ((78 : Int32) + v1)))), .ref 4] S22
              obtain ⟨k23, h⟩ := ck_some h
              refine V_iast (pc := 194) C (za_mW_12_16 z1_mW_12) k23 dX12_senseLine_194 ?_
              obtain ⟨S24, eS24, h⟩ := lt_some h
              refine V_nmS eS24 ?_
              refine V_aload_n (pc := 195) C dX12_senseLine_195 rfl rfl ?_
              refine V_getF (p1 := 4) (pc := 196) C z1_mW_12 fl_RX12_23 rfl (zf_mW_12_16 z1_mW_12) dX12_senseLine_196 ?_
              refine V_bipush (pc := 199) C dX12_senseLine_199 kc_b_78 ?_
              refine V_iload_n (pc := 201) C dX12_senseLine_201 rfl rfl ?_
              refine V_iadd (pc := 202) C dX12_senseLine_202 ?_
              refine V_dup2 (pc := 203) C dX12_senseLine_203 rfl rfl ?_
              obtain ⟨k25, h⟩ := ck_some h
              refine V_iald (pc := 204) C (za_mW_12_16 z1_mW_12) k25 dX12_senseLine_204 ?_
              refine V_iconst (pc := 205) C dX12_senseLine_205 kc_i_1 ?_
              refine V_iadd (pc := 206) C dX12_senseLine_206 ?_
              obtain ⟨k26, h⟩ := ck_some h
              refine V_iast (pc := 207) C (za_mW_12_16 z1_mW_12) k26 dX12_senseLine_207 ?_
              refine V_goto (tgt := 95) (pc := 208) C dX12_senseLine_208 (by decide) ?_
              exact V_mask [true, true] (ih _ _ h hx hret)
            · have h := it_f hc h
              cases h
              exact (hret _ rfl) 165 _ rfl dX12_senseLine_165
          · have h := it_t hc h
            refine V_aload_n (pc := 149) C dX12_senseLine_149 rfl rfl ?_
            refine V_iconst (pc := 150) C dX12_senseLine_150 kc_i_5 ?_
            refine V_aload_n (pc := 151) C dX12_senseLine_151 rfl rfl ?_
            refine V_getI (pc := 152) C z1_mW_12 fl_RX12_124 (by decide) dX12_senseLine_152 ?_
            obtain ⟨S28, euS28, h⟩ := b1_some h
            refine V_callV (As := [.int (5 : Int32), .int (gI S 0 4)]) (pc := 155) C (mX12_wrong _ euS28) zm_X12_wrong zi_X12_wrong ml_RX12_170 z1_mW_12 rfl ⟨Nat.le_of_ble_eq_true rfl, Nat.le_of_ble_eq_true rfl⟩ rfl rfl (Nat.le_of_ble_eq_true rfl) dX12_senseLine_155 ?_
            show V K 158 [some (.ref 0), some (.int v1)] [] S28
            obtain ⟨out', e158, hi, hb⟩ := lm_some h
            refine V_mask [true, true] (mX12_senseLine_J158 C  e158 ?_ ?_)
            · intro S eo
              have h := hb _ eo
              exact ih _ _ h hx hret
            · intro r' eo
              exact hret _ (hi _ eo).symm
        · have h := it_t hc h
          refine V_aload_n (pc := 123) C dX12_senseLine_123 rfl rfl ?_
          refine V_iconst (pc := 124) C dX12_senseLine_124 kc_i_4 ?_
          refine V_aload_n (pc := 125) C dX12_senseLine_125 rfl rfl ?_
          refine V_getI (pc := 126) C z1_mW_12 fl_RX12_124 (by decide) dX12_senseLine_126 ?_
          obtain ⟨S37, euS37, h⟩ := b1_some h
          refine V_callV (As := [.int (4 : Int32), .int (gI S 0 4)]) (pc := 129) C (mX12_wrong _ euS37) zm_X12_wrong zi_X12_wrong ml_RX12_170 z1_mW_12 rfl ⟨Nat.le_of_ble_eq_true rfl, Nat.le_of_ble_eq_true rfl⟩ rfl rfl (Nat.le_of_ble_eq_true rfl) dX12_senseLine_129 ?_
          show V K 132 [some (.ref 0), some (.int v1)] [] S37
          refine V_goto (tgt := 158) (pc := 132) C dX12_senseLine_132 (by decide) ?_
          obtain ⟨out', e158, hi, hb⟩ := lm_some h
          refine V_mask [true, true] (mX12_senseLine_J158 C  e158 ?_ ?_)
          · intro S eo
            have h := hb _ eo
            exact ih _ _ h hx hret
          · intro r' eo
            exact hret _ (hi _ eo).symm
set_option maxRecDepth 100000 in
theorem mX12_senseLine (l : Launch) {S : zM}  {S' : zM}  (h : gX12_senseLine S = some S') : zMet l mW zS0 yX12_senseLine cX12_senseLine 2 (none) 9 239 [.ref 0] S none S' := by
  refine zmeth (by decide +kernel) (by rfl) (fun K hKl C hR => ?_)
  show V K 0 [some (.ref 0), none] [] S
  unfold gX12_senseLine at h
  refine V_aload_n (pc := 0) C dX12_senseLine_0 rfl rfl ?_
  refine V_getI (pc := 1) C z1_mW_12 fl_RX12_143 (by decide) dX12_senseLine_1 ?_
  refine V_if_eq (tgt := 8) (pc := 4) C dX12_senseLine_4 (by decide) (fun hc => ?_) (fun hc => ?_)
  · have h := it_t hc h
    refine V_aload_n (pc := 8) C dX12_senseLine_8 rfl rfl ?_
    refine V_getF (p1 := 4) (pc := 9) C z1_mW_12 fl_RX12_23 rfl (zf_mW_12_16 z1_mW_12) dX12_senseLine_9 ?_
    refine V_sipush (pc := 12) C dX12_senseLine_12 kc_s_238 ?_
    obtain ⟨k1, h⟩ := ck_some h
    refine V_iald (pc := 15) C (za_mW_12_16 z1_mW_12) k1 dX12_senseLine_15 ?_
    refine V_istore_n (L' := [some (.ref 0), some (.int (gI S 4 (ix (238 : Int32))))]) (pc := 16) C dX12_senseLine_16 rfl (by decide) rfl ?_
    refine V_aload_n (pc := 17) C dX12_senseLine_17 rfl rfl ?_
    refine V_iconst (pc := 18) C dX12_senseLine_18 kc_i_0 ?_
    refine V_iload_n (pc := 19) C dX12_senseLine_19 rfl rfl ?_
    obtain ⟨S3, euS3, h⟩ := b1_some h
    refine V_callV (As := [.int (0 : Int32), .int (gI S 4 (ix (238 : Int32)))]) (pc := 20) C (mX12_newName _ euS3) zm_X12_newName zi_X12_newName ml_RX12_253 z1_mW_12 rfl ⟨Nat.le_of_ble_eq_true rfl, Nat.le_of_ble_eq_true rfl⟩ rfl rfl (Nat.le_of_ble_eq_true rfl) dX12_senseLine_20 ?_
    show V K 23 [some (.ref 0), some (.int (gI S 4 (ix (238 : Int32))))] [] S3
    refine V_aload_n (pc := 23) C dX12_senseLine_23 rfl rfl ?_
    refine V_iload_n (pc := 24) C dX12_senseLine_24 rfl rfl ?_
    obtain ⟨S5, euS5, h⟩ := b1_some h
    refine V_callV (As := [.int (gI S 4 (ix (238 : Int32)))]) (pc := 25) C (mX12_stepOf _ euS5) zm_X12_stepOf zi_X12_stepOf ml_RX12_256 z1_mW_12 rfl ⟨Nat.le_of_ble_eq_true rfl, Nat.le_of_ble_eq_true rfl⟩ rfl rfl (Nat.le_of_ble_eq_true rfl) dX12_senseLine_25 ?_
    show V K 28 [some (.ref 0), some (.int (gI S 4 (ix (238 : Int32))))] [] S5
    obtain ⟨S10, e28, h⟩ := b1_some h
    refine V_mask [true, true] (mX12_senseLine_L28 C  FU _ _ e28 ?_)
    refine V_aload_n (pc := 52) C dX12_senseLine_52 rfl rfl ?_
    refine V_ldcS (j := 34) (pc := 53) C dX12_senseLine_53 rfl ?_
    obtain ⟨S12, euS12, h⟩ := b1_some h
    refine V_callV (As := [.ref 10005]) (pc := 55) C (mX12_must _ zq_5 euS12) zm_X12_must zi_X12_must ml_RX12_260 z1_mW_12 rfl ⟨Nat.le_of_ble_eq_true rfl, Nat.le_of_ble_eq_true rfl⟩ rfl rfl (Nat.le_of_ble_eq_true rfl) dX12_senseLine_55 ?_
    show V K 58 [some (.ref 0), some (.int (gI S 4 (ix (238 : Int32))))] [] S12
    refine V_aload_n (pc := 58) C dX12_senseLine_58 rfl rfl ?_
    refine V_getI (pc := 59) C z1_mW_12 fl_RX12_143 (by decide) dX12_senseLine_59 ?_
    refine V_if_eq (tgt := 66) (pc := 62) C dX12_senseLine_62 (by decide) (fun hc => ?_) (fun hc => ?_)
    · have h := it_t hc h
      refine V_aload_n (pc := 66) C dX12_senseLine_66 rfl rfl ?_
      refine V_getF (p1 := 4) (pc := 67) C z1_mW_12 fl_RX12_23 rfl (zf_mW_12_16 z1_mW_12) dX12_senseLine_67 ?_
      refine V_bipush (pc := 70) C dX12_senseLine_70 kc_b_84 ?_
      refine V_bipush (pc := 72) C dX12_senseLine_72 kc_b_6 ?_
      refine V_iload_n (pc := 74) C dX12_senseLine_74 rfl rfl ?_
      refine V_imul (pc := 75) C dX12_senseLine_75 ?_
      refine V_iadd (pc := 76) C dX12_senseLine_76 ?_
      refine V_aload_n (pc := 77) C dX12_senseLine_77 rfl rfl ?_
      refine V_iconst (pc := 78) C dX12_senseLine_78 kc_i_1 ?_
      refine V_bipush (pc := 79) C dX12_senseLine_79 kc_b_9 ?_
      obtain ⟨r13, S14, er13, h⟩ := b2_some h
      refine V_callV (As := [.int (1 : Int32), .int (9 : Int32)]) (pc := 81) C (mX12_number _ er13) zm_X12_number zi_X12_number ml_RX12_207 z1_mW_12 rfl ⟨Nat.le_of_ble_eq_true rfl, Nat.le_of_ble_eq_true rfl⟩ rfl rfl (Nat.le_of_ble_eq_true rfl) dX12_senseLine_81 ?_
      show V K 84 [some (.ref 0), some (.int (gI S 4 (ix (238 : Int32))))] [.int r13, .int ((84 : Int32) + ((6 : Int32) * (gI S 4 (ix (238 : Int32))))), .ref 4] S14
      obtain ⟨k15, h⟩ := ck_some h
      refine V_iast (pc := 84) C (za_mW_12_16 z1_mW_12) k15 dX12_senseLine_84 ?_
      refine V_aload_n (pc := 85) C dX12_senseLine_85 rfl rfl ?_
      refine V_getF (p1 := 4) (pc := 86) C z1_mW_12 fl_RX12_23 rfl (zf_mW_12_16 z1_mW_12) dX12_senseLine_86 ?_
      refine V_bipush (pc := 89) C dX12_senseLine_89 kc_b_78 ?_
      refine V_iload_n (pc := 91) C dX12_senseLine_91 rfl rfl ?_
      refine V_iadd (pc := 92) C dX12_senseLine_92 ?_
      refine V_iconst (pc := 93) C dX12_senseLine_93 kc_i_1 ?_
      obtain ⟨k16, h⟩ := ck_some h
      refine V_iast (pc := 94) C (za_mW_12_16 z1_mW_12) k16 dX12_senseLine_94 ?_
      obtain ⟨S17, eS17, h⟩ := lt_some h
      refine V_nmS eS17 ?_
      obtain ⟨out95, e95, hr95, hx95⟩ := lm_some h
      refine V_mask [true, true] (mX12_senseLine_L95 C  FU _ _ e95 ?_ ?_)
      · intro S38 eo
        have h := hx95 _ eo
        refine V_aload_n (pc := 211) C dX12_senseLine_211 rfl rfl ?_
        refine V_getF (p1 := 4) (pc := 212) C z1_mW_12 fl_RX12_23 rfl (zf_mW_12_16 z1_mW_12) dX12_senseLine_212 ?_
        refine V_sipush (pc := 215) C dX12_senseLine_215 kc_s_238 ?_
        refine V_dup2 (pc := 218) C dX12_senseLine_218 rfl rfl ?_
        obtain ⟨k39, h⟩ := ck_some h
        refine V_iald (pc := 219) C (za_mW_12_16 z1_mW_12) k39 dX12_senseLine_219 ?_
        refine V_iconst (pc := 220) C dX12_senseLine_220 kc_i_1 ?_
        refine V_iadd (pc := 221) C dX12_senseLine_221 ?_
        obtain ⟨k40, h⟩ := ck_some h
        refine V_iast (pc := 222) C (za_mW_12_16 z1_mW_12) k40 dX12_senseLine_222 ?_
        cases h
        exact hR 223 _ rfl dX12_senseLine_223
      · intro r' eo
        cases hr95 _ eo
        exact hR
    · have h := it_f hc h
      cases h
      exact hR 65 _ rfl dX12_senseLine_65
  · have h := it_f hc h
    cases h
    exact hR 7 _ rfl dX12_senseLine_7
set_option maxRecDepth 100000 in
theorem mX12_liked_L42 {K : zK} (C : zC K cX12_liked yX12_liked.cls 5 2 44 mW) {S : zM} {v1 : Int32} {v2 : Int32}  : ∀ (f : Nat) (v3 : Int32) (v4 : Int32) (o3 : Int32), gX12_liked_L42 S v1 v2 f v3 v4 = some o3 → V K 87 [some (.ref 0), some (.int v1), some (.int v2), some (.int o3), none] [] S → V K 42 [some (.ref 0), some (.int v1), some (.int v2), some (.int v3), some (.int v4)] [] S := by
  intro f
  induction f with
  | zero => intro v3 v4 o3 h hx; cases h
  | succ n ih =>
    intro v3 v4 o3 h hx
    unfold gX12_liked_L42 at h
    refine V_iload (pc := 42) C dX12_liked_42 rfl ?_
    refine V_iload_n (pc := 44) C dX12_liked_44 rfl rfl ?_
    refine V_icmp_ge (tgt := 87) (pc := 45) C dX12_liked_45 (by decide) (fun hc => ?_) (fun hc => ?_)
    · have h := it_t hc h
      cases h
      exact V_mask [true, true, true, true, false] hx
    · have h := it_f hc h
      refine V_iload_n (pc := 48) C dX12_liked_48 rfl rfl ?_
      refine V_if_ne (tgt := 75) (pc := 49) C dX12_liked_49 (by decide) (fun hc => ?_) (fun hc => ?_)
      · have h := it_f hc h
        refine V_iconst (pc := 75) C dX12_liked_75 kc_i_1 ?_
        refine V_goto (tgt := 80) (pc := 76) C dX12_liked_76 (by decide) ?_
        refine V_istore_n (L' := [some (.ref 0), some (.int v1), some (.int v2), some (.int (1 : Int32)), some (.int v4)]) (pc := 80) C dX12_liked_80 rfl (by decide) rfl ?_
        refine V_iinc (L' := [some (.ref 0), some (.int v1), some (.int v2), some (.int (1 : Int32)), some (.int (v4 + (1 : Int32)))]) (v := (v4 + (1 : Int32))) (pc := 81) C dX12_liked_81 rfl (congrArg (v4 + ·) kc_i_1) (by decide) rfl ?_
        refine V_goto (tgt := 42) (pc := 84) C dX12_liked_84 (by decide) ?_
        exact V_mask [true, true, true, true, true] (ih _ _ _ h hx)
      · have h := it_t hc h
        refine V_aload_n (pc := 52) C dX12_liked_52 rfl rfl ?_
        refine V_getF (p1 := 4) (pc := 53) C z1_mW_12 fl_RX12_23 rfl (zf_mW_12_16 z1_mW_12) dX12_liked_53 ?_
        refine V_sipush (pc := 56) C dX12_liked_56 kc_s_162 ?_
        refine V_bipush (pc := 59) C dX12_liked_59 kc_b_6 ?_
        refine V_iload_n (pc := 61) C dX12_liked_61 rfl rfl ?_
        refine V_imul (pc := 62) C dX12_liked_62 ?_
        refine V_iadd (pc := 63) C dX12_liked_63 ?_
        refine V_iload (pc := 64) C dX12_liked_64 rfl ?_
        refine V_iadd (pc := 66) C dX12_liked_66 ?_
        obtain ⟨k3, h⟩ := ck_some h
        refine V_iald (pc := 67) C (za_mW_12_16 z1_mW_12) k3 dX12_liked_67 ?_
        refine V_aload_n (pc := 68) C dX12_liked_68 rfl rfl ?_
        refine V_getI (pc := 69) C z1_mW_12 fl_RX12_130 (by decide) dX12_liked_69 ?_
        refine V_icmp_ne (tgt := 79) (pc := 72) C dX12_liked_72 (by decide) (fun hc => ?_) (fun hc => ?_)
        · have h := it_f hc h
          refine V_iconst (pc := 79) C dX12_liked_79 kc_i_0 ?_
          refine V_istore_n (L' := [some (.ref 0), some (.int v1), some (.int v2), some (.int (0 : Int32)), some (.int v4)]) (pc := 80) C dX12_liked_80 rfl (by decide) rfl ?_
          refine V_iinc (L' := [some (.ref 0), some (.int v1), some (.int v2), some (.int (0 : Int32)), some (.int (v4 + (1 : Int32)))]) (v := (v4 + (1 : Int32))) (pc := 81) C dX12_liked_81 rfl (congrArg (v4 + ·) kc_i_1) (by decide) rfl ?_
          refine V_goto (tgt := 42) (pc := 84) C dX12_liked_84 (by decide) ?_
          exact V_mask [true, true, true, true, true] (ih _ _ _ h hx)
        · have h := it_t hc h
          refine V_iconst (pc := 75) C dX12_liked_75 kc_i_1 ?_
          refine V_goto (tgt := 80) (pc := 76) C dX12_liked_76 (by decide) ?_
          refine V_istore_n (L' := [some (.ref 0), some (.int v1), some (.int v2), some (.int (1 : Int32)), some (.int v4)]) (pc := 80) C dX12_liked_80 rfl (by decide) rfl ?_
          refine V_iinc (L' := [some (.ref 0), some (.int v1), some (.int v2), some (.int (1 : Int32)), some (.int (v4 + (1 : Int32)))]) (v := (v4 + (1 : Int32))) (pc := 81) C dX12_liked_81 rfl (congrArg (v4 + ·) kc_i_1) (by decide) rfl ?_
          refine V_goto (tgt := 42) (pc := 84) C dX12_liked_84 (by decide) ?_
          exact V_mask [true, true, true, true, true] (ih _ _ _ h hx)
set_option maxRecDepth 100000 in
theorem mX12_liked_J118 {K : zK} (C : zC K cX12_liked yX12_liked.cls 5 2 44 mW) {S : zM} {v1 : Int32} {v2 : Int32} {S' : zM}  (hR : zR K cX12_liked (none) S' none) (h : gX12_liked_J118 S v1 v2 = some S') : V K 118 [some (.ref 0), some (.int v1), some (.int v2), none, none] [] S := by
  unfold gX12_liked_J118 at h
  refine V_aload_n (pc := 118) C dX12_liked_118 rfl rfl ?_
  refine V_getI (pc := 119) C z1_mW_12 fl_RX12_143 (by decide) dX12_liked_119 ?_
  refine V_if_eq (tgt := 126) (pc := 122) C dX12_liked_122 (by decide) (fun hc => ?_) (fun hc => ?_)
  · have h := it_t hc h
    refine V_aload_n (pc := 126) C dX12_liked_126 rfl rfl ?_
    refine V_getF (p1 := 4) (pc := 127) C z1_mW_12 fl_RX12_23 rfl (zf_mW_12_16 z1_mW_12) dX12_liked_127 ?_
    refine V_sipush (pc := 130) C dX12_liked_130 kc_s_162 ?_
    refine V_bipush (pc := 133) C dX12_liked_133 kc_b_6 ?_
    refine V_iload_n (pc := 135) C dX12_liked_135 rfl rfl ?_
    refine V_imul (pc := 136) C dX12_liked_136 ?_
    refine V_iadd (pc := 137) C dX12_liked_137 ?_
    refine V_iload_n (pc := 138) C dX12_liked_138 rfl rfl ?_
    refine V_iadd (pc := 139) C dX12_liked_139 ?_
    refine V_aload_n (pc := 140) C dX12_liked_140 rfl rfl ?_
    refine V_getI (pc := 141) C z1_mW_12 fl_RX12_130 (by decide) dX12_liked_141 ?_
    obtain ⟨k13, h⟩ := ck_some h
    refine V_iast (pc := 144) C (za_mW_12_16 z1_mW_12) k13 dX12_liked_144 ?_
    refine V_aload_n (pc := 145) C dX12_liked_145 rfl rfl ?_
    refine V_getF (p1 := 4) (pc := 146) C z1_mW_12 fl_RX12_23 rfl (zf_mW_12_16 z1_mW_12) dX12_liked_146 ?_
    refine V_sipush (pc := 149) C dX12_liked_149 kc_s_156 ?_
    refine V_iload_n (pc := 152) C dX12_liked_152 rfl rfl ?_
    refine V_iadd (pc := 153) C dX12_liked_153 ?_
    refine V_dup2 (pc := 154) C dX12_liked_154 rfl rfl ?_
    obtain ⟨k14, h⟩ := ck_some h
    refine V_iald (pc := 155) C (za_mW_12_16 z1_mW_12) k14 dX12_liked_155 ?_
    refine V_iconst (pc := 156) C dX12_liked_156 kc_i_1 ?_
    refine V_iadd (pc := 157) C dX12_liked_157 ?_
    obtain ⟨k15, h⟩ := ck_some h
    refine V_iast (pc := 158) C (za_mW_12_16 z1_mW_12) k15 dX12_liked_158 ?_
    obtain ⟨S16, eS16, h⟩ := lt_some h
    refine V_nmS eS16 ?_
    refine V_aload_n (pc := 159) C dX12_liked_159 rfl rfl ?_
    obtain ⟨S18, euS18, h⟩ := b1_some h
    refine V_callV (As := []) (pc := 160) C (mX12_next _ euS18) zm_X12_next zi_X12_next ml_RX12_164 z1_mW_12 rfl ⟨Nat.le_of_ble_eq_true rfl, Nat.le_of_ble_eq_true rfl⟩ rfl rfl (Nat.le_of_ble_eq_true rfl) dX12_liked_160 ?_
    show V K 163 [some (.ref 0), some (.int v1), some (.int v2), none, none] [] S18
    cases h
    exact hR 163 _ rfl dX12_liked_163
  · have h := it_f hc h
    cases h
    exact hR 125 _ rfl dX12_liked_125
set_option maxRecDepth 100000 in
theorem mX12_liked (l : Launch) {S : zM} {a1 : Int32} {S' : zM}  (h : gX12_liked S a1 = some S') : zMet l mW zS0 yX12_liked cX12_liked 5 (none) 2 44 [.ref 0, .int a1] S none S' := by
  refine zmeth (by decide +kernel) (by rfl) (fun K hKl C hR => ?_)
  show V K 0 [some (.ref 0), some (.int a1), none, none, none] [] S
  unfold gX12_liked at h
  refine V_aload_n (pc := 0) C dX12_liked_0 rfl rfl ?_
  refine V_getI (pc := 1) C z1_mW_12 fl_RX12_143 (by decide) dX12_liked_1 ?_
  refine V_if_eq (tgt := 8) (pc := 4) C dX12_liked_4 (by decide) (fun hc => ?_) (fun hc => ?_)
  · have h := it_t hc h
    refine V_aload_n (pc := 8) C dX12_liked_8 rfl rfl ?_
    refine V_getI (pc := 9) C z1_mW_12 fl_RX12_133 (by decide) dX12_liked_9 ?_
    refine V_iconst (pc := 12) C dX12_liked_12 kc_i_3 ?_
    refine V_icmp_eq (tgt := 26) (pc := 13) C dX12_liked_13 (by decide) (fun hc => ?_) (fun hc => ?_)
    · have h := it_t hc h
      refine V_aload_n (pc := 26) C dX12_liked_26 rfl rfl ?_
      refine V_getF (p1 := 4) (pc := 27) C z1_mW_12 fl_RX12_23 rfl (zf_mW_12_16 z1_mW_12) dX12_liked_27 ?_
      refine V_sipush (pc := 30) C dX12_liked_30 kc_s_156 ?_
      refine V_iload_n (pc := 33) C dX12_liked_33 rfl rfl ?_
      refine V_iadd (pc := 34) C dX12_liked_34 ?_
      obtain ⟨k1, h⟩ := ck_some h
      refine V_iald (pc := 35) C (za_mW_12_16 z1_mW_12) k1 dX12_liked_35 ?_
      obtain ⟨x2, ex2, h⟩ := lt_some h
      refine V_nmI ex2 ?_
      refine V_istore_n (L' := [some (.ref 0), some (.int a1), some (.int x2), none, none]) (pc := 36) C dX12_liked_36 rfl (by decide) rfl ?_
      refine V_iconst (pc := 37) C dX12_liked_37 kc_i_0 ?_
      refine V_istore_n (L' := [some (.ref 0), some (.int a1), some (.int x2), some (.int (0 : Int32)), none]) (pc := 38) C dX12_liked_38 rfl (by decide) rfl ?_
      refine V_iconst (pc := 39) C dX12_liked_39 kc_i_0 ?_
      refine V_istore (L' := [some (.ref 0), some (.int a1), some (.int x2), some (.int (0 : Int32)), some (.int (0 : Int32))]) (pc := 40) C dX12_liked_40 (by decide) rfl ?_
      obtain ⟨w4, e42, h⟩ := b1_some h
      refine V_mask [true, true, true, true, true] (mX12_liked_L42 C  FU _ _ _ e42 ?_)
      refine V_iload_n (pc := 87) C dX12_liked_87 rfl rfl ?_
      refine V_if_eq (tgt := 103) (pc := 88) C dX12_liked_88 (by decide) (fun hc => ?_) (fun hc => ?_)
      · have h := it_t hc h
        refine V_iload_n (pc := 103) C dX12_liked_103 rfl rfl ?_
        refine V_bipush (pc := 104) C dX12_liked_104 kc_b_6 ?_
        refine V_icmp_ne (tgt := 118) (pc := 106) C dX12_liked_106 (by decide) (fun hc => ?_) (fun hc => ?_)
        · have h := it_f hc h
          refine V_aload_n (pc := 118) C dX12_liked_118 rfl rfl ?_
          refine V_getI (pc := 119) C z1_mW_12 fl_RX12_143 (by decide) dX12_liked_119 ?_
          refine V_if_eq (tgt := 126) (pc := 122) C dX12_liked_122 (by decide) (fun hc => ?_) (fun hc => ?_)
          · have h := it_t hc h
            refine V_aload_n (pc := 126) C dX12_liked_126 rfl rfl ?_
            refine V_getF (p1 := 4) (pc := 127) C z1_mW_12 fl_RX12_23 rfl (zf_mW_12_16 z1_mW_12) dX12_liked_127 ?_
            refine V_sipush (pc := 130) C dX12_liked_130 kc_s_162 ?_
            refine V_bipush (pc := 133) C dX12_liked_133 kc_b_6 ?_
            refine V_iload_n (pc := 135) C dX12_liked_135 rfl rfl ?_
            refine V_imul (pc := 136) C dX12_liked_136 ?_
            refine V_iadd (pc := 137) C dX12_liked_137 ?_
            refine V_iload_n (pc := 138) C dX12_liked_138 rfl rfl ?_
            refine V_iadd (pc := 139) C dX12_liked_139 ?_
            refine V_aload_n (pc := 140) C dX12_liked_140 rfl rfl ?_
            refine V_getI (pc := 141) C z1_mW_12 fl_RX12_130 (by decide) dX12_liked_141 ?_
            obtain ⟨k5, h⟩ := ck_some h
            refine V_iast (pc := 144) C (za_mW_12_16 z1_mW_12) k5 dX12_liked_144 ?_
            refine V_aload_n (pc := 145) C dX12_liked_145 rfl rfl ?_
            refine V_getF (p1 := 4) (pc := 146) C z1_mW_12 fl_RX12_23 rfl (zf_mW_12_16 z1_mW_12) dX12_liked_146 ?_
            refine V_sipush (pc := 149) C dX12_liked_149 kc_s_156 ?_
            refine V_iload_n (pc := 152) C dX12_liked_152 rfl rfl ?_
            refine V_iadd (pc := 153) C dX12_liked_153 ?_
            refine V_dup2 (pc := 154) C dX12_liked_154 rfl rfl ?_
            obtain ⟨k6, h⟩ := ck_some h
            refine V_iald (pc := 155) C (za_mW_12_16 z1_mW_12) k6 dX12_liked_155 ?_
            refine V_iconst (pc := 156) C dX12_liked_156 kc_i_1 ?_
            refine V_iadd (pc := 157) C dX12_liked_157 ?_
            obtain ⟨k7, h⟩ := ck_some h
            refine V_iast (pc := 158) C (za_mW_12_16 z1_mW_12) k7 dX12_liked_158 ?_
            obtain ⟨S8, eS8, h⟩ := lt_some h
            refine V_nmS eS8 ?_
            refine V_aload_n (pc := 159) C dX12_liked_159 rfl rfl ?_
            obtain ⟨S10, euS10, h⟩ := b1_some h
            refine V_callV (As := []) (pc := 160) C (mX12_next _ euS10) zm_X12_next zi_X12_next ml_RX12_164 z1_mW_12 rfl ⟨Nat.le_of_ble_eq_true rfl, Nat.le_of_ble_eq_true rfl⟩ rfl rfl (Nat.le_of_ble_eq_true rfl) dX12_liked_160 ?_
            show V K 163 [some (.ref 0), some (.int a1), some (.int x2), some (.int w4), none] [] S10
            cases h
            exact hR 163 _ rfl dX12_liked_163
          · have h := it_f hc h
            cases h
            exact hR 125 _ rfl dX12_liked_125
        · have h := it_t hc h
          refine V_aload_n (pc := 109) C dX12_liked_109 rfl rfl ?_
          refine V_iconst (pc := 110) C dX12_liked_110 kc_i_5 ?_
          refine V_aload_n (pc := 111) C dX12_liked_111 rfl rfl ?_
          refine V_getI (pc := 112) C z1_mW_12 fl_RX12_124 (by decide) dX12_liked_112 ?_
          obtain ⟨S12, euS12, h⟩ := b1_some h
          refine V_callV (As := [.int (5 : Int32), .int (gI S 0 4)]) (pc := 115) C (mX12_wrong _ euS12) zm_X12_wrong zi_X12_wrong ml_RX12_170 z1_mW_12 rfl ⟨Nat.le_of_ble_eq_true rfl, Nat.le_of_ble_eq_true rfl⟩ rfl rfl (Nat.le_of_ble_eq_true rfl) dX12_liked_115 ?_
          show V K 118 [some (.ref 0), some (.int a1), some (.int x2), some (.int w4), none] [] S12
          exact V_mask [true, true, true, false, false] (mX12_liked_J118 C  hR h)
      · have h := it_f hc h
        refine V_aload_n (pc := 91) C dX12_liked_91 rfl rfl ?_
        refine V_iconst (pc := 92) C dX12_liked_92 kc_i_3 ?_
        refine V_aload_n (pc := 93) C dX12_liked_93 rfl rfl ?_
        refine V_getI (pc := 94) C z1_mW_12 fl_RX12_124 (by decide) dX12_liked_94 ?_
        obtain ⟨S20, euS20, h⟩ := b1_some h
        refine V_callV (As := [.int (3 : Int32), .int (gI S 0 4)]) (pc := 97) C (mX12_wrong _ euS20) zm_X12_wrong zi_X12_wrong ml_RX12_170 z1_mW_12 rfl ⟨Nat.le_of_ble_eq_true rfl, Nat.le_of_ble_eq_true rfl⟩ rfl rfl (Nat.le_of_ble_eq_true rfl) dX12_liked_97 ?_
        show V K 100 [some (.ref 0), some (.int a1), some (.int x2), some (.int w4), none] [] S20
        refine V_goto (tgt := 118) (pc := 100) C dX12_liked_100 (by decide) ?_
        exact V_mask [true, true, true, false, false] (mX12_liked_J118 C  hR h)
    · have h := it_f hc h
      refine V_aload_n (pc := 16) C dX12_liked_16 rfl rfl ?_
      refine V_iconst (pc := 17) C dX12_liked_17 kc_i_1 ?_
      refine V_aload_n (pc := 18) C dX12_liked_18 rfl rfl ?_
      refine V_getI (pc := 19) C z1_mW_12 fl_RX12_124 (by decide) dX12_liked_19 ?_
      obtain ⟨S22, euS22, h⟩ := b1_some h
      refine V_callV (As := [.int (1 : Int32), .int (gI S 0 4)]) (pc := 22) C (mX12_wrong _ euS22) zm_X12_wrong zi_X12_wrong ml_RX12_170 z1_mW_12 rfl ⟨Nat.le_of_ble_eq_true rfl, Nat.le_of_ble_eq_true rfl⟩ rfl rfl (Nat.le_of_ble_eq_true rfl) dX12_liked_22 ?_
      show V K 25 [some (.ref 0), some (.int a1), none, none, none] [] S22
      cases h
      exact hR 25 _ rfl dX12_liked_25
  · have h := it_f hc h
    cases h
    exact hR 7 _ rfl dX12_liked_7
set_option maxRecDepth 100000 in
theorem mX12_sayerLine_L260 {K : zK} (C : zC K cX12_sayerLine yX12_sayerLine.cls 3 9 239 mW) {v1 : Int32}  : ∀ (f : Nat) (S : zM) (S' : zM), gX12_sayerLine_L260 v1 f S = some S' → zR K cX12_sayerLine (none) S' none → V K 260 [some (.ref 0), some (.int v1), none] [] S := by
  intro f
  induction f with
  | zero => intro S S' h hR; cases h
  | succ n ih =>
    intro S S' h hR
    unfold gX12_sayerLine_L260 at h
    refine V_aload_n (pc := 260) C dX12_sayerLine_260 rfl rfl ?_
    refine V_getI (pc := 261) C z1_mW_12 fl_RX12_143 (by decide) dX12_sayerLine_261 ?_
    refine V_if_ne (tgt := 288) (pc := 264) C dX12_sayerLine_264 (by decide) (fun hc => ?_) (fun hc => ?_)
    · have h := it_f hc h
      refine V_aload_n (pc := 288) C dX12_sayerLine_288 rfl rfl ?_
      refine V_getF (p1 := 4) (pc := 289) C z1_mW_12 fl_RX12_23 rfl (zf_mW_12_16 z1_mW_12) dX12_sayerLine_289 ?_
      refine V_sipush (pc := 292) C dX12_sayerLine_292 kc_s_239 ?_
      refine V_dup2 (pc := 295) C dX12_sayerLine_295 rfl rfl ?_
      obtain ⟨k29, h⟩ := ck_some h
      refine V_iald (pc := 296) C (za_mW_12_16 z1_mW_12) k29 dX12_sayerLine_296 ?_
      refine V_iconst (pc := 297) C dX12_sayerLine_297 kc_i_1 ?_
      refine V_iadd (pc := 298) C dX12_sayerLine_298 ?_
      obtain ⟨k30, h⟩ := ck_some h
      refine V_iast (pc := 299) C (za_mW_12_16 z1_mW_12) k30 dX12_sayerLine_299 ?_
      cases h
      exact hR 300 _ rfl dX12_sayerLine_300
    · have h := it_t hc h
      refine V_aload_n (pc := 267) C dX12_sayerLine_267 rfl rfl ?_
      refine V_getI (pc := 268) C z1_mW_12 fl_RX12_133 (by decide) dX12_sayerLine_268 ?_
      refine V_bipush (pc := 271) C dX12_sayerLine_271 kc_b_44 ?_
      refine V_icmp_ne (tgt := 288) (pc := 273) C dX12_sayerLine_273 (by decide) (fun hc => ?_) (fun hc => ?_)
      · have h := it_f hc h
        refine V_aload_n (pc := 288) C dX12_sayerLine_288 rfl rfl ?_
        refine V_getF (p1 := 4) (pc := 289) C z1_mW_12 fl_RX12_23 rfl (zf_mW_12_16 z1_mW_12) dX12_sayerLine_289 ?_
        refine V_sipush (pc := 292) C dX12_sayerLine_292 kc_s_239 ?_
        refine V_dup2 (pc := 295) C dX12_sayerLine_295 rfl rfl ?_
        obtain ⟨k31, h⟩ := ck_some h
        refine V_iald (pc := 296) C (za_mW_12_16 z1_mW_12) k31 dX12_sayerLine_296 ?_
        refine V_iconst (pc := 297) C dX12_sayerLine_297 kc_i_1 ?_
        refine V_iadd (pc := 298) C dX12_sayerLine_298 ?_
        obtain ⟨k32, h⟩ := ck_some h
        refine V_iast (pc := 299) C (za_mW_12_16 z1_mW_12) k32 dX12_sayerLine_299 ?_
        cases h
        exact hR 300 _ rfl dX12_sayerLine_300
      · have h := it_t hc h
        refine V_aload_n (pc := 276) C dX12_sayerLine_276 rfl rfl ?_
        obtain ⟨S34, euS34, h⟩ := b1_some h
        refine V_callV (As := []) (pc := 277) C (mX12_next _ euS34) zm_X12_next zi_X12_next ml_RX12_164 z1_mW_12 rfl ⟨Nat.le_of_ble_eq_true rfl, Nat.le_of_ble_eq_true rfl⟩ rfl rfl (Nat.le_of_ble_eq_true rfl) dX12_sayerLine_277 ?_
        show V K 280 [some (.ref 0), some (.int v1), none] [] S34
        refine V_aload_n (pc := 280) C dX12_sayerLine_280 rfl rfl ?_
        refine V_iload_n (pc := 281) C dX12_sayerLine_281 rfl rfl ?_
        obtain ⟨S36, euS36, h⟩ := b1_some h
        refine V_callV (As := [.int v1]) (pc := 282) C (mX12_liked _ euS36) zm_X12_liked zi_X12_liked ml_RX12_275 z1_mW_12 rfl ⟨Nat.le_of_ble_eq_true rfl, Nat.le_of_ble_eq_true rfl⟩ rfl rfl (Nat.le_of_ble_eq_true rfl) dX12_sayerLine_282 ?_
        show V K 285 [some (.ref 0), some (.int v1), none] [] S36
        refine V_goto (tgt := 260) (pc := 285) C dX12_sayerLine_285 (by decide) ?_
        exact V_mask [true, true, false] (ih _ _ h hR)
set_option maxRecDepth 100000 in
theorem mX12_sayerLine_J246 {K : zK} (C : zC K cX12_sayerLine yX12_sayerLine.cls 3 9 239 mW) {S : zM} {v1 : Int32} {S' : zM}  (hR : zR K cX12_sayerLine (none) S' none) (h : gX12_sayerLine_J246 S v1 = some S') : V K 246 [some (.ref 0), some (.int v1), none] [] S := by
  unfold gX12_sayerLine_J246 at h
  refine V_aload_n (pc := 246) C dX12_sayerLine_246 rfl rfl ?_
  refine V_ldcS (j := 39) (pc := 247) C dX12_sayerLine_247 rfl ?_
  obtain ⟨r38, S39, er38, h⟩ := b2_some h
  refine V_callV (As := [.ref 10010]) (pc := 249) C (mX12_takes _ zq_10 er38) zm_X12_takes zi_X12_takes ml_RX12_167 z1_mW_12 rfl ⟨Nat.le_of_ble_eq_true rfl, Nat.le_of_ble_eq_true rfl⟩ rfl rfl (Nat.le_of_ble_eq_true rfl) dX12_sayerLine_249 ?_
  show V K 252 [some (.ref 0), some (.int v1), none] [.int r38] S39
  refine V_if_eq (tgt := 288) (pc := 252) C dX12_sayerLine_252 (by decide) (fun hc => ?_) (fun hc => ?_)
  · have h := it_t hc h
    refine V_aload_n (pc := 288) C dX12_sayerLine_288 rfl rfl ?_
    refine V_getF (p1 := 4) (pc := 289) C z1_mW_12 fl_RX12_23 rfl (zf_mW_12_16 z1_mW_12) dX12_sayerLine_289 ?_
    refine V_sipush (pc := 292) C dX12_sayerLine_292 kc_s_239 ?_
    refine V_dup2 (pc := 295) C dX12_sayerLine_295 rfl rfl ?_
    obtain ⟨k40, h⟩ := ck_some h
    refine V_iald (pc := 296) C (za_mW_12_16 z1_mW_12) k40 dX12_sayerLine_296 ?_
    refine V_iconst (pc := 297) C dX12_sayerLine_297 kc_i_1 ?_
    refine V_iadd (pc := 298) C dX12_sayerLine_298 ?_
    obtain ⟨k41, h⟩ := ck_some h
    refine V_iast (pc := 299) C (za_mW_12_16 z1_mW_12) k41 dX12_sayerLine_299 ?_
    cases h
    exact hR 300 _ rfl dX12_sayerLine_300
  · have h := it_f hc h
    refine V_aload_n (pc := 255) C dX12_sayerLine_255 rfl rfl ?_
    refine V_iload_n (pc := 256) C dX12_sayerLine_256 rfl rfl ?_
    obtain ⟨S43, euS43, h⟩ := b1_some h
    refine V_callV (As := [.int v1]) (pc := 257) C (mX12_liked _ euS43) zm_X12_liked zi_X12_liked ml_RX12_275 z1_mW_12 rfl ⟨Nat.le_of_ble_eq_true rfl, Nat.le_of_ble_eq_true rfl⟩ rfl rfl (Nat.le_of_ble_eq_true rfl) dX12_sayerLine_257 ?_
    show V K 260 [some (.ref 0), some (.int v1), none] [] S43
    exact V_mask [true, true, false] (mX12_sayerLine_L260 C  FU _ _ h hR)
set_option maxRecDepth 100000 in
theorem mX12_sayerLine_J226 {K : zK} (C : zC K cX12_sayerLine yX12_sayerLine.cls 3 9 239 mW) {S : zM} {v1 : Int32} {S' : zM}  (hR : zR K cX12_sayerLine (none) S' none) (h : gX12_sayerLine_J226 S v1 = some S') : V K 226 [some (.ref 0), some (.int v1), none] [] S := by
  unfold gX12_sayerLine_J226 at h
  refine V_aload_n (pc := 226) C dX12_sayerLine_226 rfl rfl ?_
  refine V_ldcS (j := 40) (pc := 227) C dX12_sayerLine_227 rfl ?_
  obtain ⟨r55, S56, er55, h⟩ := b2_some h
  refine V_callV (As := [.ref 10011]) (pc := 229) C (mX12_takes _ zq_11 er55) zm_X12_takes zi_X12_takes ml_RX12_167 z1_mW_12 rfl ⟨Nat.le_of_ble_eq_true rfl, Nat.le_of_ble_eq_true rfl⟩ rfl rfl (Nat.le_of_ble_eq_true rfl) dX12_sayerLine_229 ?_
  show V K 232 [some (.ref 0), some (.int v1), none] [.int r55] S56
  refine V_if_eq (tgt := 246) (pc := 232) C dX12_sayerLine_232 (by decide) (fun hc => ?_) (fun hc => ?_)
  · have h := it_t hc h
    refine V_aload_n (pc := 246) C dX12_sayerLine_246 rfl rfl ?_
    refine V_ldcS (j := 39) (pc := 247) C dX12_sayerLine_247 rfl ?_
    obtain ⟨r57, S58, er57, h⟩ := b2_some h
    refine V_callV (As := [.ref 10010]) (pc := 249) C (mX12_takes _ zq_10 er57) zm_X12_takes zi_X12_takes ml_RX12_167 z1_mW_12 rfl ⟨Nat.le_of_ble_eq_true rfl, Nat.le_of_ble_eq_true rfl⟩ rfl rfl (Nat.le_of_ble_eq_true rfl) dX12_sayerLine_249 ?_
    show V K 252 [some (.ref 0), some (.int v1), none] [.int r57] S58
    refine V_if_eq (tgt := 288) (pc := 252) C dX12_sayerLine_252 (by decide) (fun hc => ?_) (fun hc => ?_)
    · have h := it_t hc h
      refine V_aload_n (pc := 288) C dX12_sayerLine_288 rfl rfl ?_
      refine V_getF (p1 := 4) (pc := 289) C z1_mW_12 fl_RX12_23 rfl (zf_mW_12_16 z1_mW_12) dX12_sayerLine_289 ?_
      refine V_sipush (pc := 292) C dX12_sayerLine_292 kc_s_239 ?_
      refine V_dup2 (pc := 295) C dX12_sayerLine_295 rfl rfl ?_
      obtain ⟨k59, h⟩ := ck_some h
      refine V_iald (pc := 296) C (za_mW_12_16 z1_mW_12) k59 dX12_sayerLine_296 ?_
      refine V_iconst (pc := 297) C dX12_sayerLine_297 kc_i_1 ?_
      refine V_iadd (pc := 298) C dX12_sayerLine_298 ?_
      obtain ⟨k60, h⟩ := ck_some h
      refine V_iast (pc := 299) C (za_mW_12_16 z1_mW_12) k60 dX12_sayerLine_299 ?_
      cases h
      exact hR 300 _ rfl dX12_sayerLine_300
    · have h := it_f hc h
      refine V_aload_n (pc := 255) C dX12_sayerLine_255 rfl rfl ?_
      refine V_iload_n (pc := 256) C dX12_sayerLine_256 rfl rfl ?_
      obtain ⟨S62, euS62, h⟩ := b1_some h
      refine V_callV (As := [.int v1]) (pc := 257) C (mX12_liked _ euS62) zm_X12_liked zi_X12_liked ml_RX12_275 z1_mW_12 rfl ⟨Nat.le_of_ble_eq_true rfl, Nat.le_of_ble_eq_true rfl⟩ rfl rfl (Nat.le_of_ble_eq_true rfl) dX12_sayerLine_257 ?_
      show V K 260 [some (.ref 0), some (.int v1), none] [] S62
      exact V_mask [true, true, false] (mX12_sayerLine_L260 C  FU _ _ h hR)
  · have h := it_f hc h
    refine V_aload_n (pc := 235) C dX12_sayerLine_235 rfl rfl ?_
    refine V_getF (p1 := 4) (pc := 236) C z1_mW_12 fl_RX12_23 rfl (zf_mW_12_16 z1_mW_12) dX12_sayerLine_236 ?_
    refine V_sipush (pc := 239) C dX12_sayerLine_239 kc_s_150 ?_
    refine V_iload_n (pc := 242) C dX12_sayerLine_242 rfl rfl ?_
    refine V_iadd (pc := 243) C dX12_sayerLine_243 ?_
    refine V_iconst (pc := 244) C dX12_sayerLine_244 kc_i_1 ?_
    obtain ⟨k71, h⟩ := ck_some h
    refine V_iast (pc := 245) C (za_mW_12_16 z1_mW_12) k71 dX12_sayerLine_245 ?_
    exact V_mask [true, true, false] (mX12_sayerLine_J246 C  hR h)
set_option maxRecDepth 100000 in
theorem mX12_sayerLine_J199 {K : zK} (C : zC K cX12_sayerLine yX12_sayerLine.cls 3 9 239 mW) {S : zM} {v1 : Int32} {S' : zM}  (hR : zR K cX12_sayerLine (none) S' none) (h : gX12_sayerLine_J199 S v1 = some S') : V K 199 [some (.ref 0), some (.int v1), none] [] S := by
  unfold gX12_sayerLine_J199 at h
  refine V_aload_n (pc := 199) C dX12_sayerLine_199 rfl rfl ?_
  refine V_ldcwS (j := 47) (pc := 200) C dX12_sayerLine_200 rfl ?_
  obtain ⟨r75, S76, er75, h⟩ := b2_some h
  refine V_callV (As := [.ref 10018]) (pc := 203) C (mX12_takes _ zq_18 er75) zm_X12_takes zi_X12_takes ml_RX12_167 z1_mW_12 rfl ⟨Nat.le_of_ble_eq_true rfl, Nat.le_of_ble_eq_true rfl⟩ rfl rfl (Nat.le_of_ble_eq_true rfl) dX12_sayerLine_203 ?_
  show V K 206 [some (.ref 0), some (.int v1), none] [.int r75] S76
  refine V_if_eq (tgt := 226) (pc := 206) C dX12_sayerLine_206 (by decide) (fun hc => ?_) (fun hc => ?_)
  · have h := it_t hc h
    refine V_aload_n (pc := 226) C dX12_sayerLine_226 rfl rfl ?_
    refine V_ldcS (j := 40) (pc := 227) C dX12_sayerLine_227 rfl ?_
    obtain ⟨r77, S78, er77, h⟩ := b2_some h
    refine V_callV (As := [.ref 10011]) (pc := 229) C (mX12_takes _ zq_11 er77) zm_X12_takes zi_X12_takes ml_RX12_167 z1_mW_12 rfl ⟨Nat.le_of_ble_eq_true rfl, Nat.le_of_ble_eq_true rfl⟩ rfl rfl (Nat.le_of_ble_eq_true rfl) dX12_sayerLine_229 ?_
    show V K 232 [some (.ref 0), some (.int v1), none] [.int r77] S78
    refine V_if_eq (tgt := 246) (pc := 232) C dX12_sayerLine_232 (by decide) (fun hc => ?_) (fun hc => ?_)
    · have h := it_t hc h
      refine V_aload_n (pc := 246) C dX12_sayerLine_246 rfl rfl ?_
      refine V_ldcS (j := 39) (pc := 247) C dX12_sayerLine_247 rfl ?_
      obtain ⟨r79, S80, er79, h⟩ := b2_some h
      refine V_callV (As := [.ref 10010]) (pc := 249) C (mX12_takes _ zq_10 er79) zm_X12_takes zi_X12_takes ml_RX12_167 z1_mW_12 rfl ⟨Nat.le_of_ble_eq_true rfl, Nat.le_of_ble_eq_true rfl⟩ rfl rfl (Nat.le_of_ble_eq_true rfl) dX12_sayerLine_249 ?_
      show V K 252 [some (.ref 0), some (.int v1), none] [.int r79] S80
      refine V_if_eq (tgt := 288) (pc := 252) C dX12_sayerLine_252 (by decide) (fun hc => ?_) (fun hc => ?_)
      · have h := it_t hc h
        refine V_aload_n (pc := 288) C dX12_sayerLine_288 rfl rfl ?_
        refine V_getF (p1 := 4) (pc := 289) C z1_mW_12 fl_RX12_23 rfl (zf_mW_12_16 z1_mW_12) dX12_sayerLine_289 ?_
        refine V_sipush (pc := 292) C dX12_sayerLine_292 kc_s_239 ?_
        refine V_dup2 (pc := 295) C dX12_sayerLine_295 rfl rfl ?_
        obtain ⟨k81, h⟩ := ck_some h
        refine V_iald (pc := 296) C (za_mW_12_16 z1_mW_12) k81 dX12_sayerLine_296 ?_
        refine V_iconst (pc := 297) C dX12_sayerLine_297 kc_i_1 ?_
        refine V_iadd (pc := 298) C dX12_sayerLine_298 ?_
        obtain ⟨k82, h⟩ := ck_some h
        refine V_iast (pc := 299) C (za_mW_12_16 z1_mW_12) k82 dX12_sayerLine_299 ?_
        cases h
        exact hR 300 _ rfl dX12_sayerLine_300
      · have h := it_f hc h
        refine V_aload_n (pc := 255) C dX12_sayerLine_255 rfl rfl ?_
        refine V_iload_n (pc := 256) C dX12_sayerLine_256 rfl rfl ?_
        obtain ⟨S84, euS84, h⟩ := b1_some h
        refine V_callV (As := [.int v1]) (pc := 257) C (mX12_liked _ euS84) zm_X12_liked zi_X12_liked ml_RX12_275 z1_mW_12 rfl ⟨Nat.le_of_ble_eq_true rfl, Nat.le_of_ble_eq_true rfl⟩ rfl rfl (Nat.le_of_ble_eq_true rfl) dX12_sayerLine_257 ?_
        show V K 260 [some (.ref 0), some (.int v1), none] [] S84
        exact V_mask [true, true, false] (mX12_sayerLine_L260 C  FU _ _ h hR)
    · have h := it_f hc h
      refine V_aload_n (pc := 235) C dX12_sayerLine_235 rfl rfl ?_
      refine V_getF (p1 := 4) (pc := 236) C z1_mW_12 fl_RX12_23 rfl (zf_mW_12_16 z1_mW_12) dX12_sayerLine_236 ?_
      refine V_sipush (pc := 239) C dX12_sayerLine_239 kc_s_150 ?_
      refine V_iload_n (pc := 242) C dX12_sayerLine_242 rfl rfl ?_
      refine V_iadd (pc := 243) C dX12_sayerLine_243 ?_
      refine V_iconst (pc := 244) C dX12_sayerLine_244 kc_i_1 ?_
      obtain ⟨k93, h⟩ := ck_some h
      refine V_iast (pc := 245) C (za_mW_12_16 z1_mW_12) k93 dX12_sayerLine_245 ?_
      exact V_mask [true, true, false] (mX12_sayerLine_J246 C  hR h)
  · have h := it_f hc h
    refine V_aload_n (pc := 209) C dX12_sayerLine_209 rfl rfl ?_
    refine V_getF (p1 := 4) (pc := 210) C z1_mW_12 fl_RX12_23 rfl (zf_mW_12_16 z1_mW_12) dX12_sayerLine_210 ?_
    refine V_sipush (pc := 213) C dX12_sayerLine_213 kc_s_144 ?_
    refine V_iload_n (pc := 216) C dX12_sayerLine_216 rfl rfl ?_
    refine V_iadd (pc := 217) C dX12_sayerLine_217 ?_
    refine V_aload_n (pc := 218) C dX12_sayerLine_218 rfl rfl ?_
    refine V_iconst (pc := 219) C dX12_sayerLine_219 kc_i_1 ?_
    refine V_bipush (pc := 220) C dX12_sayerLine_220 kc_b_99 ?_
    obtain ⟨r94, S95, er94, h⟩ := b2_some h
    refine V_callV (As := [.int (1 : Int32), .int (99 : Int32)]) (pc := 222) C (mX12_number _ er94) zm_X12_number zi_X12_number ml_RX12_207 z1_mW_12 rfl ⟨Nat.le_of_ble_eq_true rfl, Nat.le_of_ble_eq_true rfl⟩ rfl rfl (Nat.le_of_ble_eq_true rfl) dX12_sayerLine_222 ?_
    show V K 225 [some (.ref 0), some (.int v1), none] [.int r94, .int ((144 : Int32) + v1), .ref 4] S95
    obtain ⟨k96, h⟩ := ck_some h
    refine V_iast (pc := 225) C (za_mW_12_16 z1_mW_12) k96 dX12_sayerLine_225 ?_
    exact V_mask [true, true, false] (mX12_sayerLine_J226 C  hR h)
set_option maxRecDepth 100000 in
theorem mX12_sayerLine_J172 {K : zK} (C : zC K cX12_sayerLine yX12_sayerLine.cls 3 9 239 mW) {S : zM} {v1 : Int32} {S' : zM}  (hR : zR K cX12_sayerLine (none) S' none) (h : gX12_sayerLine_J172 S v1 = some S') : V K 172 [some (.ref 0), some (.int v1), none] [] S := by
  unfold gX12_sayerLine_J172 at h
  refine V_aload_n (pc := 172) C dX12_sayerLine_172 rfl rfl ?_
  refine V_ldcwS (j := 46) (pc := 173) C dX12_sayerLine_173 rfl ?_
  obtain ⟨r100, S101, er100, h⟩ := b2_some h
  refine V_callV (As := [.ref 10017]) (pc := 176) C (mX12_takes _ zq_17 er100) zm_X12_takes zi_X12_takes ml_RX12_167 z1_mW_12 rfl ⟨Nat.le_of_ble_eq_true rfl, Nat.le_of_ble_eq_true rfl⟩ rfl rfl (Nat.le_of_ble_eq_true rfl) dX12_sayerLine_176 ?_
  show V K 179 [some (.ref 0), some (.int v1), none] [.int r100] S101
  refine V_if_eq (tgt := 199) (pc := 179) C dX12_sayerLine_179 (by decide) (fun hc => ?_) (fun hc => ?_)
  · have h := it_t hc h
    refine V_aload_n (pc := 199) C dX12_sayerLine_199 rfl rfl ?_
    refine V_ldcwS (j := 47) (pc := 200) C dX12_sayerLine_200 rfl ?_
    obtain ⟨r102, S103, er102, h⟩ := b2_some h
    refine V_callV (As := [.ref 10018]) (pc := 203) C (mX12_takes _ zq_18 er102) zm_X12_takes zi_X12_takes ml_RX12_167 z1_mW_12 rfl ⟨Nat.le_of_ble_eq_true rfl, Nat.le_of_ble_eq_true rfl⟩ rfl rfl (Nat.le_of_ble_eq_true rfl) dX12_sayerLine_203 ?_
    show V K 206 [some (.ref 0), some (.int v1), none] [.int r102] S103
    refine V_if_eq (tgt := 226) (pc := 206) C dX12_sayerLine_206 (by decide) (fun hc => ?_) (fun hc => ?_)
    · have h := it_t hc h
      refine V_aload_n (pc := 226) C dX12_sayerLine_226 rfl rfl ?_
      refine V_ldcS (j := 40) (pc := 227) C dX12_sayerLine_227 rfl ?_
      obtain ⟨r104, S105, er104, h⟩ := b2_some h
      refine V_callV (As := [.ref 10011]) (pc := 229) C (mX12_takes _ zq_11 er104) zm_X12_takes zi_X12_takes ml_RX12_167 z1_mW_12 rfl ⟨Nat.le_of_ble_eq_true rfl, Nat.le_of_ble_eq_true rfl⟩ rfl rfl (Nat.le_of_ble_eq_true rfl) dX12_sayerLine_229 ?_
      show V K 232 [some (.ref 0), some (.int v1), none] [.int r104] S105
      refine V_if_eq (tgt := 246) (pc := 232) C dX12_sayerLine_232 (by decide) (fun hc => ?_) (fun hc => ?_)
      · have h := it_t hc h
        refine V_aload_n (pc := 246) C dX12_sayerLine_246 rfl rfl ?_
        refine V_ldcS (j := 39) (pc := 247) C dX12_sayerLine_247 rfl ?_
        obtain ⟨r106, S107, er106, h⟩ := b2_some h
        refine V_callV (As := [.ref 10010]) (pc := 249) C (mX12_takes _ zq_10 er106) zm_X12_takes zi_X12_takes ml_RX12_167 z1_mW_12 rfl ⟨Nat.le_of_ble_eq_true rfl, Nat.le_of_ble_eq_true rfl⟩ rfl rfl (Nat.le_of_ble_eq_true rfl) dX12_sayerLine_249 ?_
        show V K 252 [some (.ref 0), some (.int v1), none] [.int r106] S107
        refine V_if_eq (tgt := 288) (pc := 252) C dX12_sayerLine_252 (by decide) (fun hc => ?_) (fun hc => ?_)
        · have h := it_t hc h
          refine V_aload_n (pc := 288) C dX12_sayerLine_288 rfl rfl ?_
          refine V_getF (p1 := 4) (pc := 289) C z1_mW_12 fl_RX12_23 rfl (zf_mW_12_16 z1_mW_12) dX12_sayerLine_289 ?_
          refine V_sipush (pc := 292) C dX12_sayerLine_292 kc_s_239 ?_
          refine V_dup2 (pc := 295) C dX12_sayerLine_295 rfl rfl ?_
          obtain ⟨k108, h⟩ := ck_some h
          refine V_iald (pc := 296) C (za_mW_12_16 z1_mW_12) k108 dX12_sayerLine_296 ?_
          refine V_iconst (pc := 297) C dX12_sayerLine_297 kc_i_1 ?_
          refine V_iadd (pc := 298) C dX12_sayerLine_298 ?_
          obtain ⟨k109, h⟩ := ck_some h
          refine V_iast (pc := 299) C (za_mW_12_16 z1_mW_12) k109 dX12_sayerLine_299 ?_
          cases h
          exact hR 300 _ rfl dX12_sayerLine_300
        · have h := it_f hc h
          refine V_aload_n (pc := 255) C dX12_sayerLine_255 rfl rfl ?_
          refine V_iload_n (pc := 256) C dX12_sayerLine_256 rfl rfl ?_
          obtain ⟨S111, euS111, h⟩ := b1_some h
          refine V_callV (As := [.int v1]) (pc := 257) C (mX12_liked _ euS111) zm_X12_liked zi_X12_liked ml_RX12_275 z1_mW_12 rfl ⟨Nat.le_of_ble_eq_true rfl, Nat.le_of_ble_eq_true rfl⟩ rfl rfl (Nat.le_of_ble_eq_true rfl) dX12_sayerLine_257 ?_
          show V K 260 [some (.ref 0), some (.int v1), none] [] S111
          exact V_mask [true, true, false] (mX12_sayerLine_L260 C  FU _ _ h hR)
      · have h := it_f hc h
        refine V_aload_n (pc := 235) C dX12_sayerLine_235 rfl rfl ?_
        refine V_getF (p1 := 4) (pc := 236) C z1_mW_12 fl_RX12_23 rfl (zf_mW_12_16 z1_mW_12) dX12_sayerLine_236 ?_
        refine V_sipush (pc := 239) C dX12_sayerLine_239 kc_s_150 ?_
        refine V_iload_n (pc := 242) C dX12_sayerLine_242 rfl rfl ?_
        refine V_iadd (pc := 243) C dX12_sayerLine_243 ?_
        refine V_iconst (pc := 244) C dX12_sayerLine_244 kc_i_1 ?_
        obtain ⟨k120, h⟩ := ck_some h
        refine V_iast (pc := 245) C (za_mW_12_16 z1_mW_12) k120 dX12_sayerLine_245 ?_
        exact V_mask [true, true, false] (mX12_sayerLine_J246 C  hR h)
    · have h := it_f hc h
      refine V_aload_n (pc := 209) C dX12_sayerLine_209 rfl rfl ?_
      refine V_getF (p1 := 4) (pc := 210) C z1_mW_12 fl_RX12_23 rfl (zf_mW_12_16 z1_mW_12) dX12_sayerLine_210 ?_
      refine V_sipush (pc := 213) C dX12_sayerLine_213 kc_s_144 ?_
      refine V_iload_n (pc := 216) C dX12_sayerLine_216 rfl rfl ?_
      refine V_iadd (pc := 217) C dX12_sayerLine_217 ?_
      refine V_aload_n (pc := 218) C dX12_sayerLine_218 rfl rfl ?_
      refine V_iconst (pc := 219) C dX12_sayerLine_219 kc_i_1 ?_
      refine V_bipush (pc := 220) C dX12_sayerLine_220 kc_b_99 ?_
      obtain ⟨r121, S122, er121, h⟩ := b2_some h
      refine V_callV (As := [.int (1 : Int32), .int (99 : Int32)]) (pc := 222) C (mX12_number _ er121) zm_X12_number zi_X12_number ml_RX12_207 z1_mW_12 rfl ⟨Nat.le_of_ble_eq_true rfl, Nat.le_of_ble_eq_true rfl⟩ rfl rfl (Nat.le_of_ble_eq_true rfl) dX12_sayerLine_222 ?_
      show V K 225 [some (.ref 0), some (.int v1), none] [.int r121, .int ((144 : Int32) + v1), .ref 4] S122
      obtain ⟨k123, h⟩ := ck_some h
      refine V_iast (pc := 225) C (za_mW_12_16 z1_mW_12) k123 dX12_sayerLine_225 ?_
      exact V_mask [true, true, false] (mX12_sayerLine_J226 C  hR h)
  · have h := it_f hc h
    refine V_aload_n (pc := 182) C dX12_sayerLine_182 rfl rfl ?_
    refine V_getF (p1 := 4) (pc := 183) C z1_mW_12 fl_RX12_23 rfl (zf_mW_12_16 z1_mW_12) dX12_sayerLine_183 ?_
    refine V_sipush (pc := 186) C dX12_sayerLine_186 kc_s_138 ?_
    refine V_iload_n (pc := 189) C dX12_sayerLine_189 rfl rfl ?_
    refine V_iadd (pc := 190) C dX12_sayerLine_190 ?_
    refine V_aload_n (pc := 191) C dX12_sayerLine_191 rfl rfl ?_
    refine V_iconst (pc := 192) C dX12_sayerLine_192 kc_i_1 ?_
    refine V_bipush (pc := 193) C dX12_sayerLine_193 kc_b_99 ?_
    obtain ⟨r124, S125, er124, h⟩ := b2_some h
    refine V_callV (As := [.int (1 : Int32), .int (99 : Int32)]) (pc := 195) C (mX12_number _ er124) zm_X12_number zi_X12_number ml_RX12_207 z1_mW_12 rfl ⟨Nat.le_of_ble_eq_true rfl, Nat.le_of_ble_eq_true rfl⟩ rfl rfl (Nat.le_of_ble_eq_true rfl) dX12_sayerLine_195 ?_
    show V K 198 [some (.ref 0), some (.int v1), none] [.int r124, .int ((138 : Int32) + v1), .ref 4] S125
    obtain ⟨k126, h⟩ := ck_some h
    refine V_iast (pc := 198) C (za_mW_12_16 z1_mW_12) k126 dX12_sayerLine_198 ?_
    exact V_mask [true, true, false] (mX12_sayerLine_J199 C  hR h)
set_option maxRecDepth 100000 in
theorem mX12_sayerLine_J146 {K : zK} (C : zC K cX12_sayerLine yX12_sayerLine.cls 3 9 239 mW) {S : zM} {v1 : Int32} {S' : zM}  (hR : zR K cX12_sayerLine (none) S' none) (h : gX12_sayerLine_J146 S v1 = some S') : V K 146 [some (.ref 0), some (.int v1), none] [] S := by
  unfold gX12_sayerLine_J146 at h
  refine V_aload_n (pc := 146) C dX12_sayerLine_146 rfl rfl ?_
  refine V_ldcwS (j := 45) (pc := 147) C dX12_sayerLine_147 rfl ?_
  obtain ⟨r130, S131, er130, h⟩ := b2_some h
  refine V_callV (As := [.ref 10016]) (pc := 150) C (mX12_takes _ zq_16 er130) zm_X12_takes zi_X12_takes ml_RX12_167 z1_mW_12 rfl ⟨Nat.le_of_ble_eq_true rfl, Nat.le_of_ble_eq_true rfl⟩ rfl rfl (Nat.le_of_ble_eq_true rfl) dX12_sayerLine_150 ?_
  show V K 153 [some (.ref 0), some (.int v1), none] [.int r130] S131
  refine V_if_eq (tgt := 172) (pc := 153) C dX12_sayerLine_153 (by decide) (fun hc => ?_) (fun hc => ?_)
  · have h := it_t hc h
    refine V_aload_n (pc := 172) C dX12_sayerLine_172 rfl rfl ?_
    refine V_ldcwS (j := 46) (pc := 173) C dX12_sayerLine_173 rfl ?_
    obtain ⟨r132, S133, er132, h⟩ := b2_some h
    refine V_callV (As := [.ref 10017]) (pc := 176) C (mX12_takes _ zq_17 er132) zm_X12_takes zi_X12_takes ml_RX12_167 z1_mW_12 rfl ⟨Nat.le_of_ble_eq_true rfl, Nat.le_of_ble_eq_true rfl⟩ rfl rfl (Nat.le_of_ble_eq_true rfl) dX12_sayerLine_176 ?_
    show V K 179 [some (.ref 0), some (.int v1), none] [.int r132] S133
    refine V_if_eq (tgt := 199) (pc := 179) C dX12_sayerLine_179 (by decide) (fun hc => ?_) (fun hc => ?_)
    · have h := it_t hc h
      refine V_aload_n (pc := 199) C dX12_sayerLine_199 rfl rfl ?_
      refine V_ldcwS (j := 47) (pc := 200) C dX12_sayerLine_200 rfl ?_
      obtain ⟨r134, S135, er134, h⟩ := b2_some h
      refine V_callV (As := [.ref 10018]) (pc := 203) C (mX12_takes _ zq_18 er134) zm_X12_takes zi_X12_takes ml_RX12_167 z1_mW_12 rfl ⟨Nat.le_of_ble_eq_true rfl, Nat.le_of_ble_eq_true rfl⟩ rfl rfl (Nat.le_of_ble_eq_true rfl) dX12_sayerLine_203 ?_
      show V K 206 [some (.ref 0), some (.int v1), none] [.int r134] S135
      refine V_if_eq (tgt := 226) (pc := 206) C dX12_sayerLine_206 (by decide) (fun hc => ?_) (fun hc => ?_)
      · have h := it_t hc h
        refine V_aload_n (pc := 226) C dX12_sayerLine_226 rfl rfl ?_
        refine V_ldcS (j := 40) (pc := 227) C dX12_sayerLine_227 rfl ?_
        obtain ⟨r136, S137, er136, h⟩ := b2_some h
        refine V_callV (As := [.ref 10011]) (pc := 229) C (mX12_takes _ zq_11 er136) zm_X12_takes zi_X12_takes ml_RX12_167 z1_mW_12 rfl ⟨Nat.le_of_ble_eq_true rfl, Nat.le_of_ble_eq_true rfl⟩ rfl rfl (Nat.le_of_ble_eq_true rfl) dX12_sayerLine_229 ?_
        show V K 232 [some (.ref 0), some (.int v1), none] [.int r136] S137
        refine V_if_eq (tgt := 246) (pc := 232) C dX12_sayerLine_232 (by decide) (fun hc => ?_) (fun hc => ?_)
        · have h := it_t hc h
          refine V_aload_n (pc := 246) C dX12_sayerLine_246 rfl rfl ?_
          refine V_ldcS (j := 39) (pc := 247) C dX12_sayerLine_247 rfl ?_
          obtain ⟨r138, S139, er138, h⟩ := b2_some h
          refine V_callV (As := [.ref 10010]) (pc := 249) C (mX12_takes _ zq_10 er138) zm_X12_takes zi_X12_takes ml_RX12_167 z1_mW_12 rfl ⟨Nat.le_of_ble_eq_true rfl, Nat.le_of_ble_eq_true rfl⟩ rfl rfl (Nat.le_of_ble_eq_true rfl) dX12_sayerLine_249 ?_
          show V K 252 [some (.ref 0), some (.int v1), none] [.int r138] S139
          refine V_if_eq (tgt := 288) (pc := 252) C dX12_sayerLine_252 (by decide) (fun hc => ?_) (fun hc => ?_)
          · have h := it_t hc h
            refine V_aload_n (pc := 288) C dX12_sayerLine_288 rfl rfl ?_
            refine V_getF (p1 := 4) (pc := 289) C z1_mW_12 fl_RX12_23 rfl (zf_mW_12_16 z1_mW_12) dX12_sayerLine_289 ?_
            refine V_sipush (pc := 292) C dX12_sayerLine_292 kc_s_239 ?_
            refine V_dup2 (pc := 295) C dX12_sayerLine_295 rfl rfl ?_
            obtain ⟨k140, h⟩ := ck_some h
            refine V_iald (pc := 296) C (za_mW_12_16 z1_mW_12) k140 dX12_sayerLine_296 ?_
            refine V_iconst (pc := 297) C dX12_sayerLine_297 kc_i_1 ?_
            refine V_iadd (pc := 298) C dX12_sayerLine_298 ?_
            obtain ⟨k141, h⟩ := ck_some h
            refine V_iast (pc := 299) C (za_mW_12_16 z1_mW_12) k141 dX12_sayerLine_299 ?_
            cases h
            exact hR 300 _ rfl dX12_sayerLine_300
          · have h := it_f hc h
            refine V_aload_n (pc := 255) C dX12_sayerLine_255 rfl rfl ?_
            refine V_iload_n (pc := 256) C dX12_sayerLine_256 rfl rfl ?_
            obtain ⟨S143, euS143, h⟩ := b1_some h
            refine V_callV (As := [.int v1]) (pc := 257) C (mX12_liked _ euS143) zm_X12_liked zi_X12_liked ml_RX12_275 z1_mW_12 rfl ⟨Nat.le_of_ble_eq_true rfl, Nat.le_of_ble_eq_true rfl⟩ rfl rfl (Nat.le_of_ble_eq_true rfl) dX12_sayerLine_257 ?_
            show V K 260 [some (.ref 0), some (.int v1), none] [] S143
            exact V_mask [true, true, false] (mX12_sayerLine_L260 C  FU _ _ h hR)
        · have h := it_f hc h
          refine V_aload_n (pc := 235) C dX12_sayerLine_235 rfl rfl ?_
          refine V_getF (p1 := 4) (pc := 236) C z1_mW_12 fl_RX12_23 rfl (zf_mW_12_16 z1_mW_12) dX12_sayerLine_236 ?_
          refine V_sipush (pc := 239) C dX12_sayerLine_239 kc_s_150 ?_
          refine V_iload_n (pc := 242) C dX12_sayerLine_242 rfl rfl ?_
          refine V_iadd (pc := 243) C dX12_sayerLine_243 ?_
          refine V_iconst (pc := 244) C dX12_sayerLine_244 kc_i_1 ?_
          obtain ⟨k152, h⟩ := ck_some h
          refine V_iast (pc := 245) C (za_mW_12_16 z1_mW_12) k152 dX12_sayerLine_245 ?_
          exact V_mask [true, true, false] (mX12_sayerLine_J246 C  hR h)
      · have h := it_f hc h
        refine V_aload_n (pc := 209) C dX12_sayerLine_209 rfl rfl ?_
        refine V_getF (p1 := 4) (pc := 210) C z1_mW_12 fl_RX12_23 rfl (zf_mW_12_16 z1_mW_12) dX12_sayerLine_210 ?_
        refine V_sipush (pc := 213) C dX12_sayerLine_213 kc_s_144 ?_
        refine V_iload_n (pc := 216) C dX12_sayerLine_216 rfl rfl ?_
        refine V_iadd (pc := 217) C dX12_sayerLine_217 ?_
        refine V_aload_n (pc := 218) C dX12_sayerLine_218 rfl rfl ?_
        refine V_iconst (pc := 219) C dX12_sayerLine_219 kc_i_1 ?_
        refine V_bipush (pc := 220) C dX12_sayerLine_220 kc_b_99 ?_
        obtain ⟨r153, S154, er153, h⟩ := b2_some h
        refine V_callV (As := [.int (1 : Int32), .int (99 : Int32)]) (pc := 222) C (mX12_number _ er153) zm_X12_number zi_X12_number ml_RX12_207 z1_mW_12 rfl ⟨Nat.le_of_ble_eq_true rfl, Nat.le_of_ble_eq_true rfl⟩ rfl rfl (Nat.le_of_ble_eq_true rfl) dX12_sayerLine_222 ?_
        show V K 225 [some (.ref 0), some (.int v1), none] [.int r153, .int ((144 : Int32) + v1), .ref 4] S154
        obtain ⟨k155, h⟩ := ck_some h
        refine V_iast (pc := 225) C (za_mW_12_16 z1_mW_12) k155 dX12_sayerLine_225 ?_
        exact V_mask [true, true, false] (mX12_sayerLine_J226 C  hR h)
    · have h := it_f hc h
      refine V_aload_n (pc := 182) C dX12_sayerLine_182 rfl rfl ?_
      refine V_getF (p1 := 4) (pc := 183) C z1_mW_12 fl_RX12_23 rfl (zf_mW_12_16 z1_mW_12) dX12_sayerLine_183 ?_
      refine V_sipush (pc := 186) C dX12_sayerLine_186 kc_s_138 ?_
      refine V_iload_n (pc := 189) C dX12_sayerLine_189 rfl rfl ?_
      refine V_iadd (pc := 190) C dX12_sayerLine_190 ?_
      refine V_aload_n (pc := 191) C dX12_sayerLine_191 rfl rfl ?_
      refine V_iconst (pc := 192) C dX12_sayerLine_192 kc_i_1 ?_
      refine V_bipush (pc := 193) C dX12_sayerLine_193 kc_b_99 ?_
      obtain ⟨r156, S157, er156, h⟩ := b2_some h
      refine V_callV (As := [.int (1 : Int32), .int (99 : Int32)]) (pc := 195) C (mX12_number _ er156) zm_X12_number zi_X12_number ml_RX12_207 z1_mW_12 rfl ⟨Nat.le_of_ble_eq_true rfl, Nat.le_of_ble_eq_true rfl⟩ rfl rfl (Nat.le_of_ble_eq_true rfl) dX12_sayerLine_195 ?_
      show V K 198 [some (.ref 0), some (.int v1), none] [.int r156, .int ((138 : Int32) + v1), .ref 4] S157
      obtain ⟨k158, h⟩ := ck_some h
      refine V_iast (pc := 198) C (za_mW_12_16 z1_mW_12) k158 dX12_sayerLine_198 ?_
      exact V_mask [true, true, false] (mX12_sayerLine_J199 C  hR h)
  · have h := it_f hc h
    refine V_aload_n (pc := 156) C dX12_sayerLine_156 rfl rfl ?_
    refine V_getF (p1 := 4) (pc := 157) C z1_mW_12 fl_RX12_23 rfl (zf_mW_12_16 z1_mW_12) dX12_sayerLine_157 ?_
    refine V_sipush (pc := 160) C dX12_sayerLine_160 kc_s_132 ?_
    refine V_iload_n (pc := 163) C dX12_sayerLine_163 rfl rfl ?_
    refine V_iadd (pc := 164) C dX12_sayerLine_164 ?_
    refine V_aload_n (pc := 165) C dX12_sayerLine_165 rfl rfl ?_
    refine V_bipush (pc := 166) C dX12_sayerLine_166 kc_b_50 ?_
    obtain ⟨r159, S160, er159, h⟩ := b2_some h
    refine V_callV (As := [.int (50 : Int32)]) (pc := 168) C (mX12_signed _ er159) zm_X12_signed zi_X12_signed ml_RX12_266 z1_mW_12 rfl ⟨Nat.le_of_ble_eq_true rfl, Nat.le_of_ble_eq_true rfl⟩ rfl rfl (Nat.le_of_ble_eq_true rfl) dX12_sayerLine_168 ?_
    show V K 171 [some (.ref 0), some (.int v1), none] [.int r159, .int ((132 : Int32) + v1), .ref 4] S160
    obtain ⟨k161, h⟩ := ck_some h
    refine V_iast (pc := 171) C (za_mW_12_16 z1_mW_12) k161 dX12_sayerLine_171 ?_
    exact V_mask [true, true, false] (mX12_sayerLine_J172 C  hR h)
set_option maxRecDepth 100000 in
theorem mX12_sayerLine_J91 {K : zK} (C : zC K cX12_sayerLine yX12_sayerLine.cls 3 9 239 mW) {S : zM} {v1 : Int32} {v2 : Int32} {S' : zM}  (hR : zR K cX12_sayerLine (none) S' none) (h : gX12_sayerLine_J91 S v1 v2 = some S') : V K 91 [some (.ref 0), some (.int v1), some (.int v2)] [] S := by
  unfold gX12_sayerLine_J91 at h
  refine V_aload_n (pc := 91) C dX12_sayerLine_91 rfl rfl ?_
  refine V_getI (pc := 92) C z1_mW_12 fl_RX12_143 (by decide) dX12_sayerLine_92 ?_
  refine V_if_eq (tgt := 99) (pc := 95) C dX12_sayerLine_95 (by decide) (fun hc => ?_) (fun hc => ?_)
  · have h := it_t hc h
    refine V_aload_n (pc := 99) C dX12_sayerLine_99 rfl rfl ?_
    refine V_getF (p1 := 4) (pc := 100) C z1_mW_12 fl_RX12_23 rfl (zf_mW_12_16 z1_mW_12) dX12_sayerLine_100 ?_
    refine V_bipush (pc := 103) C dX12_sayerLine_103 kc_b_120 ?_
    refine V_iload_n (pc := 105) C dX12_sayerLine_105 rfl rfl ?_
    refine V_iadd (pc := 106) C dX12_sayerLine_106 ?_
    refine V_aload_n (pc := 107) C dX12_sayerLine_107 rfl rfl ?_
    refine V_getF (p1 := 4) (pc := 108) C z1_mW_12 fl_RX12_23 rfl (zf_mW_12_16 z1_mW_12) dX12_sayerLine_108 ?_
    refine V_sipush (pc := 111) C dX12_sayerLine_111 kc_s_263 ?_
    refine V_iload_n (pc := 114) C dX12_sayerLine_114 rfl rfl ?_
    refine V_iadd (pc := 115) C dX12_sayerLine_115 ?_
    obtain ⟨k164, h⟩ := ck_some h
    refine V_iald (pc := 116) C (za_mW_12_16 z1_mW_12) k164 dX12_sayerLine_116 ?_
    obtain ⟨k165, h⟩ := ck_some h
    refine V_iast (pc := 117) C (za_mW_12_16 z1_mW_12) k165 dX12_sayerLine_117 ?_
    refine V_aload_n (pc := 118) C dX12_sayerLine_118 rfl rfl ?_
    obtain ⟨S167, euS167, h⟩ := b1_some h
    refine V_callV (As := []) (pc := 119) C (mX12_next _ euS167) zm_X12_next zi_X12_next ml_RX12_164 z1_mW_12 rfl ⟨Nat.le_of_ble_eq_true rfl, Nat.le_of_ble_eq_true rfl⟩ rfl rfl (Nat.le_of_ble_eq_true rfl) dX12_sayerLine_119 ?_
    show V K 122 [some (.ref 0), some (.int v1), some (.int v2)] [] S167
    refine V_aload_n (pc := 122) C dX12_sayerLine_122 rfl rfl ?_
    refine V_ldcS (j := 35) (pc := 123) C dX12_sayerLine_123 rfl ?_
    obtain ⟨r168, S169, er168, h⟩ := b2_some h
    refine V_callV (As := [.ref 10006]) (pc := 125) C (mX12_takes _ zq_6 er168) zm_X12_takes zi_X12_takes ml_RX12_167 z1_mW_12 rfl ⟨Nat.le_of_ble_eq_true rfl, Nat.le_of_ble_eq_true rfl⟩ rfl rfl (Nat.le_of_ble_eq_true rfl) dX12_sayerLine_125 ?_
    show V K 128 [some (.ref 0), some (.int v1), some (.int v2)] [.int r168] S169
    refine V_if_eq (tgt := 146) (pc := 128) C dX12_sayerLine_128 (by decide) (fun hc => ?_) (fun hc => ?_)
    · have h := it_t hc h
      refine V_aload_n (pc := 146) C dX12_sayerLine_146 rfl rfl ?_
      refine V_ldcwS (j := 45) (pc := 147) C dX12_sayerLine_147 rfl ?_
      obtain ⟨r170, S171, er170, h⟩ := b2_some h
      refine V_callV (As := [.ref 10016]) (pc := 150) C (mX12_takes _ zq_16 er170) zm_X12_takes zi_X12_takes ml_RX12_167 z1_mW_12 rfl ⟨Nat.le_of_ble_eq_true rfl, Nat.le_of_ble_eq_true rfl⟩ rfl rfl (Nat.le_of_ble_eq_true rfl) dX12_sayerLine_150 ?_
      show V K 153 [some (.ref 0), some (.int v1), some (.int v2)] [.int r170] S171
      refine V_if_eq (tgt := 172) (pc := 153) C dX12_sayerLine_153 (by decide) (fun hc => ?_) (fun hc => ?_)
      · have h := it_t hc h
        refine V_aload_n (pc := 172) C dX12_sayerLine_172 rfl rfl ?_
        refine V_ldcwS (j := 46) (pc := 173) C dX12_sayerLine_173 rfl ?_
        obtain ⟨r172, S173, er172, h⟩ := b2_some h
        refine V_callV (As := [.ref 10017]) (pc := 176) C (mX12_takes _ zq_17 er172) zm_X12_takes zi_X12_takes ml_RX12_167 z1_mW_12 rfl ⟨Nat.le_of_ble_eq_true rfl, Nat.le_of_ble_eq_true rfl⟩ rfl rfl (Nat.le_of_ble_eq_true rfl) dX12_sayerLine_176 ?_
        show V K 179 [some (.ref 0), some (.int v1), some (.int v2)] [.int r172] S173
        refine V_if_eq (tgt := 199) (pc := 179) C dX12_sayerLine_179 (by decide) (fun hc => ?_) (fun hc => ?_)
        · have h := it_t hc h
          refine V_aload_n (pc := 199) C dX12_sayerLine_199 rfl rfl ?_
          refine V_ldcwS (j := 47) (pc := 200) C dX12_sayerLine_200 rfl ?_
          obtain ⟨r174, S175, er174, h⟩ := b2_some h
          refine V_callV (As := [.ref 10018]) (pc := 203) C (mX12_takes _ zq_18 er174) zm_X12_takes zi_X12_takes ml_RX12_167 z1_mW_12 rfl ⟨Nat.le_of_ble_eq_true rfl, Nat.le_of_ble_eq_true rfl⟩ rfl rfl (Nat.le_of_ble_eq_true rfl) dX12_sayerLine_203 ?_
          show V K 206 [some (.ref 0), some (.int v1), some (.int v2)] [.int r174] S175
          refine V_if_eq (tgt := 226) (pc := 206) C dX12_sayerLine_206 (by decide) (fun hc => ?_) (fun hc => ?_)
          · have h := it_t hc h
            refine V_aload_n (pc := 226) C dX12_sayerLine_226 rfl rfl ?_
            refine V_ldcS (j := 40) (pc := 227) C dX12_sayerLine_227 rfl ?_
            obtain ⟨r176, S177, er176, h⟩ := b2_some h
            refine V_callV (As := [.ref 10011]) (pc := 229) C (mX12_takes _ zq_11 er176) zm_X12_takes zi_X12_takes ml_RX12_167 z1_mW_12 rfl ⟨Nat.le_of_ble_eq_true rfl, Nat.le_of_ble_eq_true rfl⟩ rfl rfl (Nat.le_of_ble_eq_true rfl) dX12_sayerLine_229 ?_
            show V K 232 [some (.ref 0), some (.int v1), some (.int v2)] [.int r176] S177
            refine V_if_eq (tgt := 246) (pc := 232) C dX12_sayerLine_232 (by decide) (fun hc => ?_) (fun hc => ?_)
            · have h := it_t hc h
              refine V_aload_n (pc := 246) C dX12_sayerLine_246 rfl rfl ?_
              refine V_ldcS (j := 39) (pc := 247) C dX12_sayerLine_247 rfl ?_
              obtain ⟨r178, S179, er178, h⟩ := b2_some h
              refine V_callV (As := [.ref 10010]) (pc := 249) C (mX12_takes _ zq_10 er178) zm_X12_takes zi_X12_takes ml_RX12_167 z1_mW_12 rfl ⟨Nat.le_of_ble_eq_true rfl, Nat.le_of_ble_eq_true rfl⟩ rfl rfl (Nat.le_of_ble_eq_true rfl) dX12_sayerLine_249 ?_
              show V K 252 [some (.ref 0), some (.int v1), some (.int v2)] [.int r178] S179
              refine V_if_eq (tgt := 288) (pc := 252) C dX12_sayerLine_252 (by decide) (fun hc => ?_) (fun hc => ?_)
              · have h := it_t hc h
                refine V_aload_n (pc := 288) C dX12_sayerLine_288 rfl rfl ?_
                refine V_getF (p1 := 4) (pc := 289) C z1_mW_12 fl_RX12_23 rfl (zf_mW_12_16 z1_mW_12) dX12_sayerLine_289 ?_
                refine V_sipush (pc := 292) C dX12_sayerLine_292 kc_s_239 ?_
                refine V_dup2 (pc := 295) C dX12_sayerLine_295 rfl rfl ?_
                obtain ⟨k180, h⟩ := ck_some h
                refine V_iald (pc := 296) C (za_mW_12_16 z1_mW_12) k180 dX12_sayerLine_296 ?_
                refine V_iconst (pc := 297) C dX12_sayerLine_297 kc_i_1 ?_
                refine V_iadd (pc := 298) C dX12_sayerLine_298 ?_
                obtain ⟨k181, h⟩ := ck_some h
                refine V_iast (pc := 299) C (za_mW_12_16 z1_mW_12) k181 dX12_sayerLine_299 ?_
                cases h
                exact hR 300 _ rfl dX12_sayerLine_300
              · have h := it_f hc h
                refine V_aload_n (pc := 255) C dX12_sayerLine_255 rfl rfl ?_
                refine V_iload_n (pc := 256) C dX12_sayerLine_256 rfl rfl ?_
                obtain ⟨S183, euS183, h⟩ := b1_some h
                refine V_callV (As := [.int v1]) (pc := 257) C (mX12_liked _ euS183) zm_X12_liked zi_X12_liked ml_RX12_275 z1_mW_12 rfl ⟨Nat.le_of_ble_eq_true rfl, Nat.le_of_ble_eq_true rfl⟩ rfl rfl (Nat.le_of_ble_eq_true rfl) dX12_sayerLine_257 ?_
                show V K 260 [some (.ref 0), some (.int v1), some (.int v2)] [] S183
                exact V_mask [true, true, false] (mX12_sayerLine_L260 C  FU _ _ h hR)
            · have h := it_f hc h
              refine V_aload_n (pc := 235) C dX12_sayerLine_235 rfl rfl ?_
              refine V_getF (p1 := 4) (pc := 236) C z1_mW_12 fl_RX12_23 rfl (zf_mW_12_16 z1_mW_12) dX12_sayerLine_236 ?_
              refine V_sipush (pc := 239) C dX12_sayerLine_239 kc_s_150 ?_
              refine V_iload_n (pc := 242) C dX12_sayerLine_242 rfl rfl ?_
              refine V_iadd (pc := 243) C dX12_sayerLine_243 ?_
              refine V_iconst (pc := 244) C dX12_sayerLine_244 kc_i_1 ?_
              obtain ⟨k192, h⟩ := ck_some h
              refine V_iast (pc := 245) C (za_mW_12_16 z1_mW_12) k192 dX12_sayerLine_245 ?_
              exact V_mask [true, true, false] (mX12_sayerLine_J246 C  hR h)
          · have h := it_f hc h
            refine V_aload_n (pc := 209) C dX12_sayerLine_209 rfl rfl ?_
            refine V_getF (p1 := 4) (pc := 210) C z1_mW_12 fl_RX12_23 rfl (zf_mW_12_16 z1_mW_12) dX12_sayerLine_210 ?_
            refine V_sipush (pc := 213) C dX12_sayerLine_213 kc_s_144 ?_
            refine V_iload_n (pc := 216) C dX12_sayerLine_216 rfl rfl ?_
            refine V_iadd (pc := 217) C dX12_sayerLine_217 ?_
            refine V_aload_n (pc := 218) C dX12_sayerLine_218 rfl rfl ?_
            refine V_iconst (pc := 219) C dX12_sayerLine_219 kc_i_1 ?_
            refine V_bipush (pc := 220) C dX12_sayerLine_220 kc_b_99 ?_
            obtain ⟨r193, S194, er193, h⟩ := b2_some h
            refine V_callV (As := [.int (1 : Int32), .int (99 : Int32)]) (pc := 222) C (mX12_number _ er193) zm_X12_number zi_X12_number ml_RX12_207 z1_mW_12 rfl ⟨Nat.le_of_ble_eq_true rfl, Nat.le_of_ble_eq_true rfl⟩ rfl rfl (Nat.le_of_ble_eq_true rfl) dX12_sayerLine_222 ?_
            show V K 225 [some (.ref 0), some (.int v1), some (.int v2)] [.int r193, .int ((144 : Int32) + v1), .ref 4] S194
            obtain ⟨k195, h⟩ := ck_some h
            refine V_iast (pc := 225) C (za_mW_12_16 z1_mW_12) k195 dX12_sayerLine_225 ?_
            exact V_mask [true, true, false] (mX12_sayerLine_J226 C  hR h)
        · have h := it_f hc h
          refine V_aload_n (pc := 182) C dX12_sayerLine_182 rfl rfl ?_
          refine V_getF (p1 := 4) (pc := 183) C z1_mW_12 fl_RX12_23 rfl (zf_mW_12_16 z1_mW_12) dX12_sayerLine_183 ?_
          refine V_sipush (pc := 186) C dX12_sayerLine_186 kc_s_138 ?_
          refine V_iload_n (pc := 189) C dX12_sayerLine_189 rfl rfl ?_
          refine V_iadd (pc := 190) C dX12_sayerLine_190 ?_
          refine V_aload_n (pc := 191) C dX12_sayerLine_191 rfl rfl ?_
          refine V_iconst (pc := 192) C dX12_sayerLine_192 kc_i_1 ?_
          refine V_bipush (pc := 193) C dX12_sayerLine_193 kc_b_99 ?_
          obtain ⟨r196, S197, er196, h⟩ := b2_some h
          refine V_callV (As := [.int (1 : Int32), .int (99 : Int32)]) (pc := 195) C (mX12_number _ er196) zm_X12_number zi_X12_number ml_RX12_207 z1_mW_12 rfl ⟨Nat.le_of_ble_eq_true rfl, Nat.le_of_ble_eq_true rfl⟩ rfl rfl (Nat.le_of_ble_eq_true rfl) dX12_sayerLine_195 ?_
          show V K 198 [some (.ref 0), some (.int v1), some (.int v2)] [.int r196, .int ((138 : Int32) + v1), .ref 4] S197
          obtain ⟨k198, h⟩ := ck_some h
          refine V_iast (pc := 198) C (za_mW_12_16 z1_mW_12) k198 dX12_sayerLine_198 ?_
          exact V_mask [true, true, false] (mX12_sayerLine_J199 C  hR h)
      · have h := it_f hc h
        refine V_aload_n (pc := 156) C dX12_sayerLine_156 rfl rfl ?_
        refine V_getF (p1 := 4) (pc := 157) C z1_mW_12 fl_RX12_23 rfl (zf_mW_12_16 z1_mW_12) dX12_sayerLine_157 ?_
        refine V_sipush (pc := 160) C dX12_sayerLine_160 kc_s_132 ?_
        refine V_iload_n (pc := 163) C dX12_sayerLine_163 rfl rfl ?_
        refine V_iadd (pc := 164) C dX12_sayerLine_164 ?_
        refine V_aload_n (pc := 165) C dX12_sayerLine_165 rfl rfl ?_
        refine V_bipush (pc := 166) C dX12_sayerLine_166 kc_b_50 ?_
        obtain ⟨r199, S200, er199, h⟩ := b2_some h
        refine V_callV (As := [.int (50 : Int32)]) (pc := 168) C (mX12_signed _ er199) zm_X12_signed zi_X12_signed ml_RX12_266 z1_mW_12 rfl ⟨Nat.le_of_ble_eq_true rfl, Nat.le_of_ble_eq_true rfl⟩ rfl rfl (Nat.le_of_ble_eq_true rfl) dX12_sayerLine_168 ?_
        show V K 171 [some (.ref 0), some (.int v1), some (.int v2)] [.int r199, .int ((132 : Int32) + v1), .ref 4] S200
        obtain ⟨k201, h⟩ := ck_some h
        refine V_iast (pc := 171) C (za_mW_12_16 z1_mW_12) k201 dX12_sayerLine_171 ?_
        exact V_mask [true, true, false] (mX12_sayerLine_J172 C  hR h)
    · have h := it_f hc h
      refine V_aload_n (pc := 131) C dX12_sayerLine_131 rfl rfl ?_
      refine V_getF (p1 := 4) (pc := 132) C z1_mW_12 fl_RX12_23 rfl (zf_mW_12_16 z1_mW_12) dX12_sayerLine_132 ?_
      refine V_bipush (pc := 135) C dX12_sayerLine_135 kc_b_126 ?_
      refine V_iload_n (pc := 137) C dX12_sayerLine_137 rfl rfl ?_
      refine V_iadd (pc := 138) C dX12_sayerLine_138 ?_
      refine V_aload_n (pc := 139) C dX12_sayerLine_139 rfl rfl ?_
      refine V_bipush (pc := 140) C dX12_sayerLine_140 kc_b_50 ?_
      obtain ⟨r202, S203, er202, h⟩ := b2_some h
      refine V_callV (As := [.int (50 : Int32)]) (pc := 142) C (mX12_signed _ er202) zm_X12_signed zi_X12_signed ml_RX12_266 z1_mW_12 rfl ⟨Nat.le_of_ble_eq_true rfl, Nat.le_of_ble_eq_true rfl⟩ rfl rfl (Nat.le_of_ble_eq_true rfl) dX12_sayerLine_142 ?_
      show V K 145 [some (.ref 0), some (.int v1), some (.int v2)] [.int r202, .int ((126 : Int32) + v1), .ref 4] S203
      obtain ⟨k204, h⟩ := ck_some h
      refine V_iast (pc := 145) C (za_mW_12_16 z1_mW_12) k204 dX12_sayerLine_145 ?_
      exact V_mask [true, true, false] (mX12_sayerLine_J146 C  hR h)
  · have h := it_f hc h
    cases h
    exact hR 98 _ rfl dX12_sayerLine_98
set_option maxRecDepth 100000 in
theorem mX12_sayerLine_J57 {K : zK} (C : zC K cX12_sayerLine yX12_sayerLine.cls 3 9 239 mW) {S : zM} {v1 : Int32} {s0 : Int32} {S' : zM}  (hR : zR K cX12_sayerLine (none) S' none) (h : gX12_sayerLine_J57 S v1 s0 = some S') : V K 57 [some (.ref 0), some (.int v1), none] [.int s0] S := by
  unfold gX12_sayerLine_J57 at h
  refine V_istore_n (L' := [some (.ref 0), some (.int v1), some (.int s0)]) (pc := 57) C dX12_sayerLine_57 rfl (by decide) rfl ?_
  refine V_aload_n (pc := 58) C dX12_sayerLine_58 rfl rfl ?_
  refine V_getI (pc := 59) C z1_mW_12 fl_RX12_143 (by decide) dX12_sayerLine_59 ?_
  refine V_if_ne (tgt := 91) (pc := 62) C dX12_sayerLine_62 (by decide) (fun hc => ?_) (fun hc => ?_)
  · have h := it_f hc h
    refine V_aload_n (pc := 91) C dX12_sayerLine_91 rfl rfl ?_
    refine V_getI (pc := 92) C z1_mW_12 fl_RX12_143 (by decide) dX12_sayerLine_92 ?_
    refine V_if_eq (tgt := 99) (pc := 95) C dX12_sayerLine_95 (by decide) (fun hc => ?_) (fun hc => ?_)
    · have h := it_t hc h
      refine V_aload_n (pc := 99) C dX12_sayerLine_99 rfl rfl ?_
      refine V_getF (p1 := 4) (pc := 100) C z1_mW_12 fl_RX12_23 rfl (zf_mW_12_16 z1_mW_12) dX12_sayerLine_100 ?_
      refine V_bipush (pc := 103) C dX12_sayerLine_103 kc_b_120 ?_
      refine V_iload_n (pc := 105) C dX12_sayerLine_105 rfl rfl ?_
      refine V_iadd (pc := 106) C dX12_sayerLine_106 ?_
      refine V_aload_n (pc := 107) C dX12_sayerLine_107 rfl rfl ?_
      refine V_getF (p1 := 4) (pc := 108) C z1_mW_12 fl_RX12_23 rfl (zf_mW_12_16 z1_mW_12) dX12_sayerLine_108 ?_
      refine V_sipush (pc := 111) C dX12_sayerLine_111 kc_s_263 ?_
      refine V_iload_n (pc := 114) C dX12_sayerLine_114 rfl rfl ?_
      refine V_iadd (pc := 115) C dX12_sayerLine_115 ?_
      obtain ⟨k9, h⟩ := ck_some h
      refine V_iald (pc := 116) C (za_mW_12_16 z1_mW_12) k9 dX12_sayerLine_116 ?_
      obtain ⟨k10, h⟩ := ck_some h
      refine V_iast (pc := 117) C (za_mW_12_16 z1_mW_12) k10 dX12_sayerLine_117 ?_
      refine V_aload_n (pc := 118) C dX12_sayerLine_118 rfl rfl ?_
      obtain ⟨S12, euS12, h⟩ := b1_some h
      refine V_callV (As := []) (pc := 119) C (mX12_next _ euS12) zm_X12_next zi_X12_next ml_RX12_164 z1_mW_12 rfl ⟨Nat.le_of_ble_eq_true rfl, Nat.le_of_ble_eq_true rfl⟩ rfl rfl (Nat.le_of_ble_eq_true rfl) dX12_sayerLine_119 ?_
      show V K 122 [some (.ref 0), some (.int v1), some (.int s0)] [] S12
      refine V_aload_n (pc := 122) C dX12_sayerLine_122 rfl rfl ?_
      refine V_ldcS (j := 35) (pc := 123) C dX12_sayerLine_123 rfl ?_
      obtain ⟨r13, S14, er13, h⟩ := b2_some h
      refine V_callV (As := [.ref 10006]) (pc := 125) C (mX12_takes _ zq_6 er13) zm_X12_takes zi_X12_takes ml_RX12_167 z1_mW_12 rfl ⟨Nat.le_of_ble_eq_true rfl, Nat.le_of_ble_eq_true rfl⟩ rfl rfl (Nat.le_of_ble_eq_true rfl) dX12_sayerLine_125 ?_
      show V K 128 [some (.ref 0), some (.int v1), some (.int s0)] [.int r13] S14
      refine V_if_eq (tgt := 146) (pc := 128) C dX12_sayerLine_128 (by decide) (fun hc => ?_) (fun hc => ?_)
      · have h := it_t hc h
        refine V_aload_n (pc := 146) C dX12_sayerLine_146 rfl rfl ?_
        refine V_ldcwS (j := 45) (pc := 147) C dX12_sayerLine_147 rfl ?_
        obtain ⟨r15, S16, er15, h⟩ := b2_some h
        refine V_callV (As := [.ref 10016]) (pc := 150) C (mX12_takes _ zq_16 er15) zm_X12_takes zi_X12_takes ml_RX12_167 z1_mW_12 rfl ⟨Nat.le_of_ble_eq_true rfl, Nat.le_of_ble_eq_true rfl⟩ rfl rfl (Nat.le_of_ble_eq_true rfl) dX12_sayerLine_150 ?_
        show V K 153 [some (.ref 0), some (.int v1), some (.int s0)] [.int r15] S16
        refine V_if_eq (tgt := 172) (pc := 153) C dX12_sayerLine_153 (by decide) (fun hc => ?_) (fun hc => ?_)
        · have h := it_t hc h
          refine V_aload_n (pc := 172) C dX12_sayerLine_172 rfl rfl ?_
          refine V_ldcwS (j := 46) (pc := 173) C dX12_sayerLine_173 rfl ?_
          obtain ⟨r17, S18, er17, h⟩ := b2_some h
          refine V_callV (As := [.ref 10017]) (pc := 176) C (mX12_takes _ zq_17 er17) zm_X12_takes zi_X12_takes ml_RX12_167 z1_mW_12 rfl ⟨Nat.le_of_ble_eq_true rfl, Nat.le_of_ble_eq_true rfl⟩ rfl rfl (Nat.le_of_ble_eq_true rfl) dX12_sayerLine_176 ?_
          show V K 179 [some (.ref 0), some (.int v1), some (.int s0)] [.int r17] S18
          refine V_if_eq (tgt := 199) (pc := 179) C dX12_sayerLine_179 (by decide) (fun hc => ?_) (fun hc => ?_)
          · have h := it_t hc h
            refine V_aload_n (pc := 199) C dX12_sayerLine_199 rfl rfl ?_
            refine V_ldcwS (j := 47) (pc := 200) C dX12_sayerLine_200 rfl ?_
            obtain ⟨r19, S20, er19, h⟩ := b2_some h
            refine V_callV (As := [.ref 10018]) (pc := 203) C (mX12_takes _ zq_18 er19) zm_X12_takes zi_X12_takes ml_RX12_167 z1_mW_12 rfl ⟨Nat.le_of_ble_eq_true rfl, Nat.le_of_ble_eq_true rfl⟩ rfl rfl (Nat.le_of_ble_eq_true rfl) dX12_sayerLine_203 ?_
            show V K 206 [some (.ref 0), some (.int v1), some (.int s0)] [.int r19] S20
            refine V_if_eq (tgt := 226) (pc := 206) C dX12_sayerLine_206 (by decide) (fun hc => ?_) (fun hc => ?_)
            · have h := it_t hc h
              refine V_aload_n (pc := 226) C dX12_sayerLine_226 rfl rfl ?_
              refine V_ldcS (j := 40) (pc := 227) C dX12_sayerLine_227 rfl ?_
              obtain ⟨r21, S22, er21, h⟩ := b2_some h
              refine V_callV (As := [.ref 10011]) (pc := 229) C (mX12_takes _ zq_11 er21) zm_X12_takes zi_X12_takes ml_RX12_167 z1_mW_12 rfl ⟨Nat.le_of_ble_eq_true rfl, Nat.le_of_ble_eq_true rfl⟩ rfl rfl (Nat.le_of_ble_eq_true rfl) dX12_sayerLine_229 ?_
              show V K 232 [some (.ref 0), some (.int v1), some (.int s0)] [.int r21] S22
              refine V_if_eq (tgt := 246) (pc := 232) C dX12_sayerLine_232 (by decide) (fun hc => ?_) (fun hc => ?_)
              · have h := it_t hc h
                refine V_aload_n (pc := 246) C dX12_sayerLine_246 rfl rfl ?_
                refine V_ldcS (j := 39) (pc := 247) C dX12_sayerLine_247 rfl ?_
                obtain ⟨r23, S24, er23, h⟩ := b2_some h
                refine V_callV (As := [.ref 10010]) (pc := 249) C (mX12_takes _ zq_10 er23) zm_X12_takes zi_X12_takes ml_RX12_167 z1_mW_12 rfl ⟨Nat.le_of_ble_eq_true rfl, Nat.le_of_ble_eq_true rfl⟩ rfl rfl (Nat.le_of_ble_eq_true rfl) dX12_sayerLine_249 ?_
                show V K 252 [some (.ref 0), some (.int v1), some (.int s0)] [.int r23] S24
                refine V_if_eq (tgt := 288) (pc := 252) C dX12_sayerLine_252 (by decide) (fun hc => ?_) (fun hc => ?_)
                · have h := it_t hc h
                  refine V_aload_n (pc := 288) C dX12_sayerLine_288 rfl rfl ?_
                  refine V_getF (p1 := 4) (pc := 289) C z1_mW_12 fl_RX12_23 rfl (zf_mW_12_16 z1_mW_12) dX12_sayerLine_289 ?_
                  refine V_sipush (pc := 292) C dX12_sayerLine_292 kc_s_239 ?_
                  refine V_dup2 (pc := 295) C dX12_sayerLine_295 rfl rfl ?_
                  obtain ⟨k25, h⟩ := ck_some h
                  refine V_iald (pc := 296) C (za_mW_12_16 z1_mW_12) k25 dX12_sayerLine_296 ?_
                  refine V_iconst (pc := 297) C dX12_sayerLine_297 kc_i_1 ?_
                  refine V_iadd (pc := 298) C dX12_sayerLine_298 ?_
                  obtain ⟨k26, h⟩ := ck_some h
                  refine V_iast (pc := 299) C (za_mW_12_16 z1_mW_12) k26 dX12_sayerLine_299 ?_
                  cases h
                  exact hR 300 _ rfl dX12_sayerLine_300
                · have h := it_f hc h
                  refine V_aload_n (pc := 255) C dX12_sayerLine_255 rfl rfl ?_
                  refine V_iload_n (pc := 256) C dX12_sayerLine_256 rfl rfl ?_
                  obtain ⟨S28, euS28, h⟩ := b1_some h
                  refine V_callV (As := [.int v1]) (pc := 257) C (mX12_liked _ euS28) zm_X12_liked zi_X12_liked ml_RX12_275 z1_mW_12 rfl ⟨Nat.le_of_ble_eq_true rfl, Nat.le_of_ble_eq_true rfl⟩ rfl rfl (Nat.le_of_ble_eq_true rfl) dX12_sayerLine_257 ?_
                  show V K 260 [some (.ref 0), some (.int v1), some (.int s0)] [] S28
                  exact V_mask [true, true, false] (mX12_sayerLine_L260 C  FU _ _ h hR)
              · have h := it_f hc h
                refine V_aload_n (pc := 235) C dX12_sayerLine_235 rfl rfl ?_
                refine V_getF (p1 := 4) (pc := 236) C z1_mW_12 fl_RX12_23 rfl (zf_mW_12_16 z1_mW_12) dX12_sayerLine_236 ?_
                refine V_sipush (pc := 239) C dX12_sayerLine_239 kc_s_150 ?_
                refine V_iload_n (pc := 242) C dX12_sayerLine_242 rfl rfl ?_
                refine V_iadd (pc := 243) C dX12_sayerLine_243 ?_
                refine V_iconst (pc := 244) C dX12_sayerLine_244 kc_i_1 ?_
                obtain ⟨k37, h⟩ := ck_some h
                refine V_iast (pc := 245) C (za_mW_12_16 z1_mW_12) k37 dX12_sayerLine_245 ?_
                exact V_mask [true, true, false] (mX12_sayerLine_J246 C  hR h)
            · have h := it_f hc h
              refine V_aload_n (pc := 209) C dX12_sayerLine_209 rfl rfl ?_
              refine V_getF (p1 := 4) (pc := 210) C z1_mW_12 fl_RX12_23 rfl (zf_mW_12_16 z1_mW_12) dX12_sayerLine_210 ?_
              refine V_sipush (pc := 213) C dX12_sayerLine_213 kc_s_144 ?_
              refine V_iload_n (pc := 216) C dX12_sayerLine_216 rfl rfl ?_
              refine V_iadd (pc := 217) C dX12_sayerLine_217 ?_
              refine V_aload_n (pc := 218) C dX12_sayerLine_218 rfl rfl ?_
              refine V_iconst (pc := 219) C dX12_sayerLine_219 kc_i_1 ?_
              refine V_bipush (pc := 220) C dX12_sayerLine_220 kc_b_99 ?_
              obtain ⟨r52, S53, er52, h⟩ := b2_some h
              refine V_callV (As := [.int (1 : Int32), .int (99 : Int32)]) (pc := 222) C (mX12_number _ er52) zm_X12_number zi_X12_number ml_RX12_207 z1_mW_12 rfl ⟨Nat.le_of_ble_eq_true rfl, Nat.le_of_ble_eq_true rfl⟩ rfl rfl (Nat.le_of_ble_eq_true rfl) dX12_sayerLine_222 ?_
              show V K 225 [some (.ref 0), some (.int v1), some (.int s0)] [.int r52, .int ((144 : Int32) + v1), .ref 4] S53
              obtain ⟨k54, h⟩ := ck_some h
              refine V_iast (pc := 225) C (za_mW_12_16 z1_mW_12) k54 dX12_sayerLine_225 ?_
              exact V_mask [true, true, false] (mX12_sayerLine_J226 C  hR h)
          · have h := it_f hc h
            refine V_aload_n (pc := 182) C dX12_sayerLine_182 rfl rfl ?_
            refine V_getF (p1 := 4) (pc := 183) C z1_mW_12 fl_RX12_23 rfl (zf_mW_12_16 z1_mW_12) dX12_sayerLine_183 ?_
            refine V_sipush (pc := 186) C dX12_sayerLine_186 kc_s_138 ?_
            refine V_iload_n (pc := 189) C dX12_sayerLine_189 rfl rfl ?_
            refine V_iadd (pc := 190) C dX12_sayerLine_190 ?_
            refine V_aload_n (pc := 191) C dX12_sayerLine_191 rfl rfl ?_
            refine V_iconst (pc := 192) C dX12_sayerLine_192 kc_i_1 ?_
            refine V_bipush (pc := 193) C dX12_sayerLine_193 kc_b_99 ?_
            obtain ⟨r72, S73, er72, h⟩ := b2_some h
            refine V_callV (As := [.int (1 : Int32), .int (99 : Int32)]) (pc := 195) C (mX12_number _ er72) zm_X12_number zi_X12_number ml_RX12_207 z1_mW_12 rfl ⟨Nat.le_of_ble_eq_true rfl, Nat.le_of_ble_eq_true rfl⟩ rfl rfl (Nat.le_of_ble_eq_true rfl) dX12_sayerLine_195 ?_
            show V K 198 [some (.ref 0), some (.int v1), some (.int s0)] [.int r72, .int ((138 : Int32) + v1), .ref 4] S73
            obtain ⟨k74, h⟩ := ck_some h
            refine V_iast (pc := 198) C (za_mW_12_16 z1_mW_12) k74 dX12_sayerLine_198 ?_
            exact V_mask [true, true, false] (mX12_sayerLine_J199 C  hR h)
        · have h := it_f hc h
          refine V_aload_n (pc := 156) C dX12_sayerLine_156 rfl rfl ?_
          refine V_getF (p1 := 4) (pc := 157) C z1_mW_12 fl_RX12_23 rfl (zf_mW_12_16 z1_mW_12) dX12_sayerLine_157 ?_
          refine V_sipush (pc := 160) C dX12_sayerLine_160 kc_s_132 ?_
          refine V_iload_n (pc := 163) C dX12_sayerLine_163 rfl rfl ?_
          refine V_iadd (pc := 164) C dX12_sayerLine_164 ?_
          refine V_aload_n (pc := 165) C dX12_sayerLine_165 rfl rfl ?_
          refine V_bipush (pc := 166) C dX12_sayerLine_166 kc_b_50 ?_
          obtain ⟨r97, S98, er97, h⟩ := b2_some h
          refine V_callV (As := [.int (50 : Int32)]) (pc := 168) C (mX12_signed _ er97) zm_X12_signed zi_X12_signed ml_RX12_266 z1_mW_12 rfl ⟨Nat.le_of_ble_eq_true rfl, Nat.le_of_ble_eq_true rfl⟩ rfl rfl (Nat.le_of_ble_eq_true rfl) dX12_sayerLine_168 ?_
          show V K 171 [some (.ref 0), some (.int v1), some (.int s0)] [.int r97, .int ((132 : Int32) + v1), .ref 4] S98
          obtain ⟨k99, h⟩ := ck_some h
          refine V_iast (pc := 171) C (za_mW_12_16 z1_mW_12) k99 dX12_sayerLine_171 ?_
          exact V_mask [true, true, false] (mX12_sayerLine_J172 C  hR h)
      · have h := it_f hc h
        refine V_aload_n (pc := 131) C dX12_sayerLine_131 rfl rfl ?_
        refine V_getF (p1 := 4) (pc := 132) C z1_mW_12 fl_RX12_23 rfl (zf_mW_12_16 z1_mW_12) dX12_sayerLine_132 ?_
        refine V_bipush (pc := 135) C dX12_sayerLine_135 kc_b_126 ?_
        refine V_iload_n (pc := 137) C dX12_sayerLine_137 rfl rfl ?_
        refine V_iadd (pc := 138) C dX12_sayerLine_138 ?_
        refine V_aload_n (pc := 139) C dX12_sayerLine_139 rfl rfl ?_
        refine V_bipush (pc := 140) C dX12_sayerLine_140 kc_b_50 ?_
        obtain ⟨r127, S128, er127, h⟩ := b2_some h
        refine V_callV (As := [.int (50 : Int32)]) (pc := 142) C (mX12_signed _ er127) zm_X12_signed zi_X12_signed ml_RX12_266 z1_mW_12 rfl ⟨Nat.le_of_ble_eq_true rfl, Nat.le_of_ble_eq_true rfl⟩ rfl rfl (Nat.le_of_ble_eq_true rfl) dX12_sayerLine_142 ?_
        show V K 145 [some (.ref 0), some (.int v1), some (.int s0)] [.int r127, .int ((126 : Int32) + v1), .ref 4] S128
        obtain ⟨k129, h⟩ := ck_some h
        refine V_iast (pc := 145) C (za_mW_12_16 z1_mW_12) k129 dX12_sayerLine_145 ?_
        exact V_mask [true, true, false] (mX12_sayerLine_J146 C  hR h)
    · have h := it_f hc h
      cases h
      exact hR 98 _ rfl dX12_sayerLine_98
  · have h := it_t hc h
    refine V_iload_n (pc := 65) C dX12_sayerLine_65 rfl rfl ?_
    refine V_if_lt (tgt := 82) (pc := 66) C dX12_sayerLine_66 (by decide) (fun hc => ?_) (fun hc => ?_)
    · have h := it_t hc h
      refine V_aload_n (pc := 82) C dX12_sayerLine_82 rfl rfl ?_
      refine V_iconst (pc := 83) C dX12_sayerLine_83 kc_i_2 ?_
      refine V_aload_n (pc := 84) C dX12_sayerLine_84 rfl rfl ?_
      refine V_getI (pc := 85) C z1_mW_12 fl_RX12_124 (by decide) dX12_sayerLine_85 ?_
      obtain ⟨S163, euS163, h⟩ := b1_some h
      refine V_callV (As := [.int (2 : Int32), .int (gI S 0 4)]) (pc := 88) C (mX12_wrong _ euS163) zm_X12_wrong zi_X12_wrong ml_RX12_170 z1_mW_12 rfl ⟨Nat.le_of_ble_eq_true rfl, Nat.le_of_ble_eq_true rfl⟩ rfl rfl (Nat.le_of_ble_eq_true rfl) dX12_sayerLine_88 ?_
      show V K 91 [some (.ref 0), some (.int v1), some (.int s0)] [] S163
      exact V_mask [true, true, true] (mX12_sayerLine_J91 C  hR h)
    · have h := it_f hc h
      refine V_aload_n (pc := 69) C dX12_sayerLine_69 rfl rfl ?_
      refine V_getF (p1 := 4) (pc := 70) C z1_mW_12 fl_RX12_23 rfl (zf_mW_12_16 z1_mW_12) dX12_sayerLine_70 ?_
      refine V_sipush (pc := 73) C dX12_sayerLine_73 kc_s_243 ?_
      refine V_iload_n (pc := 76) C dX12_sayerLine_76 rfl rfl ?_
      refine V_iadd (pc := 77) C dX12_sayerLine_77 ?_
      obtain ⟨k205, h⟩ := ck_some h
      refine V_iald (pc := 78) C (za_mW_12_16 z1_mW_12) k205 dX12_sayerLine_78 ?_
      refine V_if_eq (tgt := 91) (pc := 79) C dX12_sayerLine_79 (by decide) (fun hc => ?_) (fun hc => ?_)
      · have h := it_t hc h
        refine V_aload_n (pc := 91) C dX12_sayerLine_91 rfl rfl ?_
        refine V_getI (pc := 92) C z1_mW_12 fl_RX12_143 (by decide) dX12_sayerLine_92 ?_
        refine V_if_eq (tgt := 99) (pc := 95) C dX12_sayerLine_95 (by decide) (fun hc => ?_) (fun hc => ?_)
        · have h := it_t hc h
          refine V_aload_n (pc := 99) C dX12_sayerLine_99 rfl rfl ?_
          refine V_getF (p1 := 4) (pc := 100) C z1_mW_12 fl_RX12_23 rfl (zf_mW_12_16 z1_mW_12) dX12_sayerLine_100 ?_
          refine V_bipush (pc := 103) C dX12_sayerLine_103 kc_b_120 ?_
          refine V_iload_n (pc := 105) C dX12_sayerLine_105 rfl rfl ?_
          refine V_iadd (pc := 106) C dX12_sayerLine_106 ?_
          refine V_aload_n (pc := 107) C dX12_sayerLine_107 rfl rfl ?_
          refine V_getF (p1 := 4) (pc := 108) C z1_mW_12 fl_RX12_23 rfl (zf_mW_12_16 z1_mW_12) dX12_sayerLine_108 ?_
          refine V_sipush (pc := 111) C dX12_sayerLine_111 kc_s_263 ?_
          refine V_iload_n (pc := 114) C dX12_sayerLine_114 rfl rfl ?_
          refine V_iadd (pc := 115) C dX12_sayerLine_115 ?_
          obtain ⟨k206, h⟩ := ck_some h
          refine V_iald (pc := 116) C (za_mW_12_16 z1_mW_12) k206 dX12_sayerLine_116 ?_
          obtain ⟨k207, h⟩ := ck_some h
          refine V_iast (pc := 117) C (za_mW_12_16 z1_mW_12) k207 dX12_sayerLine_117 ?_
          refine V_aload_n (pc := 118) C dX12_sayerLine_118 rfl rfl ?_
          obtain ⟨S209, euS209, h⟩ := b1_some h
          refine V_callV (As := []) (pc := 119) C (mX12_next _ euS209) zm_X12_next zi_X12_next ml_RX12_164 z1_mW_12 rfl ⟨Nat.le_of_ble_eq_true rfl, Nat.le_of_ble_eq_true rfl⟩ rfl rfl (Nat.le_of_ble_eq_true rfl) dX12_sayerLine_119 ?_
          show V K 122 [some (.ref 0), some (.int v1), some (.int s0)] [] S209
          refine V_aload_n (pc := 122) C dX12_sayerLine_122 rfl rfl ?_
          refine V_ldcS (j := 35) (pc := 123) C dX12_sayerLine_123 rfl ?_
          obtain ⟨r210, S211, er210, h⟩ := b2_some h
          refine V_callV (As := [.ref 10006]) (pc := 125) C (mX12_takes _ zq_6 er210) zm_X12_takes zi_X12_takes ml_RX12_167 z1_mW_12 rfl ⟨Nat.le_of_ble_eq_true rfl, Nat.le_of_ble_eq_true rfl⟩ rfl rfl (Nat.le_of_ble_eq_true rfl) dX12_sayerLine_125 ?_
          show V K 128 [some (.ref 0), some (.int v1), some (.int s0)] [.int r210] S211
          refine V_if_eq (tgt := 146) (pc := 128) C dX12_sayerLine_128 (by decide) (fun hc => ?_) (fun hc => ?_)
          · have h := it_t hc h
            refine V_aload_n (pc := 146) C dX12_sayerLine_146 rfl rfl ?_
            refine V_ldcwS (j := 45) (pc := 147) C dX12_sayerLine_147 rfl ?_
            obtain ⟨r212, S213, er212, h⟩ := b2_some h
            refine V_callV (As := [.ref 10016]) (pc := 150) C (mX12_takes _ zq_16 er212) zm_X12_takes zi_X12_takes ml_RX12_167 z1_mW_12 rfl ⟨Nat.le_of_ble_eq_true rfl, Nat.le_of_ble_eq_true rfl⟩ rfl rfl (Nat.le_of_ble_eq_true rfl) dX12_sayerLine_150 ?_
            show V K 153 [some (.ref 0), some (.int v1), some (.int s0)] [.int r212] S213
            refine V_if_eq (tgt := 172) (pc := 153) C dX12_sayerLine_153 (by decide) (fun hc => ?_) (fun hc => ?_)
            · have h := it_t hc h
              refine V_aload_n (pc := 172) C dX12_sayerLine_172 rfl rfl ?_
              refine V_ldcwS (j := 46) (pc := 173) C dX12_sayerLine_173 rfl ?_
              obtain ⟨r214, S215, er214, h⟩ := b2_some h
              refine V_callV (As := [.ref 10017]) (pc := 176) C (mX12_takes _ zq_17 er214) zm_X12_takes zi_X12_takes ml_RX12_167 z1_mW_12 rfl ⟨Nat.le_of_ble_eq_true rfl, Nat.le_of_ble_eq_true rfl⟩ rfl rfl (Nat.le_of_ble_eq_true rfl) dX12_sayerLine_176 ?_
              show V K 179 [some (.ref 0), some (.int v1), some (.int s0)] [.int r214] S215
              refine V_if_eq (tgt := 199) (pc := 179) C dX12_sayerLine_179 (by decide) (fun hc => ?_) (fun hc => ?_)
              · have h := it_t hc h
                refine V_aload_n (pc := 199) C dX12_sayerLine_199 rfl rfl ?_
                refine V_ldcwS (j := 47) (pc := 200) C dX12_sayerLine_200 rfl ?_
                obtain ⟨r216, S217, er216, h⟩ := b2_some h
                refine V_callV (As := [.ref 10018]) (pc := 203) C (mX12_takes _ zq_18 er216) zm_X12_takes zi_X12_takes ml_RX12_167 z1_mW_12 rfl ⟨Nat.le_of_ble_eq_true rfl, Nat.le_of_ble_eq_true rfl⟩ rfl rfl (Nat.le_of_ble_eq_true rfl) dX12_sayerLine_203 ?_
                show V K 206 [some (.ref 0), some (.int v1), some (.int s0)] [.int r216] S217
                refine V_if_eq (tgt := 226) (pc := 206) C dX12_sayerLine_206 (by decide) (fun hc => ?_) (fun hc => ?_)
                · have h := it_t hc h
                  refine V_aload_n (pc := 226) C dX12_sayerLine_226 rfl rfl ?_
                  refine V_ldcS (j := 40) (pc := 227) C dX12_sayerLine_227 rfl ?_
                  obtain ⟨r218, S219, er218, h⟩ := b2_some h
                  refine V_callV (As := [.ref 10011]) (pc := 229) C (mX12_takes _ zq_11 er218) zm_X12_takes zi_X12_takes ml_RX12_167 z1_mW_12 rfl ⟨Nat.le_of_ble_eq_true rfl, Nat.le_of_ble_eq_true rfl⟩ rfl rfl (Nat.le_of_ble_eq_true rfl) dX12_sayerLine_229 ?_
                  show V K 232 [some (.ref 0), some (.int v1), some (.int s0)] [.int r218] S219
                  refine V_if_eq (tgt := 246) (pc := 232) C dX12_sayerLine_232 (by decide) (fun hc => ?_) (fun hc => ?_)
                  · have h := it_t hc h
                    refine V_aload_n (pc := 246) C dX12_sayerLine_246 rfl rfl ?_
                    refine V_ldcS (j := 39) (pc := 247) C dX12_sayerLine_247 rfl ?_
                    obtain ⟨r220, S221, er220, h⟩ := b2_some h
                    refine V_callV (As := [.ref 10010]) (pc := 249) C (mX12_takes _ zq_10 er220) zm_X12_takes zi_X12_takes ml_RX12_167 z1_mW_12 rfl ⟨Nat.le_of_ble_eq_true rfl, Nat.le_of_ble_eq_true rfl⟩ rfl rfl (Nat.le_of_ble_eq_true rfl) dX12_sayerLine_249 ?_
                    show V K 252 [some (.ref 0), some (.int v1), some (.int s0)] [.int r220] S221
                    refine V_if_eq (tgt := 288) (pc := 252) C dX12_sayerLine_252 (by decide) (fun hc => ?_) (fun hc => ?_)
                    · have h := it_t hc h
                      refine V_aload_n (pc := 288) C dX12_sayerLine_288 rfl rfl ?_
                      refine V_getF (p1 := 4) (pc := 289) C z1_mW_12 fl_RX12_23 rfl (zf_mW_12_16 z1_mW_12) dX12_sayerLine_289 ?_
                      refine V_sipush (pc := 292) C dX12_sayerLine_292 kc_s_239 ?_
                      refine V_dup2 (pc := 295) C dX12_sayerLine_295 rfl rfl ?_
                      obtain ⟨k222, h⟩ := ck_some h
                      refine V_iald (pc := 296) C (za_mW_12_16 z1_mW_12) k222 dX12_sayerLine_296 ?_
                      refine V_iconst (pc := 297) C dX12_sayerLine_297 kc_i_1 ?_
                      refine V_iadd (pc := 298) C dX12_sayerLine_298 ?_
                      obtain ⟨k223, h⟩ := ck_some h
                      refine V_iast (pc := 299) C (za_mW_12_16 z1_mW_12) k223 dX12_sayerLine_299 ?_
                      cases h
                      exact hR 300 _ rfl dX12_sayerLine_300
                    · have h := it_f hc h
                      refine V_aload_n (pc := 255) C dX12_sayerLine_255 rfl rfl ?_
                      refine V_iload_n (pc := 256) C dX12_sayerLine_256 rfl rfl ?_
                      obtain ⟨S225, euS225, h⟩ := b1_some h
                      refine V_callV (As := [.int v1]) (pc := 257) C (mX12_liked _ euS225) zm_X12_liked zi_X12_liked ml_RX12_275 z1_mW_12 rfl ⟨Nat.le_of_ble_eq_true rfl, Nat.le_of_ble_eq_true rfl⟩ rfl rfl (Nat.le_of_ble_eq_true rfl) dX12_sayerLine_257 ?_
                      show V K 260 [some (.ref 0), some (.int v1), some (.int s0)] [] S225
                      exact V_mask [true, true, false] (mX12_sayerLine_L260 C  FU _ _ h hR)
                  · have h := it_f hc h
                    refine V_aload_n (pc := 235) C dX12_sayerLine_235 rfl rfl ?_
                    refine V_getF (p1 := 4) (pc := 236) C z1_mW_12 fl_RX12_23 rfl (zf_mW_12_16 z1_mW_12) dX12_sayerLine_236 ?_
                    refine V_sipush (pc := 239) C dX12_sayerLine_239 kc_s_150 ?_
                    refine V_iload_n (pc := 242) C dX12_sayerLine_242 rfl rfl ?_
                    refine V_iadd (pc := 243) C dX12_sayerLine_243 ?_
                    refine V_iconst (pc := 244) C dX12_sayerLine_244 kc_i_1 ?_
                    obtain ⟨k234, h⟩ := ck_some h
                    refine V_iast (pc := 245) C (za_mW_12_16 z1_mW_12) k234 dX12_sayerLine_245 ?_
                    exact V_mask [true, true, false] (mX12_sayerLine_J246 C  hR h)
                · have h := it_f hc h
                  refine V_aload_n (pc := 209) C dX12_sayerLine_209 rfl rfl ?_
                  refine V_getF (p1 := 4) (pc := 210) C z1_mW_12 fl_RX12_23 rfl (zf_mW_12_16 z1_mW_12) dX12_sayerLine_210 ?_
                  refine V_sipush (pc := 213) C dX12_sayerLine_213 kc_s_144 ?_
                  refine V_iload_n (pc := 216) C dX12_sayerLine_216 rfl rfl ?_
                  refine V_iadd (pc := 217) C dX12_sayerLine_217 ?_
                  refine V_aload_n (pc := 218) C dX12_sayerLine_218 rfl rfl ?_
                  refine V_iconst (pc := 219) C dX12_sayerLine_219 kc_i_1 ?_
                  refine V_bipush (pc := 220) C dX12_sayerLine_220 kc_b_99 ?_
                  obtain ⟨r235, S236, er235, h⟩ := b2_some h
                  refine V_callV (As := [.int (1 : Int32), .int (99 : Int32)]) (pc := 222) C (mX12_number _ er235) zm_X12_number zi_X12_number ml_RX12_207 z1_mW_12 rfl ⟨Nat.le_of_ble_eq_true rfl, Nat.le_of_ble_eq_true rfl⟩ rfl rfl (Nat.le_of_ble_eq_true rfl) dX12_sayerLine_222 ?_
                  show V K 225 [some (.ref 0), some (.int v1), some (.int s0)] [.int r235, .int ((144 : Int32) + v1), .ref 4] S236
                  obtain ⟨k237, h⟩ := ck_some h
                  refine V_iast (pc := 225) C (za_mW_12_16 z1_mW_12) k237 dX12_sayerLine_225 ?_
                  exact V_mask [true, true, false] (mX12_sayerLine_J226 C  hR h)
              · have h := it_f hc h
                refine V_aload_n (pc := 182) C dX12_sayerLine_182 rfl rfl ?_
                refine V_getF (p1 := 4) (pc := 183) C z1_mW_12 fl_RX12_23 rfl (zf_mW_12_16 z1_mW_12) dX12_sayerLine_183 ?_
                refine V_sipush (pc := 186) C dX12_sayerLine_186 kc_s_138 ?_
                refine V_iload_n (pc := 189) C dX12_sayerLine_189 rfl rfl ?_
                refine V_iadd (pc := 190) C dX12_sayerLine_190 ?_
                refine V_aload_n (pc := 191) C dX12_sayerLine_191 rfl rfl ?_
                refine V_iconst (pc := 192) C dX12_sayerLine_192 kc_i_1 ?_
                refine V_bipush (pc := 193) C dX12_sayerLine_193 kc_b_99 ?_
                obtain ⟨r238, S239, er238, h⟩ := b2_some h
                refine V_callV (As := [.int (1 : Int32), .int (99 : Int32)]) (pc := 195) C (mX12_number _ er238) zm_X12_number zi_X12_number ml_RX12_207 z1_mW_12 rfl ⟨Nat.le_of_ble_eq_true rfl, Nat.le_of_ble_eq_true rfl⟩ rfl rfl (Nat.le_of_ble_eq_true rfl) dX12_sayerLine_195 ?_
                show V K 198 [some (.ref 0), some (.int v1), some (.int s0)] [.int r238, .int ((138 : Int32) + v1), .ref 4] S239
                obtain ⟨k240, h⟩ := ck_some h
                refine V_iast (pc := 198) C (za_mW_12_16 z1_mW_12) k240 dX12_sayerLine_198 ?_
                exact V_mask [true, true, false] (mX12_sayerLine_J199 C  hR h)
            · have h := it_f hc h
              refine V_aload_n (pc := 156) C dX12_sayerLine_156 rfl rfl ?_
              refine V_getF (p1 := 4) (pc := 157) C z1_mW_12 fl_RX12_23 rfl (zf_mW_12_16 z1_mW_12) dX12_sayerLine_157 ?_
              refine V_sipush (pc := 160) C dX12_sayerLine_160 kc_s_132 ?_
              refine V_iload_n (pc := 163) C dX12_sayerLine_163 rfl rfl ?_
              refine V_iadd (pc := 164) C dX12_sayerLine_164 ?_
              refine V_aload_n (pc := 165) C dX12_sayerLine_165 rfl rfl ?_
              refine V_bipush (pc := 166) C dX12_sayerLine_166 kc_b_50 ?_
              obtain ⟨r241, S242, er241, h⟩ := b2_some h
              refine V_callV (As := [.int (50 : Int32)]) (pc := 168) C (mX12_signed _ er241) zm_X12_signed zi_X12_signed ml_RX12_266 z1_mW_12 rfl ⟨Nat.le_of_ble_eq_true rfl, Nat.le_of_ble_eq_true rfl⟩ rfl rfl (Nat.le_of_ble_eq_true rfl) dX12_sayerLine_168 ?_
              show V K 171 [some (.ref 0), some (.int v1), some (.int s0)] [.int r241, .int ((132 : Int32) + v1), .ref 4] S242
              obtain ⟨k243, h⟩ := ck_some h
              refine V_iast (pc := 171) C (za_mW_12_16 z1_mW_12) k243 dX12_sayerLine_171 ?_
              exact V_mask [true, true, false] (mX12_sayerLine_J172 C  hR h)
          · have h := it_f hc h
            refine V_aload_n (pc := 131) C dX12_sayerLine_131 rfl rfl ?_
            refine V_getF (p1 := 4) (pc := 132) C z1_mW_12 fl_RX12_23 rfl (zf_mW_12_16 z1_mW_12) dX12_sayerLine_132 ?_
            refine V_bipush (pc := 135) C dX12_sayerLine_135 kc_b_126 ?_
            refine V_iload_n (pc := 137) C dX12_sayerLine_137 rfl rfl ?_
            refine V_iadd (pc := 138) C dX12_sayerLine_138 ?_
            refine V_aload_n (pc := 139) C dX12_sayerLine_139 rfl rfl ?_
            refine V_bipush (pc := 140) C dX12_sayerLine_140 kc_b_50 ?_
            obtain ⟨r244, S245, er244, h⟩ := b2_some h
            refine V_callV (As := [.int (50 : Int32)]) (pc := 142) C (mX12_signed _ er244) zm_X12_signed zi_X12_signed ml_RX12_266 z1_mW_12 rfl ⟨Nat.le_of_ble_eq_true rfl, Nat.le_of_ble_eq_true rfl⟩ rfl rfl (Nat.le_of_ble_eq_true rfl) dX12_sayerLine_142 ?_
            show V K 145 [some (.ref 0), some (.int v1), some (.int s0)] [.int r244, .int ((126 : Int32) + v1), .ref 4] S245
            obtain ⟨k246, h⟩ := ck_some h
            refine V_iast (pc := 145) C (za_mW_12_16 z1_mW_12) k246 dX12_sayerLine_145 ?_
            exact V_mask [true, true, false] (mX12_sayerLine_J146 C  hR h)
        · have h := it_f hc h
          cases h
          exact hR 98 _ rfl dX12_sayerLine_98
      · have h := it_f hc h
        refine V_aload_n (pc := 82) C dX12_sayerLine_82 rfl rfl ?_
        refine V_iconst (pc := 83) C dX12_sayerLine_83 kc_i_2 ?_
        refine V_aload_n (pc := 84) C dX12_sayerLine_84 rfl rfl ?_
        refine V_getI (pc := 85) C z1_mW_12 fl_RX12_124 (by decide) dX12_sayerLine_85 ?_
        obtain ⟨S248, euS248, h⟩ := b1_some h
        refine V_callV (As := [.int (2 : Int32), .int (gI S 0 4)]) (pc := 88) C (mX12_wrong _ euS248) zm_X12_wrong zi_X12_wrong ml_RX12_170 z1_mW_12 rfl ⟨Nat.le_of_ble_eq_true rfl, Nat.le_of_ble_eq_true rfl⟩ rfl rfl (Nat.le_of_ble_eq_true rfl) dX12_sayerLine_88 ?_
        show V K 91 [some (.ref 0), some (.int v1), some (.int s0)] [] S248
        exact V_mask [true, true, true] (mX12_sayerLine_J91 C  hR h)
set_option maxRecDepth 100000 in
theorem mX12_sayerLine (l : Launch) {S : zM}  {S' : zM}  (h : gX12_sayerLine S = some S') : zMet l mW zS0 yX12_sayerLine cX12_sayerLine 3 (none) 9 239 [.ref 0] S none S' := by
  refine zmeth (by decide +kernel) (by rfl) (fun K hKl C hR => ?_)
  show V K 0 [some (.ref 0), none, none] [] S
  unfold gX12_sayerLine at h
  refine V_aload_n (pc := 0) C dX12_sayerLine_0 rfl rfl ?_
  refine V_getI (pc := 1) C z1_mW_12 fl_RX12_143 (by decide) dX12_sayerLine_1 ?_
  refine V_if_eq (tgt := 8) (pc := 4) C dX12_sayerLine_4 (by decide) (fun hc => ?_) (fun hc => ?_)
  · have h := it_t hc h
    refine V_aload_n (pc := 8) C dX12_sayerLine_8 rfl rfl ?_
    refine V_getF (p1 := 4) (pc := 9) C z1_mW_12 fl_RX12_23 rfl (zf_mW_12_16 z1_mW_12) dX12_sayerLine_9 ?_
    refine V_sipush (pc := 12) C dX12_sayerLine_12 kc_s_239 ?_
    obtain ⟨k1, h⟩ := ck_some h
    refine V_iald (pc := 15) C (za_mW_12_16 z1_mW_12) k1 dX12_sayerLine_15 ?_
    refine V_istore_n (L' := [some (.ref 0), some (.int (gI S 4 (ix (239 : Int32)))), none]) (pc := 16) C dX12_sayerLine_16 rfl (by decide) rfl ?_
    refine V_aload_n (pc := 17) C dX12_sayerLine_17 rfl rfl ?_
    refine V_iconst (pc := 18) C dX12_sayerLine_18 kc_i_1 ?_
    refine V_iload_n (pc := 19) C dX12_sayerLine_19 rfl rfl ?_
    obtain ⟨S3, euS3, h⟩ := b1_some h
    refine V_callV (As := [.int (1 : Int32), .int (gI S 4 (ix (239 : Int32)))]) (pc := 20) C (mX12_newName _ euS3) zm_X12_newName zi_X12_newName ml_RX12_253 z1_mW_12 rfl ⟨Nat.le_of_ble_eq_true rfl, Nat.le_of_ble_eq_true rfl⟩ rfl rfl (Nat.le_of_ble_eq_true rfl) dX12_sayerLine_20 ?_
    show V K 23 [some (.ref 0), some (.int (gI S 4 (ix (239 : Int32)))), none] [] S3
    refine V_aload_n (pc := 23) C dX12_sayerLine_23 rfl rfl ?_
    refine V_ldcwS (j := 44) (pc := 24) C dX12_sayerLine_24 rfl ?_
    obtain ⟨S5, euS5, h⟩ := b1_some h
    refine V_callV (As := [.ref 10015]) (pc := 27) C (mX12_must _ zq_15 euS5) zm_X12_must zi_X12_must ml_RX12_260 z1_mW_12 rfl ⟨Nat.le_of_ble_eq_true rfl, Nat.le_of_ble_eq_true rfl⟩ rfl rfl (Nat.le_of_ble_eq_true rfl) dX12_sayerLine_27 ?_
    show V K 30 [some (.ref 0), some (.int (gI S 4 (ix (239 : Int32)))), none] [] S5
    refine V_aload_n (pc := 30) C dX12_sayerLine_30 rfl rfl ?_
    refine V_getI (pc := 31) C z1_mW_12 fl_RX12_143 (by decide) dX12_sayerLine_31 ?_
    refine V_if_eq (tgt := 38) (pc := 34) C dX12_sayerLine_34 (by decide) (fun hc => ?_) (fun hc => ?_)
    · have h := it_t hc h
      refine V_aload_n (pc := 38) C dX12_sayerLine_38 rfl rfl ?_
      obtain ⟨S7, euS7, h⟩ := b1_some h
      refine V_callV (As := []) (pc := 39) C (mX12_mustName _ euS7) zm_X12_mustName zi_X12_mustName ml_RX12_197 z1_mW_12 rfl ⟨Nat.le_of_ble_eq_true rfl, Nat.le_of_ble_eq_true rfl⟩ rfl rfl (Nat.le_of_ble_eq_true rfl) dX12_sayerLine_39 ?_
      show V K 42 [some (.ref 0), some (.int (gI S 4 (ix (239 : Int32)))), none] [] S7
      refine V_aload_n (pc := 42) C dX12_sayerLine_42 rfl rfl ?_
      refine V_getI (pc := 43) C z1_mW_12 fl_RX12_143 (by decide) dX12_sayerLine_43 ?_
      refine V_if_eq (tgt := 53) (pc := 46) C dX12_sayerLine_46 (by decide) (fun hc => ?_) (fun hc => ?_)
      · have h := it_t hc h
        refine V_aload_n (pc := 53) C dX12_sayerLine_53 rfl rfl ?_
        obtain ⟨r8, er8, h⟩ := b1_some h
        refine V_callV (As := []) (pc := 54) C (mX12_find _ er8) zm_X12_find zi_X12_find ml_RX12_200 z1_mW_12 rfl ⟨Nat.le_of_ble_eq_true rfl, Nat.le_of_ble_eq_true rfl⟩ rfl rfl (Nat.le_of_ble_eq_true rfl) dX12_sayerLine_54 ?_
        show V K 57 [some (.ref 0), some (.int (gI S 4 (ix (239 : Int32)))), none] [.int r8] S7
        exact V_mask [true, true, false] (mX12_sayerLine_J57 C  hR h)
      · have h := it_f hc h
        refine V_iconst (pc := 49) C dX12_sayerLine_49 kc_i_m1 ?_
        refine V_goto (tgt := 57) (pc := 50) C dX12_sayerLine_50 (by decide) ?_
        exact V_mask [true, true, false] (mX12_sayerLine_J57 C  hR h)
    · have h := it_f hc h
      cases h
      exact hR 37 _ rfl dX12_sayerLine_37
  · have h := it_f hc h
    cases h
    exact hR 7 _ rfl dX12_sayerLine_7
