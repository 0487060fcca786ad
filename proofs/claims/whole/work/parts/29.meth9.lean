set_option maxRecDepth 100000 in
theorem mX12_planLine_J280 {K : zK} (C : zC K cX12_planLine yX12_planLine.cls 4 9 239 mW) {S : zM}  {S' : zM}  (hR : zR K cX12_planLine (none) S' none) (h : gX12_planLine_J280 S = some S') : V K 280 [some (.ref 0), none, none, none] [] S := by
  unfold gX12_planLine_J280 at h
  refine V_aload_n (pc := 280) C dX12_planLine_280 rfl rfl ?_
  refine V_getF (p1 := 4) (pc := 281) C z1_mW_12 fl_RX12_23 rfl (zf_mW_12_16 z1_mW_12) dX12_planLine_281 ?_
  refine V_sipush (pc := 284) C dX12_planLine_284 kc_s_240 ?_
  refine V_dup2 (pc := 287) C dX12_planLine_287 rfl rfl ?_
  obtain ⟨k42, h⟩ := ck_some h
  refine V_iald (pc := 288) C (za_mW_12_16 z1_mW_12) k42 dX12_planLine_288 ?_
  refine V_iconst (pc := 289) C dX12_planLine_289 kc_i_1 ?_
  refine V_iadd (pc := 290) C dX12_planLine_290 ?_
  obtain ⟨k43, h⟩ := ck_some h
  refine V_iast (pc := 291) C (za_mW_12_16 z1_mW_12) k43 dX12_planLine_291 ?_
  cases h
  exact hR 292 _ rfl dX12_planLine_292
set_option maxRecDepth 100000 in
theorem mX12_planLine_J89 {K : zK} (C : zC K cX12_planLine yX12_planLine.cls 4 9 239 mW) {S : zM} {v1 : Int32} {v2 : Int32} {S' : zM}  (hR : zR K cX12_planLine (none) S' none) (h : gX12_planLine_J89 S v1 v2 = some S') : V K 89 [some (.ref 0), some (.int v1), some (.int v2), none] [] S := by
  unfold gX12_planLine_J89 at h
  refine V_aload_n (pc := 89) C dX12_planLine_89 rfl rfl ?_
  refine V_getI (pc := 90) C z1_mW_12 fl_RX12_143 (by decide) dX12_planLine_90 ?_
  refine V_if_eq (tgt := 97) (pc := 93) C dX12_planLine_93 (by decide) (fun hc => ?_) (fun hc => ?_)
  · have h := it_t hc h
    refine V_aload_n (pc := 97) C dX12_planLine_97 rfl rfl ?_
    obtain ⟨S47, euS47, h⟩ := b1_some h
    refine V_callV (As := []) (pc := 98) C (mX12_next _ euS47) zm_X12_next zi_X12_next ml_RX12_164 z1_mW_12 rfl ⟨Nat.le_of_ble_eq_true rfl, Nat.le_of_ble_eq_true rfl⟩ rfl rfl (Nat.le_of_ble_eq_true rfl) dX12_planLine_98 ?_
    show V K 101 [some (.ref 0), some (.int v1), some (.int v2), none] [] S47
    refine V_aload_n (pc := 101) C dX12_planLine_101 rfl rfl ?_
    refine V_getF (p1 := 4) (pc := 102) C z1_mW_12 fl_RX12_23 rfl (zf_mW_12_16 z1_mW_12) dX12_planLine_102 ?_
    refine V_sipush (pc := 105) C dX12_planLine_105 kc_s_198 ?_
    refine V_iload_n (pc := 108) C dX12_planLine_108 rfl rfl ?_
    refine V_iadd (pc := 109) C dX12_planLine_109 ?_
    refine V_iload_n (pc := 110) C dX12_planLine_110 rfl rfl ?_
    obtain ⟨k48, h⟩ := ck_some h
    refine V_iast (pc := 111) C (za_mW_12_16 z1_mW_12) k48 dX12_planLine_111 ?_
    refine V_aload_n (pc := 112) C dX12_planLine_112 rfl rfl ?_
    refine V_getF (p1 := 4) (pc := 113) C z1_mW_12 fl_RX12_23 rfl (zf_mW_12_16 z1_mW_12) dX12_planLine_113 ?_
    refine V_sipush (pc := 116) C dX12_planLine_116 kc_s_202 ?_
    refine V_iload_n (pc := 119) C dX12_planLine_119 rfl rfl ?_
    refine V_iadd (pc := 120) C dX12_planLine_120 ?_
    refine V_aload_n (pc := 121) C dX12_planLine_121 rfl rfl ?_
    refine V_iconst (pc := 122) C dX12_planLine_122 kc_i_1 ?_
    refine V_sipush (pc := 123) C dX12_planLine_123 kc_s_400 ?_
    obtain ⟨r49, S50, er49, h⟩ := b2_some h
    refine V_callV (As := [.int (1 : Int32), .int (400 : Int32)]) (pc := 126) C (mX12_number _ er49) zm_X12_number zi_X12_number ml_RX12_207 z1_mW_12 rfl ⟨Nat.le_of_ble_eq_true rfl, Nat.le_of_ble_eq_true rfl⟩ rfl rfl (Nat.le_of_ble_eq_true rfl) dX12_planLine_126 ?_
    show V K 129 [some (.ref 0), some (.int v1), some (.int v2), none] [.int r49, .int ((202 : Int32) + v1), .ref 4] S50
    obtain ⟨k51, h⟩ := ck_some h
    refine V_iast (pc := 129) C (za_mW_12_16 z1_mW_12) k51 dX12_planLine_129 ?_
    refine V_aload_n (pc := 130) C dX12_planLine_130 rfl rfl ?_
    refine V_ldcS (j := 37) (pc := 131) C dX12_planLine_131 rfl ?_
    obtain ⟨S53, euS53, h⟩ := b1_some h
    refine V_callV (As := [.ref 10008]) (pc := 133) C (mX12_must _ zq_8 euS53) zm_X12_must zi_X12_must ml_RX12_260 z1_mW_12 rfl ⟨Nat.le_of_ble_eq_true rfl, Nat.le_of_ble_eq_true rfl⟩ rfl rfl (Nat.le_of_ble_eq_true rfl) dX12_planLine_133 ?_
    show V K 136 [some (.ref 0), some (.int v1), some (.int v2), none] [] S53
    refine V_aload_n (pc := 136) C dX12_planLine_136 rfl rfl ?_
    refine V_getF (p1 := 4) (pc := 137) C z1_mW_12 fl_RX12_23 rfl (zf_mW_12_16 z1_mW_12) dX12_planLine_137 ?_
    refine V_sipush (pc := 140) C dX12_planLine_140 kc_s_206 ?_
    refine V_iload_n (pc := 143) C dX12_planLine_143 rfl rfl ?_
    refine V_iadd (pc := 144) C dX12_planLine_144 ?_
    refine V_aload_n (pc := 145) C dX12_planLine_145 rfl rfl ?_
    refine V_aload_n (pc := 146) C dX12_planLine_146 rfl rfl ?_
    refine V_getF (p1 := 4) (pc := 147) C z1_mW_12 fl_RX12_23 rfl (zf_mW_12_16 z1_mW_12) dX12_planLine_147 ?_
    refine V_sipush (pc := 150) C dX12_planLine_150 kc_s_202 ?_
    refine V_iload_n (pc := 153) C dX12_planLine_153 rfl rfl ?_
    refine V_iadd (pc := 154) C dX12_planLine_154 ?_
    obtain ⟨k54, h⟩ := ck_some h
    refine V_iald (pc := 155) C (za_mW_12_16 z1_mW_12) k54 dX12_planLine_155 ?_
    refine V_sipush (pc := 156) C dX12_planLine_156 kc_s_400 ?_
    obtain ⟨r55, S56, er55, h⟩ := b2_some h
    refine V_callV (As := [.int (gI S53 4 (ix ((202 : Int32) + v1))), .int (400 : Int32)]) (pc := 159) C (mX12_number _ er55) zm_X12_number zi_X12_number ml_RX12_207 z1_mW_12 rfl ⟨Nat.le_of_ble_eq_true rfl, Nat.le_of_ble_eq_true rfl⟩ rfl rfl (Nat.le_of_ble_eq_true rfl) dX12_planLine_159 ?_
    show V K 162 [some (.ref 0), some (.int v1), some (.int v2), none] [.int r55, .int ((206 : Int32) + v1), .ref 4] S56
    obtain ⟨k57, h⟩ := ck_some h
    refine V_iast (pc := 162) C (za_mW_12_16 z1_mW_12) k57 dX12_planLine_162 ?_
    refine V_aload_n (pc := 163) C dX12_planLine_163 rfl rfl ?_
    refine V_ldcS (j := 38) (pc := 164) C dX12_planLine_164 rfl ?_
    obtain ⟨S59, euS59, h⟩ := b1_some h
    refine V_callV (As := [.ref 10009]) (pc := 166) C (mX12_must _ zq_9 euS59) zm_X12_must zi_X12_must ml_RX12_260 z1_mW_12 rfl ⟨Nat.le_of_ble_eq_true rfl, Nat.le_of_ble_eq_true rfl⟩ rfl rfl (Nat.le_of_ble_eq_true rfl) dX12_planLine_166 ?_
    show V K 169 [some (.ref 0), some (.int v1), some (.int v2), none] [] S59
    refine V_aload_n (pc := 169) C dX12_planLine_169 rfl rfl ?_
    refine V_getF (p1 := 4) (pc := 170) C z1_mW_12 fl_RX12_23 rfl (zf_mW_12_16 z1_mW_12) dX12_planLine_170 ?_
    refine V_sipush (pc := 173) C dX12_planLine_173 kc_s_210 ?_
    refine V_iload_n (pc := 176) C dX12_planLine_176 rfl rfl ?_
    refine V_iadd (pc := 177) C dX12_planLine_177 ?_
    refine V_aload_n (pc := 178) C dX12_planLine_178 rfl rfl ?_
    refine V_iconst (pc := 179) C dX12_planLine_179 kc_i_1 ?_
    refine V_sipush (pc := 180) C dX12_planLine_180 kc_s_400 ?_
    obtain ⟨r60, S61, er60, h⟩ := b2_some h
    refine V_callV (As := [.int (1 : Int32), .int (400 : Int32)]) (pc := 183) C (mX12_number _ er60) zm_X12_number zi_X12_number ml_RX12_207 z1_mW_12 rfl ⟨Nat.le_of_ble_eq_true rfl, Nat.le_of_ble_eq_true rfl⟩ rfl rfl (Nat.le_of_ble_eq_true rfl) dX12_planLine_183 ?_
    show V K 186 [some (.ref 0), some (.int v1), some (.int v2), none] [.int r60, .int ((210 : Int32) + v1), .ref 4] S61
    obtain ⟨k62, h⟩ := ck_some h
    refine V_iast (pc := 186) C (za_mW_12_16 z1_mW_12) k62 dX12_planLine_186 ?_
    refine V_aload_n (pc := 187) C dX12_planLine_187 rfl rfl ?_
    refine V_ldcwS (j := 51) (pc := 188) C dX12_planLine_188 rfl ?_
    obtain ⟨S64, euS64, h⟩ := b1_some h
    refine V_callV (As := [.ref 10022]) (pc := 191) C (mX12_must _ zq_22 euS64) zm_X12_must zi_X12_must ml_RX12_260 z1_mW_12 rfl ⟨Nat.le_of_ble_eq_true rfl, Nat.le_of_ble_eq_true rfl⟩ rfl rfl (Nat.le_of_ble_eq_true rfl) dX12_planLine_191 ?_
    show V K 194 [some (.ref 0), some (.int v1), some (.int v2), none] [] S64
    refine V_aload_n (pc := 194) C dX12_planLine_194 rfl rfl ?_
    refine V_getI (pc := 195) C z1_mW_12 fl_RX12_124 (by decide) dX12_planLine_195 ?_
    refine V_istore_n (L' := [some (.ref 0), some (.int v1), some (.int v2), some (.int (gI S64 0 4))]) (pc := 198) C dX12_planLine_198 rfl (by decide) rfl ?_
    refine V_aload_n (pc := 199) C dX12_planLine_199 rfl rfl ?_
    refine V_getF (p1 := 4) (pc := 200) C z1_mW_12 fl_RX12_23 rfl (zf_mW_12_16 z1_mW_12) dX12_planLine_200 ?_
    refine V_sipush (pc := 203) C dX12_planLine_203 kc_s_214 ?_
    refine V_iload_n (pc := 206) C dX12_planLine_206 rfl rfl ?_
    refine V_iadd (pc := 207) C dX12_planLine_207 ?_
    refine V_aload_n (pc := 208) C dX12_planLine_208 rfl rfl ?_
    refine V_iconst (pc := 209) C dX12_planLine_209 kc_i_1 ?_
    refine V_bipush (pc := 210) C dX12_planLine_210 kc_b_20 ?_
    obtain ⟨r65, S66, er65, h⟩ := b2_some h
    refine V_callV (As := [.int (1 : Int32), .int (20 : Int32)]) (pc := 212) C (mX12_number _ er65) zm_X12_number zi_X12_number ml_RX12_207 z1_mW_12 rfl ⟨Nat.le_of_ble_eq_true rfl, Nat.le_of_ble_eq_true rfl⟩ rfl rfl (Nat.le_of_ble_eq_true rfl) dX12_planLine_212 ?_
    show V K 215 [some (.ref 0), some (.int v1), some (.int v2), some (.int (gI S64 0 4))] [.int r65, .int ((214 : Int32) + v1), .ref 4] S66
    obtain ⟨k67, h⟩ := ck_some h
    refine V_iast (pc := 215) C (za_mW_12_16 z1_mW_12) k67 dX12_planLine_215 ?_
    refine V_aload_n (pc := 216) C dX12_planLine_216 rfl rfl ?_
    refine V_getI (pc := 217) C z1_mW_12 fl_RX12_143 (by decide) dX12_planLine_217 ?_
    refine V_if_ne (tgt := 280) (pc := 220) C dX12_planLine_220 (by decide) (fun hc => ?_) (fun hc => ?_)
    · have h := it_f hc h
      refine V_aload_n (pc := 280) C dX12_planLine_280 rfl rfl ?_
      refine V_getF (p1 := 4) (pc := 281) C z1_mW_12 fl_RX12_23 rfl (zf_mW_12_16 z1_mW_12) dX12_planLine_281 ?_
      refine V_sipush (pc := 284) C dX12_planLine_284 kc_s_240 ?_
      refine V_dup2 (pc := 287) C dX12_planLine_287 rfl rfl ?_
      obtain ⟨k68, h⟩ := ck_some h
      refine V_iald (pc := 288) C (za_mW_12_16 z1_mW_12) k68 dX12_planLine_288 ?_
      refine V_iconst (pc := 289) C dX12_planLine_289 kc_i_1 ?_
      refine V_iadd (pc := 290) C dX12_planLine_290 ?_
      obtain ⟨k69, h⟩ := ck_some h
      refine V_iast (pc := 291) C (za_mW_12_16 z1_mW_12) k69 dX12_planLine_291 ?_
      obtain ⟨S70, eS70, h⟩ := lt_some h
      refine V_nmS eS70 ?_
      cases h
      exact hR 292 _ rfl dX12_planLine_292
    · have h := it_t hc h
      refine V_aload_n (pc := 223) C dX12_planLine_223 rfl rfl ?_
      refine V_getF (p1 := 4) (pc := 224) C z1_mW_12 fl_RX12_23 rfl (zf_mW_12_16 z1_mW_12) dX12_planLine_224 ?_
      refine V_sipush (pc := 227) C dX12_planLine_227 kc_s_206 ?_
      refine V_iload_n (pc := 230) C dX12_planLine_230 rfl rfl ?_
      refine V_iadd (pc := 231) C dX12_planLine_231 ?_
      obtain ⟨k71, h⟩ := ck_some h
      refine V_iald (pc := 232) C (za_mW_12_16 z1_mW_12) k71 dX12_planLine_232 ?_
      refine V_aload_n (pc := 233) C dX12_planLine_233 rfl rfl ?_
      refine V_getF (p1 := 4) (pc := 234) C z1_mW_12 fl_RX12_23 rfl (zf_mW_12_16 z1_mW_12) dX12_planLine_234 ?_
      refine V_sipush (pc := 237) C dX12_planLine_237 kc_s_202 ?_
      refine V_iload_n (pc := 240) C dX12_planLine_240 rfl rfl ?_
      refine V_iadd (pc := 241) C dX12_planLine_241 ?_
      obtain ⟨k72, h⟩ := ck_some h
      refine V_iald (pc := 242) C (za_mW_12_16 z1_mW_12) k72 dX12_planLine_242 ?_
      refine V_isub (pc := 243) C dX12_planLine_243 ?_
      refine V_aload_n (pc := 244) C dX12_planLine_244 rfl rfl ?_
      refine V_getF (p1 := 4) (pc := 245) C z1_mW_12 fl_RX12_23 rfl (zf_mW_12_16 z1_mW_12) dX12_planLine_245 ?_
      refine V_sipush (pc := 248) C dX12_planLine_248 kc_s_210 ?_
      refine V_iload_n (pc := 251) C dX12_planLine_251 rfl rfl ?_
      refine V_iadd (pc := 252) C dX12_planLine_252 ?_
      obtain ⟨k73, h⟩ := ck_some h
      refine V_iald (pc := 253) C (za_mW_12_16 z1_mW_12) k73 dX12_planLine_253 ?_
      obtain ⟨k74, h⟩ := ck_some h
      refine V_idiv (pc := 254) C dX12_planLine_254 (of_decide_eq_true k74) ?_
      refine V_iconst (pc := 255) C dX12_planLine_255 kc_i_1 ?_
      refine V_iadd (pc := 256) C dX12_planLine_256 ?_
      refine V_aload_n (pc := 257) C dX12_planLine_257 rfl rfl ?_
      refine V_getF (p1 := 4) (pc := 258) C z1_mW_12 fl_RX12_23 rfl (zf_mW_12_16 z1_mW_12) dX12_planLine_258 ?_
      refine V_sipush (pc := 261) C dX12_planLine_261 kc_s_214 ?_
      refine V_iload_n (pc := 264) C dX12_planLine_264 rfl rfl ?_
      refine V_iadd (pc := 265) C dX12_planLine_265 ?_
      obtain ⟨k75, h⟩ := ck_some h
      refine V_iald (pc := 266) C (za_mW_12_16 z1_mW_12) k75 dX12_planLine_266 ?_
      refine V_imul (pc := 267) C dX12_planLine_267 ?_
      refine V_sipush (pc := 268) C dX12_planLine_268 kc_s_200 ?_
      refine V_icmp_le (tgt := 280) (pc := 271) C dX12_planLine_271 (by decide) (fun hc => ?_) (fun hc => ?_)
      · have h := it_t hc h
        refine V_aload_n (pc := 280) C dX12_planLine_280 rfl rfl ?_
        refine V_getF (p1 := 4) (pc := 281) C z1_mW_12 fl_RX12_23 rfl (zf_mW_12_16 z1_mW_12) dX12_planLine_281 ?_
        refine V_sipush (pc := 284) C dX12_planLine_284 kc_s_240 ?_
        refine V_dup2 (pc := 287) C dX12_planLine_287 rfl rfl ?_
        obtain ⟨k76, h⟩ := ck_some h
        refine V_iald (pc := 288) C (za_mW_12_16 z1_mW_12) k76 dX12_planLine_288 ?_
        refine V_iconst (pc := 289) C dX12_planLine_289 kc_i_1 ?_
        refine V_iadd (pc := 290) C dX12_planLine_290 ?_
        obtain ⟨k77, h⟩ := ck_some h
        refine V_iast (pc := 291) C (za_mW_12_16 z1_mW_12) k77 dX12_planLine_291 ?_
        obtain ⟨S78, eS78, h⟩ := lt_some h
        refine V_nmS eS78 ?_
        cases h
        exact hR 292 _ rfl dX12_planLine_292
      · have h := it_f hc h
        refine V_aload_n (pc := 274) C dX12_planLine_274 rfl rfl ?_
        refine V_iconst (pc := 275) C dX12_planLine_275 kc_i_4 ?_
        refine V_iload_n (pc := 276) C dX12_planLine_276 rfl rfl ?_
        obtain ⟨S80, euS80, h⟩ := b1_some h
        refine V_callV (As := [.int (4 : Int32), .int (gI S64 0 4)]) (pc := 277) C (mX12_wrong _ euS80) zm_X12_wrong zi_X12_wrong ml_RX12_170 z1_mW_12 rfl ⟨Nat.le_of_ble_eq_true rfl, Nat.le_of_ble_eq_true rfl⟩ rfl rfl (Nat.le_of_ble_eq_true rfl) dX12_planLine_277 ?_
        show V K 280 [some (.ref 0), some (.int v1), some (.int v2), some (.int (gI S64 0 4))] [] S80
        exact V_mask [true, false, false, false] (mX12_planLine_J280 C  hR h)
  · have h := it_f hc h
    cases h
    exact hR 96 _ rfl dX12_planLine_96
set_option maxRecDepth 100000 in
theorem mX12_planLine_J74 {K : zK} (C : zC K cX12_planLine yX12_planLine.cls 4 9 239 mW) {S : zM} {v1 : Int32} {s0 : Int32} {S' : zM}  (hR : zR K cX12_planLine (none) S' none) (h : gX12_planLine_J74 S v1 s0 = some S') : V K 74 [some (.ref 0), some (.int v1), none, none] [.int s0] S := by
  unfold gX12_planLine_J74 at h
  refine V_istore_n (L' := [some (.ref 0), some (.int v1), some (.int s0), none]) (pc := 74) C dX12_planLine_74 rfl (by decide) rfl ?_
  refine V_iload_n (pc := 75) C dX12_planLine_75 rfl rfl ?_
  refine V_iconst (pc := 76) C dX12_planLine_76 kc_i_m1 ?_
  refine V_icmp_ne (tgt := 89) (pc := 77) C dX12_planLine_77 (by decide) (fun hc => ?_) (fun hc => ?_)
  · have h := it_f hc h
    refine V_aload_n (pc := 89) C dX12_planLine_89 rfl rfl ?_
    refine V_getI (pc := 90) C z1_mW_12 fl_RX12_143 (by decide) dX12_planLine_90 ?_
    refine V_if_eq (tgt := 97) (pc := 93) C dX12_planLine_93 (by decide) (fun hc => ?_) (fun hc => ?_)
    · have h := it_t hc h
      refine V_aload_n (pc := 97) C dX12_planLine_97 rfl rfl ?_
      obtain ⟨S8, euS8, h⟩ := b1_some h
      refine V_callV (As := []) (pc := 98) C (mX12_next _ euS8) zm_X12_next zi_X12_next ml_RX12_164 z1_mW_12 rfl ⟨Nat.le_of_ble_eq_true rfl, Nat.le_of_ble_eq_true rfl⟩ rfl rfl (Nat.le_of_ble_eq_true rfl) dX12_planLine_98 ?_
      show V K 101 [some (.ref 0), some (.int v1), some (.int s0), none] [] S8
      refine V_aload_n (pc := 101) C dX12_planLine_101 rfl rfl ?_
      refine V_getF (p1 := 4) (pc := 102) C z1_mW_12 fl_RX12_23 rfl (zf_mW_12_16 z1_mW_12) dX12_planLine_102 ?_
      refine V_sipush (pc := 105) C dX12_planLine_105 kc_s_198 ?_
      refine V_iload_n (pc := 108) C dX12_planLine_108 rfl rfl ?_
      refine V_iadd (pc := 109) C dX12_planLine_109 ?_
      refine V_iload_n (pc := 110) C dX12_planLine_110 rfl rfl ?_
      obtain ⟨k9, h⟩ := ck_some h
      refine V_iast (pc := 111) C (za_mW_12_16 z1_mW_12) k9 dX12_planLine_111 ?_
      refine V_aload_n (pc := 112) C dX12_planLine_112 rfl rfl ?_
      refine V_getF (p1 := 4) (pc := 113) C z1_mW_12 fl_RX12_23 rfl (zf_mW_12_16 z1_mW_12) dX12_planLine_113 ?_
      refine V_sipush (pc := 116) C dX12_planLine_116 kc_s_202 ?_
      refine V_iload_n (pc := 119) C dX12_planLine_119 rfl rfl ?_
      refine V_iadd (pc := 120) C dX12_planLine_120 ?_
      refine V_aload_n (pc := 121) C dX12_planLine_121 rfl rfl ?_
      refine V_iconst (pc := 122) C dX12_planLine_122 kc_i_1 ?_
      refine V_sipush (pc := 123) C dX12_planLine_123 kc_s_400 ?_
      obtain ⟨r10, S11, er10, h⟩ := b2_some h
      refine V_callV (As := [.int (1 : Int32), .int (400 : Int32)]) (pc := 126) C (mX12_number _ er10) zm_X12_number zi_X12_number ml_RX12_207 z1_mW_12 rfl ⟨Nat.le_of_ble_eq_true rfl, Nat.le_of_ble_eq_true rfl⟩ rfl rfl (Nat.le_of_ble_eq_true rfl) dX12_planLine_126 ?_
      show V K 129 [some (.ref 0), some (.int v1), some (.int s0), none] [.int r10, .int ((202 : Int32) + v1), .ref 4] S11
      obtain ⟨k12, h⟩ := ck_some h
      refine V_iast (pc := 129) C (za_mW_12_16 z1_mW_12) k12 dX12_planLine_129 ?_
      refine V_aload_n (pc := 130) C dX12_planLine_130 rfl rfl ?_
      refine V_ldcS (j := 37) (pc := 131) C dX12_planLine_131 rfl ?_
      obtain ⟨S14, euS14, h⟩ := b1_some h
      refine V_callV (As := [.ref 10008]) (pc := 133) C (mX12_must _ zq_8 euS14) zm_X12_must zi_X12_must ml_RX12_260 z1_mW_12 rfl ⟨Nat.le_of_ble_eq_true rfl, Nat.le_of_ble_eq_true rfl⟩ rfl rfl (Nat.le_of_ble_eq_true rfl) dX12_planLine_133 ?_
      show V K 136 [some (.ref 0), some (.int v1), some (.int s0), none] [] S14
      refine V_aload_n (pc := 136) C dX12_planLine_136 rfl rfl ?_
      refine V_getF (p1 := 4) (pc := 137) C z1_mW_12 fl_RX12_23 rfl (zf_mW_12_16 z1_mW_12) dX12_planLine_137 ?_
      refine V_sipush (pc := 140) C dX12_planLine_140 kc_s_206 ?_
      refine V_iload_n (pc := 143) C dX12_planLine_143 rfl rfl ?_
      refine V_iadd (pc := 144) C dX12_planLine_144 ?_
      refine V_aload_n (pc := 145) C dX12_planLine_145 rfl rfl ?_
      refine V_aload_n (pc := 146) C dX12_planLine_146 rfl rfl ?_
      refine V_getF (p1 := 4) (pc := 147) C z1_mW_12 fl_RX12_23 rfl (zf_mW_12_16 z1_mW_12) dX12_planLine_147 ?_
      refine V_sipush (pc := 150) C dX12_planLine_150 kc_s_202 ?_
      refine V_iload_n (pc := 153) C dX12_planLine_153 rfl rfl ?_
      refine V_iadd (pc := 154) C dX12_planLine_154 ?_
      obtain ⟨k15, h⟩ := ck_some h
      refine V_iald (pc := 155) C (za_mW_12_16 z1_mW_12) k15 dX12_planLine_155 ?_
      refine V_sipush (pc := 156) C dX12_planLine_156 kc_s_400 ?_
      obtain ⟨r16, S17, er16, h⟩ := b2_some h
      refine V_callV (As := [.int (gI S14 4 (ix ((202 : Int32) + v1))), .int (400 : Int32)]) (pc := 159) C (mX12_number _ er16) zm_X12_number zi_X12_number ml_RX12_207 z1_mW_12 rfl ⟨Nat.le_of_ble_eq_true rfl, Nat.le_of_ble_eq_true rfl⟩ rfl rfl (Nat.le_of_ble_eq_true rfl) dX12_planLine_159 ?_
      show V K 162 [some (.ref 0), some (.int v1), some (.int s0), none] [.int r16, .int ((206 : Int32) + v1), .ref 4] S17
      obtain ⟨k18, h⟩ := ck_some h
      refine V_iast (pc := 162) C (za_mW_12_16 z1_mW_12) k18 dX12_planLine_162 ?_
      refine V_aload_n (pc := 163) C dX12_planLine_163 rfl rfl ?_
      refine V_ldcS (j := 38) (pc := 164) C dX12_planLine_164 rfl ?_
      obtain ⟨S20, euS20, h⟩ := b1_some h
      refine V_callV (As := [.ref 10009]) (pc := 166) C (mX12_must _ zq_9 euS20) zm_X12_must zi_X12_must ml_RX12_260 z1_mW_12 rfl ⟨Nat.le_of_ble_eq_true rfl, Nat.le_of_ble_eq_true rfl⟩ rfl rfl (Nat.le_of_ble_eq_true rfl) dX12_planLine_166 ?_
      show V K 169 [some (.ref 0), some (.int v1), some (.int s0), none] [] S20
      refine V_aload_n (pc := 169) C dX12_planLine_169 rfl rfl ?_
      refine V_getF (p1 := 4) (pc := 170) C z1_mW_12 fl_RX12_23 rfl (zf_mW_12_16 z1_mW_12) dX12_planLine_170 ?_
      refine V_sipush (pc := 173) C dX12_planLine_173 kc_s_210 ?_
      refine V_iload_n (pc := 176) C dX12_planLine_176 rfl rfl ?_
      refine V_iadd (pc := 177) C dX12_planLine_177 ?_
      refine V_aload_n (pc := 178) C dX12_planLine_178 rfl rfl ?_
      refine V_iconst (pc := 179) C dX12_planLine_179 kc_i_1 ?_
      refine V_sipush (pc := 180) C dX12_planLine_180 kc_s_400 ?_
      obtain ⟨r21, S22, er21, h⟩ := b2_some h
      refine V_callV (As := [.int (1 : Int32), .int (400 : Int32)]) (pc := 183) C (mX12_number _ er21) zm_X12_number zi_X12_number ml_RX12_207 z1_mW_12 rfl ⟨Nat.le_of_ble_eq_true rfl, Nat.le_of_ble_eq_true rfl⟩ rfl rfl (Nat.le_of_ble_eq_true rfl) dX12_planLine_183 ?_
      show V K 186 [some (.ref 0), some (.int v1), some (.int s0), none] [.int r21, .int ((210 : Int32) + v1), .ref 4] S22
      obtain ⟨k23, h⟩ := ck_some h
      refine V_iast (pc := 186) C (za_mW_12_16 z1_mW_12) k23 dX12_planLine_186 ?_
      refine V_aload_n (pc := 187) C dX12_planLine_187 rfl rfl ?_
      refine V_ldcwS (j := 51) (pc := 188) C dX12_planLine_188 rfl ?_
      obtain ⟨S25, euS25, h⟩ := b1_some h
      refine V_callV (As := [.ref 10022]) (pc := 191) C (mX12_must _ zq_22 euS25) zm_X12_must zi_X12_must ml_RX12_260 z1_mW_12 rfl ⟨Nat.le_of_ble_eq_true rfl, Nat.le_of_ble_eq_true rfl⟩ rfl rfl (Nat.le_of_ble_eq_true rfl) dX12_planLine_191 ?_
      show V K 194 [some (.ref 0), some (.int v1), some (.int s0), none] [] S25
      refine V_aload_n (pc := 194) C dX12_planLine_194 rfl rfl ?_
      refine V_getI (pc := 195) C z1_mW_12 fl_RX12_124 (by decide) dX12_planLine_195 ?_
      refine V_istore_n (L' := [some (.ref 0), some (.int v1), some (.int s0), some (.int (gI S25 0 4))]) (pc := 198) C dX12_planLine_198 rfl (by decide) rfl ?_
      refine V_aload_n (pc := 199) C dX12_planLine_199 rfl rfl ?_
      refine V_getF (p1 := 4) (pc := 200) C z1_mW_12 fl_RX12_23 rfl (zf_mW_12_16 z1_mW_12) dX12_planLine_200 ?_
      refine V_sipush (pc := 203) C dX12_planLine_203 kc_s_214 ?_
      refine V_iload_n (pc := 206) C dX12_planLine_206 rfl rfl ?_
      refine V_iadd (pc := 207) C dX12_planLine_207 ?_
      refine V_aload_n (pc := 208) C dX12_planLine_208 rfl rfl ?_
      refine V_iconst (pc := 209) C dX12_planLine_209 kc_i_1 ?_
      refine V_bipush (pc := 210) C dX12_planLine_210 kc_b_20 ?_
      obtain ⟨r26, S27, er26, h⟩ := b2_some h
      refine V_callV (As := [.int (1 : Int32), .int (20 : Int32)]) (pc := 212) C (mX12_number _ er26) zm_X12_number zi_X12_number ml_RX12_207 z1_mW_12 rfl ⟨Nat.le_of_ble_eq_true rfl, Nat.le_of_ble_eq_true rfl⟩ rfl rfl (Nat.le_of_ble_eq_true rfl) dX12_planLine_212 ?_
      show V K 215 [some (.ref 0), some (.int v1), some (.int s0), some (.int (gI S25 0 4))] [.int r26, .int ((214 : Int32) + v1), .ref 4] S27
      obtain ⟨k28, h⟩ := ck_some h
      refine V_iast (pc := 215) C (za_mW_12_16 z1_mW_12) k28 dX12_planLine_215 ?_
      refine V_aload_n (pc := 216) C dX12_planLine_216 rfl rfl ?_
      refine V_getI (pc := 217) C z1_mW_12 fl_RX12_143 (by decide) dX12_planLine_217 ?_
      refine V_if_ne (tgt := 280) (pc := 220) C dX12_planLine_220 (by decide) (fun hc => ?_) (fun hc => ?_)
      · have h := it_f hc h
        refine V_aload_n (pc := 280) C dX12_planLine_280 rfl rfl ?_
        refine V_getF (p1 := 4) (pc := 281) C z1_mW_12 fl_RX12_23 rfl (zf_mW_12_16 z1_mW_12) dX12_planLine_281 ?_
        refine V_sipush (pc := 284) C dX12_planLine_284 kc_s_240 ?_
        refine V_dup2 (pc := 287) C dX12_planLine_287 rfl rfl ?_
        obtain ⟨k29, h⟩ := ck_some h
        refine V_iald (pc := 288) C (za_mW_12_16 z1_mW_12) k29 dX12_planLine_288 ?_
        refine V_iconst (pc := 289) C dX12_planLine_289 kc_i_1 ?_
        refine V_iadd (pc := 290) C dX12_planLine_290 ?_
        obtain ⟨k30, h⟩ := ck_some h
        refine V_iast (pc := 291) C (za_mW_12_16 z1_mW_12) k30 dX12_planLine_291 ?_
        obtain ⟨S31, eS31, h⟩ := lt_some h
        refine V_nmS eS31 ?_
        cases h
        exact hR 292 _ rfl dX12_planLine_292
      · have h := it_t hc h
        refine V_aload_n (pc := 223) C dX12_planLine_223 rfl rfl ?_
        refine V_getF (p1 := 4) (pc := 224) C z1_mW_12 fl_RX12_23 rfl (zf_mW_12_16 z1_mW_12) dX12_planLine_224 ?_
        refine V_sipush (pc := 227) C dX12_planLine_227 kc_s_206 ?_
        refine V_iload_n (pc := 230) C dX12_planLine_230 rfl rfl ?_
        refine V_iadd (pc := 231) C dX12_planLine_231 ?_
        obtain ⟨k32, h⟩ := ck_some h
        refine V_iald (pc := 232) C (za_mW_12_16 z1_mW_12) k32 dX12_planLine_232 ?_
        refine V_aload_n (pc := 233) C dX12_planLine_233 rfl rfl ?_
        refine V_getF (p1 := 4) (pc := 234) C z1_mW_12 fl_RX12_23 rfl (zf_mW_12_16 z1_mW_12) dX12_planLine_234 ?_
        refine V_sipush (pc := 237) C dX12_planLine_237 kc_s_202 ?_
        refine V_iload_n (pc := 240) C dX12_planLine_240 rfl rfl ?_
        refine V_iadd (pc := 241) C dX12_planLine_241 ?_
        obtain ⟨k33, h⟩ := ck_some h
        refine V_iald (pc := 242) C (za_mW_12_16 z1_mW_12) k33 dX12_planLine_242 ?_
        refine V_isub (pc := 243) C dX12_planLine_243 ?_
        refine V_aload_n (pc := 244) C dX12_planLine_244 rfl rfl ?_
        refine V_getF (p1 := 4) (pc := 245) C z1_mW_12 fl_RX12_23 rfl (zf_mW_12_16 z1_mW_12) dX12_planLine_245 ?_
        refine V_sipush (pc := 248) C dX12_planLine_248 kc_s_210 ?_
        refine V_iload_n (pc := 251) C dX12_planLine_251 rfl rfl ?_
        refine V_iadd (pc := 252) C dX12_planLine_252 ?_
        obtain ⟨k34, h⟩ := ck_some h
        refine V_iald (pc := 253) C (za_mW_12_16 z1_mW_12) k34 dX12_planLine_253 ?_
        obtain ⟨k35, h⟩ := ck_some h
        refine V_idiv (pc := 254) C dX12_planLine_254 (of_decide_eq_true k35) ?_
        refine V_iconst (pc := 255) C dX12_planLine_255 kc_i_1 ?_
        refine V_iadd (pc := 256) C dX12_planLine_256 ?_
        refine V_aload_n (pc := 257) C dX12_planLine_257 rfl rfl ?_
        refine V_getF (p1 := 4) (pc := 258) C z1_mW_12 fl_RX12_23 rfl (zf_mW_12_16 z1_mW_12) dX12_planLine_258 ?_
        refine V_sipush (pc := 261) C dX12_planLine_261 kc_s_214 ?_
        refine V_iload_n (pc := 264) C dX12_planLine_264 rfl rfl ?_
        refine V_iadd (pc := 265) C dX12_planLine_265 ?_
        obtain ⟨k36, h⟩ := ck_some h
        refine V_iald (pc := 266) C (za_mW_12_16 z1_mW_12) k36 dX12_planLine_266 ?_
        refine V_imul (pc := 267) C dX12_planLine_267 ?_
        refine V_sipush (pc := 268) C dX12_planLine_268 kc_s_200 ?_
        refine V_icmp_le (tgt := 280) (pc := 271) C dX12_planLine_271 (by decide) (fun hc => ?_) (fun hc => ?_)
        · have h := it_t hc h
          refine V_aload_n (pc := 280) C dX12_planLine_280 rfl rfl ?_
          refine V_getF (p1 := 4) (pc := 281) C z1_mW_12 fl_RX12_23 rfl (zf_mW_12_16 z1_mW_12) dX12_planLine_281 ?_
          refine V_sipush (pc := 284) C dX12_planLine_284 kc_s_240 ?_
          refine V_dup2 (pc := 287) C dX12_planLine_287 rfl rfl ?_
          obtain ⟨k37, h⟩ := ck_some h
          refine V_iald (pc := 288) C (za_mW_12_16 z1_mW_12) k37 dX12_planLine_288 ?_
          refine V_iconst (pc := 289) C dX12_planLine_289 kc_i_1 ?_
          refine V_iadd (pc := 290) C dX12_planLine_290 ?_
          obtain ⟨k38, h⟩ := ck_some h
          refine V_iast (pc := 291) C (za_mW_12_16 z1_mW_12) k38 dX12_planLine_291 ?_
          obtain ⟨S39, eS39, h⟩ := lt_some h
          refine V_nmS eS39 ?_
          cases h
          exact hR 292 _ rfl dX12_planLine_292
        · have h := it_f hc h
          refine V_aload_n (pc := 274) C dX12_planLine_274 rfl rfl ?_
          refine V_iconst (pc := 275) C dX12_planLine_275 kc_i_4 ?_
          refine V_iload_n (pc := 276) C dX12_planLine_276 rfl rfl ?_
          obtain ⟨S41, euS41, h⟩ := b1_some h
          refine V_callV (As := [.int (4 : Int32), .int (gI S25 0 4)]) (pc := 277) C (mX12_wrong _ euS41) zm_X12_wrong zi_X12_wrong ml_RX12_170 z1_mW_12 rfl ⟨Nat.le_of_ble_eq_true rfl, Nat.le_of_ble_eq_true rfl⟩ rfl rfl (Nat.le_of_ble_eq_true rfl) dX12_planLine_277 ?_
          show V K 280 [some (.ref 0), some (.int v1), some (.int s0), some (.int (gI S25 0 4))] [] S41
          exact V_mask [true, false, false, false] (mX12_planLine_J280 C  hR h)
    · have h := it_f hc h
      cases h
      exact hR 96 _ rfl dX12_planLine_96
  · have h := it_t hc h
    refine V_aload_n (pc := 80) C dX12_planLine_80 rfl rfl ?_
    refine V_iconst (pc := 81) C dX12_planLine_81 kc_i_1 ?_
    refine V_aload_n (pc := 82) C dX12_planLine_82 rfl rfl ?_
    refine V_getI (pc := 83) C z1_mW_12 fl_RX12_124 (by decide) dX12_planLine_83 ?_
    obtain ⟨S45, euS45, h⟩ := b1_some h
    refine V_callV (As := [.int (1 : Int32), .int (gI S 0 4)]) (pc := 86) C (mX12_wrong _ euS45) zm_X12_wrong zi_X12_wrong ml_RX12_170 z1_mW_12 rfl ⟨Nat.le_of_ble_eq_true rfl, Nat.le_of_ble_eq_true rfl⟩ rfl rfl (Nat.le_of_ble_eq_true rfl) dX12_planLine_86 ?_
    show V K 89 [some (.ref 0), some (.int v1), some (.int s0), none] [] S45
    exact V_mask [true, true, true, false] (mX12_planLine_J89 C  hR h)
set_option maxRecDepth 100000 in
theorem mX12_planLine (l : Launch) {S : zM}  {S' : zM}  (h : gX12_planLine S = some S') : zMet l mW zS0 yX12_planLine cX12_planLine 4 (none) 9 239 [.ref 0] S none S' := by
  refine zmeth (by decide +kernel) (by rfl) (fun K hKl C hR => ?_)
  show V K 0 [some (.ref 0), none, none, none] [] S
  unfold gX12_planLine at h
  refine V_aload_n (pc := 0) C dX12_planLine_0 rfl rfl ?_
  refine V_getI (pc := 1) C z1_mW_12 fl_RX12_143 (by decide) dX12_planLine_1 ?_
  refine V_if_eq (tgt := 8) (pc := 4) C dX12_planLine_4 (by decide) (fun hc => ?_) (fun hc => ?_)
  · have h := it_t hc h
    refine V_aload_n (pc := 8) C dX12_planLine_8 rfl rfl ?_
    refine V_getF (p1 := 4) (pc := 9) C z1_mW_12 fl_RX12_23 rfl (zf_mW_12_16 z1_mW_12) dX12_planLine_9 ?_
    refine V_sipush (pc := 12) C dX12_planLine_12 kc_s_240 ?_
    obtain ⟨k1, h⟩ := ck_some h
    refine V_iald (pc := 15) C (za_mW_12_16 z1_mW_12) k1 dX12_planLine_15 ?_
    refine V_istore_n (L' := [some (.ref 0), some (.int (gI S 4 (ix (240 : Int32)))), none, none]) (pc := 16) C dX12_planLine_16 rfl (by decide) rfl ?_
    refine V_aload_n (pc := 17) C dX12_planLine_17 rfl rfl ?_
    refine V_iconst (pc := 18) C dX12_planLine_18 kc_i_2 ?_
    refine V_iload_n (pc := 19) C dX12_planLine_19 rfl rfl ?_
    obtain ⟨S3, euS3, h⟩ := b1_some h
    refine V_callV (As := [.int (2 : Int32), .int (gI S 4 (ix (240 : Int32)))]) (pc := 20) C (mX12_newName _ euS3) zm_X12_newName zi_X12_newName ml_RX12_253 z1_mW_12 rfl ⟨Nat.le_of_ble_eq_true rfl, Nat.le_of_ble_eq_true rfl⟩ rfl rfl (Nat.le_of_ble_eq_true rfl) dX12_planLine_20 ?_
    show V K 23 [some (.ref 0), some (.int (gI S 4 (ix (240 : Int32)))), none, none] [] S3
    refine V_aload_n (pc := 23) C dX12_planLine_23 rfl rfl ?_
    refine V_getI (pc := 24) C z1_mW_12 fl_RX12_143 (by decide) dX12_planLine_24 ?_
    refine V_if_eq (tgt := 31) (pc := 27) C dX12_planLine_27 (by decide) (fun hc => ?_) (fun hc => ?_)
    · have h := it_t hc h
      refine V_aload_n (pc := 31) C dX12_planLine_31 rfl rfl ?_
      refine V_ldcwS (j := 48) (pc := 32) C dX12_planLine_32 rfl ?_
      obtain ⟨r4, er4, h⟩ := b1_some h
      refine V_callV (As := [.ref 10019]) (pc := 35) C (mX12_isWord _ zq_19 er4) zm_X12_isWord zi_X12_isWord ml_RX12_160 z1_mW_12 rfl ⟨Nat.le_of_ble_eq_true rfl, Nat.le_of_ble_eq_true rfl⟩ rfl rfl (Nat.le_of_ble_eq_true rfl) dX12_planLine_35 ?_
      show V K 38 [some (.ref 0), some (.int (gI S 4 (ix (240 : Int32)))), none, none] [.int r4] S3
      refine V_if_eq (tgt := 45) (pc := 38) C dX12_planLine_38 (by decide) (fun hc => ?_) (fun hc => ?_)
      · have h := it_t hc h
        refine V_aload_n (pc := 45) C dX12_planLine_45 rfl rfl ?_
        refine V_ldcwS (j := 49) (pc := 46) C dX12_planLine_46 rfl ?_
        obtain ⟨r5, er5, h⟩ := b1_some h
        refine V_callV (As := [.ref 10020]) (pc := 49) C (mX12_isWord _ zq_20 er5) zm_X12_isWord zi_X12_isWord ml_RX12_160 z1_mW_12 rfl ⟨Nat.le_of_ble_eq_true rfl, Nat.le_of_ble_eq_true rfl⟩ rfl rfl (Nat.le_of_ble_eq_true rfl) dX12_planLine_49 ?_
        show V K 52 [some (.ref 0), some (.int (gI S 4 (ix (240 : Int32)))), none, none] [.int r5] S3
        refine V_if_eq (tgt := 59) (pc := 52) C dX12_planLine_52 (by decide) (fun hc => ?_) (fun hc => ?_)
        · have h := it_t hc h
          refine V_aload_n (pc := 59) C dX12_planLine_59 rfl rfl ?_
          refine V_ldcwS (j := 50) (pc := 60) C dX12_planLine_60 rfl ?_
          obtain ⟨r6, er6, h⟩ := b1_some h
          refine V_callV (As := [.ref 10021]) (pc := 63) C (mX12_isWord _ zq_21 er6) zm_X12_isWord zi_X12_isWord ml_RX12_160 z1_mW_12 rfl ⟨Nat.le_of_ble_eq_true rfl, Nat.le_of_ble_eq_true rfl⟩ rfl rfl (Nat.le_of_ble_eq_true rfl) dX12_planLine_63 ?_
          show V K 66 [some (.ref 0), some (.int (gI S 4 (ix (240 : Int32)))), none, none] [.int r6] S3
          refine V_if_eq (tgt := 73) (pc := 66) C dX12_planLine_66 (by decide) (fun hc => ?_) (fun hc => ?_)
          · have h := it_t hc h
            refine V_iconst (pc := 73) C dX12_planLine_73 kc_i_m1 ?_
            exact V_mask [true, true, false, false] (mX12_planLine_J74 C  hR h)
          · have h := it_f hc h
            refine V_iconst (pc := 69) C dX12_planLine_69 kc_i_2 ?_
            refine V_goto (tgt := 74) (pc := 70) C dX12_planLine_70 (by decide) ?_
            exact V_mask [true, true, false, false] (mX12_planLine_J74 C  hR h)
        · have h := it_f hc h
          refine V_iconst (pc := 55) C dX12_planLine_55 kc_i_1 ?_
          refine V_goto (tgt := 74) (pc := 56) C dX12_planLine_56 (by decide) ?_
          exact V_mask [true, true, false, false] (mX12_planLine_J74 C  hR h)
      · have h := it_f hc h
        refine V_iconst (pc := 41) C dX12_planLine_41 kc_i_0 ?_
        refine V_goto (tgt := 74) (pc := 42) C dX12_planLine_42 (by decide) ?_
        exact V_mask [true, true, false, false] (mX12_planLine_J74 C  hR h)
    · have h := it_f hc h
      cases h
      exact hR 30 _ rfl dX12_planLine_30
  · have h := it_f hc h
    cases h
    exact hR 7 _ rfl dX12_planLine_7
set_option maxRecDepth 100000 in
theorem mX12_payLine (l : Launch) {S : zM}  {S' : zM}  (h : gX12_payLine S = some S') : zMet l mW zS0 yX12_payLine cX12_payLine 2 (none) 9 239 [.ref 0] S none S' := by
  refine zmeth (by decide +kernel) (by rfl) (fun K hKl C hR => ?_)
  show V K 0 [some (.ref 0), none] [] S
  unfold gX12_payLine at h
  refine V_aload_n (pc := 0) C dX12_payLine_0 rfl rfl ?_
  refine V_getI (pc := 1) C z1_mW_12 fl_RX12_143 (by decide) dX12_payLine_1 ?_
  refine V_if_eq (tgt := 8) (pc := 4) C dX12_payLine_4 (by decide) (fun hc => ?_) (fun hc => ?_)
  · have h := it_t hc h
    refine V_aload_n (pc := 8) C dX12_payLine_8 rfl rfl ?_
    refine V_getF (p1 := 4) (pc := 9) C z1_mW_12 fl_RX12_23 rfl (zf_mW_12_16 z1_mW_12) dX12_payLine_9 ?_
    refine V_sipush (pc := 12) C dX12_payLine_12 kc_s_241 ?_
    obtain ⟨k1, h⟩ := ck_some h
    refine V_iald (pc := 15) C (za_mW_12_16 z1_mW_12) k1 dX12_payLine_15 ?_
    refine V_istore_n (L' := [some (.ref 0), some (.int (gI S 4 (ix (241 : Int32))))]) (pc := 16) C dX12_payLine_16 rfl (by decide) rfl ?_
    refine V_aload_n (pc := 17) C dX12_payLine_17 rfl rfl ?_
    refine V_iconst (pc := 18) C dX12_payLine_18 kc_i_3 ?_
    refine V_iload_n (pc := 19) C dX12_payLine_19 rfl rfl ?_
    obtain ⟨S3, euS3, h⟩ := b1_some h
    refine V_callV (As := [.int (3 : Int32), .int (gI S 4 (ix (241 : Int32)))]) (pc := 20) C (mX12_newName _ euS3) zm_X12_newName zi_X12_newName ml_RX12_253 z1_mW_12 rfl ⟨Nat.le_of_ble_eq_true rfl, Nat.le_of_ble_eq_true rfl⟩ rfl rfl (Nat.le_of_ble_eq_true rfl) dX12_payLine_20 ?_
    show V K 23 [some (.ref 0), some (.int (gI S 4 (ix (241 : Int32))))] [] S3
    refine V_aload_n (pc := 23) C dX12_payLine_23 rfl rfl ?_
    refine V_ldcwS (j := 52) (pc := 24) C dX12_payLine_24 rfl ?_
    obtain ⟨S5, euS5, h⟩ := b1_some h
    refine V_callV (As := [.ref 10023]) (pc := 27) C (mX12_must _ zq_23 euS5) zm_X12_must zi_X12_must ml_RX12_260 z1_mW_12 rfl ⟨Nat.le_of_ble_eq_true rfl, Nat.le_of_ble_eq_true rfl⟩ rfl rfl (Nat.le_of_ble_eq_true rfl) dX12_payLine_27 ?_
    show V K 30 [some (.ref 0), some (.int (gI S 4 (ix (241 : Int32))))] [] S5
    refine V_aload_n (pc := 30) C dX12_payLine_30 rfl rfl ?_
    refine V_getF (p1 := 4) (pc := 31) C z1_mW_12 fl_RX12_23 rfl (zf_mW_12_16 z1_mW_12) dX12_payLine_31 ?_
    refine V_sipush (pc := 34) C dX12_payLine_34 kc_s_218 ?_
    refine V_iload_n (pc := 37) C dX12_payLine_37 rfl rfl ?_
    refine V_iadd (pc := 38) C dX12_payLine_38 ?_
    refine V_aload_n (pc := 39) C dX12_payLine_39 rfl rfl ?_
    refine V_bipush (pc := 40) C dX12_payLine_40 kc_b_99 ?_
    obtain ⟨r6, S7, er6, h⟩ := b2_some h
    refine V_callV (As := [.int (99 : Int32)]) (pc := 42) C (mX12_signed _ er6) zm_X12_signed zi_X12_signed ml_RX12_266 z1_mW_12 rfl ⟨Nat.le_of_ble_eq_true rfl, Nat.le_of_ble_eq_true rfl⟩ rfl rfl (Nat.le_of_ble_eq_true rfl) dX12_payLine_42 ?_
    show V K 45 [some (.ref 0), some (.int (gI S 4 (ix (241 : Int32))))] [.int r6, .int ((218 : Int32) + (gI S 4 (ix (241 : Int32)))), .ref 4] S7
    obtain ⟨k8, h⟩ := ck_some h
    refine V_iast (pc := 45) C (za_mW_12_16 z1_mW_12) k8 dX12_payLine_45 ?_
    refine V_aload_n (pc := 46) C dX12_payLine_46 rfl rfl ?_
    refine V_ldcwS (j := 53) (pc := 47) C dX12_payLine_47 rfl ?_
    obtain ⟨S10, euS10, h⟩ := b1_some h
    refine V_callV (As := [.ref 10024]) (pc := 50) C (mX12_must _ zq_24 euS10) zm_X12_must zi_X12_must ml_RX12_260 z1_mW_12 rfl ⟨Nat.le_of_ble_eq_true rfl, Nat.le_of_ble_eq_true rfl⟩ rfl rfl (Nat.le_of_ble_eq_true rfl) dX12_payLine_50 ?_
    show V K 53 [some (.ref 0), some (.int (gI S 4 (ix (241 : Int32))))] [] S10
    refine V_aload_n (pc := 53) C dX12_payLine_53 rfl rfl ?_
    refine V_getF (p1 := 4) (pc := 54) C z1_mW_12 fl_RX12_23 rfl (zf_mW_12_16 z1_mW_12) dX12_payLine_54 ?_
    refine V_sipush (pc := 57) C dX12_payLine_57 kc_s_222 ?_
    refine V_iload_n (pc := 60) C dX12_payLine_60 rfl rfl ?_
    refine V_iadd (pc := 61) C dX12_payLine_61 ?_
    refine V_aload_n (pc := 62) C dX12_payLine_62 rfl rfl ?_
    refine V_bipush (pc := 63) C dX12_payLine_63 kc_b_99 ?_
    obtain ⟨r11, S12, er11, h⟩ := b2_some h
    refine V_callV (As := [.int (99 : Int32)]) (pc := 65) C (mX12_signed _ er11) zm_X12_signed zi_X12_signed ml_RX12_266 z1_mW_12 rfl ⟨Nat.le_of_ble_eq_true rfl, Nat.le_of_ble_eq_true rfl⟩ rfl rfl (Nat.le_of_ble_eq_true rfl) dX12_payLine_65 ?_
    show V K 68 [some (.ref 0), some (.int (gI S 4 (ix (241 : Int32))))] [.int r11, .int ((222 : Int32) + (gI S 4 (ix (241 : Int32)))), .ref 4] S12
    obtain ⟨k13, h⟩ := ck_some h
    refine V_iast (pc := 68) C (za_mW_12_16 z1_mW_12) k13 dX12_payLine_68 ?_
    refine V_aload_n (pc := 69) C dX12_payLine_69 rfl rfl ?_
    refine V_ldcwS (j := 54) (pc := 70) C dX12_payLine_70 rfl ?_
    obtain ⟨S15, euS15, h⟩ := b1_some h
    refine V_callV (As := [.ref 10025]) (pc := 73) C (mX12_must _ zq_25 euS15) zm_X12_must zi_X12_must ml_RX12_260 z1_mW_12 rfl ⟨Nat.le_of_ble_eq_true rfl, Nat.le_of_ble_eq_true rfl⟩ rfl rfl (Nat.le_of_ble_eq_true rfl) dX12_payLine_73 ?_
    show V K 76 [some (.ref 0), some (.int (gI S 4 (ix (241 : Int32))))] [] S15
    refine V_aload_n (pc := 76) C dX12_payLine_76 rfl rfl ?_
    refine V_getF (p1 := 4) (pc := 77) C z1_mW_12 fl_RX12_23 rfl (zf_mW_12_16 z1_mW_12) dX12_payLine_77 ?_
    refine V_sipush (pc := 80) C dX12_payLine_80 kc_s_226 ?_
    refine V_iload_n (pc := 83) C dX12_payLine_83 rfl rfl ?_
    refine V_iadd (pc := 84) C dX12_payLine_84 ?_
    refine V_aload_n (pc := 85) C dX12_payLine_85 rfl rfl ?_
    refine V_bipush (pc := 86) C dX12_payLine_86 kc_b_99 ?_
    obtain ⟨r16, S17, er16, h⟩ := b2_some h
    refine V_callV (As := [.int (99 : Int32)]) (pc := 88) C (mX12_signed _ er16) zm_X12_signed zi_X12_signed ml_RX12_266 z1_mW_12 rfl ⟨Nat.le_of_ble_eq_true rfl, Nat.le_of_ble_eq_true rfl⟩ rfl rfl (Nat.le_of_ble_eq_true rfl) dX12_payLine_88 ?_
    show V K 91 [some (.ref 0), some (.int (gI S 4 (ix (241 : Int32))))] [.int r16, .int ((226 : Int32) + (gI S 4 (ix (241 : Int32)))), .ref 4] S17
    obtain ⟨k18, h⟩ := ck_some h
    refine V_iast (pc := 91) C (za_mW_12_16 z1_mW_12) k18 dX12_payLine_91 ?_
    refine V_aload_n (pc := 92) C dX12_payLine_92 rfl rfl ?_
    refine V_ldcwS (j := 55) (pc := 93) C dX12_payLine_93 rfl ?_
    obtain ⟨S20, euS20, h⟩ := b1_some h
    refine V_callV (As := [.ref 10026]) (pc := 96) C (mX12_must _ zq_26 euS20) zm_X12_must zi_X12_must ml_RX12_260 z1_mW_12 rfl ⟨Nat.le_of_ble_eq_true rfl, Nat.le_of_ble_eq_true rfl⟩ rfl rfl (Nat.le_of_ble_eq_true rfl) dX12_payLine_96 ?_
    show V K 99 [some (.ref 0), some (.int (gI S 4 (ix (241 : Int32))))] [] S20
    refine V_aload_n (pc := 99) C dX12_payLine_99 rfl rfl ?_
    refine V_getF (p1 := 4) (pc := 100) C z1_mW_12 fl_RX12_23 rfl (zf_mW_12_16 z1_mW_12) dX12_payLine_100 ?_
    refine V_sipush (pc := 103) C dX12_payLine_103 kc_s_230 ?_
    refine V_iload_n (pc := 106) C dX12_payLine_106 rfl rfl ?_
    refine V_iadd (pc := 107) C dX12_payLine_107 ?_
    refine V_aload_n (pc := 108) C dX12_payLine_108 rfl rfl ?_
    refine V_bipush (pc := 109) C dX12_payLine_109 kc_b_99 ?_
    obtain ⟨r21, S22, er21, h⟩ := b2_some h
    refine V_callV (As := [.int (99 : Int32)]) (pc := 111) C (mX12_signed _ er21) zm_X12_signed zi_X12_signed ml_RX12_266 z1_mW_12 rfl ⟨Nat.le_of_ble_eq_true rfl, Nat.le_of_ble_eq_true rfl⟩ rfl rfl (Nat.le_of_ble_eq_true rfl) dX12_payLine_111 ?_
    show V K 114 [some (.ref 0), some (.int (gI S 4 (ix (241 : Int32))))] [.int r21, .int ((230 : Int32) + (gI S 4 (ix (241 : Int32)))), .ref 4] S22
    obtain ⟨k23, h⟩ := ck_some h
    refine V_iast (pc := 114) C (za_mW_12_16 z1_mW_12) k23 dX12_payLine_114 ?_
    refine V_aload_n (pc := 115) C dX12_payLine_115 rfl rfl ?_
    refine V_ldcwS (j := 56) (pc := 116) C dX12_payLine_116 rfl ?_
    obtain ⟨S25, euS25, h⟩ := b1_some h
    refine V_callV (As := [.ref 10027]) (pc := 119) C (mX12_must _ zq_27 euS25) zm_X12_must zi_X12_must ml_RX12_260 z1_mW_12 rfl ⟨Nat.le_of_ble_eq_true rfl, Nat.le_of_ble_eq_true rfl⟩ rfl rfl (Nat.le_of_ble_eq_true rfl) dX12_payLine_119 ?_
    show V K 122 [some (.ref 0), some (.int (gI S 4 (ix (241 : Int32))))] [] S25
    refine V_aload_n (pc := 122) C dX12_payLine_122 rfl rfl ?_
    refine V_getF (p1 := 4) (pc := 123) C z1_mW_12 fl_RX12_23 rfl (zf_mW_12_16 z1_mW_12) dX12_payLine_123 ?_
    refine V_sipush (pc := 126) C dX12_payLine_126 kc_s_234 ?_
    refine V_iload_n (pc := 129) C dX12_payLine_129 rfl rfl ?_
    refine V_iadd (pc := 130) C dX12_payLine_130 ?_
    refine V_aload_n (pc := 131) C dX12_payLine_131 rfl rfl ?_
    refine V_iconst (pc := 132) C dX12_payLine_132 kc_i_0 ?_
    refine V_bipush (pc := 133) C dX12_payLine_133 kc_b_100 ?_
    obtain ⟨r26, S27, er26, h⟩ := b2_some h
    refine V_callV (As := [.int (0 : Int32), .int (100 : Int32)]) (pc := 135) C (mX12_number _ er26) zm_X12_number zi_X12_number ml_RX12_207 z1_mW_12 rfl ⟨Nat.le_of_ble_eq_true rfl, Nat.le_of_ble_eq_true rfl⟩ rfl rfl (Nat.le_of_ble_eq_true rfl) dX12_payLine_135 ?_
    show V K 138 [some (.ref 0), some (.int (gI S 4 (ix (241 : Int32))))] [.int r26, .int ((234 : Int32) + (gI S 4 (ix (241 : Int32)))), .ref 4] S27
    obtain ⟨k28, h⟩ := ck_some h
    refine V_iast (pc := 138) C (za_mW_12_16 z1_mW_12) k28 dX12_payLine_138 ?_
    refine V_aload_n (pc := 139) C dX12_payLine_139 rfl rfl ?_
    refine V_getF (p1 := 4) (pc := 140) C z1_mW_12 fl_RX12_23 rfl (zf_mW_12_16 z1_mW_12) dX12_payLine_140 ?_
    refine V_sipush (pc := 143) C dX12_payLine_143 kc_s_241 ?_
    refine V_dup2 (pc := 146) C dX12_payLine_146 rfl rfl ?_
    obtain ⟨k29, h⟩ := ck_some h
    refine V_iald (pc := 147) C (za_mW_12_16 z1_mW_12) k29 dX12_payLine_147 ?_
    refine V_iconst (pc := 148) C dX12_payLine_148 kc_i_1 ?_
    refine V_iadd (pc := 149) C dX12_payLine_149 ?_
    obtain ⟨k30, h⟩ := ck_some h
    refine V_iast (pc := 150) C (za_mW_12_16 z1_mW_12) k30 dX12_payLine_150 ?_
    obtain ⟨S31, eS31, h⟩ := lt_some h
    refine V_nmS eS31 ?_
    cases h
    exact hR 151 _ rfl dX12_payLine_151
  · have h := it_f hc h
    cases h
    exact hR 7 _ rfl dX12_payLine_7
set_option maxRecDepth 100000 in
theorem mX12_readLine (l : Launch) {S : zM}  {S' : zM}  (h : gX12_readLine S = some S') : zMet l mW zS0 yX12_readLine cX12_readLine 2 (none) 10 262 [.ref 0] S none S' := by
  refine zmeth (by decide +kernel) (by rfl) (fun K hKl C hR => ?_)
  show V K 0 [some (.ref 0), none] [] S
  unfold gX12_readLine at h
  refine V_aload_n (pc := 0) C dX12_readLine_0 rfl rfl ?_
  refine V_getI (pc := 1) C z1_mW_12 fl_RX12_124 (by decide) dX12_readLine_1 ?_
  refine V_istore_n (L' := [some (.ref 0), some (.int (gI S 0 4))]) (pc := 4) C dX12_readLine_4 rfl (by decide) rfl ?_
  refine V_aload_n (pc := 5) C dX12_readLine_5 rfl rfl ?_
  refine V_ldcS (j := 29) (pc := 6) C dX12_readLine_6 rfl ?_
  obtain ⟨r1, er1, h⟩ := b1_some h
  refine V_callV (As := [.ref 10000]) (pc := 8) C (mX12_isWord _ zq_0 er1) zm_X12_isWord zi_X12_isWord ml_RX12_160 z1_mW_12 rfl ⟨Nat.le_of_ble_eq_true rfl, Nat.le_of_ble_eq_true rfl⟩ rfl rfl (Nat.le_of_ble_eq_true rfl) dX12_readLine_8 ?_
  show V K 11 [some (.ref 0), some (.int (gI S 0 4))] [.int r1] S
  refine V_if_eq (tgt := 44) (pc := 11) C dX12_readLine_11 (by decide) (fun hc => ?_) (fun hc => ?_)
  · have h := it_t hc h
    refine V_aload_n (pc := 44) C dX12_readLine_44 rfl rfl ?_
    refine V_ldcS (j := 30) (pc := 45) C dX12_readLine_45 rfl ?_
    obtain ⟨r2, er2, h⟩ := b1_some h
    refine V_callV (As := [.ref 10001]) (pc := 47) C (mX12_isWord _ zq_1 er2) zm_X12_isWord zi_X12_isWord ml_RX12_160 z1_mW_12 rfl ⟨Nat.le_of_ble_eq_true rfl, Nat.le_of_ble_eq_true rfl⟩ rfl rfl (Nat.le_of_ble_eq_true rfl) dX12_readLine_47 ?_
    show V K 50 [some (.ref 0), some (.int (gI S 0 4))] [.int r2] S
    refine V_if_eq (tgt := 83) (pc := 50) C dX12_readLine_50 (by decide) (fun hc => ?_) (fun hc => ?_)
    · have h := it_t hc h
      refine V_aload_n (pc := 83) C dX12_readLine_83 rfl rfl ?_
      refine V_ldcS (j := 31) (pc := 84) C dX12_readLine_84 rfl ?_
      obtain ⟨r3, er3, h⟩ := b1_some h
      refine V_callV (As := [.ref 10002]) (pc := 86) C (mX12_isWord _ zq_2 er3) zm_X12_isWord zi_X12_isWord ml_RX12_160 z1_mW_12 rfl ⟨Nat.le_of_ble_eq_true rfl, Nat.le_of_ble_eq_true rfl⟩ rfl rfl (Nat.le_of_ble_eq_true rfl) dX12_readLine_86 ?_
      show V K 89 [some (.ref 0), some (.int (gI S 0 4))] [.int r3] S
      refine V_if_eq (tgt := 121) (pc := 89) C dX12_readLine_89 (by decide) (fun hc => ?_) (fun hc => ?_)
      · have h := it_t hc h
        refine V_aload_n (pc := 121) C dX12_readLine_121 rfl rfl ?_
        refine V_ldcS (j := 32) (pc := 122) C dX12_readLine_122 rfl ?_
        obtain ⟨r4, er4, h⟩ := b1_some h
        refine V_callV (As := [.ref 10003]) (pc := 124) C (mX12_isWord _ zq_3 er4) zm_X12_isWord zi_X12_isWord ml_RX12_160 z1_mW_12 rfl ⟨Nat.le_of_ble_eq_true rfl, Nat.le_of_ble_eq_true rfl⟩ rfl rfl (Nat.le_of_ble_eq_true rfl) dX12_readLine_124 ?_
        show V K 127 [some (.ref 0), some (.int (gI S 0 4))] [.int r4] S
        refine V_if_eq (tgt := 159) (pc := 127) C dX12_readLine_127 (by decide) (fun hc => ?_) (fun hc => ?_)
        · have h := it_t hc h
          refine V_aload_n (pc := 159) C dX12_readLine_159 rfl rfl ?_
          refine V_iconst (pc := 160) C dX12_readLine_160 kc_i_1 ?_
          refine V_aload_n (pc := 161) C dX12_readLine_161 rfl rfl ?_
          refine V_getI (pc := 162) C z1_mW_12 fl_RX12_124 (by decide) dX12_readLine_162 ?_
          obtain ⟨S6, euS6, h⟩ := b1_some h
          refine V_callV (As := [.int (1 : Int32), .int (gI S 0 4)]) (pc := 165) C (mX12_wrong _ euS6) zm_X12_wrong zi_X12_wrong ml_RX12_170 z1_mW_12 rfl ⟨Nat.le_of_ble_eq_true rfl, Nat.le_of_ble_eq_true rfl⟩ rfl rfl (Nat.le_of_ble_eq_true rfl) dX12_readLine_165 ?_
          show V K 168 [some (.ref 0), some (.int (gI S 0 4))] [] S6
          cases h
          exact hR 168 _ rfl dX12_readLine_168
        · have h := it_f hc h
          refine V_aload_n (pc := 130) C dX12_readLine_130 rfl rfl ?_
          refine V_getF (p1 := 4) (pc := 131) C z1_mW_12 fl_RX12_23 rfl (zf_mW_12_16 z1_mW_12) dX12_readLine_131 ?_
          refine V_sipush (pc := 134) C dX12_readLine_134 kc_s_241 ?_
          obtain ⟨k7, h⟩ := ck_some h
          refine V_iald (pc := 137) C (za_mW_12_16 z1_mW_12) k7 dX12_readLine_137 ?_
          refine V_iconst (pc := 138) C dX12_readLine_138 kc_i_4 ?_
          refine V_icmp_ne (tgt := 148) (pc := 139) C dX12_readLine_139 (by decide) (fun hc => ?_) (fun hc => ?_)
          · have h := it_f hc h
            refine V_aload_n (pc := 148) C dX12_readLine_148 rfl rfl ?_
            obtain ⟨S9, euS9, h⟩ := b1_some h
            refine V_callV (As := []) (pc := 149) C (mX12_next _ euS9) zm_X12_next zi_X12_next ml_RX12_164 z1_mW_12 rfl ⟨Nat.le_of_ble_eq_true rfl, Nat.le_of_ble_eq_true rfl⟩ rfl rfl (Nat.le_of_ble_eq_true rfl) dX12_readLine_149 ?_
            show V K 152 [some (.ref 0), some (.int (gI S 0 4))] [] S9
            refine V_aload_n (pc := 152) C dX12_readLine_152 rfl rfl ?_
            obtain ⟨S11, euS11, h⟩ := b1_some h
            refine V_callV (As := []) (pc := 153) C (mX12_payLine _ euS11) zm_X12_payLine zi_X12_payLine ml_RX12_241 z1_mW_12 rfl ⟨Nat.le_of_ble_eq_true rfl, Nat.le_of_ble_eq_true rfl⟩ rfl rfl (Nat.le_of_ble_eq_true rfl) dX12_readLine_153 ?_
            show V K 156 [some (.ref 0), some (.int (gI S 0 4))] [] S11
            refine V_goto (tgt := 168) (pc := 156) C dX12_readLine_156 (by decide) ?_
            cases h
            exact hR 168 _ rfl dX12_readLine_168
          · have h := it_t hc h
            refine V_aload_n (pc := 142) C dX12_readLine_142 rfl rfl ?_
            refine V_iconst (pc := 143) C dX12_readLine_143 kc_i_5 ?_
            refine V_iload_n (pc := 144) C dX12_readLine_144 rfl rfl ?_
            obtain ⟨S13, euS13, h⟩ := b1_some h
            refine V_callV (As := [.int (5 : Int32), .int (gI S 0 4)]) (pc := 145) C (mX12_wrong _ euS13) zm_X12_wrong zi_X12_wrong ml_RX12_170 z1_mW_12 rfl ⟨Nat.le_of_ble_eq_true rfl, Nat.le_of_ble_eq_true rfl⟩ rfl rfl (Nat.le_of_ble_eq_true rfl) dX12_readLine_145 ?_
            show V K 148 [some (.ref 0), some (.int (gI S 0 4))] [] S13
            refine V_aload_n (pc := 148) C dX12_readLine_148 rfl rfl ?_
            obtain ⟨S15, euS15, h⟩ := b1_some h
            refine V_callV (As := []) (pc := 149) C (mX12_next _ euS15) zm_X12_next zi_X12_next ml_RX12_164 z1_mW_12 rfl ⟨Nat.le_of_ble_eq_true rfl, Nat.le_of_ble_eq_true rfl⟩ rfl rfl (Nat.le_of_ble_eq_true rfl) dX12_readLine_149 ?_
            show V K 152 [some (.ref 0), some (.int (gI S 0 4))] [] S15
            refine V_aload_n (pc := 152) C dX12_readLine_152 rfl rfl ?_
            obtain ⟨S17, euS17, h⟩ := b1_some h
            refine V_callV (As := []) (pc := 153) C (mX12_payLine _ euS17) zm_X12_payLine zi_X12_payLine ml_RX12_241 z1_mW_12 rfl ⟨Nat.le_of_ble_eq_true rfl, Nat.le_of_ble_eq_true rfl⟩ rfl rfl (Nat.le_of_ble_eq_true rfl) dX12_readLine_153 ?_
            show V K 156 [some (.ref 0), some (.int (gI S 0 4))] [] S17
            refine V_goto (tgt := 168) (pc := 156) C dX12_readLine_156 (by decide) ?_
            cases h
            exact hR 168 _ rfl dX12_readLine_168
      · have h := it_f hc h
        refine V_aload_n (pc := 92) C dX12_readLine_92 rfl rfl ?_
        refine V_getF (p1 := 4) (pc := 93) C z1_mW_12 fl_RX12_23 rfl (zf_mW_12_16 z1_mW_12) dX12_readLine_93 ?_
        refine V_sipush (pc := 96) C dX12_readLine_96 kc_s_240 ?_
        obtain ⟨k18, h⟩ := ck_some h
        refine V_iald (pc := 99) C (za_mW_12_16 z1_mW_12) k18 dX12_readLine_99 ?_
        refine V_iconst (pc := 100) C dX12_readLine_100 kc_i_4 ?_
        refine V_icmp_ne (tgt := 110) (pc := 101) C dX12_readLine_101 (by decide) (fun hc => ?_) (fun hc => ?_)
        · have h := it_f hc h
          refine V_aload_n (pc := 110) C dX12_readLine_110 rfl rfl ?_
          obtain ⟨S20, euS20, h⟩ := b1_some h
          refine V_callV (As := []) (pc := 111) C (mX12_next _ euS20) zm_X12_next zi_X12_next ml_RX12_164 z1_mW_12 rfl ⟨Nat.le_of_ble_eq_true rfl, Nat.le_of_ble_eq_true rfl⟩ rfl rfl (Nat.le_of_ble_eq_true rfl) dX12_readLine_111 ?_
          show V K 114 [some (.ref 0), some (.int (gI S 0 4))] [] S20
          refine V_aload_n (pc := 114) C dX12_readLine_114 rfl rfl ?_
          obtain ⟨S22, euS22, h⟩ := b1_some h
          refine V_callV (As := []) (pc := 115) C (mX12_planLine _ euS22) zm_X12_planLine zi_X12_planLine ml_RX12_238 z1_mW_12 rfl ⟨Nat.le_of_ble_eq_true rfl, Nat.le_of_ble_eq_true rfl⟩ rfl rfl (Nat.le_of_ble_eq_true rfl) dX12_readLine_115 ?_
          show V K 118 [some (.ref 0), some (.int (gI S 0 4))] [] S22
          refine V_goto (tgt := 168) (pc := 118) C dX12_readLine_118 (by decide) ?_
          cases h
          exact hR 168 _ rfl dX12_readLine_168
        · have h := it_t hc h
          refine V_aload_n (pc := 104) C dX12_readLine_104 rfl rfl ?_
          refine V_iconst (pc := 105) C dX12_readLine_105 kc_i_5 ?_
          refine V_iload_n (pc := 106) C dX12_readLine_106 rfl rfl ?_
          obtain ⟨S24, euS24, h⟩ := b1_some h
          refine V_callV (As := [.int (5 : Int32), .int (gI S 0 4)]) (pc := 107) C (mX12_wrong _ euS24) zm_X12_wrong zi_X12_wrong ml_RX12_170 z1_mW_12 rfl ⟨Nat.le_of_ble_eq_true rfl, Nat.le_of_ble_eq_true rfl⟩ rfl rfl (Nat.le_of_ble_eq_true rfl) dX12_readLine_107 ?_
          show V K 110 [some (.ref 0), some (.int (gI S 0 4))] [] S24
          refine V_aload_n (pc := 110) C dX12_readLine_110 rfl rfl ?_
          obtain ⟨S26, euS26, h⟩ := b1_some h
          refine V_callV (As := []) (pc := 111) C (mX12_next _ euS26) zm_X12_next zi_X12_next ml_RX12_164 z1_mW_12 rfl ⟨Nat.le_of_ble_eq_true rfl, Nat.le_of_ble_eq_true rfl⟩ rfl rfl (Nat.le_of_ble_eq_true rfl) dX12_readLine_111 ?_
          show V K 114 [some (.ref 0), some (.int (gI S 0 4))] [] S26
          refine V_aload_n (pc := 114) C dX12_readLine_114 rfl rfl ?_
          obtain ⟨S28, euS28, h⟩ := b1_some h
          refine V_callV (As := []) (pc := 115) C (mX12_planLine _ euS28) zm_X12_planLine zi_X12_planLine ml_RX12_238 z1_mW_12 rfl ⟨Nat.le_of_ble_eq_true rfl, Nat.le_of_ble_eq_true rfl⟩ rfl rfl (Nat.le_of_ble_eq_true rfl) dX12_readLine_115 ?_
          show V K 118 [some (.ref 0), some (.int (gI S 0 4))] [] S28
          refine V_goto (tgt := 168) (pc := 118) C dX12_readLine_118 (by decide) ?_
          cases h
          exact hR 168 _ rfl dX12_readLine_168
    · have h := it_f hc h
      refine V_aload_n (pc := 53) C dX12_readLine_53 rfl rfl ?_
      refine V_getF (p1 := 4) (pc := 54) C z1_mW_12 fl_RX12_23 rfl (zf_mW_12_16 z1_mW_12) dX12_readLine_54 ?_
      refine V_sipush (pc := 57) C dX12_readLine_57 kc_s_239 ?_
      obtain ⟨k29, h⟩ := ck_some h
      refine V_iald (pc := 60) C (za_mW_12_16 z1_mW_12) k29 dX12_readLine_60 ?_
      refine V_bipush (pc := 61) C dX12_readLine_61 kc_b_6 ?_
      refine V_icmp_ne (tgt := 72) (pc := 63) C dX12_readLine_63 (by decide) (fun hc => ?_) (fun hc => ?_)
      · have h := it_f hc h
        refine V_aload_n (pc := 72) C dX12_readLine_72 rfl rfl ?_
        obtain ⟨S31, euS31, h⟩ := b1_some h
        refine V_callV (As := []) (pc := 73) C (mX12_next _ euS31) zm_X12_next zi_X12_next ml_RX12_164 z1_mW_12 rfl ⟨Nat.le_of_ble_eq_true rfl, Nat.le_of_ble_eq_true rfl⟩ rfl rfl (Nat.le_of_ble_eq_true rfl) dX12_readLine_73 ?_
        show V K 76 [some (.ref 0), some (.int (gI S 0 4))] [] S31
        refine V_aload_n (pc := 76) C dX12_readLine_76 rfl rfl ?_
        obtain ⟨S33, euS33, h⟩ := b1_some h
        refine V_callV (As := []) (pc := 77) C (mX12_sayerLine _ euS33) zm_X12_sayerLine zi_X12_sayerLine ml_RX12_235 z1_mW_12 rfl ⟨Nat.le_of_ble_eq_true rfl, Nat.le_of_ble_eq_true rfl⟩ rfl rfl (Nat.le_of_ble_eq_true rfl) dX12_readLine_77 ?_
        show V K 80 [some (.ref 0), some (.int (gI S 0 4))] [] S33
        refine V_goto (tgt := 168) (pc := 80) C dX12_readLine_80 (by decide) ?_
        cases h
        exact hR 168 _ rfl dX12_readLine_168
      · have h := it_t hc h
        refine V_aload_n (pc := 66) C dX12_readLine_66 rfl rfl ?_
        refine V_iconst (pc := 67) C dX12_readLine_67 kc_i_5 ?_
        refine V_iload_n (pc := 68) C dX12_readLine_68 rfl rfl ?_
        obtain ⟨S35, euS35, h⟩ := b1_some h
        refine V_callV (As := [.int (5 : Int32), .int (gI S 0 4)]) (pc := 69) C (mX12_wrong _ euS35) zm_X12_wrong zi_X12_wrong ml_RX12_170 z1_mW_12 rfl ⟨Nat.le_of_ble_eq_true rfl, Nat.le_of_ble_eq_true rfl⟩ rfl rfl (Nat.le_of_ble_eq_true rfl) dX12_readLine_69 ?_
        show V K 72 [some (.ref 0), some (.int (gI S 0 4))] [] S35
        refine V_aload_n (pc := 72) C dX12_readLine_72 rfl rfl ?_
        obtain ⟨S37, euS37, h⟩ := b1_some h
        refine V_callV (As := []) (pc := 73) C (mX12_next _ euS37) zm_X12_next zi_X12_next ml_RX12_164 z1_mW_12 rfl ⟨Nat.le_of_ble_eq_true rfl, Nat.le_of_ble_eq_true rfl⟩ rfl rfl (Nat.le_of_ble_eq_true rfl) dX12_readLine_73 ?_
        show V K 76 [some (.ref 0), some (.int (gI S 0 4))] [] S37
        refine V_aload_n (pc := 76) C dX12_readLine_76 rfl rfl ?_
        obtain ⟨S39, euS39, h⟩ := b1_some h
        refine V_callV (As := []) (pc := 77) C (mX12_sayerLine _ euS39) zm_X12_sayerLine zi_X12_sayerLine ml_RX12_235 z1_mW_12 rfl ⟨Nat.le_of_ble_eq_true rfl, Nat.le_of_ble_eq_true rfl⟩ rfl rfl (Nat.le_of_ble_eq_true rfl) dX12_readLine_77 ?_
        show V K 80 [some (.ref 0), some (.int (gI S 0 4))] [] S39
        refine V_goto (tgt := 168) (pc := 80) C dX12_readLine_80 (by decide) ?_
        cases h
        exact hR 168 _ rfl dX12_readLine_168
  · have h := it_f hc h
    refine V_aload_n (pc := 14) C dX12_readLine_14 rfl rfl ?_
    refine V_getF (p1 := 4) (pc := 15) C z1_mW_12 fl_RX12_23 rfl (zf_mW_12_16 z1_mW_12) dX12_readLine_15 ?_
    refine V_sipush (pc := 18) C dX12_readLine_18 kc_s_238 ?_
    obtain ⟨k40, h⟩ := ck_some h
    refine V_iald (pc := 21) C (za_mW_12_16 z1_mW_12) k40 dX12_readLine_21 ?_
    refine V_bipush (pc := 22) C dX12_readLine_22 kc_b_6 ?_
    refine V_icmp_ne (tgt := 33) (pc := 24) C dX12_readLine_24 (by decide) (fun hc => ?_) (fun hc => ?_)
    · have h := it_f hc h
      refine V_aload_n (pc := 33) C dX12_readLine_33 rfl rfl ?_
      obtain ⟨S42, euS42, h⟩ := b1_some h
      refine V_callV (As := []) (pc := 34) C (mX12_next _ euS42) zm_X12_next zi_X12_next ml_RX12_164 z1_mW_12 rfl ⟨Nat.le_of_ble_eq_true rfl, Nat.le_of_ble_eq_true rfl⟩ rfl rfl (Nat.le_of_ble_eq_true rfl) dX12_readLine_34 ?_
      show V K 37 [some (.ref 0), some (.int (gI S 0 4))] [] S42
      refine V_aload_n (pc := 37) C dX12_readLine_37 rfl rfl ?_
      obtain ⟨S44, euS44, h⟩ := b1_some h
      refine V_callV (As := []) (pc := 38) C (mX12_senseLine _ euS44) zm_X12_senseLine zi_X12_senseLine ml_RX12_232 z1_mW_12 rfl ⟨Nat.le_of_ble_eq_true rfl, Nat.le_of_ble_eq_true rfl⟩ rfl rfl (Nat.le_of_ble_eq_true rfl) dX12_readLine_38 ?_
      show V K 41 [some (.ref 0), some (.int (gI S 0 4))] [] S44
      refine V_goto (tgt := 168) (pc := 41) C dX12_readLine_41 (by decide) ?_
      cases h
      exact hR 168 _ rfl dX12_readLine_168
    · have h := it_t hc h
      refine V_aload_n (pc := 27) C dX12_readLine_27 rfl rfl ?_
      refine V_iconst (pc := 28) C dX12_readLine_28 kc_i_5 ?_
      refine V_iload_n (pc := 29) C dX12_readLine_29 rfl rfl ?_
      obtain ⟨S46, euS46, h⟩ := b1_some h
      refine V_callV (As := [.int (5 : Int32), .int (gI S 0 4)]) (pc := 30) C (mX12_wrong _ euS46) zm_X12_wrong zi_X12_wrong ml_RX12_170 z1_mW_12 rfl ⟨Nat.le_of_ble_eq_true rfl, Nat.le_of_ble_eq_true rfl⟩ rfl rfl (Nat.le_of_ble_eq_true rfl) dX12_readLine_30 ?_
      show V K 33 [some (.ref 0), some (.int (gI S 0 4))] [] S46
      refine V_aload_n (pc := 33) C dX12_readLine_33 rfl rfl ?_
      obtain ⟨S48, euS48, h⟩ := b1_some h
      refine V_callV (As := []) (pc := 34) C (mX12_next _ euS48) zm_X12_next zi_X12_next ml_RX12_164 z1_mW_12 rfl ⟨Nat.le_of_ble_eq_true rfl, Nat.le_of_ble_eq_true rfl⟩ rfl rfl (Nat.le_of_ble_eq_true rfl) dX12_readLine_34 ?_
      show V K 37 [some (.ref 0), some (.int (gI S 0 4))] [] S48
      refine V_aload_n (pc := 37) C dX12_readLine_37 rfl rfl ?_
      obtain ⟨S50, euS50, h⟩ := b1_some h
      refine V_callV (As := []) (pc := 38) C (mX12_senseLine _ euS50) zm_X12_senseLine zi_X12_senseLine ml_RX12_232 z1_mW_12 rfl ⟨Nat.le_of_ble_eq_true rfl, Nat.le_of_ble_eq_true rfl⟩ rfl rfl (Nat.le_of_ble_eq_true rfl) dX12_readLine_38 ?_
      show V K 41 [some (.ref 0), some (.int (gI S 0 4))] [] S50
      refine V_goto (tgt := 168) (pc := 41) C dX12_readLine_41 (by decide) ?_
      cases h
      exact hR 168 _ rfl dX12_readLine_168
set_option maxRecDepth 100000 in
theorem mX12_marks_L4 {K : zK} (C : zC K cX12_marks yX12_marks.cls 5 0 0 mW) {S : zM} {v0 : Int32} {v1 : Int32}  : ∀ (f : Nat) (v2 : Int32) (v3 : Int32) (r : Int32), gX12_marks_L4 v0 v1 f v2 v3 = some r → zR K cX12_marks (some .int) S (some (.int r)) → V K 4 [some (.int v0), some (.int v1), some (.int v2), some (.int v3), none] [] S := by
  intro f
  induction f with
  | zero => intro v2 v3 r h hR; cases h
  | succ n ih =>
    intro v2 v3 r h hR
    unfold gX12_marks_L4 at h
    refine V_iload_n (pc := 4) C dX12_marks_4 rfl rfl ?_
    refine V_iload_n (pc := 5) C dX12_marks_5 rfl rfl ?_
    refine V_icmp_gt (tgt := 42) (pc := 6) C dX12_marks_6 (by decide) (fun hc => ?_) (fun hc => ?_)
    · have h := it_t hc h
      refine V_iload_n (pc := 42) C dX12_marks_42 rfl rfl ?_
      cases h
      exact hR 43 _ ⟨_, rfl, rfl⟩ dX12_marks_43
    · have h := it_f hc h
      refine V_iload_n (pc := 9) C dX12_marks_9 rfl rfl ?_
      refine V_sipush (pc := 10) C dX12_marks_10 kc_s_9999 ?_
      refine V_icmp_ge (tgt := 42) (pc := 13) C dX12_marks_13 (by decide) (fun hc => ?_) (fun hc => ?_)
      · have h := it_t hc h
        refine V_iload_n (pc := 42) C dX12_marks_42 rfl rfl ?_
        cases h
        exact hR 43 _ ⟨_, rfl, rfl⟩ dX12_marks_43
      · have h := it_f hc h
        refine V_iload_n (pc := 16) C dX12_marks_16 rfl rfl ?_
        refine V_iload_n (pc := 17) C dX12_marks_17 rfl rfl ?_
        obtain ⟨k1, h⟩ := ck_some h
        refine V_idiv (pc := 18) C dX12_marks_18 (of_decide_eq_true k1) ?_
        refine V_istore (L' := [some (.int v0), some (.int v1), some (.int v2), some (.int v3), some (.int (v2 / v0))]) (pc := 19) C dX12_marks_19 (by decide) rfl ?_
        refine V_iload_n (pc := 21) C dX12_marks_21 rfl rfl ?_
        refine V_iload (pc := 22) C dX12_marks_22 rfl ?_
        refine V_iconst (pc := 24) C dX12_marks_24 kc_i_1 ?_
        refine V_icmp_ge (tgt := 32) (pc := 25) C dX12_marks_25 (by decide) (fun hc => ?_) (fun hc => ?_)
        · have h := it_t hc h
          refine V_iload (pc := 32) C dX12_marks_32 rfl ?_
          refine V_iadd (pc := 34) C dX12_marks_34 ?_
          refine V_istore_n (L' := [some (.int v0), some (.int v1), some (.int (v2 + (v2 / v0))), some (.int v3), some (.int (v2 / v0))]) (pc := 35) C dX12_marks_35 rfl (by decide) rfl ?_
          refine V_iinc (L' := [some (.int v0), some (.int v1), some (.int (v2 + (v2 / v0))), some (.int (v3 + (1 : Int32))), some (.int (v2 / v0))]) (v := (v3 + (1 : Int32))) (pc := 36) C dX12_marks_36 rfl (congrArg (v3 + ·) kc_i_1) (by decide) rfl ?_
          refine V_goto (tgt := 4) (pc := 39) C dX12_marks_39 (by decide) ?_
          exact V_mask [true, true, true, true, false] (ih _ _ _ h hR)
        · have h := it_f hc h
          refine V_iconst (pc := 28) C dX12_marks_28 kc_i_1 ?_
          refine V_goto (tgt := 34) (pc := 29) C dX12_marks_29 (by decide) ?_
          refine V_iadd (pc := 34) C dX12_marks_34 ?_
          refine V_istore_n (L' := [some (.int v0), some (.int v1), some (.int (v2 + (1 : Int32))), some (.int v3), some (.int (v2 / v0))]) (pc := 35) C dX12_marks_35 rfl (by decide) rfl ?_
          refine V_iinc (L' := [some (.int v0), some (.int v1), some (.int (v2 + (1 : Int32))), some (.int (v3 + (1 : Int32))), some (.int (v2 / v0))]) (v := (v3 + (1 : Int32))) (pc := 36) C dX12_marks_36 rfl (congrArg (v3 + ·) kc_i_1) (by decide) rfl ?_
          refine V_goto (tgt := 4) (pc := 39) C dX12_marks_39 (by decide) ?_
          exact V_mask [true, true, true, true, false] (ih _ _ _ h hR)
set_option maxRecDepth 100000 in
theorem mX12_marks (l : Launch) {S : zM} {a0 : Int32} {a1 : Int32} {r : Int32}  (h : gX12_marks a0 a1 = some r) : zMet l mW zS0 yX12_marks cX12_marks 5 (some .int) 0 0 [.int a0, .int a1] S (some (.int r)) S := by
  refine zmeth (by decide +kernel) (by rfl) (fun K hKl C hR => ?_)
  show V K 0 [some (.int a0), some (.int a1), none, none, none] [] S
  unfold gX12_marks at h
  refine V_iconst (pc := 0) C dX12_marks_0 kc_i_1 ?_
  refine V_istore_n (L' := [some (.int a0), some (.int a1), some (.int (1 : Int32)), none, none]) (pc := 1) C dX12_marks_1 rfl (by decide) rfl ?_
  refine V_iconst (pc := 2) C dX12_marks_2 kc_i_0 ?_
  refine V_istore_n (L' := [some (.int a0), some (.int a1), some (.int (1 : Int32)), some (.int (0 : Int32)), none]) (pc := 3) C dX12_marks_3 rfl (by decide) rfl ?_
  exact V_mask [true, true, true, true, false] (mX12_marks_L4 C  FU _ _ _ h hR)
set_option maxRecDepth 100000 in
theorem mX12_power (l : Launch) {S : zM} {a0 : Int64} {a2 : Int32} {r : Int64}  (h : gX12_power a0 a2 = some r) : zMet l mW zS0 yX12_power cX12_power 3 (some .long) 0 0 [.long a0, .int a2] S (some (.long r)) S := by
  refine zmeth (by decide +kernel) (by rfl) (fun K hKl C hR => ?_)
  show V K 0 [some (.long a0), none, some (.int a2)] [] S
  unfold gX12_power at h
  refine V_iload_n (pc := 0) C dX12_power_0 rfl rfl ?_
  refine V_iconst (pc := 1) C dX12_power_1 kc_i_1 ?_
  refine V_icmp_ne (tgt := 9) (pc := 2) C dX12_power_2 (by decide) (fun hc => ?_) (fun hc => ?_)
  · have h := it_f hc h
    refine V_iload_n (pc := 9) C dX12_power_9 rfl rfl ?_
    refine V_iconst (pc := 10) C dX12_power_10 kc_i_2 ?_
    refine V_icmp_ne (tgt := 20) (pc := 11) C dX12_power_11 (by decide) (fun hc => ?_) (fun hc => ?_)
    · have h := it_f hc h
      refine V_lload_n (pc := 20) C dX12_power_20 rfl rfl ?_
      refine V_lload_n (pc := 21) C dX12_power_21 rfl rfl ?_
      refine V_lmul (pc := 22) C dX12_power_22 ?_
      refine V_lload_n (pc := 23) C dX12_power_23 rfl rfl ?_
      refine V_lmul (pc := 24) C dX12_power_24 ?_
      cases h
      exact hR 25 _ rfl dX12_power_25
    · have h := it_t hc h
      refine V_lload_n (pc := 14) C dX12_power_14 rfl rfl ?_
      refine V_lload_n (pc := 15) C dX12_power_15 rfl rfl ?_
      refine V_lmul (pc := 16) C dX12_power_16 ?_
      refine V_goto (tgt := 25) (pc := 17) C dX12_power_17 (by decide) ?_
      cases h
      exact hR 25 _ rfl dX12_power_25
  · have h := it_t hc h
    refine V_lload_n (pc := 5) C dX12_power_5 rfl rfl ?_
    refine V_goto (tgt := 25) (pc := 6) C dX12_power_6 (by decide) ?_
    cases h
    exact hR 25 _ rfl dX12_power_25
set_option maxRecDepth 100000 in
theorem mX12_root_L15 {K : zK} (C : zC K cX12_root yX12_root.cls 8 1 22 mW) {S : zM} {v2 : Int32} {v3 : Int64}  : ∀ (f : Nat) (v5 : Int32) (v6 : Int32) (r : Int32), gX12_root_L15 v2 v3 f v5 v6 = some r → zR K cX12_root (some .int) S (some (.int r)) → V K 15 [none, none, some (.int v2), some (.long v3), none, some (.int v5), some (.int v6), none] [] S := by
  intro f
  induction f with
  | zero => intro v5 v6 r h hR; cases h
  | succ n ih =>
    intro v5 v6 r h hR
    unfold gX12_root_L15 at h
    refine V_iload (pc := 15) C dX12_root_15 rfl ?_
    refine V_iload (pc := 17) C dX12_root_17 rfl ?_
    refine V_isub (pc := 19) C dX12_root_19 ?_
    refine V_iconst (pc := 20) C dX12_root_20 kc_i_1 ?_
    refine V_icmp_le (tgt := 59) (pc := 21) C dX12_root_21 (by decide) (fun hc => ?_) (fun hc => ?_)
    · have h := it_t hc h
      refine V_iload (pc := 59) C dX12_root_59 rfl ?_
      cases h
      exact hR 61 _ ⟨_, rfl, rfl⟩ dX12_root_61
    · have h := it_f hc h
      refine V_iload (pc := 24) C dX12_root_24 rfl ?_
      refine V_iload (pc := 26) C dX12_root_26 rfl ?_
      refine V_iadd (pc := 28) C dX12_root_28 ?_
      refine V_iconst (pc := 29) C dX12_root_29 kc_i_2 ?_
      refine V_idiv (pc := 30) C dX12_root_30 (by decide) ?_
      refine V_istore (L' := [none, none, some (.int v2), some (.long v3), none, some (.int v5), some (.int v6), some (.int ((v5 + v6) / (2 : Int32)))]) (pc := 31) C dX12_root_31 (by decide) rfl ?_
      refine V_iload (pc := 33) C dX12_root_33 rfl ?_
      refine V_i2l (pc := 35) C dX12_root_35 ?_
      refine V_iload_n (pc := 36) C dX12_root_36 rfl rfl ?_
      obtain ⟨r2, er2, h⟩ := b1_some h
      refine V_callS (As := [.long (((v5 + v6) / (2 : Int32)).toInt64), .int v2]) (pc := 37) C (mX12_power _ er2) zm_X12_power zs_X12_power ml_RX12_296 ⟨Nat.le_of_ble_eq_true rfl, Nat.le_of_ble_eq_true rfl⟩ rfl rfl (Nat.le_of_ble_eq_true rfl) dX12_root_37 ?_
      show V K 40 [none, none, some (.int v2), some (.long v3), none, some (.int v5), some (.int v6), some (.int ((v5 + v6) / (2 : Int32)))] [.long r2] S
      refine V_lload_n (pc := 40) C dX12_root_40 rfl rfl ?_
      refine V_lcmp_gt (tgt := 52) (pc := 41) C dX12_root_41 dX12_root_42 (by decide) (fun hc => ?_) (fun hc => ?_)
      · have h := it_t hc h
        refine V_iload (pc := 52) C dX12_root_52 rfl ?_
        refine V_istore (L' := [none, none, some (.int v2), some (.long v3), none, some (.int v5), some (.int ((v5 + v6) / (2 : Int32))), some (.int ((v5 + v6) / (2 : Int32)))]) (pc := 54) C dX12_root_54 (by decide) rfl ?_
        refine V_goto (tgt := 15) (pc := 56) C dX12_root_56 (by decide) ?_
        exact V_mask [false, false, true, true, false, true, true, false] (ih _ _ _ h hR)
      · have h := it_f hc h
        refine V_iload (pc := 45) C dX12_root_45 rfl ?_
        refine V_istore (L' := [none, none, some (.int v2), some (.long v3), none, some (.int ((v5 + v6) / (2 : Int32))), some (.int v6), some (.int ((v5 + v6) / (2 : Int32)))]) (pc := 47) C dX12_root_47 (by decide) rfl ?_
        refine V_goto (tgt := 56) (pc := 49) C dX12_root_49 (by decide) ?_
        refine V_goto (tgt := 15) (pc := 56) C dX12_root_56 (by decide) ?_
        exact V_mask [false, false, true, true, false, true, true, false] (ih _ _ _ h hR)
set_option maxRecDepth 100000 in
theorem mX12_root (l : Launch) {S : zM} {a0 : Int32} {a1 : Int32} {a2 : Int32} {r : Int32}  (h : gX12_root a0 a1 a2 = some r) : zMet l mW zS0 yX12_root cX12_root 8 (some .int) 1 22 [.int a0, .int a1, .int a2] S (some (.int r)) S := by
  refine zmeth (by decide +kernel) (by rfl) (fun K hKl C hR => ?_)
  show V K 0 [some (.int a0), some (.int a1), some (.int a2), none, none, none, none, none] [] S
  unfold gX12_root at h
  refine V_iload_n (pc := 0) C dX12_root_0 rfl rfl ?_
  refine V_i2l (pc := 1) C dX12_root_1 ?_
  refine V_iload_n (pc := 2) C dX12_root_2 rfl rfl ?_
  obtain ⟨r1, er1, h⟩ := b1_some h
  refine V_callS (As := [.long a0.toInt64, .int a1]) (pc := 3) C (mX12_power _ er1) zm_X12_power zs_X12_power ml_RX12_296 ⟨Nat.le_of_ble_eq_true rfl, Nat.le_of_ble_eq_true rfl⟩ rfl rfl (Nat.le_of_ble_eq_true rfl) dX12_root_3 ?_
  show V K 6 [some (.int a0), some (.int a1), some (.int a2), none, none, none, none, none] [.long r1] S
  refine V_lstore_n (L' := [some (.int a0), some (.int a1), some (.int a2), some (.long r1), none, none, none, none]) (pc := 6) C dX12_root_6 rfl (by decide) rfl ?_
  refine V_iconst (pc := 7) C dX12_root_7 kc_i_0 ?_
  refine V_istore (L' := [some (.int a0), some (.int a1), some (.int a2), some (.long r1), none, some (.int (0 : Int32)), none, none]) (pc := 8) C dX12_root_8 (by decide) rfl ?_
  refine V_sipush (pc := 10) C dX12_root_10 kc_s_10000 ?_
  refine V_istore (L' := [some (.int a0), some (.int a1), some (.int a2), some (.long r1), none, some (.int (0 : Int32)), some (.int (10000 : Int32)), none]) (pc := 13) C dX12_root_13 (by decide) rfl ?_
  exact V_mask [false, false, true, true, false, true, true, false] (mX12_root_L15 C  FU _ _ _ h hR)
set_option maxRecDepth 100000 in
theorem mX12_reckoned_J121 {K : zK} (C : zC K cX12_reckoned yX12_reckoned.cls 8 2 49 mW) {S : zM} {v1 : Int32} {v4 : Int32} {s0 : Int32} {out : Int32 ⊕ (Int32 × Int32)}  (h : gX12_reckoned_J121 v1 v4 s0 = some out) (hb : ∀ (b3 : Int32) (b4 : Int32), out = .inr (b3, b4) → V K 7 [some (.ref 0), some (.int v1), none, some (.int b3), some (.int b4), none, none, none] [] S) : V K 121 [some (.ref 0), some (.int v1), none, none, some (.int v4), none, none, none] [.int s0] S := by
  unfold gX12_reckoned_J121 at h
  refine V_istore_n (L' := [some (.ref 0), some (.int v1), none, some (.int s0), some (.int v4), none, none, none]) (pc := 121) C dX12_reckoned_121 rfl (by decide) rfl ?_
  refine V_iload_n (pc := 122) C dX12_reckoned_122 rfl rfl ?_
  refine V_sipush (pc := 123) C dX12_reckoned_123 kc_s_9999 ?_
  refine V_icmp_le (tgt := 135) (pc := 126) C dX12_reckoned_126 (by decide) (fun hc => ?_) (fun hc => ?_)
  · have h := it_t hc h
    refine V_iload_n (pc := 135) C dX12_reckoned_135 rfl rfl ?_
    refine V_istore_n (L' := [some (.ref 0), some (.int v1), none, some (.int s0), some (.int v4), none, none, none]) (pc := 136) C dX12_reckoned_136 rfl (by decide) rfl ?_
    refine V_iinc (L' := [some (.ref 0), some (.int v1), none, some (.int s0), some (.int (v4 + (1 : Int32))), none, none, none]) (v := (v4 + (1 : Int32))) (pc := 137) C dX12_reckoned_137 rfl (congrArg (v4 + ·) kc_i_1) (by decide) rfl ?_
    refine V_goto (tgt := 7) (pc := 140) C dX12_reckoned_140 (by decide) ?_
    cases h
    exact V_mask [true, true, false, true, true, false, false, false] (hb _ _ rfl)
  · have h := it_f hc h
    refine V_sipush (pc := 129) C dX12_reckoned_129 kc_s_9999 ?_
    refine V_goto (tgt := 136) (pc := 132) C dX12_reckoned_132 (by decide) ?_
    refine V_istore_n (L' := [some (.ref 0), some (.int v1), none, some (.int (9999 : Int32)), some (.int v4), none, none, none]) (pc := 136) C dX12_reckoned_136 rfl (by decide) rfl ?_
    refine V_iinc (L' := [some (.ref 0), some (.int v1), none, some (.int (9999 : Int32)), some (.int (v4 + (1 : Int32))), none, none, none]) (v := (v4 + (1 : Int32))) (pc := 137) C dX12_reckoned_137 rfl (congrArg (v4 + ·) kc_i_1) (by decide) rfl ?_
    refine V_goto (tgt := 7) (pc := 140) C dX12_reckoned_140 (by decide) ?_
    cases h
    exact V_mask [true, true, false, true, true, false, false, false] (hb _ _ rfl)
set_option maxRecDepth 100000 in
theorem mX12_reckoned_L7 {K : zK} (C : zC K cX12_reckoned yX12_reckoned.cls 8 2 49 mW) {S : zM} {v1 : Int32}  : ∀ (f : Nat) (v3 : Int32) (v4 : Int32) (r : Int32), gX12_reckoned_L7 S v1 f v3 v4 = some r → zR K cX12_reckoned (some .int) S (some (.int r)) → V K 7 [some (.ref 0), some (.int v1), none, some (.int v3), some (.int v4), none, none, none] [] S := by
  intro f
  induction f with
  | zero => intro v3 v4 r h hR; cases h
  | succ n ih =>
    intro v3 v4 r h hR
    unfold gX12_reckoned_L7 at h
    refine V_iload (pc := 7) C dX12_reckoned_7 rfl ?_
    refine V_iconst (pc := 9) C dX12_reckoned_9 kc_i_4 ?_
    refine V_iload_n (pc := 10) C dX12_reckoned_10 rfl rfl ?_
    refine V_imul (pc := 11) C dX12_reckoned_11 ?_
    refine V_aload_n (pc := 12) C dX12_reckoned_12 rfl rfl ?_
    refine V_getF (p1 := 3) (pc := 13) C z1_mW_12 fl_RX12_20 rfl (zf_mW_12_15 z1_mW_12) dX12_reckoned_13 ?_
    refine V_iconst (pc := 16) C dX12_reckoned_16 kc_i_0 ?_
    refine V_iload_n (pc := 17) C dX12_reckoned_17 rfl rfl ?_
    refine V_iadd (pc := 18) C dX12_reckoned_18 ?_
    obtain ⟨k1, h⟩ := ck_some h
    refine V_iald (pc := 19) C (za_mW_12_15 z1_mW_12) k1 dX12_reckoned_19 ?_
    refine V_iadd (pc := 20) C dX12_reckoned_20 ?_
    refine V_icmp_ge (tgt := 143) (pc := 21) C dX12_reckoned_21 (by decide) (fun hc => ?_) (fun hc => ?_)
    · have h := it_t hc h
      refine V_iload_n (pc := 143) C dX12_reckoned_143 rfl rfl ?_
      cases h
      exact hR 144 _ ⟨_, rfl, rfl⟩ dX12_reckoned_144
    · have h := it_f hc h
      refine V_aload_n (pc := 24) C dX12_reckoned_24 rfl rfl ?_
      refine V_getF (p1 := 3) (pc := 25) C z1_mW_12 fl_RX12_20 rfl (zf_mW_12_15 z1_mW_12) dX12_reckoned_25 ?_
      refine V_bipush (pc := 28) C dX12_reckoned_28 kc_b_30 ?_
      refine V_iload (pc := 30) C dX12_reckoned_30 rfl ?_
      refine V_iadd (pc := 32) C dX12_reckoned_32 ?_
      obtain ⟨k2, h⟩ := ck_some h
      refine V_iald (pc := 33) C (za_mW_12_15 z1_mW_12) k2 dX12_reckoned_33 ?_
      obtain ⟨x3, ex3, h⟩ := lt_some h
      refine V_nmI ex3 ?_
      refine V_istore (L' := [some (.ref 0), some (.int v1), none, some (.int v3), some (.int v4), some (.int x3), none, none]) (pc := 34) C dX12_reckoned_34 (by decide) rfl ?_
      refine V_aload_n (pc := 36) C dX12_reckoned_36 rfl rfl ?_
      refine V_getF (p1 := 3) (pc := 37) C z1_mW_12 fl_RX12_20 rfl (zf_mW_12_15 z1_mW_12) dX12_reckoned_37 ?_
      refine V_bipush (pc := 40) C dX12_reckoned_40 kc_b_54 ?_
      refine V_iload (pc := 42) C dX12_reckoned_42 rfl ?_
      refine V_iadd (pc := 44) C dX12_reckoned_44 ?_
      obtain ⟨k4, h⟩ := ck_some h
      refine V_iald (pc := 45) C (za_mW_12_15 z1_mW_12) k4 dX12_reckoned_45 ?_
      obtain ⟨x5, ex5, h⟩ := lt_some h
      refine V_nmI ex5 ?_
      refine V_istore (L' := [some (.ref 0), some (.int v1), none, some (.int v3), some (.int v4), some (.int x3), some (.int x5), none]) (pc := 46) C dX12_reckoned_46 (by decide) rfl ?_
      refine V_aload_n (pc := 48) C dX12_reckoned_48 rfl rfl ?_
      refine V_getF (p1 := 3) (pc := 49) C z1_mW_12 fl_RX12_20 rfl (zf_mW_12_15 z1_mW_12) dX12_reckoned_49 ?_
      refine V_bipush (pc := 52) C dX12_reckoned_52 kc_b_6 ?_
      refine V_iload (pc := 54) C dX12_reckoned_54 rfl ?_
      refine V_iadd (pc := 56) C dX12_reckoned_56 ?_
      obtain ⟨k6, h⟩ := ck_some h
      refine V_iald (pc := 57) C (za_mW_12_15 z1_mW_12) k6 dX12_reckoned_57 ?_
      obtain ⟨x7, ex7, h⟩ := lt_some h
      refine V_nmI ex7 ?_
      refine V_istore (L' := [some (.ref 0), some (.int v1), none, some (.int v3), some (.int v4), some (.int x3), some (.int x5), some (.int x7)]) (pc := 58) C dX12_reckoned_58 (by decide) rfl ?_
      refine V_iload (pc := 60) C dX12_reckoned_60 rfl ?_
      refine V_if_ne (tgt := 74) (pc := 62) C dX12_reckoned_62 (by decide) (fun hc => ?_) (fun hc => ?_)
      · have h := it_f hc h
        refine V_iload (pc := 74) C dX12_reckoned_74 rfl ?_
        refine V_iconst (pc := 76) C dX12_reckoned_76 kc_i_1 ?_
        refine V_icmp_ne (tgt := 91) (pc := 77) C dX12_reckoned_77 (by decide) (fun hc => ?_) (fun hc => ?_)
        · have h := it_f hc h
          refine V_iload (pc := 91) C dX12_reckoned_91 rfl ?_
          refine V_iconst (pc := 93) C dX12_reckoned_93 kc_i_2 ?_
          refine V_icmp_ne (tgt := 107) (pc := 94) C dX12_reckoned_94 (by decide) (fun hc => ?_) (fun hc => ?_)
          · have h := it_f hc h
            refine V_iload_n (pc := 107) C dX12_reckoned_107 rfl rfl ?_
            refine V_iload (pc := 108) C dX12_reckoned_108 rfl ?_
            refine V_icmp_ge (tgt := 117) (pc := 110) C dX12_reckoned_110 (by decide) (fun hc => ?_) (fun hc => ?_)
            · have h := it_t hc h
              refine V_iload_n (pc := 117) C dX12_reckoned_117 rfl rfl ?_
              refine V_iload (pc := 118) C dX12_reckoned_118 rfl ?_
              refine V_isub (pc := 120) C dX12_reckoned_120 ?_
              obtain ⟨out', e121, hi, hb⟩ := lm_some h
              refine V_mask [true, true, false, false, true, false, false, false] (mX12_reckoned_J121 C  e121 ?_)
              · intro v3 v4 eo
                have h := hb _ eo
                exact ih _ _ _ h hR
            · have h := it_f hc h
              refine V_iconst (pc := 113) C dX12_reckoned_113 kc_i_0 ?_
              refine V_goto (tgt := 121) (pc := 114) C dX12_reckoned_114 (by decide) ?_
              obtain ⟨out', e121, hi, hb⟩ := lm_some h
              refine V_mask [true, true, false, false, true, false, false, false] (mX12_reckoned_J121 C  e121 ?_)
              · intro v3 v4 eo
                have h := hb _ eo
                exact ih _ _ _ h hR
          · have h := it_t hc h
            refine V_iload (pc := 97) C dX12_reckoned_97 rfl ?_
            refine V_iload_n (pc := 99) C dX12_reckoned_99 rfl rfl ?_
            refine V_imul (pc := 100) C dX12_reckoned_100 ?_
            refine V_iload (pc := 101) C dX12_reckoned_101 rfl ?_
            obtain ⟨k8, h⟩ := ck_some h
            refine V_idiv (pc := 103) C dX12_reckoned_103 (of_decide_eq_true k8) ?_
            refine V_goto (tgt := 121) (pc := 104) C dX12_reckoned_104 (by decide) ?_
            obtain ⟨out', e121, hi, hb⟩ := lm_some h
            refine V_mask [true, true, false, false, true, false, false, false] (mX12_reckoned_J121 C  e121 ?_)
            · intro v3 v4 eo
              have h := hb _ eo
              exact ih _ _ _ h hR
        · have h := it_t hc h
          refine V_iload_n (pc := 80) C dX12_reckoned_80 rfl rfl ?_
          refine V_iload (pc := 81) C dX12_reckoned_81 rfl ?_
          refine V_iload (pc := 83) C dX12_reckoned_83 rfl ?_
          obtain ⟨r9, er9, h⟩ := b1_some h
          refine V_callS (As := [.int v3, .int x3, .int x5]) (pc := 85) C (mX12_root _ er9) zm_X12_root zs_X12_root ml_RX12_302 ⟨Nat.le_of_ble_eq_true rfl, Nat.le_of_ble_eq_true rfl⟩ rfl rfl (Nat.le_of_ble_eq_true rfl) dX12_reckoned_85 ?_
          show V K 88 [some (.ref 0), some (.int v1), none, some (.int v3), some (.int v4), some (.int x3), some (.int x5), some (.int x7)] [.int r9] S
          refine V_goto (tgt := 121) (pc := 88) C dX12_reckoned_88 (by decide) ?_
          obtain ⟨out', e121, hi, hb⟩ := lm_some h
          refine V_mask [true, true, false, false, true, false, false, false] (mX12_reckoned_J121 C  e121 ?_)
          · intro v3 v4 eo
            have h := hb _ eo
            exact ih _ _ _ h hR
      · have h := it_t hc h
        refine V_iload (pc := 65) C dX12_reckoned_65 rfl ?_
        refine V_iload_n (pc := 67) C dX12_reckoned_67 rfl rfl ?_
        obtain ⟨r10, er10, h⟩ := b1_some h
        refine V_callS (As := [.int x3, .int v3]) (pc := 68) C (mX12_marks _ er10) zm_X12_marks zs_X12_marks ml_RX12_299 ⟨Nat.le_of_ble_eq_true rfl, Nat.le_of_ble_eq_true rfl⟩ rfl rfl (Nat.le_of_ble_eq_true rfl) dX12_reckoned_68 ?_
        show V K 71 [some (.ref 0), some (.int v1), none, some (.int v3), some (.int v4), some (.int x3), some (.int x5), some (.int x7)] [.int r10] S
        refine V_goto (tgt := 121) (pc := 71) C dX12_reckoned_71 (by decide) ?_
        obtain ⟨out', e121, hi, hb⟩ := lm_some h
        refine V_mask [true, true, false, false, true, false, false, false] (mX12_reckoned_J121 C  e121 ?_)
        · intro v3 v4 eo
          have h := hb _ eo
          exact ih _ _ _ h hR
set_option maxRecDepth 100000 in
theorem mX12_reckoned (l : Launch) {S : zM} {a1 : Int32} {a2 : Int32} {r : Int32}  (h : gX12_reckoned S a1 a2 = some r) : zMet l mW zS0 yX12_reckoned cX12_reckoned 8 (some .int) 2 49 [.ref 0, .int a1, .int a2] S (some (.int r)) S := by
  refine zmeth (by decide +kernel) (by rfl) (fun K hKl C hR => ?_)
  show V K 0 [some (.ref 0), some (.int a1), some (.int a2), none, none, none, none, none] [] S
  unfold gX12_reckoned at h
  refine V_iload_n (pc := 0) C dX12_reckoned_0 rfl rfl ?_
  refine V_istore_n (L' := [some (.ref 0), some (.int a1), some (.int a2), some (.int a2), none, none, none, none]) (pc := 1) C dX12_reckoned_1 rfl (by decide) rfl ?_
  refine V_iconst (pc := 2) C dX12_reckoned_2 kc_i_4 ?_
  refine V_iload_n (pc := 3) C dX12_reckoned_3 rfl rfl ?_
  refine V_imul (pc := 4) C dX12_reckoned_4 ?_
  refine V_istore (L' := [some (.ref 0), some (.int a1), some (.int a2), some (.int a2), some (.int ((4 : Int32) * a1)), none, none, none]) (pc := 5) C dX12_reckoned_5 (by decide) rfl ?_
  exact V_mask [true, true, false, true, true, false, false, false] (mX12_reckoned_L7 C  FU _ _ _ h hR)
set_option maxRecDepth 100000 in
theorem mX12_room_L39 {K : zK} (C : zC K cX12_room yX12_room.cls 4 11 283 mW) {v1 : Int32}  : ∀ (f : Nat) (S : zM) (v2 : Int32) (S' : zM), gX12_room_L39 v1 f S v2 = some S' → V K 59 [some (.ref 0), some (.int v1), none, none] [] S' → V K 39 [some (.ref 0), some (.int v1), some (.int v2), none] [] S := by
  intro f
  induction f with
  | zero => intro S v2 S' h hx; cases h
  | succ n ih =>
    intro S v2 S' h hx
    unfold gX12_room_L39 at h
    refine V_iload_n (pc := 39) C dX12_room_39 rfl rfl ?_
    refine V_sipush (pc := 40) C dX12_room_40 kc_s_463 ?_
    refine V_icmp_ge (tgt := 59) (pc := 43) C dX12_room_43 (by decide) (fun hc => ?_) (fun hc => ?_)
    · have h := it_t hc h
      cases h
      exact V_mask [true, true, false, false] hx
    · have h := it_f hc h
      refine V_aload_n (pc := 46) C dX12_room_46 rfl rfl ?_
      refine V_getF (p1 := 4) (pc := 47) C z1_mW_12 fl_RX12_23 rfl (zf_mW_12_16 z1_mW_12) dX12_room_47 ?_
      refine V_iload_n (pc := 50) C dX12_room_50 rfl rfl ?_
      refine V_iconst (pc := 51) C dX12_room_51 kc_i_0 ?_
      obtain ⟨k4, h⟩ := ck_some h
      refine V_iast (pc := 52) C (za_mW_12_16 z1_mW_12) k4 dX12_room_52 ?_
      refine V_iinc (L' := [some (.ref 0), some (.int v1), some (.int (v2 + (1 : Int32))), none]) (v := (v2 + (1 : Int32))) (pc := 53) C dX12_room_53 rfl (congrArg (v2 + ·) kc_i_1) (by decide) rfl ?_
      refine V_goto (tgt := 39) (pc := 56) C dX12_room_56 (by decide) ?_
      exact V_mask [true, true, true, false] (ih _ _ _ h hx)
set_option maxRecDepth 100000 in
theorem mX12_room_L77 {K : zK} (C : zC K cX12_room yX12_room.cls 4 11 283 mW)   : ∀ (f : Nat) (S : zM) (S' : zM), gX12_room_L77 f S = some S' → V K 104 [some (.ref 0), none, none, none] [] S' → V K 77 [some (.ref 0), none, none, none] [] S := by
  intro f
  induction f with
  | zero => intro S S' h hx; cases h
  | succ n ih =>
    intro S S' h hx
    unfold gX12_room_L77 at h
    refine V_aload_n (pc := 77) C dX12_room_77 rfl rfl ?_
    refine V_getI (pc := 78) C z1_mW_12 fl_RX12_143 (by decide) dX12_room_78 ?_
    refine V_if_ne (tgt := 104) (pc := 81) C dX12_room_81 (by decide) (fun hc => ?_) (fun hc => ?_)
    · have h := it_f hc h
      cases h
      exact V_mask [true, false, false, false] hx
    · have h := it_t hc h
      refine V_aload_n (pc := 84) C dX12_room_84 rfl rfl ?_
      refine V_getI (pc := 85) C z1_mW_12 fl_RX12_133 (by decide) dX12_room_85 ?_
      refine V_bipush (pc := 88) C dX12_room_88 kc_b_59 ?_
      refine V_icmp_ne (tgt := 104) (pc := 90) C dX12_room_90 (by decide) (fun hc => ?_) (fun hc => ?_)
      · have h := it_f hc h
        cases h
        exact V_mask [true, false, false, false] hx
      · have h := it_t hc h
        refine V_aload_n (pc := 93) C dX12_room_93 rfl rfl ?_
        obtain ⟨S11, euS11, h⟩ := b1_some h
        refine V_callV (As := []) (pc := 94) C (mX12_next _ euS11) zm_X12_next zi_X12_next ml_RX12_164 z1_mW_12 rfl ⟨Nat.le_of_ble_eq_true rfl, Nat.le_of_ble_eq_true rfl⟩ rfl rfl (Nat.le_of_ble_eq_true rfl) dX12_room_94 ?_
        show V K 97 [some (.ref 0), none, none, none] [] S11
        refine V_aload_n (pc := 97) C dX12_room_97 rfl rfl ?_
        obtain ⟨S13, euS13, h⟩ := b1_some h
        refine V_callV (As := []) (pc := 98) C (mX12_readLine _ euS13) zm_X12_readLine zi_X12_readLine ml_RX12_217 z1_mW_12 rfl ⟨Nat.le_of_ble_eq_true rfl, Nat.le_of_ble_eq_true rfl⟩ rfl rfl (Nat.le_of_ble_eq_true rfl) dX12_room_98 ?_
        show V K 101 [some (.ref 0), none, none, none] [] S13
        refine V_goto (tgt := 77) (pc := 101) C dX12_room_101 (by decide) ?_
        exact V_mask [true, false, false, false] (ih _ _ h hx)
set_option maxRecDepth 100000 in
theorem mX12_room_L170 {K : zK} (C : zC K cX12_room yX12_room.cls 4 11 283 mW)   : ∀ (f : Nat) (S : zM) (v2 : Int32) (S' : zM), gX12_room_L170 f S v2 = some S' → V K 195 [some (.ref 0), none, none, none] [] S' → V K 170 [some (.ref 0), none, some (.int v2), none] [] S := by
  intro f
  induction f with
  | zero => intro S v2 S' h hx; cases h
  | succ n ih =>
    intro S v2 S' h hx
    unfold gX12_room_L170 at h
    refine V_iload_n (pc := 170) C dX12_room_170 rfl rfl ?_
    refine V_sipush (pc := 171) C dX12_room_171 kc_s_463 ?_
    refine V_icmp_ge (tgt := 195) (pc := 174) C dX12_room_174 (by decide) (fun hc => ?_) (fun hc => ?_)
    · have h := it_t hc h
      cases h
      exact V_mask [true, false, false, false] hx
    · have h := it_f hc h
      refine V_aload_n (pc := 177) C dX12_room_177 rfl rfl ?_
      refine V_getF (p1 := 3) (pc := 178) C z1_mW_12 fl_RX12_20 rfl (zf_mW_12_15 z1_mW_12) dX12_room_178 ?_
      refine V_iload_n (pc := 181) C dX12_room_181 rfl rfl ?_
      refine V_aload_n (pc := 182) C dX12_room_182 rfl rfl ?_
      refine V_getF (p1 := 4) (pc := 183) C z1_mW_12 fl_RX12_23 rfl (zf_mW_12_16 z1_mW_12) dX12_room_183 ?_
      refine V_iload_n (pc := 186) C dX12_room_186 rfl rfl ?_
      obtain ⟨k15, h⟩ := ck_some h
      refine V_iald (pc := 187) C (za_mW_12_16 z1_mW_12) k15 dX12_room_187 ?_
      obtain ⟨k16, h⟩ := ck_some h
      refine V_iast (pc := 188) C (za_mW_12_15 z1_mW_12) k16 dX12_room_188 ?_
      refine V_iinc (L' := [some (.ref 0), none, some (.int (v2 + (1 : Int32))), none]) (v := (v2 + (1 : Int32))) (pc := 189) C dX12_room_189 rfl (congrArg (v2 + ·) kc_i_1) (by decide) rfl ?_
      refine V_goto (tgt := 170) (pc := 192) C dX12_room_192 (by decide) ?_
      exact V_mask [true, false, true, false] (ih _ _ _ h hx)
set_option maxRecDepth 100000 in
theorem mX12_room_L212 {K : zK} (C : zC K cX12_room yX12_room.cls 4 11 283 mW)   : ∀ (f : Nat) (S : zM) (v2 : Int32) (S' : zM), gX12_room_L212 f S v2 = some S' → V K 238 [some (.ref 0), none, none, none] [] S' → V K 212 [some (.ref 0), none, some (.int v2), none] [] S := by
  intro f
  induction f with
  | zero => intro S v2 S' h hx; cases h
  | succ n ih =>
    intro S v2 S' h hx
    unfold gX12_room_L212 at h
    refine V_iload_n (pc := 212) C dX12_room_212 rfl rfl ?_
    refine V_bipush (pc := 213) C dX12_room_213 kc_b_6 ?_
    refine V_icmp_ge (tgt := 238) (pc := 215) C dX12_room_215 (by decide) (fun hc => ?_) (fun hc => ?_)
    · have h := it_t hc h
      cases h
      exact V_mask [true, false, false, false] hx
    · have h := it_f hc h
      refine V_aload_n (pc := 218) C dX12_room_218 rfl rfl ?_
      refine V_getF (p1 := 6) (pc := 219) C z1_mW_12 fl_RX12_29 rfl (zf_mW_12_18 z1_mW_12) dX12_room_219 ?_
      refine V_iload_n (pc := 222) C dX12_room_222 rfl rfl ?_
      refine V_iconst (pc := 223) C dX12_room_223 kc_i_0 ?_
      obtain ⟨k18, h⟩ := ck_some h
      refine V_iast (pc := 224) C (za_mW_12_18 z1_mW_12) k18 dX12_room_224 ?_
      refine V_aload_n (pc := 225) C dX12_room_225 rfl rfl ?_
      refine V_getF (p1 := 7) (pc := 226) C z1_mW_12 fl_RX12_32 rfl (zf_mW_12_19 z1_mW_12) dX12_room_226 ?_
      refine V_iload_n (pc := 229) C dX12_room_229 rfl rfl ?_
      refine V_iconst (pc := 230) C dX12_room_230 kc_i_0 ?_
      obtain ⟨k19, h⟩ := ck_some h
      refine V_iast (pc := 231) C (za_mW_12_19 z1_mW_12) k19 dX12_room_231 ?_
      refine V_iinc (L' := [some (.ref 0), none, some (.int (v2 + (1 : Int32))), none]) (v := (v2 + (1 : Int32))) (pc := 232) C dX12_room_232 rfl (congrArg (v2 + ·) kc_i_1) (by decide) rfl ?_
      refine V_goto (tgt := 212) (pc := 235) C dX12_room_235 (by decide) ?_
      exact V_mask [true, false, true, false] (ih _ _ _ h hx)
set_option maxRecDepth 100000 in
theorem mX12_room_L254 {K : zK} (C : zC K cX12_room yX12_room.cls 4 11 283 mW) {v2 : Int32}  : ∀ (f : Nat) (S : zM) (v3 : Int32) (S' : zM), gX12_room_L254 v2 f S v3 = some S' → V K 285 [some (.ref 0), none, some (.int v2), none] [] S' → V K 254 [some (.ref 0), none, some (.int v2), some (.int v3)] [] S := by
  intro f
  induction f with
  | zero => intro S v3 S' h hx; cases h
  | succ n ih =>
    intro S v3 S' h hx
    unfold gX12_room_L254 at h
    refine V_iload_n (pc := 254) C dX12_room_254 rfl rfl ?_
    refine V_sipush (pc := 255) C dX12_room_255 kc_s_401 ?_
    refine V_icmp_ge (tgt := 285) (pc := 258) C dX12_room_258 (by decide) (fun hc => ?_) (fun hc => ?_)
    · have h := it_t hc h
      cases h
      exact V_mask [true, false, true, false] hx
    · have h := it_f hc h
      refine V_aload_n (pc := 261) C dX12_room_261 rfl rfl ?_
      refine V_getF (p1 := 5) (pc := 262) C z1_mW_12 fl_RX12_26 rfl (zf_mW_12_17 z1_mW_12) dX12_room_262 ?_
      refine V_sipush (pc := 265) C dX12_room_265 kc_s_401 ?_
      refine V_iload_n (pc := 268) C dX12_room_268 rfl rfl ?_
      refine V_imul (pc := 269) C dX12_room_269 ?_
      refine V_iload_n (pc := 270) C dX12_room_270 rfl rfl ?_
      refine V_iadd (pc := 271) C dX12_room_271 ?_
      refine V_aload_n (pc := 272) C dX12_room_272 rfl rfl ?_
      refine V_iload_n (pc := 273) C dX12_room_273 rfl rfl ?_
      refine V_iload_n (pc := 274) C dX12_room_274 rfl rfl ?_
      obtain ⟨r23, er23, h⟩ := b1_some h
      refine V_callV (As := [.int v2, .int v3]) (pc := 275) C (mX12_reckoned _ er23) zm_X12_reckoned zi_X12_reckoned ml_RX12_229 z1_mW_12 rfl ⟨Nat.le_of_ble_eq_true rfl, Nat.le_of_ble_eq_true rfl⟩ rfl rfl (Nat.le_of_ble_eq_true rfl) dX12_room_275 ?_
      show V K 278 [some (.ref 0), none, some (.int v2), some (.int v3)] [.int r23, .int (((401 : Int32) * v2) + v3), .ref 5] S
      obtain ⟨k24, h⟩ := ck_some h
      refine V_iast (pc := 278) C (za_mW_12_17 z1_mW_12) k24 dX12_room_278 ?_
      refine V_iinc (L' := [some (.ref 0), none, some (.int v2), some (.int (v3 + (1 : Int32)))]) (v := (v3 + (1 : Int32))) (pc := 279) C dX12_room_279 rfl (congrArg (v3 + ·) kc_i_1) (by decide) rfl ?_
      refine V_goto (tgt := 254) (pc := 282) C dX12_room_282 (by decide) ?_
      exact V_mask [true, false, true, true] (ih _ _ _ h hx)
set_option maxRecDepth 100000 in
theorem mX12_room_L240 {K : zK} (C : zC K cX12_room yX12_room.cls 4 11 283 mW)   : ∀ (f : Nat) (S : zM) (v2 : Int32) (r : Int32) (S' : zM), gX12_room_L240 f S v2 = some (r, S') → zR K cX12_room (some .int) S' (some (.int r)) → V K 240 [some (.ref 0), none, some (.int v2), none] [] S := by
  intro f
  induction f with
  | zero => intro S v2 r S' h hR; cases h
  | succ n ih =>
    intro S v2 r S' h hR
    unfold gX12_room_L240 at h
    refine V_iload_n (pc := 240) C dX12_room_240 rfl rfl ?_
    refine V_aload_n (pc := 241) C dX12_room_241 rfl rfl ?_
    refine V_getF (p1 := 3) (pc := 242) C z1_mW_12 fl_RX12_20 rfl (zf_mW_12_15 z1_mW_12) dX12_room_242 ?_
    refine V_sipush (pc := 245) C dX12_room_245 kc_s_238 ?_
    obtain ⟨k21, h⟩ := ck_some h
    refine V_iald (pc := 248) C (za_mW_12_15 z1_mW_12) k21 dX12_room_248 ?_
    refine V_icmp_ge (tgt := 291) (pc := 249) C dX12_room_249 (by decide) (fun hc => ?_) (fun hc => ?_)
    · have h := it_t hc h
      refine V_aload_n (pc := 291) C dX12_room_291 rfl rfl ?_
      refine V_getF (p1 := 3) (pc := 292) C z1_mW_12 fl_RX12_20 rfl (zf_mW_12_15 z1_mW_12) dX12_room_292 ?_
      refine V_sipush (pc := 295) C dX12_room_295 kc_s_238 ?_
      obtain ⟨k22, h⟩ := ck_some h
      refine V_iald (pc := 298) C (za_mW_12_15 z1_mW_12) k22 dX12_room_298 ?_
      cases h
      exact hR 299 _ ⟨_, rfl, rfl⟩ dX12_room_299
    · have h := it_f hc h
      refine V_iconst (pc := 252) C dX12_room_252 kc_i_0 ?_
      refine V_istore_n (L' := [some (.ref 0), none, some (.int v2), some (.int (0 : Int32))]) (pc := 253) C dX12_room_253 rfl (by decide) rfl ?_
      obtain ⟨S25, e254, h⟩ := b1_some h
      refine V_mask [true, false, true, true] (mX12_room_L254 C  FU _ _ _ e254 ?_)
      refine V_iinc (L' := [some (.ref 0), none, some (.int (v2 + (1 : Int32))), none]) (v := (v2 + (1 : Int32))) (pc := 285) C dX12_room_285 rfl (congrArg (v2 + ·) kc_i_1) (by decide) rfl ?_
      refine V_goto (tgt := 240) (pc := 288) C dX12_room_288 (by decide) ?_
      exact V_mask [true, false, true, false] (ih _ _ _ _ h hR)
set_option maxRecDepth 100000 in
theorem mX12_room_J155 {K : zK} (C : zC K cX12_room yX12_room.cls 4 11 283 mW) {S : zM}  {r : Int32} {S' : zM}  (hR : zR K cX12_room (some .int) S' (some (.int r))) (h : gX12_room_J155 S = some (r, S')) : V K 155 [some (.ref 0), none, none, none] [] S := by
  unfold gX12_room_J155 at h
  refine V_aload_n (pc := 155) C dX12_room_155 rfl rfl ?_
  refine V_getI (pc := 156) C z1_mW_12 fl_RX12_143 (by decide) dX12_room_156 ?_
  refine V_if_eq (tgt := 168) (pc := 159) C dX12_room_159 (by decide) (fun hc => ?_) (fun hc => ?_)
  · have h := it_t hc h
    refine V_iconst (pc := 168) C dX12_room_168 kc_i_0 ?_
    refine V_istore_n (L' := [some (.ref 0), none, some (.int (0 : Int32)), none]) (pc := 169) C dX12_room_169 rfl (by decide) rfl ?_
    obtain ⟨S46, e170, h⟩ := b1_some h
    refine V_mask [true, false, true, false] (mX12_room_L170 C  FU _ _ _ e170 ?_)
    refine V_aload_n (pc := 195) C dX12_room_195 rfl rfl ?_
    refine V_iconst (pc := 196) C dX12_room_196 kc_i_1 ?_
    refine V_putZ (pc := 197) C z1_mW_12 fp_RX12_220 rfl rfl (by decide) dX12_room_197 ?_
    refine V_aload_n (pc := 200) C dX12_room_200 rfl rfl ?_
    refine V_iconst (pc := 201) C dX12_room_201 kc_i_0 ?_
    refine V_putI (pc := 202) C z1_mW_12 fp_RX12_223 rfl rfl dX12_room_202 ?_
    refine V_aload_n (pc := 205) C dX12_room_205 rfl rfl ?_
    refine V_iconst (pc := 206) C dX12_room_206 kc_i_0 ?_
    refine V_putI (pc := 207) C z1_mW_12 fp_RX12_226 rfl rfl dX12_room_207 ?_
    refine V_iconst (pc := 210) C dX12_room_210 kc_i_0 ?_
    refine V_istore_n (L' := [some (.ref 0), none, some (.int (0 : Int32)), none]) (pc := 211) C dX12_room_211 rfl (by decide) rfl ?_
    obtain ⟨S49, e212, h⟩ := b1_some h
    refine V_mask [true, false, true, false] (mX12_room_L212 C  FU _ _ _ e212 ?_)
    refine V_iconst (pc := 238) C dX12_room_238 kc_i_0 ?_
    refine V_istore_n (L' := [some (.ref 0), none, some (.int (0 : Int32)), none]) (pc := 239) C dX12_room_239 rfl (by decide) rfl ?_
    exact V_mask [true, false, true, false] (mX12_room_L240 C  FU _ _ _ _ h hR)
  · have h := it_f hc h
    refine V_aload_n (pc := 162) C dX12_room_162 rfl rfl ?_
    refine V_iconst (pc := 163) C dX12_room_163 kc_i_4 ?_
    obtain ⟨r55, S56, er55, h⟩ := b2_some h
    refine V_callV (As := [.int (4 : Int32)]) (pc := 164) C (mX12_no _ er55) zm_X12_no zi_X12_no ml_RX12_214 z1_mW_12 rfl ⟨Nat.le_of_ble_eq_true rfl, Nat.le_of_ble_eq_true rfl⟩ rfl rfl (Nat.le_of_ble_eq_true rfl) dX12_room_164 ?_
    show V K 167 [some (.ref 0), none, none, none] [.int r55] S56
    cases h
    exact hR 167 _ ⟨_, rfl, rfl⟩ dX12_room_167
set_option maxRecDepth 100000 in
theorem mX12_room_J127 {K : zK} (C : zC K cX12_room yX12_room.cls 4 11 283 mW) {S : zM}  {r : Int32} {S' : zM}  (hR : zR K cX12_room (some .int) S' (some (.int r))) (h : gX12_room_J127 S = some (r, S')) : V K 127 [some (.ref 0), none, none, none] [] S := by
  unfold gX12_room_J127 at h
  refine V_aload_n (pc := 127) C dX12_room_127 rfl rfl ?_
  refine V_getI (pc := 128) C z1_mW_12 fl_RX12_143 (by decide) dX12_room_128 ?_
  refine V_if_ne (tgt := 155) (pc := 131) C dX12_room_131 (by decide) (fun hc => ?_) (fun hc => ?_)
  · have h := it_f hc h
    refine V_aload_n (pc := 155) C dX12_room_155 rfl rfl ?_
    refine V_getI (pc := 156) C z1_mW_12 fl_RX12_143 (by decide) dX12_room_156 ?_
    refine V_if_eq (tgt := 168) (pc := 159) C dX12_room_159 (by decide) (fun hc => ?_) (fun hc => ?_)
    · have h := it_t hc h
      refine V_iconst (pc := 168) C dX12_room_168 kc_i_0 ?_
      refine V_istore_n (L' := [some (.ref 0), none, some (.int (0 : Int32)), none]) (pc := 169) C dX12_room_169 rfl (by decide) rfl ?_
      obtain ⟨S90, e170, h⟩ := b1_some h
      refine V_mask [true, false, true, false] (mX12_room_L170 C  FU _ _ _ e170 ?_)
      refine V_aload_n (pc := 195) C dX12_room_195 rfl rfl ?_
      refine V_iconst (pc := 196) C dX12_room_196 kc_i_1 ?_
      refine V_putZ (pc := 197) C z1_mW_12 fp_RX12_220 rfl rfl (by decide) dX12_room_197 ?_
      refine V_aload_n (pc := 200) C dX12_room_200 rfl rfl ?_
      refine V_iconst (pc := 201) C dX12_room_201 kc_i_0 ?_
      refine V_putI (pc := 202) C z1_mW_12 fp_RX12_223 rfl rfl dX12_room_202 ?_
      refine V_aload_n (pc := 205) C dX12_room_205 rfl rfl ?_
      refine V_iconst (pc := 206) C dX12_room_206 kc_i_0 ?_
      refine V_putI (pc := 207) C z1_mW_12 fp_RX12_226 rfl rfl dX12_room_207 ?_
      refine V_iconst (pc := 210) C dX12_room_210 kc_i_0 ?_
      refine V_istore_n (L' := [some (.ref 0), none, some (.int (0 : Int32)), none]) (pc := 211) C dX12_room_211 rfl (by decide) rfl ?_
      obtain ⟨S93, e212, h⟩ := b1_some h
      refine V_mask [true, false, true, false] (mX12_room_L212 C  FU _ _ _ e212 ?_)
      refine V_iconst (pc := 238) C dX12_room_238 kc_i_0 ?_
      refine V_istore_n (L' := [some (.ref 0), none, some (.int (0 : Int32)), none]) (pc := 239) C dX12_room_239 rfl (by decide) rfl ?_
      exact V_mask [true, false, true, false] (mX12_room_L240 C  FU _ _ _ _ h hR)
    · have h := it_f hc h
      refine V_aload_n (pc := 162) C dX12_room_162 rfl rfl ?_
      refine V_iconst (pc := 163) C dX12_room_163 kc_i_4 ?_
      obtain ⟨r99, S100, er99, h⟩ := b2_some h
      refine V_callV (As := [.int (4 : Int32)]) (pc := 164) C (mX12_no _ er99) zm_X12_no zi_X12_no ml_RX12_214 z1_mW_12 rfl ⟨Nat.le_of_ble_eq_true rfl, Nat.le_of_ble_eq_true rfl⟩ rfl rfl (Nat.le_of_ble_eq_true rfl) dX12_room_164 ?_
      show V K 167 [some (.ref 0), none, none, none] [.int r99] S100
      cases h
      exact hR 167 _ ⟨_, rfl, rfl⟩ dX12_room_167
  · have h := it_t hc h
    refine V_aload_n (pc := 134) C dX12_room_134 rfl rfl ?_
    refine V_getF (p1 := 4) (pc := 135) C z1_mW_12 fl_RX12_23 rfl (zf_mW_12_16 z1_mW_12) dX12_room_135 ?_
    refine V_sipush (pc := 138) C dX12_room_138 kc_s_238 ?_
    obtain ⟨k101, h⟩ := ck_some h
    refine V_iald (pc := 141) C (za_mW_12_16 z1_mW_12) k101 dX12_room_141 ?_
    refine V_if_ne (tgt := 155) (pc := 142) C dX12_room_142 (by decide) (fun hc => ?_) (fun hc => ?_)
    · have h := it_f hc h
      refine V_aload_n (pc := 155) C dX12_room_155 rfl rfl ?_
      refine V_getI (pc := 156) C z1_mW_12 fl_RX12_143 (by decide) dX12_room_156 ?_
      refine V_if_eq (tgt := 168) (pc := 159) C dX12_room_159 (by decide) (fun hc => ?_) (fun hc => ?_)
      · have h := it_t hc h
        refine V_iconst (pc := 168) C dX12_room_168 kc_i_0 ?_
        refine V_istore_n (L' := [some (.ref 0), none, some (.int (0 : Int32)), none]) (pc := 169) C dX12_room_169 rfl (by decide) rfl ?_
        obtain ⟨S104, e170, h⟩ := b1_some h
        refine V_mask [true, false, true, false] (mX12_room_L170 C  FU _ _ _ e170 ?_)
        refine V_aload_n (pc := 195) C dX12_room_195 rfl rfl ?_
        refine V_iconst (pc := 196) C dX12_room_196 kc_i_1 ?_
        refine V_putZ (pc := 197) C z1_mW_12 fp_RX12_220 rfl rfl (by decide) dX12_room_197 ?_
        refine V_aload_n (pc := 200) C dX12_room_200 rfl rfl ?_
        refine V_iconst (pc := 201) C dX12_room_201 kc_i_0 ?_
        refine V_putI (pc := 202) C z1_mW_12 fp_RX12_223 rfl rfl dX12_room_202 ?_
        refine V_aload_n (pc := 205) C dX12_room_205 rfl rfl ?_
        refine V_iconst (pc := 206) C dX12_room_206 kc_i_0 ?_
        refine V_putI (pc := 207) C z1_mW_12 fp_RX12_226 rfl rfl dX12_room_207 ?_
        refine V_iconst (pc := 210) C dX12_room_210 kc_i_0 ?_
        refine V_istore_n (L' := [some (.ref 0), none, some (.int (0 : Int32)), none]) (pc := 211) C dX12_room_211 rfl (by decide) rfl ?_
        obtain ⟨S107, e212, h⟩ := b1_some h
        refine V_mask [true, false, true, false] (mX12_room_L212 C  FU _ _ _ e212 ?_)
        refine V_iconst (pc := 238) C dX12_room_238 kc_i_0 ?_
        refine V_istore_n (L' := [some (.ref 0), none, some (.int (0 : Int32)), none]) (pc := 239) C dX12_room_239 rfl (by decide) rfl ?_
        exact V_mask [true, false, true, false] (mX12_room_L240 C  FU _ _ _ _ h hR)
      · have h := it_f hc h
        refine V_aload_n (pc := 162) C dX12_room_162 rfl rfl ?_
        refine V_iconst (pc := 163) C dX12_room_163 kc_i_4 ?_
        obtain ⟨r113, S114, er113, h⟩ := b2_some h
        refine V_callV (As := [.int (4 : Int32)]) (pc := 164) C (mX12_no _ er113) zm_X12_no zi_X12_no ml_RX12_214 z1_mW_12 rfl ⟨Nat.le_of_ble_eq_true rfl, Nat.le_of_ble_eq_true rfl⟩ rfl rfl (Nat.le_of_ble_eq_true rfl) dX12_room_164 ?_
        show V K 167 [some (.ref 0), none, none, none] [.int r113] S114
        cases h
        exact hR 167 _ ⟨_, rfl, rfl⟩ dX12_room_167
    · have h := it_t hc h
      refine V_aload_n (pc := 145) C dX12_room_145 rfl rfl ?_
      refine V_bipush (pc := 146) C dX12_room_146 kc_b_6 ?_
      refine V_aload_n (pc := 148) C dX12_room_148 rfl rfl ?_
      refine V_getI (pc := 149) C z1_mW_12 fl_RX12_124 (by decide) dX12_room_149 ?_
      obtain ⟨S116, euS116, h⟩ := b1_some h
      refine V_callV (As := [.int (6 : Int32), .int (gI S 0 4)]) (pc := 152) C (mX12_wrong _ euS116) zm_X12_wrong zi_X12_wrong ml_RX12_170 z1_mW_12 rfl ⟨Nat.le_of_ble_eq_true rfl, Nat.le_of_ble_eq_true rfl⟩ rfl rfl (Nat.le_of_ble_eq_true rfl) dX12_room_152 ?_
      show V K 155 [some (.ref 0), none, none, none] [] S116
      exact V_mask [true, false, false, false] (mX12_room_J155 C  hR h)
set_option maxRecDepth 100000 in
theorem mX12_room (l : Launch) {S : zM} {a1 : Int32} {r : Int32} {S' : zM}  (h : gX12_room S a1 = some (r, S')) : zMet l mW zS0 yX12_room cX12_room 4 (some .int) 11 283 [.ref 0, .int a1] S (some (.int r)) S' := by
  refine zmeth (by decide +kernel) (by rfl) (fun K hKl C hR => ?_)
  show V K 0 [some (.ref 0), some (.int a1), none, none] [] S
  unfold gX12_room at h
  refine V_aload_n (pc := 0) C dX12_room_0 rfl rfl ?_
  obtain ⟨S2, euS2, h⟩ := b1_some h
  refine V_callV (As := []) (pc := 1) C (mX12_good _ euS2) zm_X12_good zi_X12_good ml_RX12_211 z1_mW_12 rfl ⟨Nat.le_of_ble_eq_true rfl, Nat.le_of_ble_eq_true rfl⟩ rfl rfl (Nat.le_of_ble_eq_true rfl) dX12_room_1 ?_
  show V K 4 [some (.ref 0), some (.int a1), none, none] [] S2
  refine V_iload_n (pc := 4) C dX12_room_4 rfl rfl ?_
  refine V_iconst (pc := 5) C dX12_room_5 kc_i_0 ?_
  refine V_aload_n (pc := 6) C dX12_room_6 rfl rfl ?_
  refine V_getI (pc := 7) C z1_mW_12 fl_RX12_111 (by decide) dX12_room_7 ?_
  obtain ⟨r3, er3, h⟩ := b1_some h
  refine V_callS (As := [.int a1, .int (0 : Int32), .int (gI S2 0 2)]) (pc := 10) C (mX12_within _ er3) zm_X12_within zs_X12_within ml_RX12_203 ⟨Nat.le_of_ble_eq_true rfl, Nat.le_of_ble_eq_true rfl⟩ rfl rfl (Nat.le_of_ble_eq_true rfl) dX12_room_10 ?_
  show V K 13 [some (.ref 0), some (.int a1), none, none] [.int r3] S2
  refine V_if_ne (tgt := 22) (pc := 13) C dX12_room_13 (by decide) (fun hc => ?_) (fun hc => ?_)
  · have h := it_f hc h
    refine V_aload_n (pc := 22) C dX12_room_22 rfl rfl ?_
    refine V_iconst (pc := 23) C dX12_room_23 kc_i_0 ?_
    refine V_putI (pc := 24) C z1_mW_12 fp_RX12_111 rfl rfl dX12_room_24 ?_
    refine V_aload_n (pc := 27) C dX12_room_27 rfl rfl ?_
    refine V_iconst (pc := 28) C dX12_room_28 kc_i_0 ?_
    refine V_putI (pc := 29) C z1_mW_12 fp_RX12_147 rfl rfl dX12_room_29 ?_
    refine V_aload_n (pc := 32) C dX12_room_32 rfl rfl ?_
    refine V_iconst (pc := 33) C dX12_room_33 kc_i_0 ?_
    refine V_putZ (pc := 34) C z1_mW_12 fp_RX12_143 rfl rfl (by decide) dX12_room_34 ?_
    refine V_iconst (pc := 37) C dX12_room_37 kc_i_0 ?_
    refine V_istore_n (L' := [some (.ref 0), some (.int a1), some (.int (0 : Int32)), none]) (pc := 38) C dX12_room_38 rfl (by decide) rfl ?_
    obtain ⟨S5, e39, h⟩ := b1_some h
    refine V_mask [true, true, true, false] (mX12_room_L39 C  FU _ _ _ e39 ?_)
    refine V_aload_n (pc := 59) C dX12_room_59 rfl rfl ?_
    refine V_iload_n (pc := 60) C dX12_room_60 rfl rfl ?_
    refine V_putI (pc := 61) C z1_mW_12 fp_RX12_114 rfl rfl dX12_room_61 ?_
    refine V_aload_n (pc := 64) C dX12_room_64 rfl rfl ?_
    refine V_iconst (pc := 65) C dX12_room_65 kc_i_0 ?_
    refine V_putI (pc := 66) C z1_mW_12 fp_RX12_117 rfl rfl dX12_room_66 ?_
    refine V_aload_n (pc := 69) C dX12_room_69 rfl rfl ?_
    obtain ⟨S7, euS7, h⟩ := b1_some h
    refine V_callV (As := []) (pc := 70) C (mX12_next _ euS7) zm_X12_next zi_X12_next ml_RX12_164 z1_mW_12 rfl ⟨Nat.le_of_ble_eq_true rfl, Nat.le_of_ble_eq_true rfl⟩ rfl rfl (Nat.le_of_ble_eq_true rfl) dX12_room_70 ?_
    show V K 73 [some (.ref 0), some (.int a1), none, none] [] S7
    refine V_aload_n (pc := 73) C dX12_room_73 rfl rfl ?_
    obtain ⟨S9, euS9, h⟩ := b1_some h
    refine V_callV (As := []) (pc := 74) C (mX12_readLine _ euS9) zm_X12_readLine zi_X12_readLine ml_RX12_217 z1_mW_12 rfl ⟨Nat.le_of_ble_eq_true rfl, Nat.le_of_ble_eq_true rfl⟩ rfl rfl (Nat.le_of_ble_eq_true rfl) dX12_room_74 ?_
    show V K 77 [some (.ref 0), some (.int a1), none, none] [] S9
    obtain ⟨S14, e77, h⟩ := b1_some h
    refine V_mask [true, false, false, false] (mX12_room_L77 C  FU _ _ e77 ?_)
    refine V_aload_n (pc := 104) C dX12_room_104 rfl rfl ?_
    refine V_getI (pc := 105) C z1_mW_12 fl_RX12_143 (by decide) dX12_room_105 ?_
    refine V_if_ne (tgt := 127) (pc := 108) C dX12_room_108 (by decide) (fun hc => ?_) (fun hc => ?_)
    · have h := it_f hc h
      refine V_aload_n (pc := 127) C dX12_room_127 rfl rfl ?_
      refine V_getI (pc := 128) C z1_mW_12 fl_RX12_143 (by decide) dX12_room_128 ?_
      refine V_if_ne (tgt := 155) (pc := 131) C dX12_room_131 (by decide) (fun hc => ?_) (fun hc => ?_)
      · have h := it_f hc h
        refine V_aload_n (pc := 155) C dX12_room_155 rfl rfl ?_
        refine V_getI (pc := 156) C z1_mW_12 fl_RX12_143 (by decide) dX12_room_156 ?_
        refine V_if_eq (tgt := 168) (pc := 159) C dX12_room_159 (by decide) (fun hc => ?_) (fun hc => ?_)
        · have h := it_t hc h
          refine V_iconst (pc := 168) C dX12_room_168 kc_i_0 ?_
          refine V_istore_n (L' := [some (.ref 0), none, some (.int (0 : Int32)), none]) (pc := 169) C dX12_room_169 rfl (by decide) rfl ?_
          obtain ⟨S17, e170, h⟩ := b1_some h
          refine V_mask [true, false, true, false] (mX12_room_L170 C  FU _ _ _ e170 ?_)
          refine V_aload_n (pc := 195) C dX12_room_195 rfl rfl ?_
          refine V_iconst (pc := 196) C dX12_room_196 kc_i_1 ?_
          refine V_putZ (pc := 197) C z1_mW_12 fp_RX12_220 rfl rfl (by decide) dX12_room_197 ?_
          refine V_aload_n (pc := 200) C dX12_room_200 rfl rfl ?_
          refine V_iconst (pc := 201) C dX12_room_201 kc_i_0 ?_
          refine V_putI (pc := 202) C z1_mW_12 fp_RX12_223 rfl rfl dX12_room_202 ?_
          refine V_aload_n (pc := 205) C dX12_room_205 rfl rfl ?_
          refine V_iconst (pc := 206) C dX12_room_206 kc_i_0 ?_
          refine V_putI (pc := 207) C z1_mW_12 fp_RX12_226 rfl rfl dX12_room_207 ?_
          refine V_iconst (pc := 210) C dX12_room_210 kc_i_0 ?_
          refine V_istore_n (L' := [some (.ref 0), none, some (.int (0 : Int32)), none]) (pc := 211) C dX12_room_211 rfl (by decide) rfl ?_
          obtain ⟨S20, e212, h⟩ := b1_some h
          refine V_mask [true, false, true, false] (mX12_room_L212 C  FU _ _ _ e212 ?_)
          refine V_iconst (pc := 238) C dX12_room_238 kc_i_0 ?_
          refine V_istore_n (L' := [some (.ref 0), none, some (.int (0 : Int32)), none]) (pc := 239) C dX12_room_239 rfl (by decide) rfl ?_
          exact V_mask [true, false, true, false] (mX12_room_L240 C  FU _ _ _ _ h hR)
        · have h := it_f hc h
          refine V_aload_n (pc := 162) C dX12_room_162 rfl rfl ?_
          refine V_iconst (pc := 163) C dX12_room_163 kc_i_4 ?_
          obtain ⟨r26, S27, er26, h⟩ := b2_some h
          refine V_callV (As := [.int (4 : Int32)]) (pc := 164) C (mX12_no _ er26) zm_X12_no zi_X12_no ml_RX12_214 z1_mW_12 rfl ⟨Nat.le_of_ble_eq_true rfl, Nat.le_of_ble_eq_true rfl⟩ rfl rfl (Nat.le_of_ble_eq_true rfl) dX12_room_164 ?_
          show V K 167 [some (.ref 0), none, none, none] [.int r26] S27
          cases h
          exact hR 167 _ ⟨_, rfl, rfl⟩ dX12_room_167
      · have h := it_t hc h
        refine V_aload_n (pc := 134) C dX12_room_134 rfl rfl ?_
        refine V_getF (p1 := 4) (pc := 135) C z1_mW_12 fl_RX12_23 rfl (zf_mW_12_16 z1_mW_12) dX12_room_135 ?_
        refine V_sipush (pc := 138) C dX12_room_138 kc_s_238 ?_
        obtain ⟨k28, h⟩ := ck_some h
        refine V_iald (pc := 141) C (za_mW_12_16 z1_mW_12) k28 dX12_room_141 ?_
        refine V_if_ne (tgt := 155) (pc := 142) C dX12_room_142 (by decide) (fun hc => ?_) (fun hc => ?_)
        · have h := it_f hc h
          refine V_aload_n (pc := 155) C dX12_room_155 rfl rfl ?_
          refine V_getI (pc := 156) C z1_mW_12 fl_RX12_143 (by decide) dX12_room_156 ?_
          refine V_if_eq (tgt := 168) (pc := 159) C dX12_room_159 (by decide) (fun hc => ?_) (fun hc => ?_)
          · have h := it_t hc h
            refine V_iconst (pc := 168) C dX12_room_168 kc_i_0 ?_
            refine V_istore_n (L' := [some (.ref 0), none, some (.int (0 : Int32)), none]) (pc := 169) C dX12_room_169 rfl (by decide) rfl ?_
            obtain ⟨S31, e170, h⟩ := b1_some h
            refine V_mask [true, false, true, false] (mX12_room_L170 C  FU _ _ _ e170 ?_)
            refine V_aload_n (pc := 195) C dX12_room_195 rfl rfl ?_
            refine V_iconst (pc := 196) C dX12_room_196 kc_i_1 ?_
            refine V_putZ (pc := 197) C z1_mW_12 fp_RX12_220 rfl rfl (by decide) dX12_room_197 ?_
            refine V_aload_n (pc := 200) C dX12_room_200 rfl rfl ?_
            refine V_iconst (pc := 201) C dX12_room_201 kc_i_0 ?_
            refine V_putI (pc := 202) C z1_mW_12 fp_RX12_223 rfl rfl dX12_room_202 ?_
            refine V_aload_n (pc := 205) C dX12_room_205 rfl rfl ?_
            refine V_iconst (pc := 206) C dX12_room_206 kc_i_0 ?_
            refine V_putI (pc := 207) C z1_mW_12 fp_RX12_226 rfl rfl dX12_room_207 ?_
            refine V_iconst (pc := 210) C dX12_room_210 kc_i_0 ?_
            refine V_istore_n (L' := [some (.ref 0), none, some (.int (0 : Int32)), none]) (pc := 211) C dX12_room_211 rfl (by decide) rfl ?_
            obtain ⟨S34, e212, h⟩ := b1_some h
            refine V_mask [true, false, true, false] (mX12_room_L212 C  FU _ _ _ e212 ?_)
            refine V_iconst (pc := 238) C dX12_room_238 kc_i_0 ?_
            refine V_istore_n (L' := [some (.ref 0), none, some (.int (0 : Int32)), none]) (pc := 239) C dX12_room_239 rfl (by decide) rfl ?_
            exact V_mask [true, false, true, false] (mX12_room_L240 C  FU _ _ _ _ h hR)
          · have h := it_f hc h
            refine V_aload_n (pc := 162) C dX12_room_162 rfl rfl ?_
            refine V_iconst (pc := 163) C dX12_room_163 kc_i_4 ?_
            obtain ⟨r40, S41, er40, h⟩ := b2_some h
            refine V_callV (As := [.int (4 : Int32)]) (pc := 164) C (mX12_no _ er40) zm_X12_no zi_X12_no ml_RX12_214 z1_mW_12 rfl ⟨Nat.le_of_ble_eq_true rfl, Nat.le_of_ble_eq_true rfl⟩ rfl rfl (Nat.le_of_ble_eq_true rfl) dX12_room_164 ?_
            show V K 167 [some (.ref 0), none, none, none] [.int r40] S41
            cases h
            exact hR 167 _ ⟨_, rfl, rfl⟩ dX12_room_167
        · have h := it_t hc h
          refine V_aload_n (pc := 145) C dX12_room_145 rfl rfl ?_
          refine V_bipush (pc := 146) C dX12_room_146 kc_b_6 ?_
          refine V_aload_n (pc := 148) C dX12_room_148 rfl rfl ?_
          refine V_getI (pc := 149) C z1_mW_12 fl_RX12_124 (by decide) dX12_room_149 ?_
          obtain ⟨S43, euS43, h⟩ := b1_some h
          refine V_callV (As := [.int (6 : Int32), .int (gI S14 0 4)]) (pc := 152) C (mX12_wrong _ euS43) zm_X12_wrong zi_X12_wrong ml_RX12_170 z1_mW_12 rfl ⟨Nat.le_of_ble_eq_true rfl, Nat.le_of_ble_eq_true rfl⟩ rfl rfl (Nat.le_of_ble_eq_true rfl) dX12_room_152 ?_
          show V K 155 [some (.ref 0), none, none, none] [] S43
          exact V_mask [true, false, false, false] (mX12_room_J155 C  hR h)
    · have h := it_t hc h
      refine V_aload_n (pc := 111) C dX12_room_111 rfl rfl ?_
      refine V_getI (pc := 112) C z1_mW_12 fl_RX12_133 (by decide) dX12_room_112 ?_
      refine V_if_eq (tgt := 127) (pc := 115) C dX12_room_115 (by decide) (fun hc => ?_) (fun hc => ?_)
      · have h := it_t hc h
        refine V_aload_n (pc := 127) C dX12_room_127 rfl rfl ?_
        refine V_getI (pc := 128) C z1_mW_12 fl_RX12_143 (by decide) dX12_room_128 ?_
        refine V_if_ne (tgt := 155) (pc := 131) C dX12_room_131 (by decide) (fun hc => ?_) (fun hc => ?_)
        · have h := it_f hc h
          refine V_aload_n (pc := 155) C dX12_room_155 rfl rfl ?_
          refine V_getI (pc := 156) C z1_mW_12 fl_RX12_143 (by decide) dX12_room_156 ?_
          refine V_if_eq (tgt := 168) (pc := 159) C dX12_room_159 (by decide) (fun hc => ?_) (fun hc => ?_)
          · have h := it_t hc h
            refine V_iconst (pc := 168) C dX12_room_168 kc_i_0 ?_
            refine V_istore_n (L' := [some (.ref 0), none, some (.int (0 : Int32)), none]) (pc := 169) C dX12_room_169 rfl (by decide) rfl ?_
            obtain ⟨S59, e170, h⟩ := b1_some h
            refine V_mask [true, false, true, false] (mX12_room_L170 C  FU _ _ _ e170 ?_)
            refine V_aload_n (pc := 195) C dX12_room_195 rfl rfl ?_
            refine V_iconst (pc := 196) C dX12_room_196 kc_i_1 ?_
            refine V_putZ (pc := 197) C z1_mW_12 fp_RX12_220 rfl rfl (by decide) dX12_room_197 ?_
            refine V_aload_n (pc := 200) C dX12_room_200 rfl rfl ?_
            refine V_iconst (pc := 201) C dX12_room_201 kc_i_0 ?_
            refine V_putI (pc := 202) C z1_mW_12 fp_RX12_223 rfl rfl dX12_room_202 ?_
            refine V_aload_n (pc := 205) C dX12_room_205 rfl rfl ?_
            refine V_iconst (pc := 206) C dX12_room_206 kc_i_0 ?_
            refine V_putI (pc := 207) C z1_mW_12 fp_RX12_226 rfl rfl dX12_room_207 ?_
            refine V_iconst (pc := 210) C dX12_room_210 kc_i_0 ?_
            refine V_istore_n (L' := [some (.ref 0), none, some (.int (0 : Int32)), none]) (pc := 211) C dX12_room_211 rfl (by decide) rfl ?_
            obtain ⟨S62, e212, h⟩ := b1_some h
            refine V_mask [true, false, true, false] (mX12_room_L212 C  FU _ _ _ e212 ?_)
            refine V_iconst (pc := 238) C dX12_room_238 kc_i_0 ?_
            refine V_istore_n (L' := [some (.ref 0), none, some (.int (0 : Int32)), none]) (pc := 239) C dX12_room_239 rfl (by decide) rfl ?_
            exact V_mask [true, false, true, false] (mX12_room_L240 C  FU _ _ _ _ h hR)
          · have h := it_f hc h
            refine V_aload_n (pc := 162) C dX12_room_162 rfl rfl ?_
            refine V_iconst (pc := 163) C dX12_room_163 kc_i_4 ?_
            obtain ⟨r68, S69, er68, h⟩ := b2_some h
            refine V_callV (As := [.int (4 : Int32)]) (pc := 164) C (mX12_no _ er68) zm_X12_no zi_X12_no ml_RX12_214 z1_mW_12 rfl ⟨Nat.le_of_ble_eq_true rfl, Nat.le_of_ble_eq_true rfl⟩ rfl rfl (Nat.le_of_ble_eq_true rfl) dX12_room_164 ?_
            show V K 167 [some (.ref 0), none, none, none] [.int r68] S69
            cases h
            exact hR 167 _ ⟨_, rfl, rfl⟩ dX12_room_167
        · have h := it_t hc h
          refine V_aload_n (pc := 134) C dX12_room_134 rfl rfl ?_
          refine V_getF (p1 := 4) (pc := 135) C z1_mW_12 fl_RX12_23 rfl (zf_mW_12_16 z1_mW_12) dX12_room_135 ?_
          refine V_sipush (pc := 138) C dX12_room_138 kc_s_238 ?_
          obtain ⟨k70, h⟩ := ck_some h
          refine V_iald (pc := 141) C (za_mW_12_16 z1_mW_12) k70 dX12_room_141 ?_
          refine V_if_ne (tgt := 155) (pc := 142) C dX12_room_142 (by decide) (fun hc => ?_) (fun hc => ?_)
          · have h := it_f hc h
            refine V_aload_n (pc := 155) C dX12_room_155 rfl rfl ?_
            refine V_getI (pc := 156) C z1_mW_12 fl_RX12_143 (by decide) dX12_room_156 ?_
            refine V_if_eq (tgt := 168) (pc := 159) C dX12_room_159 (by decide) (fun hc => ?_) (fun hc => ?_)
            · have h := it_t hc h
              refine V_iconst (pc := 168) C dX12_room_168 kc_i_0 ?_
              refine V_istore_n (L' := [some (.ref 0), none, some (.int (0 : Int32)), none]) (pc := 169) C dX12_room_169 rfl (by decide) rfl ?_
              obtain ⟨S73, e170, h⟩ := b1_some h
              refine V_mask [true, false, true, false] (mX12_room_L170 C  FU _ _ _ e170 ?_)
              refine V_aload_n (pc := 195) C dX12_room_195 rfl rfl ?_
              refine V_iconst (pc := 196) C dX12_room_196 kc_i_1 ?_
              refine V_putZ (pc := 197) C z1_mW_12 fp_RX12_220 rfl rfl (by decide) dX12_room_197 ?_
              refine V_aload_n (pc := 200) C dX12_room_200 rfl rfl ?_
              refine V_iconst (pc := 201) C dX12_room_201 kc_i_0 ?_
              refine V_putI (pc := 202) C z1_mW_12 fp_RX12_223 rfl rfl dX12_room_202 ?_
              refine V_aload_n (pc := 205) C dX12_room_205 rfl rfl ?_
              refine V_iconst (pc := 206) C dX12_room_206 kc_i_0 ?_
              refine V_putI (pc := 207) C z1_mW_12 fp_RX12_226 rfl rfl dX12_room_207 ?_
              refine V_iconst (pc := 210) C dX12_room_210 kc_i_0 ?_
              refine V_istore_n (L' := [some (.ref 0), none, some (.int (0 : Int32)), none]) (pc := 211) C dX12_room_211 rfl (by decide) rfl ?_
              obtain ⟨S76, e212, h⟩ := b1_some h
              refine V_mask [true, false, true, false] (mX12_room_L212 C  FU _ _ _ e212 ?_)
              refine V_iconst (pc := 238) C dX12_room_238 kc_i_0 ?_
              refine V_istore_n (L' := [some (.ref 0), none, some (.int (0 : Int32)), none]) (pc := 239) C dX12_room_239 rfl (by decide) rfl ?_
              exact V_mask [true, false, true, false] (mX12_room_L240 C  FU _ _ _ _ h hR)
            · have h := it_f hc h
              refine V_aload_n (pc := 162) C dX12_room_162 rfl rfl ?_
              refine V_iconst (pc := 163) C dX12_room_163 kc_i_4 ?_
              obtain ⟨r82, S83, er82, h⟩ := b2_some h
              refine V_callV (As := [.int (4 : Int32)]) (pc := 164) C (mX12_no _ er82) zm_X12_no zi_X12_no ml_RX12_214 z1_mW_12 rfl ⟨Nat.le_of_ble_eq_true rfl, Nat.le_of_ble_eq_true rfl⟩ rfl rfl (Nat.le_of_ble_eq_true rfl) dX12_room_164 ?_
              show V K 167 [some (.ref 0), none, none, none] [.int r82] S83
              cases h
              exact hR 167 _ ⟨_, rfl, rfl⟩ dX12_room_167
          · have h := it_t hc h
            refine V_aload_n (pc := 145) C dX12_room_145 rfl rfl ?_
            refine V_bipush (pc := 146) C dX12_room_146 kc_b_6 ?_
            refine V_aload_n (pc := 148) C dX12_room_148 rfl rfl ?_
            refine V_getI (pc := 149) C z1_mW_12 fl_RX12_124 (by decide) dX12_room_149 ?_
            obtain ⟨S85, euS85, h⟩ := b1_some h
            refine V_callV (As := [.int (6 : Int32), .int (gI S14 0 4)]) (pc := 152) C (mX12_wrong _ euS85) zm_X12_wrong zi_X12_wrong ml_RX12_170 z1_mW_12 rfl ⟨Nat.le_of_ble_eq_true rfl, Nat.le_of_ble_eq_true rfl⟩ rfl rfl (Nat.le_of_ble_eq_true rfl) dX12_room_152 ?_
            show V K 155 [some (.ref 0), none, none, none] [] S85
            exact V_mask [true, false, false, false] (mX12_room_J155 C  hR h)
      · have h := it_f hc h
        refine V_aload_n (pc := 118) C dX12_room_118 rfl rfl ?_
        refine V_iconst (pc := 119) C dX12_room_119 kc_i_1 ?_
        refine V_aload_n (pc := 120) C dX12_room_120 rfl rfl ?_
        refine V_getI (pc := 121) C z1_mW_12 fl_RX12_124 (by decide) dX12_room_121 ?_
        obtain ⟨S87, euS87, h⟩ := b1_some h
        refine V_callV (As := [.int (1 : Int32), .int (gI S14 0 4)]) (pc := 124) C (mX12_wrong _ euS87) zm_X12_wrong zi_X12_wrong ml_RX12_170 z1_mW_12 rfl ⟨Nat.le_of_ble_eq_true rfl, Nat.le_of_ble_eq_true rfl⟩ rfl rfl (Nat.le_of_ble_eq_true rfl) dX12_room_124 ?_
        show V K 127 [some (.ref 0), none, none, none] [] S87
        exact V_mask [true, false, false, false] (mX12_room_J127 C  hR h)
  · have h := it_t hc h
    refine V_aload_n (pc := 16) C dX12_room_16 rfl rfl ?_
    refine V_iconst (pc := 17) C dX12_room_17 kc_i_2 ?_
    obtain ⟨r117, S118, er117, h⟩ := b2_some h
    refine V_callV (As := [.int (2 : Int32)]) (pc := 18) C (mX12_no _ er117) zm_X12_no zi_X12_no ml_RX12_214 z1_mW_12 rfl ⟨Nat.le_of_ble_eq_true rfl, Nat.le_of_ble_eq_true rfl⟩ rfl rfl (Nat.le_of_ble_eq_true rfl) dX12_room_18 ?_
    show V K 21 [some (.ref 0), some (.int a1), none, none] [.int r117] S118
    cases h
    exact hR 21 _ ⟨_, rfl, rfl⟩ dX12_room_21
set_option maxRecDepth 100000 in
theorem mX12_fault (l : Launch) {S : zM}  {r : Int32} {S' : zM}  (h : gX12_fault S = some (r, S')) : zMet l mW zS0 yX12_fault cX12_fault 1 (some .int) 0 0 [.ref 0] S (some (.int r)) S' := by
  refine zmeth (by decide +kernel) (by rfl) (fun K hKl C hR => ?_)
  show V K 0 [some (.ref 0)] [] S
  unfold gX12_fault at h
  refine V_aload_n (pc := 0) C dX12_fault_0 rfl rfl ?_
  refine V_iconst (pc := 1) C dX12_fault_1 kc_i_0 ?_
  refine V_putI (pc := 2) C z1_mW_12 fp_RX12_103 rfl rfl dX12_fault_2 ?_
  refine V_aload_n (pc := 5) C dX12_fault_5 rfl rfl ?_
  refine V_getI (pc := 6) C z1_mW_12 fl_RX12_147 (by decide) dX12_fault_6 ?_
  cases h
  exact hR 9 _ ⟨_, rfl, rfl⟩ dX12_fault_9
set_option maxRecDepth 100000 in
theorem mX12_where (l : Launch) {S : zM}  {r : Int32} {S' : zM}  (h : gX12_where S = some (r, S')) : zMet l mW zS0 yX12_where cX12_where 1 (some .int) 0 0 [.ref 0] S (some (.int r)) S' := by
  refine zmeth (by decide +kernel) (by rfl) (fun K hKl C hR => ?_)
  show V K 0 [some (.ref 0)] [] S
  unfold gX12_where at h
  refine V_aload_n (pc := 0) C dX12_where_0 rfl rfl ?_
  refine V_iconst (pc := 1) C dX12_where_1 kc_i_0 ?_
  refine V_putI (pc := 2) C z1_mW_12 fp_RX12_103 rfl rfl dX12_where_2 ?_
  refine V_aload_n (pc := 5) C dX12_where_5 rfl rfl ?_
  refine V_getI (pc := 6) C z1_mW_12 fl_RX12_106 (by decide) dX12_where_6 ?_
  refine V_iconst (pc := 9) C dX12_where_9 kc_i_4 ?_
  refine V_icmp_ne (tgt := 20) (pc := 10) C dX12_where_10 (by decide) (fun hc => ?_) (fun hc => ?_)
  · have h := it_f hc h
    refine V_iconst (pc := 20) C dX12_where_20 kc_i_m1 ?_
    cases h
    exact hR 21 _ ⟨_, rfl, rfl⟩ dX12_where_21
  · have h := it_t hc h
    refine V_aload_n (pc := 13) C dX12_where_13 rfl rfl ?_
    refine V_getI (pc := 14) C z1_mW_12 fl_RX12_13 (by decide) dX12_where_14 ?_
    refine V_goto (tgt := 21) (pc := 17) C dX12_where_17 (by decide) ?_
    cases h
    exact hR 21 _ ⟨_, rfl, rfl⟩ dX12_where_21
set_option maxRecDepth 100000 in
theorem mX12_isSense (l : Launch) {S : zM} {a1 : Int32} {r : Int32}  (h : gX12_isSense S a1 = some r) : zMet l mW zS0 yX12_isSense cX12_isSense 2 (some .boolean) 1 22 [.ref 0, .int a1] S (some (.int r)) S := by
  refine zmeth (by decide +kernel) (by rfl) (fun K hKl C hR => ?_)
  show V K 0 [some (.ref 0), some (.int a1)] [] S
  unfold gX12_isSense at h
  refine V_aload_n (pc := 0) C dX12_isSense_0 rfl rfl ?_
  refine V_getI (pc := 1) C z1_mW_12 fl_RX12_220 (by decide) dX12_isSense_1 ?_
  refine V_if_eq (tgt := 29) (pc := 4) C dX12_isSense_4 (by decide) (fun hc => ?_) (fun hc => ?_)
  · have h := it_t hc h
    refine V_iconst (pc := 29) C dX12_isSense_29 kc_i_0 ?_
    cases h
    exact hR 30 _ ⟨_, rfl, zB0⟩ dX12_isSense_30
  · have h := it_f hc h
    refine V_iload_n (pc := 7) C dX12_isSense_7 rfl rfl ?_
    refine V_iconst (pc := 8) C dX12_isSense_8 kc_i_0 ?_
    refine V_aload_n (pc := 9) C dX12_isSense_9 rfl rfl ?_
    refine V_getF (p1 := 3) (pc := 10) C z1_mW_12 fl_RX12_20 rfl (zf_mW_12_15 z1_mW_12) dX12_isSense_10 ?_
    refine V_sipush (pc := 13) C dX12_isSense_13 kc_s_238 ?_
    obtain ⟨k1, h⟩ := ck_some h
    refine V_iald (pc := 16) C (za_mW_12_15 z1_mW_12) k1 dX12_isSense_16 ?_
    refine V_iconst (pc := 17) C dX12_isSense_17 kc_i_1 ?_
    refine V_isub (pc := 18) C dX12_isSense_18 ?_
    obtain ⟨r2, er2, h⟩ := b1_some h
    refine V_callS (As := [.int a1, .int (0 : Int32), .int ((gI S 3 (ix (238 : Int32))) - (1 : Int32))]) (pc := 19) C (mX12_within _ er2) zm_X12_within zs_X12_within ml_RX12_203 ⟨Nat.le_of_ble_eq_true rfl, Nat.le_of_ble_eq_true rfl⟩ rfl rfl (Nat.le_of_ble_eq_true rfl) dX12_isSense_19 ?_
    show V K 22 [some (.ref 0), some (.int a1)] [.int r2] S
    refine V_if_eq (tgt := 29) (pc := 22) C dX12_isSense_22 (by decide) (fun hc => ?_) (fun hc => ?_)
    · have h := it_t hc h
      refine V_iconst (pc := 29) C dX12_isSense_29 kc_i_0 ?_
      cases h
      exact hR 30 _ ⟨_, rfl, zB0⟩ dX12_isSense_30
    · have h := it_f hc h
      refine V_iconst (pc := 25) C dX12_isSense_25 kc_i_1 ?_
      refine V_goto (tgt := 30) (pc := 26) C dX12_isSense_26 (by decide) ?_
      cases h
      exact hR 30 _ ⟨_, rfl, zB1⟩ dX12_isSense_30
set_option maxRecDepth 100000 in
theorem mX12_isSayer (l : Launch) {S : zM} {a1 : Int32} {r : Int32}  (h : gX12_isSayer S a1 = some r) : zMet l mW zS0 yX12_isSayer cX12_isSayer 2 (some .boolean) 1 22 [.ref 0, .int a1] S (some (.int r)) S := by
  refine zmeth (by decide +kernel) (by rfl) (fun K hKl C hR => ?_)
  show V K 0 [some (.ref 0), some (.int a1)] [] S
  unfold gX12_isSayer at h
  refine V_aload_n (pc := 0) C dX12_isSayer_0 rfl rfl ?_
  refine V_getI (pc := 1) C z1_mW_12 fl_RX12_220 (by decide) dX12_isSayer_1 ?_
  refine V_if_eq (tgt := 29) (pc := 4) C dX12_isSayer_4 (by decide) (fun hc => ?_) (fun hc => ?_)
  · have h := it_t hc h
    refine V_iconst (pc := 29) C dX12_isSayer_29 kc_i_0 ?_
    cases h
    exact hR 30 _ ⟨_, rfl, zB0⟩ dX12_isSayer_30
  · have h := it_f hc h
    refine V_iload_n (pc := 7) C dX12_isSayer_7 rfl rfl ?_
    refine V_iconst (pc := 8) C dX12_isSayer_8 kc_i_0 ?_
    refine V_aload_n (pc := 9) C dX12_isSayer_9 rfl rfl ?_
    refine V_getF (p1 := 3) (pc := 10) C z1_mW_12 fl_RX12_20 rfl (zf_mW_12_15 z1_mW_12) dX12_isSayer_10 ?_
    refine V_sipush (pc := 13) C dX12_isSayer_13 kc_s_239 ?_
    obtain ⟨k1, h⟩ := ck_some h
    refine V_iald (pc := 16) C (za_mW_12_15 z1_mW_12) k1 dX12_isSayer_16 ?_
    refine V_iconst (pc := 17) C dX12_isSayer_17 kc_i_1 ?_
    refine V_isub (pc := 18) C dX12_isSayer_18 ?_
    obtain ⟨r2, er2, h⟩ := b1_some h
    refine V_callS (As := [.int a1, .int (0 : Int32), .int ((gI S 3 (ix (239 : Int32))) - (1 : Int32))]) (pc := 19) C (mX12_within _ er2) zm_X12_within zs_X12_within ml_RX12_203 ⟨Nat.le_of_ble_eq_true rfl, Nat.le_of_ble_eq_true rfl⟩ rfl rfl (Nat.le_of_ble_eq_true rfl) dX12_isSayer_19 ?_
    show V K 22 [some (.ref 0), some (.int a1)] [.int r2] S
    refine V_if_eq (tgt := 29) (pc := 22) C dX12_isSayer_22 (by decide) (fun hc => ?_) (fun hc => ?_)
    · have h := it_t hc h
      refine V_iconst (pc := 29) C dX12_isSayer_29 kc_i_0 ?_
      cases h
      exact hR 30 _ ⟨_, rfl, zB0⟩ dX12_isSayer_30
    · have h := it_f hc h
      refine V_iconst (pc := 25) C dX12_isSayer_25 kc_i_1 ?_
      refine V_goto (tgt := 30) (pc := 26) C dX12_isSayer_26 (by decide) ?_
      cases h
      exact hR 30 _ ⟨_, rfl, zB1⟩ dX12_isSayer_30
set_option maxRecDepth 100000 in
theorem mX12_level (l : Launch) {S : zM} {a1 : Int32} {a2 : Int32} {r : Int32} {S' : zM}  (h : gX12_level S a1 a2 = some (r, S')) : zMet l mW zS0 yX12_level cX12_level 3 (some .int) 2 43 [.ref 0, .int a1, .int a2] S (some (.int r)) S' := by
  refine zmeth (by decide +kernel) (by rfl) (fun K hKl C hR => ?_)
  show V K 0 [some (.ref 0), some (.int a1), some (.int a2)] [] S
  unfold gX12_level at h
  refine V_aload_n (pc := 0) C dX12_level_0 rfl rfl ?_
  refine V_iconst (pc := 1) C dX12_level_1 kc_i_0 ?_
  refine V_putI (pc := 2) C z1_mW_12 fp_RX12_103 rfl rfl dX12_level_2 ?_
  refine V_aload_n (pc := 5) C dX12_level_5 rfl rfl ?_
  refine V_iload_n (pc := 6) C dX12_level_6 rfl rfl ?_
  obtain ⟨r1, er1, h⟩ := b1_some h
  refine V_callV (As := [.int a1]) (pc := 7) C (mX12_isSense _ er1) zm_X12_isSense zi_X12_isSense ml_RX12_306 z1_mW_12 rfl ⟨Nat.le_of_ble_eq_true rfl, Nat.le_of_ble_eq_true rfl⟩ rfl rfl (Nat.le_of_ble_eq_true rfl) dX12_level_7 ?_
  show V K 10 [some (.ref 0), some (.int a1), some (.int a2)] [.int r1] (pI S 0 0 (0 : Int32))
  refine V_if_eq (tgt := 39) (pc := 10) C dX12_level_10 (by decide) (fun hc => ?_) (fun hc => ?_)
  · have h := it_t hc h
    refine V_iconst (pc := 39) C dX12_level_39 kc_i_m1 ?_
    cases h
    exact hR 40 _ ⟨_, rfl, rfl⟩ dX12_level_40
  · have h := it_f hc h
    refine V_iload_n (pc := 13) C dX12_level_13 rfl rfl ?_
    refine V_iconst (pc := 14) C dX12_level_14 kc_i_0 ?_
    refine V_sipush (pc := 15) C dX12_level_15 kc_s_400 ?_
    obtain ⟨r2, er2, h⟩ := b1_some h
    refine V_callS (As := [.int a2, .int (0 : Int32), .int (400 : Int32)]) (pc := 18) C (mX12_within _ er2) zm_X12_within zs_X12_within ml_RX12_203 ⟨Nat.le_of_ble_eq_true rfl, Nat.le_of_ble_eq_true rfl⟩ rfl rfl (Nat.le_of_ble_eq_true rfl) dX12_level_18 ?_
    show V K 21 [some (.ref 0), some (.int a1), some (.int a2)] [.int r2] (pI S 0 0 (0 : Int32))
    refine V_if_eq (tgt := 39) (pc := 21) C dX12_level_21 (by decide) (fun hc => ?_) (fun hc => ?_)
    · have h := it_t hc h
      refine V_iconst (pc := 39) C dX12_level_39 kc_i_m1 ?_
      cases h
      exact hR 40 _ ⟨_, rfl, rfl⟩ dX12_level_40
    · have h := it_f hc h
      refine V_aload_n (pc := 24) C dX12_level_24 rfl rfl ?_
      refine V_getF (p1 := 5) (pc := 25) C z1_mW_12 fl_RX12_26 rfl (zf_mW_12_17 z1_mW_12) dX12_level_25 ?_
      refine V_sipush (pc := 28) C dX12_level_28 kc_s_401 ?_
      refine V_iload_n (pc := 31) C dX12_level_31 rfl rfl ?_
      refine V_imul (pc := 32) C dX12_level_32 ?_
      refine V_iload_n (pc := 33) C dX12_level_33 rfl rfl ?_
      refine V_iadd (pc := 34) C dX12_level_34 ?_
      obtain ⟨k3, h⟩ := ck_some h
      refine V_iald (pc := 35) C (za_mW_12_17 z1_mW_12) k3 dX12_level_35 ?_
      refine V_goto (tgt := 40) (pc := 36) C dX12_level_36 (by decide) ?_
      cases h
      exact hR 40 _ ⟨_, rfl, rfl⟩ dX12_level_40
set_option maxRecDepth 100000 in
theorem mX12_levelOf (l : Launch) {S : zM} {a1 : Int32} {a2 : Int32} {r : Int32}  (h : gX12_levelOf S a1 a2 = some r) : zMet l mW zS0 yX12_levelOf cX12_levelOf 3 (some .int) 0 0 [.ref 0, .int a1, .int a2] S (some (.int r)) S := by
  refine zmeth (by decide +kernel) (by rfl) (fun K hKl C hR => ?_)
  show V K 0 [some (.ref 0), some (.int a1), some (.int a2)] [] S
  unfold gX12_levelOf at h
  refine V_aload_n (pc := 0) C dX12_levelOf_0 rfl rfl ?_
  refine V_getF (p1 := 5) (pc := 1) C z1_mW_12 fl_RX12_26 rfl (zf_mW_12_17 z1_mW_12) dX12_levelOf_1 ?_
  refine V_sipush (pc := 4) C dX12_levelOf_4 kc_s_401 ?_
  refine V_iload_n (pc := 7) C dX12_levelOf_7 rfl rfl ?_
  refine V_imul (pc := 8) C dX12_levelOf_8 ?_
  refine V_iload_n (pc := 9) C dX12_levelOf_9 rfl rfl ?_
  refine V_iadd (pc := 10) C dX12_levelOf_10 ?_
  obtain ⟨k1, h⟩ := ck_some h
  refine V_iald (pc := 11) C (za_mW_12_17 z1_mW_12) k1 dX12_levelOf_11 ?_
  cases h
  exact hR 12 _ ⟨_, rfl, rfl⟩ dX12_levelOf_12
set_option maxRecDepth 100000 in
theorem mX12_often_J10 {K : zK} (C : zC K cX12_often yX12_often.cls 5 0 0 mW) {S : zM} {v1 : Int32} {v3 : Int32} {s0 : Int32} {r : Int32}  (hR : zR K cX12_often (some .int) S (some (.int r))) (h : gX12_often_J10 S v1 v3 s0 = some r) : V K 10 [some (.ref 0), some (.int v1), none, some (.int v3), none] [.int s0] S := by
  unfold gX12_often_J10 at h
  refine V_istore (L' := [some (.ref 0), some (.int v1), none, some (.int v3), some (.int s0)]) (pc := 10) C dX12_often_10 (by decide) rfl ?_
  refine V_iload (pc := 12) C dX12_often_12 rfl ?_
  refine V_iload_n (pc := 14) C dX12_often_14 rfl rfl ?_
  refine V_icmp_ge (tgt := 36) (pc := 15) C dX12_often_15 (by decide) (fun hc => ?_) (fun hc => ?_)
  · have h := it_t hc h
    refine V_iconst (pc := 36) C dX12_often_36 kc_i_0 ?_
    cases h
    exact hR 37 _ ⟨_, rfl, rfl⟩ dX12_often_37
  · have h := it_f hc h
    refine V_aload_n (pc := 18) C dX12_often_18 rfl rfl ?_
    refine V_getF (p1 := 3) (pc := 19) C z1_mW_12 fl_RX12_20 rfl (zf_mW_12_15 z1_mW_12) dX12_often_19 ?_
    refine V_bipush (pc := 22) C dX12_often_22 kc_b_84 ?_
    refine V_bipush (pc := 24) C dX12_often_24 kc_b_6 ?_
    refine V_iload_n (pc := 26) C dX12_often_26 rfl rfl ?_
    refine V_imul (pc := 27) C dX12_often_27 ?_
    refine V_iadd (pc := 28) C dX12_often_28 ?_
    refine V_iload (pc := 29) C dX12_often_29 rfl ?_
    refine V_iadd (pc := 31) C dX12_often_31 ?_
    obtain ⟨k1, h⟩ := ck_some h
    refine V_iald (pc := 32) C (za_mW_12_15 z1_mW_12) k1 dX12_often_32 ?_
    refine V_goto (tgt := 37) (pc := 33) C dX12_often_33 (by decide) ?_
    cases h
    exact hR 37 _ ⟨_, rfl, rfl⟩ dX12_often_37
set_option maxRecDepth 100000 in
theorem mX12_often (l : Launch) {S : zM} {a1 : Int32} {a2 : Int32} {a3 : Int32} {r : Int32}  (h : gX12_often S a1 a2 a3 = some r) : zMet l mW zS0 yX12_often cX12_often 5 (some .int) 0 0 [.ref 0, .int a1, .int a2, .int a3] S (some (.int r)) S := by
  refine zmeth (by decide +kernel) (by rfl) (fun K hKl C hR => ?_)
  show V K 0 [some (.ref 0), some (.int a1), some (.int a2), some (.int a3), none] [] S
  unfold gX12_often at h
  refine V_iload_n (pc := 0) C dX12_often_0 rfl rfl ?_
  refine V_if_ge (tgt := 9) (pc := 1) C dX12_often_1 (by decide) (fun hc => ?_) (fun hc => ?_)
  · have h := it_t hc h
    refine V_iload_n (pc := 9) C dX12_often_9 rfl rfl ?_
    exact V_mask [true, true, false, true, false] (mX12_often_J10 C  hR h)
  · have h := it_f hc h
    refine V_iload_n (pc := 4) C dX12_often_4 rfl rfl ?_
    refine V_ineg (pc := 5) C dX12_often_5 ?_
    refine V_goto (tgt := 10) (pc := 6) C dX12_often_6 (by decide) ?_
    exact V_mask [true, true, false, true, false] (mX12_often_J10 C  hR h)
set_option maxRecDepth 100000 in
theorem mX12_noise (l : Launch) {S : zM} {a1 : Int32} {a2 : Int32} {r : Int32} {S' : zM}  (h : gX12_noise S a1 a2 = some (r, S')) : zMet l mW zS0 yX12_noise cX12_noise 3 (some .int) 2 43 [.ref 0, .int a1, .int a2] S (some (.int r)) S' := by
  refine zmeth (by decide +kernel) (by rfl) (fun K hKl C hR => ?_)
  show V K 0 [some (.ref 0), some (.int a1), some (.int a2)] [] S
  unfold gX12_noise at h
  refine V_aload_n (pc := 0) C dX12_noise_0 rfl rfl ?_
  refine V_iconst (pc := 1) C dX12_noise_1 kc_i_0 ?_
  refine V_putI (pc := 2) C z1_mW_12 fp_RX12_103 rfl rfl dX12_noise_2 ?_
  refine V_aload_n (pc := 5) C dX12_noise_5 rfl rfl ?_
  refine V_iload_n (pc := 6) C dX12_noise_6 rfl rfl ?_
  obtain ⟨r1, er1, h⟩ := b1_some h
  refine V_callV (As := [.int a1]) (pc := 7) C (mX12_isSense _ er1) zm_X12_isSense zi_X12_isSense ml_RX12_306 z1_mW_12 rfl ⟨Nat.le_of_ble_eq_true rfl, Nat.le_of_ble_eq_true rfl⟩ rfl rfl (Nat.le_of_ble_eq_true rfl) dX12_noise_7 ?_
  show V K 10 [some (.ref 0), some (.int a1), some (.int a2)] [.int r1] (pI S 0 0 (0 : Int32))
  refine V_if_ne (tgt := 15) (pc := 10) C dX12_noise_10 (by decide) (fun hc => ?_) (fun hc => ?_)
  · have h := it_f hc h
    refine V_iload_n (pc := 15) C dX12_noise_15 rfl rfl ?_
    refine V_bipush (pc := 16) C dX12_noise_16 kc_b_m5 ?_
    refine V_iconst (pc := 18) C dX12_noise_18 kc_i_5 ?_
    obtain ⟨r2, er2, h⟩ := b1_some h
    refine V_callS (As := [.int a2, .int (-5 : Int32), .int (5 : Int32)]) (pc := 19) C (mX12_within _ er2) zm_X12_within zs_X12_within ml_RX12_203 ⟨Nat.le_of_ble_eq_true rfl, Nat.le_of_ble_eq_true rfl⟩ rfl rfl (Nat.le_of_ble_eq_true rfl) dX12_noise_19 ?_
    show V K 22 [some (.ref 0), some (.int a1), some (.int a2)] [.int r2] (pI S 0 0 (0 : Int32))
    refine V_if_eq (tgt := 43) (pc := 22) C dX12_noise_22 (by decide) (fun hc => ?_) (fun hc => ?_)
    · have h := it_t hc h
      refine V_iconst (pc := 43) C dX12_noise_43 kc_i_0 ?_
      cases h
      exact hR 44 _ ⟨_, rfl, rfl⟩ dX12_noise_44
    · have h := it_f hc h
      refine V_aload_n (pc := 25) C dX12_noise_25 rfl rfl ?_
      refine V_iload_n (pc := 26) C dX12_noise_26 rfl rfl ?_
      refine V_iload_n (pc := 27) C dX12_noise_27 rfl rfl ?_
      refine V_aload_n (pc := 28) C dX12_noise_28 rfl rfl ?_
      refine V_getF (p1 := 3) (pc := 29) C z1_mW_12 fl_RX12_20 rfl (zf_mW_12_15 z1_mW_12) dX12_noise_29 ?_
      refine V_bipush (pc := 32) C dX12_noise_32 kc_b_78 ?_
      refine V_iload_n (pc := 34) C dX12_noise_34 rfl rfl ?_
      refine V_iadd (pc := 35) C dX12_noise_35 ?_
      obtain ⟨k3, h⟩ := ck_some h
      refine V_iald (pc := 36) C (za_mW_12_15 z1_mW_12) k3 dX12_noise_36 ?_
      obtain ⟨r4, er4, h⟩ := b1_some h
      refine V_callV (As := [.int a1, .int a2, .int (gI (pI S 0 0 (0 : Int32)) 3 (ix ((78 : Int32) + a1)))]) (pc := 37) C (mX12_often _ er4) zm_X12_often zi_X12_often ml_RX12_309 z1_mW_12 rfl ⟨Nat.le_of_ble_eq_true rfl, Nat.le_of_ble_eq_true rfl⟩ rfl rfl (Nat.le_of_ble_eq_true rfl) dX12_noise_37 ?_
      show V K 40 [some (.ref 0), some (.int a1), some (.int a2)] [.int r4] (pI S 0 0 (0 : Int32))
      refine V_goto (tgt := 44) (pc := 40) C dX12_noise_40 (by decide) ?_
      cases h
      exact hR 44 _ ⟨_, rfl, rfl⟩ dX12_noise_44
  · have h := it_t hc h
    refine V_iconst (pc := 13) C dX12_noise_13 kc_i_m1 ?_
    cases h
    exact hR 14 _ ⟨_, rfl, rfl⟩ dX12_noise_14
set_option maxRecDepth 100000 in
theorem mX12_all_L6 {K : zK} (C : zC K cX12_all yX12_all.cls 5 1 24 mW) {S : zM} {v1 : Int32} {v2 : Int32}  : ∀ (f : Nat) (v3 : Int32) (v4 : Int32) (r : Int32), gX12_all_L6 S v1 v2 f v3 v4 = some r → zR K cX12_all (some .int) S (some (.int r)) → V K 6 [some (.ref 0), some (.int v1), some (.int v2), some (.int v3), some (.int v4)] [] S := by
  intro f
  induction f with
  | zero => intro v3 v4 r h hR; cases h
  | succ n ih =>
    intro v3 v4 r h hR
    unfold gX12_all_L6 at h
    refine V_iload (pc := 6) C dX12_all_6 rfl ?_
    refine V_iconst (pc := 8) C dX12_all_8 kc_i_5 ?_
    refine V_icmp_gt (tgt := 29) (pc := 9) C dX12_all_9 (by decide) (fun hc => ?_) (fun hc => ?_)
    · have h := it_t hc h
      refine V_iload_n (pc := 29) C dX12_all_29 rfl rfl ?_
      cases h
      exact hR 30 _ ⟨_, rfl, rfl⟩ dX12_all_30
    · have h := it_f hc h
      refine V_iload_n (pc := 12) C dX12_all_12 rfl rfl ?_
      refine V_aload_n (pc := 13) C dX12_all_13 rfl rfl ?_
      refine V_iload_n (pc := 14) C dX12_all_14 rfl rfl ?_
      refine V_iload (pc := 15) C dX12_all_15 rfl ?_
      refine V_iload_n (pc := 17) C dX12_all_17 rfl rfl ?_
      obtain ⟨r1, er1, h⟩ := b1_some h
      refine V_callV (As := [.int v1, .int v4, .int v2]) (pc := 18) C (mX12_often _ er1) zm_X12_often zi_X12_often ml_RX12_309 z1_mW_12 rfl ⟨Nat.le_of_ble_eq_true rfl, Nat.le_of_ble_eq_true rfl⟩ rfl rfl (Nat.le_of_ble_eq_true rfl) dX12_all_18 ?_
      show V K 21 [some (.ref 0), some (.int v1), some (.int v2), some (.int v3), some (.int v4)] [.int r1, .int v3] S
      refine V_iadd (pc := 21) C dX12_all_21 ?_
      refine V_istore_n (L' := [some (.ref 0), some (.int v1), some (.int v2), some (.int (v3 + r1)), some (.int v4)]) (pc := 22) C dX12_all_22 rfl (by decide) rfl ?_
      refine V_iinc (L' := [some (.ref 0), some (.int v1), some (.int v2), some (.int (v3 + r1)), some (.int (v4 + (1 : Int32)))]) (v := (v4 + (1 : Int32))) (pc := 23) C dX12_all_23 rfl (congrArg (v4 + ·) kc_i_1) (by decide) rfl ?_
      refine V_goto (tgt := 6) (pc := 26) C dX12_all_26 (by decide) ?_
      exact V_mask [true, true, true, true, true] (ih _ _ _ h hR)
set_option maxRecDepth 100000 in
theorem mX12_all (l : Launch) {S : zM} {a1 : Int32} {a2 : Int32} {r : Int32}  (h : gX12_all S a1 a2 = some r) : zMet l mW zS0 yX12_all cX12_all 5 (some .int) 1 24 [.ref 0, .int a1, .int a2] S (some (.int r)) S := by
  refine zmeth (by decide +kernel) (by rfl) (fun K hKl C hR => ?_)
  show V K 0 [some (.ref 0), some (.int a1), some (.int a2), none, none] [] S
  unfold gX12_all at h
  refine V_iconst (pc := 0) C dX12_all_0 kc_i_0 ?_
  refine V_istore_n (L' := [some (.ref 0), some (.int a1), some (.int a2), some (.int (0 : Int32)), none]) (pc := 1) C dX12_all_1 rfl (by decide) rfl ?_
  refine V_bipush (pc := 2) C dX12_all_2 kc_b_m5 ?_
  refine V_istore (L' := [some (.ref 0), some (.int a1), some (.int a2), some (.int (0 : Int32)), some (.int (-5 : Int32))]) (pc := 4) C dX12_all_4 (by decide) rfl ?_
  exact V_mask [true, true, true, true, true] (mX12_all_L6 C  FU _ _ _ h hR)
set_option maxRecDepth 100000 in
theorem mX12_fullOf (l : Launch) {S : zM} {a1 : Int32} {r : Int32}  (h : gX12_fullOf S a1 = some r) : zMet l mW zS0 yX12_fullOf cX12_fullOf 2 (some .int) 0 0 [.ref 0, .int a1] S (some (.int r)) S := by
  refine zmeth (by decide +kernel) (by rfl) (fun K hKl C hR => ?_)
  show V K 0 [some (.ref 0), some (.int a1)] [] S
  unfold gX12_fullOf at h
  refine V_aload_n (pc := 0) C dX12_fullOf_0 rfl rfl ?_
  refine V_getF (p1 := 3) (pc := 1) C z1_mW_12 fl_RX12_20 rfl (zf_mW_12_15 z1_mW_12) dX12_fullOf_1 ?_
  refine V_bipush (pc := 4) C dX12_fullOf_4 kc_b_78 ?_
  refine V_iload_n (pc := 6) C dX12_fullOf_6 rfl rfl ?_
  refine V_iadd (pc := 7) C dX12_fullOf_7 ?_
  obtain ⟨k1, h⟩ := ck_some h
  refine V_iald (pc := 8) C (za_mW_12_15 z1_mW_12) k1 dX12_fullOf_8 ?_
  cases h
  exact hR 9 _ ⟨_, rfl, rfl⟩ dX12_fullOf_9
set_option maxRecDepth 100000 in
theorem mX12_tired (l : Launch) {S : zM} {a1 : Int32} {r : Int32}  (h : gX12_tired S a1 = some r) : zMet l mW zS0 yX12_tired cX12_tired 2 (some .int) 0 0 [.ref 0, .int a1] S (some (.int r)) S := by
  refine zmeth (by decide +kernel) (by rfl) (fun K hKl C hR => ?_)
  show V K 0 [some (.ref 0), some (.int a1)] [] S
  unfold gX12_tired at h
  refine V_aload_n (pc := 0) C dX12_tired_0 rfl rfl ?_
  refine V_getF (p1 := 3) (pc := 1) C z1_mW_12 fl_RX12_20 rfl (zf_mW_12_15 z1_mW_12) dX12_tired_1 ?_
  refine V_sipush (pc := 4) C dX12_tired_4 kc_s_138 ?_
  refine V_iload_n (pc := 7) C dX12_tired_7 rfl rfl ?_
  refine V_iadd (pc := 8) C dX12_tired_8 ?_
  obtain ⟨k1, h⟩ := ck_some h
  refine V_iald (pc := 9) C (za_mW_12_15 z1_mW_12) k1 dX12_tired_9 ?_
  refine V_if_ne (tgt := 17) (pc := 10) C dX12_tired_10 (by decide) (fun hc => ?_) (fun hc => ?_)
  · have h := it_f hc h
    refine V_aload_n (pc := 17) C dX12_tired_17 rfl rfl ?_
    refine V_getF (p1 := 7) (pc := 18) C z1_mW_12 fl_RX12_32 rfl (zf_mW_12_19 z1_mW_12) dX12_tired_18 ?_
    refine V_iload_n (pc := 21) C dX12_tired_21 rfl rfl ?_
    obtain ⟨k2, h⟩ := ck_some h
    refine V_iald (pc := 22) C (za_mW_12_19 z1_mW_12) k2 dX12_tired_22 ?_
    refine V_aload_n (pc := 23) C dX12_tired_23 rfl rfl ?_
    refine V_getF (p1 := 3) (pc := 24) C z1_mW_12 fl_RX12_20 rfl (zf_mW_12_15 z1_mW_12) dX12_tired_24 ?_
    refine V_sipush (pc := 27) C dX12_tired_27 kc_s_138 ?_
    refine V_iload_n (pc := 30) C dX12_tired_30 rfl rfl ?_
    refine V_iadd (pc := 31) C dX12_tired_31 ?_
    obtain ⟨k3, h⟩ := ck_some h
    refine V_iald (pc := 32) C (za_mW_12_15 z1_mW_12) k3 dX12_tired_32 ?_
    obtain ⟨k4, h⟩ := ck_some h
    refine V_idiv (pc := 33) C dX12_tired_33 (of_decide_eq_true k4) ?_
    cases h
    exact hR 34 _ ⟨_, rfl, rfl⟩ dX12_tired_34
  · have h := it_t hc h
    refine V_iconst (pc := 13) C dX12_tired_13 kc_i_0 ?_
    refine V_goto (tgt := 34) (pc := 14) C dX12_tired_14 (by decide) ?_
    cases h
    exact hR 34 _ ⟨_, rfl, rfl⟩ dX12_tired_34
