/-! What is answered, by both. -/
/-- tired, learned, the wholes that are there now -/
def mT (S : zM) (p : Nat) : Int := if iI S 3 (138 + p) = 0 then 0 else iI S 7 p / iI S 3 (138 + p)
def mS (S : zM) (p : Nat) : Nat := (iI S 3 (120 + p)).toNat
def mLe (S : zM) (p : Nat) : Int := min (iI S 3 (78 + mS S p) - 1) (if iI S 3 (144 + p) = 0 then 0 else iI S 6 p / iI S 3 (144 + p))
def mK (S : zM) (p : Nat) : Nat := (iI S 3 (78 + mS S p) - mLe S p).toNat
theorem div_b {a b c : Int} (h : 0 ≤ a) (h1 : a ≤ c) (h2 : 1 ≤ b) : 0 ≤ a / b ∧ a / b ≤ c := ⟨Int.ediv_nonneg h (by omega), Int.le_trans (Int.ediv_le_self b h) h1⟩
theorem dnz {a : Int} (h : ¬ a = 0) (h1 : -2147483648 ≤ a) (h2 : a ≤ 2147483647) : decide (¬ J a = J 0) = true := by
  rw [decide_eq_true_eq, J_inj h1 h2 (by decide) (by decide)]
  exact h
/-- what is needed of a sayer -/
def okP (SC SM : zM) (H p : Nat) (t : Nat) : Prop := (H = 6 ∨ H = 243) ∧ (p < 6 ∧ (p : Int) < cnt SM 1) ∧ rSayer SC SM H p ∧ (∀ s : Nat, (s : Int) < cnt SM 0 → rSense SC SM H s) ∧ (0 ≤ cnt SM 0 ∧ cnt SM 0 ≤ 6) ∧ (gR SC 0 8 = H ∧ gI SC H 6 = J (cnt SM 0)) ∧ t ≤ 512 ∧ rTot SM t
theorem okP_of {SC SM : zM} {H p t : Nat} (h : rHall SC SM H) (hp : (p : Int) < cnt SM 1) (ht : t ≤ 512) (h2 : rTot SM t) : okP SC SM H p t := ⟨h.1.1, ⟨by have := h.2.1.2.1.2; omega, hp⟩, h.2.2.2.2.1 p hp, h.2.2.2.1, h.2.1.1, ⟨h.1.2.1, h.2.2.1.1⟩, ht, h2⟩
section
variable {SC SM : zM} {H p t : Nat}
theorem mS_b (h : okP SC SM H p t) : mS SM p < 6 ∧ (mS SM p : Int) < cnt SM 0 ∧ iI SM 3 (120 + p) = mS SM p := by
  have h3 := h.2.2.1.1.1
  have h4 := h.2.2.2.2.1
  unfold mS
  omega
theorem okS (h : okP SC SM H p t) : rSense SC SM H (mS SM p) := h.2.2.2.1 _ (mS_b h).2.1
theorem mT_b (h : okP SC SM H p t) : 0 ≤ mT SM p ∧ mT SM p ≤ 516095 := by
  have hb := (h.2.2.2.2.2.2.2 p h.2.1.1).2
  have ht := h.2.2.2.2.2.2.1
  have h3 := h.2.2.1.1.2.2.2.1
  unfold mT
  by_cases e : iI SM 3 (138 + p) = 0
  · rw [if_pos e]; omega
  · rw [if_neg e]
    exact div_b hb.1 (by omega) (by omega)
theorem c_tired (h : okP SC SM H p t) : gX8_tired SC (H + 193 + 2 * p) = some (J (mT SM p)) := by
  have hb := (h.2.2.2.2.2.2.2 p h.2.1.1).2
  have ht := h.2.2.2.2.2.2.1
  obtain ⟨hm, -, -, -, e4, -, -, -, -, -, e9⟩ := h.2.2.1
  have h3 := hm.2.2.2.1
  rw [gI_J SM] at e4 e9
  unfold gX8_tired mT
  simp (disch := omega) only [J_0, J_1, J_2, J_3, J_4, J_5, J_6, J_7, J_8, J_9, J_10, J_11, J_12, J_14, J_15, J_16, J_19, J_20, J_21, J_22, J_23, J_24, J_25, J_28, J_30, J_31, J_32, J_40, J_44, J_47, J_48, J_49, J_50, J_53, J_54, J_57, J_59, J_74, J_75, J_78, J_84, J_97, J_99, J_100, J_120, J_122, J_126, J_132, J_138, J_144, J_150, J_156, J_162, J_198, J_200, J_202, J_206, J_210, J_214, J_218, J_222, J_226, J_230, J_234, J_238, J_239, J_240, J_241, J_242, J_243, J_255, J_263, J_283, J_303, J_399, J_400, J_401, J_463, J_700, J_701, J_999, J_1000, J_2048, J_4095, J_4096, J_6000, J_9999, J_10000, J_65536, J_65537, J_2147483647, J_neg, e4, e9, J_lt, J_le, J_inj]
  by_cases e : iI SM 3 (138 + p) = 0
  · rw [if_neg (show ¬ 1 ≤ iI SM 3 (138 + p) by omega), if_pos e]
  · rw [if_pos (show 1 ≤ iI SM 3 (138 + p) by omega), if_neg e, J_div (by omega) (by omega) (by omega) (by omega), show decide (¬ iI SM 3 (138 + p) = 0) = true by simp [e], ckt]
theorem m_tired (h : okP SC SM H p t) : gX12_tired SM (J p) = some (J (mT SM p)) := by
  have hb := (h.2.2.2.2.2.2.2 p h.2.1.1).2
  have ht := h.2.2.2.2.2.2.1
  have hp := h.2.1.1
  have h3 := h.2.2.1.1.2.2.2.1
  have x1 : ixb (J (138 + (p : Int))) 463 = true := ixb_J (by omega) (by omega) (by decide)
  have x2 : ix (J (138 + (p : Int))) = 138 + p := by rw [ix_J (by omega) (by omega)]; omega
  have x3 : ixb (J (p : Int)) 6 = true := ixb_J (by omega) (by omega) (by decide)
  have x4 : ix (J (p : Int)) = p := by rw [ix_J (by omega) (by omega)]; omega
  unfold gX12_tired mT
  simp only [J_0, J_1, J_2, J_3, J_4, J_5, J_6, J_7, J_8, J_9, J_10, J_11, J_12, J_14, J_15, J_16, J_19, J_20, J_21, J_22, J_23, J_24, J_25, J_28, J_30, J_31, J_32, J_40, J_44, J_47, J_48, J_49, J_50, J_53, J_54, J_57, J_59, J_74, J_75, J_78, J_84, J_97, J_99, J_100, J_120, J_122, J_126, J_132, J_138, J_144, J_150, J_156, J_162, J_198, J_200, J_202, J_206, J_210, J_214, J_218, J_222, J_226, J_230, J_234, J_238, J_239, J_240, J_241, J_242, J_243, J_255, J_263, J_283, J_303, J_399, J_400, J_401, J_463, J_700, J_701, J_999, J_1000, J_2048, J_4095, J_4096, J_6000, J_9999, J_10000, J_65536, J_65537, J_2147483647, J_neg, J_neg, J_add, J_sub, J_mul, x1, x2, x3, x4, ckt, b1s, b2s, lts, un2s, un3s, un4s, un5s, lmr, lml, lgr, lgl, gI_J SM]
  simp (disch := omega) only [J_lt, J_le, J_inj]
  by_cases e : iI SM 3 (138 + p) = 0
  · rw [if_pos e, if_pos e]
  · rw [if_neg e, if_neg e, J_div (by omega) (by omega) (by omega) (by omega), show decide (¬ iI SM 3 (138 + p) = 0) = true by simp [e], ckt]
theorem mLe_b (h : okP SC SM H p t) : 0 ≤ mLe SM p ∧ mLe SM p ≤ iI SM 3 (78 + mS SM p) - 1 := by
  have hb := (h.2.2.2.2.2.2.2 p h.2.1.1).1
  have ht := h.2.2.2.2.2.2.1
  have h3 := h.2.2.1.1.2.2.2.2.1
  have h4 := (okS h).1.1
  unfold mLe
  by_cases e : iI SM 3 (144 + p) = 0
  · rw [if_pos e]; omega
  · rw [if_neg e]
    have := div_b hb.1 hb.2 (show 1 ≤ iI SM 3 (144 + p) by omega)
    omega
theorem mK_b (h : okP SC SM H p t) : 1 ≤ mK SM p ∧ mK SM p ≤ 6 ∧ (mK SM p : Int) = iI SM 3 (78 + mS SM p) - mLe SM p := by
  have h1 := mLe_b h
  have h4 := (okS h).1.1
  unfold mK
  omega
theorem m_learned (h : okP SC SM H p t) : gX12_learned SM (J p) = some (J (mLe SM p)) := by
  have hb := (h.2.2.2.2.2.2.2 p h.2.1.1).1
  have ht := h.2.2.2.2.2.2.1
  have hp := h.2.1.1
  have h3 := h.2.2.1.1.2.2.2.2.1
  have h4 := (okS h).1.1
  obtain ⟨s1, -, s3⟩ := mS_b h
  have x1 : ixb (J (144 + (p : Int))) 463 = true := ixb_J (by omega) (by omega) (by decide)
  have x2 : ix (J (144 + (p : Int))) = 144 + p := by rw [ix_J (by omega) (by omega)]; omega
  have x3 : ixb (J (p : Int)) 6 = true := ixb_J (by omega) (by omega) (by decide)
  have x4 : ix (J (p : Int)) = p := by rw [ix_J (by omega) (by omega)]; omega
  have x5 : ixb (J (120 + (p : Int))) 463 = true := ixb_J (by omega) (by omega) (by decide)
  have x6 : ix (J (120 + (p : Int))) = 120 + p := by rw [ix_J (by omega) (by omega)]; omega
  have x7 : ixb (J (78 + (mS SM p : Int))) 463 = true := ixb_J (by omega) (by omega) (by decide)
  have x8 : ix (J (78 + (mS SM p : Int))) = 78 + mS SM p := by rw [ix_J (by omega) (by omega)]; omega
  unfold gX12_learned gX12_learned_J34 mLe
  simp only [J_0, J_1, J_2, J_3, J_4, J_5, J_6, J_7, J_8, J_9, J_10, J_11, J_12, J_14, J_15, J_16, J_19, J_20, J_21, J_22, J_23, J_24, J_25, J_28, J_30, J_31, J_32, J_40, J_44, J_47, J_48, J_49, J_50, J_53, J_54, J_57, J_59, J_74, J_75, J_78, J_84, J_97, J_99, J_100, J_120, J_122, J_126, J_132, J_138, J_144, J_150, J_156, J_162, J_198, J_200, J_202, J_206, J_210, J_214, J_218, J_222, J_226, J_230, J_234, J_238, J_239, J_240, J_241, J_242, J_243, J_255, J_263, J_283, J_303, J_399, J_400, J_401, J_463, J_700, J_701, J_999, J_1000, J_2048, J_4095, J_4096, J_6000, J_9999, J_10000, J_65536, J_65537, J_2147483647, J_neg, J_neg, J_add, J_sub, J_mul, x1, x2, x3, x4, x5, x6, ckt, b1s, b2s, lts, un2s, un3s, un4s, un5s, lmr, lml, lgr, lgl, gI_J SM, s3, x7, x8]
  rw [iEQ (by omega) (by omega) (by decide) (by decide)]
  by_cases e : iI SM 3 (144 + p) = 0
  · rw [if_pos e, if_pos e, iLE (by omega) (by omega) (by decide) (by decide)]
    by_cases g : iI SM 3 (78 + mS SM p) - 1 ≤ 0
    · rw [if_pos g, Int.min_eq_left g]
    · rw [if_neg g, Int.min_eq_right (by omega)]
  · have hd := div_b hb.1 hb.2 (show 1 ≤ iI SM 3 (144 + p) by omega)
    rw [if_neg e, if_neg e, J_div (by omega) (by omega) (by omega) (by omega), iLE (by omega) (by omega) (by omega) (by omega), dnz e (by omega) (by omega), ckt]
    by_cases g : iI SM 3 (78 + mS SM p) - 1 ≤ iI SM 6 p / iI SM 3 (144 + p)
    · rw [if_pos g, Int.min_eq_left g]
    · rw [if_neg g, Int.min_eq_right (by omega)]
theorem m_wholesNow (h : okP SC SM H p t) : gX12_wholesNow SM (J p) = some (J (mK SM p)) := by
  have hp := h.2.1.1
  have h4 := (okS h).1.1
  obtain ⟨s1, -, s3⟩ := mS_b h
  have x5 : ixb (J (120 + (p : Int))) 463 = true := ixb_J (by omega) (by omega) (by decide)
  have x6 : ix (J (120 + (p : Int))) = 120 + p := by rw [ix_J (by omega) (by omega)]; omega
  have x7 : ixb (J (78 + (mS SM p : Int))) 463 = true := ixb_J (by omega) (by omega) (by decide)
  have x8 : ix (J (78 + (mS SM p : Int))) = 78 + mS SM p := by rw [ix_J (by omega) (by omega)]; omega
  unfold gX12_wholesNow
  simp only [J_0, J_1, J_2, J_3, J_4, J_5, J_6, J_7, J_8, J_9, J_10, J_11, J_12, J_14, J_15, J_16, J_19, J_20, J_21, J_22, J_23, J_24, J_25, J_28, J_30, J_31, J_32, J_40, J_44, J_47, J_48, J_49, J_50, J_53, J_54, J_57, J_59, J_74, J_75, J_78, J_84, J_97, J_99, J_100, J_120, J_122, J_126, J_132, J_138, J_144, J_150, J_156, J_162, J_198, J_200, J_202, J_206, J_210, J_214, J_218, J_222, J_226, J_230, J_234, J_238, J_239, J_240, J_241, J_242, J_243, J_255, J_263, J_283, J_303, J_399, J_400, J_401, J_463, J_700, J_701, J_999, J_1000, J_2048, J_4095, J_4096, J_6000, J_9999, J_10000, J_65536, J_65537, J_2147483647, J_neg, J_neg, J_add, J_sub, J_mul, x5, x6, ckt, b1s, b2s, lts, un2s, un3s, un4s, un5s, lmr, lml, lgr, lgl, gI_J SM, s3, x7, x8, m_learned h, (mK_b h).2.2]
theorem c_senseP (h : okP SC SM H p t) : gX11_senseOf SC (H + 193 + 2 * p) = some (H + 7 + 31 * mS SM p) := by
  have hs := h.2.2.1.2.1
  rw [gI_J SM] at hs
  have := c_senseOf h.1 h.2.2.2.2.2.1.1 h.2.2.2.2.2.1.2 h.2.2.2.2.1 hs h.2.2.1.1.1
  rw [this]
  rfl
theorem c_leftOut (h : okP SC SM H p t) : gX11_leftOut SC (H + 193 + 2 * p) = some (J (mLe SM p)) := by
  have hb := (h.2.2.2.2.2.2.2 p h.2.1.1).1
  have ht := h.2.2.2.2.2.2.1
  have h3 := h.2.2.1.1.2.2.2.2.1
  have h4 := (okS h).1.1
  have w := (okS h).2.1
  obtain ⟨hm, -, -, -, -, e5, -, -, -, e8, -⟩ := h.2.2.1
  rw [gI_J SM] at e5 e8 w
  unfold gX11_leftOut
  rw [c_senseP h, b1s, w]
  unfold gX8_learned mLe
  simp only [J_0, J_1, J_2, J_3, J_4, J_5, J_6, J_7, J_8, J_9, J_10, J_11, J_12, J_14, J_15, J_16, J_19, J_20, J_21, J_22, J_23, J_24, J_25, J_28, J_30, J_31, J_32, J_40, J_44, J_47, J_48, J_49, J_50, J_53, J_54, J_57, J_59, J_74, J_75, J_78, J_84, J_97, J_99, J_100, J_120, J_122, J_126, J_132, J_138, J_144, J_150, J_156, J_162, J_198, J_200, J_202, J_206, J_210, J_214, J_218, J_222, J_226, J_230, J_234, J_238, J_239, J_240, J_241, J_242, J_243, J_255, J_263, J_283, J_303, J_399, J_400, J_401, J_463, J_700, J_701, J_999, J_1000, J_2048, J_4095, J_4096, J_6000, J_9999, J_10000, J_65536, J_65537, J_2147483647, J_neg, J_neg, J_add, J_sub, J_mul, e5, e8]
  rw [iLE (by decide) (by decide) (by omega) (by omega)]
  by_cases e : iI SM 3 (144 + p) = 0
  · rw [if_neg (show ¬ 1 ≤ iI SM 3 (144 + p) by omega), if_pos e, b1s, Int.min_eq_right (by omega)]
  · have hd := div_b hb.1 hb.2 (show 1 ≤ iI SM 3 (144 + p) by omega)
    rw [if_pos (show 1 ≤ iI SM 3 (144 + p) by omega), if_neg e, J_div (by omega) (by omega) (by omega) (by omega), dnz e (by omega) (by omega), ckt, jmin_J (by omega) (by omega) (by omega) (by omega), b1s]
theorem c_noiseWithout {q : Nat} {w l : Int} (hw : gI SC q 7 = J w) (h1 : 0 ≤ l ∧ l < w ∧ w ≤ 6) : gX9_noiseWithout SC q (J l) = some (q + 7 + 4 * (w - 1 - l).toNat) := by
  unfold gX9_noiseWithout
  simp only [J_0, J_1, J_2, J_3, J_4, J_5, J_6, J_7, J_8, J_9, J_10, J_11, J_12, J_14, J_15, J_16, J_19, J_20, J_21, J_22, J_23, J_24, J_25, J_28, J_30, J_31, J_32, J_40, J_44, J_47, J_48, J_49, J_50, J_53, J_54, J_57, J_59, J_74, J_75, J_78, J_84, J_97, J_99, J_100, J_120, J_122, J_126, J_132, J_138, J_144, J_150, J_156, J_162, J_198, J_200, J_202, J_206, J_210, J_214, J_218, J_222, J_226, J_230, J_234, J_238, J_239, J_240, J_241, J_242, J_243, J_255, J_263, J_283, J_303, J_399, J_400, J_401, J_463, J_700, J_701, J_999, J_1000, J_2048, J_4095, J_4096, J_6000, J_9999, J_10000, J_65536, J_65537, J_2147483647, J_neg, J_neg, J_add, J_sub, J_mul, hw]
  rw [jmin_J (by omega) (by omega) (by omega) (by omega), jmax_J (by omega) (by omega) (by omega) (by omega), show max 0 (min (6 - 1) (w - 1 - l)) = w - 1 - l by omega, ixb_J (by omega) (by omega) (by decide), ckt, ix_J (by omega) (by omega)]
theorem c_noiseOf (h : okP SC SM H p t) : gX11_noiseOf SC (H + 193 + 2 * p) = some (H + 7 + 31 * mS SM p + 7 + 4 * (mK SM p - 1)) := by
  have h1 := mLe_b h
  have h4 := (okS h).1.1
  have hk := mK_b h
  have w := (okS h).2.1
  rw [gI_J SM] at w
  unfold gX11_noiseOf
  rw [c_senseP h, b1s, c_leftOut h, b1s, c_noiseWithout w (by omega), b1s, show (iI SM 3 (78 + mS SM p) - 1 - mLe SM p).toNat = mK SM p - 1 by omega]
/-- the noise that a sayer has now -/
theorem nzP (h : okP SC SM H p t) : nzC SC (H + 7 + 31 * mS SM p + 7 + 4 * (mK SM p - 1)) (mN SM (mS SM p) (mK SM p)) ∧ nOK (mN SM (mS SM p) (mK SM p)) := by
  have h4 := okS h
  have hk := mK_b h
  have h1 := mLe_b h
  refine ⟨?_, mN_ok h4.1 ⟨hk.1, hk.2.1⟩⟩
  have := h4.2.2.2 (mK SM p - 1) (by omega)
  rw [show mK SM p - 1 + 1 = mK SM p by omega] at this
  exact this
/-! answers -/
def anP (d g : Int) : Int := if d = 0 then (if g = 1 then 1 else 2) else if 0 < d then 1 else 0
def anK (d c : Int) : Int := if c = 1 then (if d < -2 then 0 else 1) else if 2 < d then 1 else 0
def anO (f g h : Int) : Int := if iab (2 * g - f - h) ≤ iab (2 * f - g - h) ∧ iab (2 * h - f - g) ≤ iab (2 * f - g - h) then 0 else if iab (2 * h - f - g) ≤ iab (2 * g - f - h) then 1 else 2
theorem m_oddOne {f g h : Int} (hf : inF f) (hg : inF g) (hh : inF h) : gX12_oddOne (J f) (J g) (J h) = some (J (anO f g h)) := by
  unfold inF at hf hg hh
  have a1 := iab_lo (2 * f - g - h)
  have a2 := iab_hi (x := 2 * f - g - h) (b := 80000) (by omega) (by omega)
  have a3 := iab_lo (2 * g - f - h)
  have a4 := iab_hi (x := 2 * g - f - h) (b := 80000) (by omega) (by omega)
  have a5 := iab_lo (2 * h - f - g)
  have a6 := iab_hi (x := 2 * h - f - g) (b := 80000) (by omega) (by omega)
  unfold gX12_oddOne anO
  simp only [J_0, J_1, J_2, J_3, J_4, J_5, J_6, J_7, J_8, J_9, J_10, J_11, J_12, J_14, J_15, J_16, J_19, J_20, J_21, J_22, J_23, J_24, J_25, J_28, J_30, J_31, J_32, J_40, J_44, J_47, J_48, J_49, J_50, J_53, J_54, J_57, J_59, J_74, J_75, J_78, J_84, J_97, J_99, J_100, J_120, J_122, J_126, J_132, J_138, J_144, J_150, J_156, J_162, J_198, J_200, J_202, J_206, J_210, J_214, J_218, J_222, J_226, J_230, J_234, J_238, J_239, J_240, J_241, J_242, J_243, J_255, J_263, J_283, J_303, J_399, J_400, J_401, J_463, J_700, J_701, J_999, J_1000, J_2048, J_4095, J_4096, J_6000, J_9999, J_10000, J_65536, J_65537, J_2147483647, J_neg, J_neg, J_add, J_sub, J_mul]
  rw [m_without (by omega) (by omega), b1s, m_without (by omega) (by omega), b1s, m_without (by omega) (by omega), b1s]
  simp (disch := omega) only [J_lt, J_le, J_inj]
  repeat' split
  all_goals first | rfl | (exfalso; omega)
theorem c_oddPlace {f g h : Int} (hf : inF f) (hg : inF g) (hh : inF h) : gX0_oddPlace (J f) (J g) (J h) = some (J (anO f g h)) := by
  unfold inF at hf hg hh
  have a1 := iab_lo (2 * f - g - h)
  have a2 := iab_hi (x := 2 * f - g - h) (b := 80000) (by omega) (by omega)
  have a3 := iab_lo (2 * g - f - h)
  have a4 := iab_hi (x := 2 * g - f - h) (b := 80000) (by omega) (by omega)
  have a5 := iab_lo (2 * h - f - g)
  have a6 := iab_hi (x := 2 * h - f - g) (b := 80000) (by omega) (by omega)
  unfold gX0_oddPlace anO
  simp only [J_0, J_1, J_2, J_3, J_4, J_5, J_6, J_7, J_8, J_9, J_10, J_11, J_12, J_14, J_15, J_16, J_19, J_20, J_21, J_22, J_23, J_24, J_25, J_28, J_30, J_31, J_32, J_40, J_44, J_47, J_48, J_49, J_50, J_53, J_54, J_57, J_59, J_74, J_75, J_78, J_84, J_97, J_99, J_100, J_120, J_122, J_126, J_132, J_138, J_144, J_150, J_156, J_162, J_198, J_200, J_202, J_206, J_210, J_214, J_218, J_222, J_226, J_230, J_234, J_238, J_239, J_240, J_241, J_242, J_243, J_255, J_263, J_283, J_303, J_399, J_400, J_401, J_463, J_700, J_701, J_999, J_1000, J_2048, J_4095, J_4096, J_6000, J_9999, J_10000, J_65536, J_65537, J_2147483647, J_neg, J_neg, J_add, J_sub, J_mul, lts]
  rw [show 3 * f - (f + g + h) = 2 * f - g - h by omega, show 3 * g - (f + g + h) = 2 * g - f - h by omega, show 3 * h - (f + g + h) = 2 * h - f - g by omega, jabs_J (by omega) (by omega), jabs_J (by omega) (by omega), jabs_J (by omega) (by omega), jmax_J (by omega) (by omega) (by omega) (by omega)]
  simp (disch := omega) only [J_lt, J_le, J_inj]
  repeat' split
  all_goals first | rfl | (exfalso; omega)
end
