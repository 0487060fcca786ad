/-! Gains, best lines, and a line that moves. -/
/-- the gain of a pay, at a sayer's size and line -/
def gnV (S : zM) (n p : Nat) (x l : Int) : Int := iI S 3 (234 + n) * (nAb (nP S p) (l - lvP S p x) * iI S 3 (218 + n) + (nAll (nP S p) - nAb (nP S p) (l - lvP S p x)) * iI S 3 (222 + n)) + (100 - iI S 3 (234 + n)) * (nAb (nP S p) (l - lvP S p 0) * iI S 3 (226 + n) + (nAll (nP S p) - nAb (nP S p) (l - lvP S p 0)) * iI S 3 (230 + n))
section
variable {SC SM : zM} {H p t : Nat}
theorem c_gained (h : okP SC SM H p t) {n : Nat} (hn : rPay SC SM H n) {x l : Int} (h0 : 0 ≤ x) (h1 : x ≤ 400) (hl : -1000 ≤ l ∧ l ≤ 1000) : gX11_gained SC (H + 209 + 1 * n) (H + 193 + 2 * p) (J x) (J l) = some (JL (gnV SM n p x l)) := by
  obtain ⟨f1, f2, f3⟩ := c_fresh (okS h)
  obtain ⟨hb, g0, g1, g2, g3, g4⟩ := hn
  rw [gI_J SM] at g0 g1 g2 g3 g4
  have ho := nP_ok h
  have hNP : mN SM (mS SM p) (fK SM (mS SM p)) = nP SM p := rfl
  have w1 := nAb_lo ho (l - lvP SM p x)
  have w2 := nAb_hi ho (l - lvP SM p x)
  have w3 := nAb_lo ho (l - lvP SM p 0)
  have w4 := nAb_hi ho (l - lvP SM p 0)
  have w5 := nAll_hi ho
  have e0 := c_freshOnes h (x := 0) (l := l) (by decide) (by decide) hl
  have e1 := c_freshOnes h (x := x) (l := l) h0 h1 hl
  unfold gX11_gained
  rw [c_senseP h, b1s, f1, b1s, e1, b1s, show gX11_freshOnes SC (H + 193 + 2 * p) (J x |> fun _ => 0) (J l) = _ from e0, b1s, lts, lts, g0, g1, g2, g3, g4, f2.1, hNP]
  simp only [J_0, J_1, J_2, J_3, J_4, J_5, J_6, J_7, J_8, J_9, J_10, J_11, J_12, J_14, J_15, J_16, J_19, J_20, J_21, J_22, J_23, J_24, J_25, J_28, J_30, J_31, J_32, J_40, J_44, J_47, J_48, J_49, J_50, J_53, J_54, J_57, J_59, J_74, J_75, J_78, J_84, J_97, J_99, J_100, J_120, J_122, J_126, J_132, J_138, J_144, J_150, J_156, J_162, J_198, J_200, J_202, J_206, J_210, J_214, J_218, J_222, J_226, J_230, J_234, J_238, J_239, J_240, J_241, J_242, J_243, J_255, J_263, J_283, J_303, J_399, J_400, J_401, J_463, J_700, J_701, J_999, J_1000, J_2048, J_4095, J_4096, J_6000, J_9999, J_10000, J_65536, J_65537, J_2147483647, J_neg, J_neg, J_add, J_sub, J_mul]
  rw [J_toL (by omega) (by omega), J_toL (by omega) (by omega), J_toL (by omega) (by omega), J_toL (by omega) (by omega), J_toL (by omega) (by omega), J_toL (by omega) (by omega), J_toL (by omega) (by omega), J_toL (by omega) (by omega), J_toL (by omega) (by omega)]
  simp only [JL_neg, JL_add, JL_sub, JL_mul]
  rfl
theorem m_gainOf (h : okP SC SM H p t) {n : Nat} (hn4 : n < 4) (hn : rPay SC SM H n) {x l : Int} (h0 : 0 ≤ x) (h1 : x ≤ 400) (hl : -1000 ≤ l ∧ l ≤ 1000) : gX12_gainOf SM (J n) (J p) (J x) (J l) = some (JL (gnV SM n p x l)) := by
  obtain ⟨x1, y1, g, f1, f2⟩ := m_pre h
  obtain ⟨hb, -⟩ := hn
  have ho := nP_ok h
  have w1 := nAb_lo ho (l - lvP SM p x)
  have w2 := nAb_hi ho (l - lvP SM p x)
  have w3 := nAb_lo ho (l - lvP SM p 0)
  have w4 := nAb_hi ho (l - lvP SM p 0)
  have w5 := nAll_hi ho
  have a1 : ixb (J (234 + (n : Int))) 463 = true := ixb_J (by omega) (by omega) (by decide)
  have a2 : ix (J (234 + (n : Int))) = 234 + n := by rw [ix_J (by omega) (by omega)]; omega
  have a3 : ixb (J (218 + (n : Int))) 463 = true := ixb_J (by omega) (by omega) (by decide)
  have a4 : ix (J (218 + (n : Int))) = 218 + n := by rw [ix_J (by omega) (by omega)]; omega
  have a5 : ixb (J (222 + (n : Int))) 463 = true := ixb_J (by omega) (by omega) (by decide)
  have a6 : ix (J (222 + (n : Int))) = 222 + n := by rw [ix_J (by omega) (by omega)]; omega
  have a7 : ixb (J (226 + (n : Int))) 463 = true := ixb_J (by omega) (by omega) (by decide)
  have a8 : ix (J (226 + (n : Int))) = 226 + n := by rw [ix_J (by omega) (by omega)]; omega
  have a9 : ixb (J (230 + (n : Int))) 463 = true := ixb_J (by omega) (by omega) (by decide)
  have a10 : ix (J (230 + (n : Int))) = 230 + n := by rw [ix_J (by omega) (by omega)]; omega
  have e0 := m_above h (x := 0) (l := l) (by decide) (by decide) hl
  have e1 := m_above h (x := x) (l := l) h0 h1 hl
  unfold gX12_gainOf
  simp only [J_0, J_1, J_2, J_3, J_4, J_5, J_6, J_7, J_8, J_9, J_10, J_11, J_12, J_14, J_15, J_16, J_19, J_20, J_21, J_22, J_23, J_24, J_25, J_28, J_30, J_31, J_32, J_40, J_44, J_47, J_48, J_49, J_50, J_53, J_54, J_57, J_59, J_74, J_75, J_78, J_84, J_97, J_99, J_100, J_120, J_122, J_126, J_132, J_138, J_144, J_150, J_156, J_162, J_198, J_200, J_202, J_206, J_210, J_214, J_218, J_222, J_226, J_230, J_234, J_238, J_239, J_240, J_241, J_242, J_243, J_255, J_263, J_283, J_303, J_399, J_400, J_401, J_463, J_700, J_701, J_999, J_1000, J_2048, J_4095, J_4096, J_6000, J_9999, J_10000, J_65536, J_65537, J_2147483647, J_neg, J_neg, J_add, J_sub, J_mul, x1, y1, g, f1, f2, e0, e1, a1, a2, a3, a4, a5, a6, a7, a8, a9, a10, ckt, b1s, b2s, lts, un2s, un3s, un4s, un5s, lmr, lml, lgr, lgl, gI_J SM]
  rw [J_toL (by omega) (by omega), J_toL (by omega) (by omega), J_toL (by omega) (by omega), J_toL (by omega) (by omega), J_toL (by omega) (by omega), J_toL (by omega) (by omega), J_toL (by omega) (by omega), J_toL (by omega) (by omega)]
  simp only [JL_0, JL_1, JL_9, JL_10, JL_32, JL_40, JL_48, JL_64, JL_97, JL_100, JL_4095, JL_4096, JL_16384, JL_65537, JL_524287, JL_524288, JL_268435455, JL_1099511627775, JL_neg, JL_neg, JL_add, JL_sub, JL_mul]
  rfl
end
