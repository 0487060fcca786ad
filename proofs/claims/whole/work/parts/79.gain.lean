/-! Gains, best lines, and a line that moves. -/
/-- the gain of a pay, at a sayer's size and line -/
def gnV (S : zM) (n p : Nat) (x l : Int) : Int := iI S 3 (234 + n) * (nAb (nP S p) (l - lvP S p x) * iI S 3 (218 + n) + (nAll (nP S p) - nAb (nP S p) (l - lvP S p x)) * iI S 3 (222 + n)) + (100 - iI S 3 (234 + n)) * (nAb (nP S p) (l - lvP S p 0) * iI S 3 (226 + n) + (nAll (nP S p) - nAb (nP S p) (l - lvP S p 0)) * iI S 3 (230 + n))
section
variable {SC SM : zM} {H p t : Nat}
theorem c_gained (h : okP SC SM H p t) {n : Nat} (hn : rPay SC SM H n) {x l : Int} (h0 : 0 ≤ x) (h1 : x ≤ 400) (hl : -1000 ≤ l ∧ l ≤ 1000) : gX11_gained SC (H + 209 + 1 * n) (H + 193 + 2 * p) (J x) (J l) = some (JL (gnV SM n p x l)) := by
  obtain ⟨f1, f2, f3⟩ := c_fresh (okS h)
  obtain ⟨hb, g0, g1, g2, g3, g4⟩ := hn
  rw [gI_J SM] at g0 g1 g2 g3 g4
  have ho := nP_ok h
  have hNP : mN SM (mS SM p) (fK SM (mS SM p)) = nP SM p := rfl
  have w1 := nAb_lo ho (l - lvP SM p x)
  have w2 := nAb_hi ho (l - lvP SM p x)
  have w3 := nAb_lo ho (l - lvP SM p 0)
  have w4 := nAb_hi ho (l - lvP SM p 0)
  have w5 := nAll_hi ho
  have e0 := c_freshOnes h (x := 0) (l := l) (by decide) (by decide) hl
  have e1 := c_freshOnes h (x := x) (l := l) h0 h1 hl
  unfold gX11_gained
  rw [c_senseP h, b1s, f1, b1s, e1, b1s, show gX11_freshOnes SC (H + 193 + 2 * p) (J x |> fun _ => 0) (J l) = _ from e0, b1s, lts, lts, g0, g1, g2, g3, g4, f2.1, hNP]
  simp only [J_0, J_1, J_2, J_3, J_4, J_5, J_6, J_7, J_8, J_9, J_10, J_11, J_12, J_14, J_15, J_16, J_19, J_20, J_21, J_22, J_23, J_24, J_25, J_28, J_30, J_31, J_32, J_40, J_44, J_47, J_48, J_49, J_50, J_53, J_54, J_57, J_59, J_74, J_75, J_78, J_84, J_97, J_99, J_100, J_120, J_122, J_126, J_132, J_138, J_144, J_150, J_156, J_162, J_198, J_200, J_202, J_206, J_210, J_214, J_218, J_222, J_226, J_230, J_234, J_238, J_239, J_240, J_241, J_242, J_243, J_255, J_263, J_283, J_303, J_399, J_400, J_401, J_463, J_700, J_701, J_999, J_1000, J_2048, J_4095, J_4096, J_6000, J_9999, J_10000, J_65536, J_65537, J_2147483647, J_neg, J_neg, J_add, J_sub, J_mul]
  rw [J_toL (by omega) (by omega), J_toL (by omega) (by omega), J_toL (by omega) (by omega), J_toL (by omega) (by omega), J_toL (by omega) (by omega), J_toL (by omega) (by omega), J_toL (by omega) (by omega), J_toL (by omega) (by omega), J_toL (by omega) (by omega)]
  simp only [JL_neg, JL_add, JL_sub, JL_mul]
  rfl
theorem m_gainOf (h : okP SC SM H p t) {n : Nat} (hn4 : n < 4) (hn : rPay SC SM H n) {x l : Int} (h0 : 0 ≤ x) (h1 : x ≤ 400) (hl : -1000 ≤ l ∧ l ≤ 1000) : gX12_gainOf SM (J n) (J p) (J x) (J l) = some (JL (gnV SM n p x l)) := by
  obtain ⟨x1, y1, g, f1, f2⟩ := m_pre h
  obtain ⟨hb, -⟩ := hn
  have ho := nP_ok h
  have w1 := nAb_lo ho (l - lvP SM p x)
  have w2 := nAb_hi ho (l - lvP SM p x)
  have w3 := nAb_lo ho (l - lvP SM p 0)
  have w4 := nAb_hi ho (l - lvP SM p 0)
  have w5 := nAll_hi ho
  have a1 : ixb (J (234 + (n : Int))) 463 = true := ixb_J (by omega) (by omega) (by decide)
  have a2 : ix (J (234 + (n : Int))) = 234 + n := by rw [ix_J (by omega) (by omega)]; omega
  have a3 : ixb (J (218 + (n : Int))) 463 = true := ixb_J (by omega) (by omega) (by decide)
  have a4 : ix (J (218 + (n : Int))) = 218 + n := by rw [ix_J (by omega) (by omega)]; omega
  have a5 : ixb (J (222 + (n : Int))) 463 = true := ixb_J (by omega) (by omega) (by decide)
  have a6 : ix (J (222 + (n : Int))) = 222 + n := by rw [ix_J (by omega) (by omega)]; omega
  have a7 : ixb (J (226 + (n : Int))) 463 = true := ixb_J (by omega) (by omega) (by decide)
  have a8 : ix (J (226 + (n : Int))) = 226 + n := by rw [ix_J (by omega) (by omega)]; omega
  have a9 : ixb (J (230 + (n : Int))) 463 = true := ixb_J (by omega) (by omega) (by decide)
  have a10 : ix (J (230 + (n : Int))) = 230 + n := by rw [ix_J (by omega) (by omega)]; omega
  have e0 := m_above h (x := 0) (l := l) (by decide) (by decide) hl
  have e1 := m_above h (x := x) (l := l) h0 h1 hl
  unfold gX12_gainOf
  simp only [J_0, J_1, J_2, J_3, J_4, J_5, J_6, J_7, J_8, J_9, J_10, J_11, J_12, J_14, J_15, J_16, J_19, J_20, J_21, J_22, J_23, J_24, J_25, J_28, J_30, J_31, J_32, J_40, J_44, J_47, J_48, J_49, J_50, J_53, J_54, J_57, J_59, J_74, J_75, J_78, J_84, J_97, J_99, J_100, J_120, J_122, J_126, J_132, J_138, J_144, J_150, J_156, J_162, J_198, J_200, J_202, J_206, J_210, J_214, J_218, J_222, J_226, J_230, J_234, J_238, J_239, J_240, J_241, J_242, J_243, J_255, J_263, J_283, J_303, J_399, J_400, J_401, J_463, J_700, J_701, J_999, J_1000, J_2048, J_4095, J_4096, J_6000, J_9999, J_10000, J_65536, J_65537, J_2147483647, J_neg, J_neg, J_add, J_sub, J_mul, x1, y1, g, f1, f2, e0, e1, a1, a2, a3, a4, a5, a6, a7, a8, a9, a10, ckt, b1s, b2s, lts, un2s, un3s, un4s, un5s, lmr, lml, lgr, lgl, gI_J SM]
  rw [J_toL (by omega) (by omega), J_toL (by omega) (by omega), J_toL (by omega) (by omega), J_toL (by omega) (by omega), J_toL (by omega) (by omega), J_toL (by omega) (by omega), J_toL (by omega) (by omega), J_toL (by omega) (by omega)]
  simp only [JL_0, JL_1, JL_9, JL_10, JL_32, JL_40, JL_48, JL_64, JL_97, JL_100, JL_4095, JL_4096, JL_16384, JL_65537, JL_524287, JL_524288, JL_268435455, JL_1099511627775, JL_neg, JL_neg, JL_add, JL_sub, JL_mul]
  rfl
theorem best_L (h : okP SC SM H p t) {n : Nat} (hn4 : n < 4) (hn : rPay SC SM H n) {x : Int} (h0 : 0 ≤ x) (h1 : x ≤ 400) : ∀ (f i j : Nat), i < 101 → j ≤ 101 → 102 ≤ f + j → ∃ l : Int, (-50 ≤ l ∧ l ≤ 50) ∧ gX11_bestLine_L19 SC (H + 209 + 1 * n) (H + 193 + 2 * p) (J x) f (J ((i : Int) - 50)) (JL (gnV SM n p x ((i : Int) - 50))) (J ((j : Int) - 50)) = some (J l) ∧ gX12_bestLine_L8 SM (J n) (J p) (J x) f (J ((i : Int) - 50)) (J ((j : Int) - 50)) = some (J l) := by
  intro f
  induction f with
  | zero => intro i j g1 g2; omega
  | succ f ih =>
    intro i j g1 g2 g3
    unfold gX11_bestLine_L19 gX12_bestLine_L8
    simp only [J_0, J_1, J_2, J_3, J_4, J_5, J_6, J_7, J_8, J_9, J_10, J_11, J_12, J_14, J_15, J_16, J_19, J_20, J_21, J_22, J_23, J_24, J_25, J_28, J_30, J_31, J_32, J_40, J_44, J_47, J_48, J_49, J_50, J_53, J_54, J_57, J_59, J_74, J_75, J_78, J_84, J_97, J_99, J_100, J_120, J_122, J_126, J_132, J_138, J_144, J_150, J_156, J_162, J_198, J_200, J_202, J_206, J_210, J_214, J_218, J_222, J_226, J_230, J_234, J_238, J_239, J_240, J_241, J_242, J_243, J_255, J_263, J_283, J_303, J_399, J_400, J_401, J_463, J_700, J_701, J_999, J_1000, J_2048, J_4095, J_4096, J_6000, J_9999, J_10000, J_65536, J_65537, J_2147483647, J_neg]
    rw [iLT (by decide) (by decide) (by omega) (by omega), iLT (by decide) (by decide) (by omega) (by omega)]
    by_cases e : 50 < (j : Int) - 50
    · rw [if_pos e, if_pos e]
      exact ⟨_, by omega, rfl, rfl⟩
    · have c1 := c_gained h hn (x := x) (l := (j : Int) - 50) h0 h1 (by omega)
      have m1 := m_gainOf h hn4 hn (x := x) (l := (j : Int) - 50) h0 h1 (by omega)
      have m2 := m_gainOf h hn4 hn (x := x) (l := (i : Int) - 50) h0 h1 (by omega)
      rw [if_neg e, if_neg e, c1, b1s, m1, b1s, m2, b1s, J_add, show (j : Int) - 50 + 1 = ((j + 1 : Nat) : Int) - 50 by omega]
      by_cases z : JL (gnV SM n p x ((j : Int) - 50)) ≤ JL (gnV SM n p x ((i : Int) - 50))
      · rw [if_pos z, if_pos z]
        exact ih i (j + 1) (by omega) (by omega) (by omega)
      · rw [if_neg z, if_neg z]
        exact ih j (j + 1) (by omega) (by omega) (by omega)
theorem best_eq (h : okP SC SM H p t) {n : Nat} (hn4 : n < 4) (hn : rPay SC SM H n) {x : Int} (h0 : 0 ≤ x) (h1 : x ≤ 400) : ∃ l : Int, (-50 ≤ l ∧ l ≤ 50) ∧ gX11_bestLine SC (H + 209 + 1 * n) (H + 193 + 2 * p) (J x) = some (J l) ∧ gX12_bestLine SM (J n) (J p) (J x) = some (J l) := by
  have := best_L h hn4 hn h0 h1 FU 0 1 (by omega) (by omega) (by have := FUs (n := 102) (by omega); omega)
  rw [show ((0 : Nat) : Int) - 50 = -50 from rfl, show ((1 : Nat) : Int) - 50 = -49 from rfl] at this
  obtain ⟨l, l1, l2, l3⟩ := this
  have c1 := c_gained h hn (x := x) (l := -50) h0 h1 (by omega)
  refine ⟨l, l1, ?_, ?_⟩
  · unfold gX11_bestLine
    simp only [J_0, J_1, J_2, J_3, J_4, J_5, J_6, J_7, J_8, J_9, J_10, J_11, J_12, J_14, J_15, J_16, J_19, J_20, J_21, J_22, J_23, J_24, J_25, J_28, J_30, J_31, J_32, J_40, J_44, J_47, J_48, J_49, J_50, J_53, J_54, J_57, J_59, J_74, J_75, J_78, J_84, J_97, J_99, J_100, J_120, J_122, J_126, J_132, J_138, J_144, J_150, J_156, J_162, J_198, J_200, J_202, J_206, J_210, J_214, J_218, J_222, J_226, J_230, J_234, J_238, J_239, J_240, J_241, J_242, J_243, J_255, J_263, J_283, J_303, J_399, J_400, J_401, J_463, J_700, J_701, J_999, J_1000, J_2048, J_4095, J_4096, J_6000, J_9999, J_10000, J_65536, J_65537, J_2147483647, J_neg, c1, ckt, b1s, b2s, lts, un2s, un3s, un4s, un5s, lmr, lml, lgr, lgl]
    exact l2
  · unfold gX12_bestLine
    simp only [J_0, J_1, J_2, J_3, J_4, J_5, J_6, J_7, J_8, J_9, J_10, J_11, J_12, J_14, J_15, J_16, J_19, J_20, J_21, J_22, J_23, J_24, J_25, J_28, J_30, J_31, J_32, J_40, J_44, J_47, J_48, J_49, J_50, J_53, J_54, J_57, J_59, J_74, J_75, J_78, J_84, J_97, J_99, J_100, J_120, J_122, J_126, J_132, J_138, J_144, J_150, J_156, J_162, J_198, J_200, J_202, J_206, J_210, J_214, J_218, J_222, J_226, J_230, J_234, J_238, J_239, J_240, J_241, J_242, J_243, J_255, J_263, J_283, J_303, J_399, J_400, J_401, J_463, J_700, J_701, J_999, J_1000, J_2048, J_4095, J_4096, J_6000, J_9999, J_10000, J_65536, J_65537, J_2147483647, J_neg]
    exact l3
end
section
variable {SC SM : zM} {t : Nat}
theorem st_gain (h : Inv SC SM t) (ht : t < 512) (x1 x2 x3 x4 : Int32) : stp (gX11_gain SC x1 x2 x3 x4) (gX12_gain SM x1 x2 x3 x4) t := by
  have hInv := h
  obtain ⟨⟨H, hh⟩, -⟩ := h
  obtain ⟨n, rfl, n1, n2⟩ := J_of x1
  obtain ⟨p, rfl, p1, p2⟩ := J_of x2
  obtain ⟨x, rfl, v1, v2⟩ := J_of x3
  obtain ⟨l, rfl, l1, l2⟩ := J_of x4
  have hg := rHall_q hh fr_r (fmgd (S := SM))
  have hg' := hg
  obtain ⟨⟨hH, hr, -⟩, ⟨-, m0, -, m3⟩, ⟨-, c0, -, c3⟩, -⟩ := hg'
  have a1 := c_isSayer p1 p2 hH hr c0 m0
  have b1' := m_isSayer (S := mgd SM) p1 p2 m0
  have a3 := c_isPay n1 n2 hH hr c3 m3
  have b3' := m_isPay (S := mgd SM) n1 n2 m3
  have m_none : ∀ w : Int, gX12_none (mgd SM) (J w) = some ((-9223372036854775808 : Int64), mno SM w) := fun w => rfl
  unfold gX11_gain gX12_gain gX11_gain_J22 gX11_gain_J49
  simp only [J_0, J_1, J_2, J_3, J_4, J_5, J_6, J_7, J_8, J_9, J_10, J_11, J_12, J_14, J_15, J_16, J_19, J_20, J_21, J_22, J_23, J_24, J_25, J_28, J_30, J_31, J_32, J_40, J_44, J_47, J_48, J_49, J_50, J_53, J_54, J_57, J_59, J_74, J_75, J_78, J_84, J_97, J_99, J_100, J_120, J_122, J_126, J_132, J_138, J_144, J_150, J_156, J_162, J_198, J_200, J_202, J_206, J_210, J_214, J_218, J_222, J_226, J_230, J_234, J_238, J_239, J_240, J_241, J_242, J_243, J_255, J_263, J_283, J_303, J_399, J_400, J_401, J_463, J_700, J_701, J_999, J_1000, J_2048, J_4095, J_4096, J_6000, J_9999, J_10000, J_65536, J_65537, J_2147483647, J_neg, m_good, ckt, b1s, b2s, lts, un2s, un3s, un4s, un5s, lmr, lml, lgr, lgl, a1, b1', a3, b3', iB0, m_none, c_passes0, c_passesN (w := 1) (by decide), c_passesN (w := 2) (by decide), c_isSize v1 v2, c_isFar l1 l2]
  rw [m_within v1 v2 (by decide) (by decide) (by decide) (by decide), b1s, iB0, m_within l1 l2 (by decide) (by decide) (by decide) (by decide), b1s, iB0]
  have no1 : stp (some ((-9223372036854775808 : Int64), cps SC 1)) (some ((-9223372036854775808 : Int64), mno SM 1)) t := ⟨_, _, _, rfl, rfl, Inv_w hInv fr_cps (by decide) cps_12⟩
  have no2 : stp (some ((-9223372036854775808 : Int64), cps (cps SC 0) 2)) (some ((-9223372036854775808 : Int64), mno SM 2)) t := ⟨_, _, _, rfl, rfl, Inv_w hInv cps_2 (by decide) cps_12⟩
  by_cases e0 : 0 ≤ n ∧ n < cnt (mgd SM) 3
  · rw [if_pos e0, if_pos e0]
    by_cases e1 : 0 ≤ p ∧ p < cnt (mgd SM) 1
    · rw [if_pos e1, if_pos e1, if_neg (show ¬ J 1 = J 0 by decide)]
      by_cases e2 : 1 ≤ x ∧ x ≤ 400
      · rw [if_pos e2, if_pos e2]
        by_cases e3 : -50 ≤ l ∧ l ≤ 50
        · obtain ⟨P, rfl⟩ : ∃ P : Nat, p = P := ⟨p.toNat, by omega⟩
          obtain ⟨N, rfl⟩ : ∃ N : Nat, n = N := ⟨n.toNat, by omega⟩
          have fc := fr_w (cps_2 (S := SC) (v := 0) (w := 0)) (fun _ _ z => Eq0_456 z)
          have hq := rHall_q hh fc (fmgd (S := SM))
          have ok := okQ hInv hh ht (cps_2 (S := SC) (v := 0) (w := 0)) e1.2
          have hpay := hq.2.2.2.2.2.2 N e0.2
          have x1' : ixb (J (P : Int)) 6 = true := ixb_J (by omega) (by have := ok.2.1.1; omega) (by decide)
          have y1' : ix (J (P : Int)) = P := by rw [ix_J (by omega) (by omega)]; omega
          have x2' : ixb (J (N : Int)) 4 = true := ixb_J (by omega) (by omega) (by decide)
          have y2' : ix (J (N : Int)) = N := by rw [ix_J (by omega) (by omega)]; omega
          rw [if_pos e3, if_pos e3, if_neg (show ¬ J 1 = J 0 by decide), ok.2.2.2.2.2.1.1, zb3 hH, ckt, x2', ckt, ckt, x1', ckt, y1', y2', c_gained ok hpay (by omega) (by omega) (by omega), b1s, m_gainOf ok (by omega) hpay (by omega) (by omega) (by omega), b1s]
          exact ⟨_, _, _, rfl, rfl, Inv_0 hInv cps_2 cps_12⟩
        · rw [if_neg e3, if_neg e3, if_pos trivial]
          exact no2
      · rw [if_neg e2, if_neg e2, if_pos trivial]
        exact no2
    · rw [if_neg e1, if_neg e1, if_pos trivial]
      exact no1
  · rw [if_neg e0, if_neg e0, if_pos trivial]
    exact no1
theorem st_best (h : Inv SC SM t) (ht : t < 512) (x1 x2 x3 : Int32) : stp (gX11_best SC x1 x2 x3) (gX12_best SM x1 x2 x3) t := by
  have hInv := h
  obtain ⟨⟨H, hh⟩, -⟩ := h
  obtain ⟨n, rfl, n1, n2⟩ := J_of x1
  obtain ⟨p, rfl, p1, p2⟩ := J_of x2
  obtain ⟨x, rfl, v1, v2⟩ := J_of x3
  have hg := rHall_q hh fr_r (fmgd (S := SM))
  have hg' := hg
  obtain ⟨⟨hH, hr, -⟩, ⟨-, m0, -, m3⟩, ⟨-, c0, -, c3⟩, -⟩ := hg'
  have a1 := c_isSayer p1 p2 hH hr c0 m0
  have b1' := m_isSayer (S := mgd SM) p1 p2 m0
  have a3 := c_isPay n1 n2 hH hr c3 m3
  have b3' := m_isPay (S := mgd SM) n1 n2 m3
  unfold gX11_best gX12_best gX11_best_J22 gX11_best_J41
  simp only [J_0, J_1, J_2, J_3, J_4, J_5, J_6, J_7, J_8, J_9, J_10, J_11, J_12, J_14, J_15, J_16, J_19, J_20, J_21, J_22, J_23, J_24, J_25, J_28, J_30, J_31, J_32, J_40, J_44, J_47, J_48, J_49, J_50, J_53, J_54, J_57, J_59, J_74, J_75, J_78, J_84, J_97, J_99, J_100, J_120, J_122, J_126, J_132, J_138, J_144, J_150, J_156, J_162, J_198, J_200, J_202, J_206, J_210, J_214, J_218, J_222, J_226, J_230, J_234, J_238, J_239, J_240, J_241, J_242, J_243, J_255, J_263, J_283, J_303, J_399, J_400, J_401, J_463, J_700, J_701, J_999, J_1000, J_2048, J_4095, J_4096, J_6000, J_9999, J_10000, J_65536, J_65537, J_2147483647, J_neg, J_neg, J_add, J_sub, J_mul, m_good, ckt, b1s, b2s, lts, un2s, un3s, un4s, un5s, lmr, lml, lgr, lgl, a1, b1', a3, b3', iB0, m_not, c_passes0, c_passesN (w := 1) (by decide), c_passesN (w := 2) (by decide), c_isSize v1 v2]
  rw [m_within v1 v2 (by decide) (by decide) (by decide) (by decide), b1s, iB0]
  have no1 : stp (some (J (-1000), cps SC 1)) (some (J (-1000), mno SM 1)) t := ⟨_, _, _, rfl, rfl, Inv_w hInv fr_cps (by decide) cps_12⟩
  have no2 : stp (some (J (-1000), cps (cps SC 0) 2)) (some (J (-1000), mno SM 2)) t := ⟨_, _, _, rfl, rfl, Inv_w hInv cps_2 (by decide) cps_12⟩
  by_cases e0 : 0 ≤ n ∧ n < cnt (mgd SM) 3
  · rw [if_pos e0, if_pos e0]
    by_cases e1 : 0 ≤ p ∧ p < cnt (mgd SM) 1
    · rw [if_pos e1, if_pos e1, if_neg (show ¬ J 1 = J 0 by decide)]
      by_cases e2 : 1 ≤ x ∧ x ≤ 400
      · obtain ⟨P, rfl⟩ : ∃ P : Nat, p = P := ⟨p.toNat, by omega⟩
        obtain ⟨N, rfl⟩ : ∃ N : Nat, n = N := ⟨n.toNat, by omega⟩
        have fc := fr_w (cps_2 (S := SC) (v := 0) (w := 0)) (fun _ _ z => Eq0_456 z)
        have hq := rHall_q hh fc (fmgd (S := SM))
        have ok := okQ hInv hh ht (cps_2 (S := SC) (v := 0) (w := 0)) e1.2
        have hpay := hq.2.2.2.2.2.2 N e0.2
        have x1' : ixb (J (P : Int)) 6 = true := ixb_J (by omega) (by have := ok.2.1.1; omega) (by decide)
        have y1' : ix (J (P : Int)) = P := by rw [ix_J (by omega) (by omega)]; omega
        have x2' : ixb (J (N : Int)) 4 = true := ixb_J (by omega) (by omega) (by decide)
        have y2' : ix (J (N : Int)) = N := by rw [ix_J (by omega) (by omega)]; omega
        obtain ⟨l, -, l2, l3⟩ := best_eq ok (by omega) hpay (x := x) (by omega) (by omega)
        rw [if_pos e2, if_pos e2, if_neg (show ¬ J 1 = J 0 by decide), ok.2.2.2.2.2.1.1, zb3 hH, ckt, x2', ckt, ckt, x1', ckt, y1', y2', l2, b1s, l3, b1s]
        exact ⟨_, _, _, rfl, rfl, Inv_0 hInv cps_2 cps_12⟩
      · rw [if_neg e2, if_neg e2, if_pos trivial]
        exact no2
    · rw [if_neg e1, if_neg e1, if_pos trivial]
      exact no1
  · rw [if_neg e0, if_neg e0, if_pos trivial]
    exact no1
end
