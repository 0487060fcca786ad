/-! A line that moves. -/
theorem rHall_line {SC SC' SM SM' : zM} {H P : Nat} {l : Int} (h : rHall SC SM H) (hP : P < 6) (hl : -50 ≤ l ∧ l ≤ 50) (hI : ∀ q k, ¬ (q = H + 193 + 2 * P ∧ k = 2) → gI SC' q k = gI SC q k) (hL : gI SC' (H + 193 + 2 * P) 2 = J l) (hR1 : gR SC' 0 8 = gR SC 0 8) (hR2 : gR SC' 2 6 = gR SC 2 6) (mI : ∀ q k, ¬ (q = 3 ∧ k = 126 + P) → gI SM' q k = gI SM q k) (mL : gI SM' 3 (126 + P) = J l) : rHall SC' SM' H := by
  have e : ∀ q k, ¬ (q = 3 ∧ k = 126 + P) → iI SM' q k = iI SM q k := fun q k z => congrArg Int32.toInt (mI q k z)
  have el : iI SM' 3 (126 + P) = l := iI_of mL (by omega) (by omega)
  have ec : ∀ i, cnt SM' i = cnt SM i := by
    intro i
    unfold cnt
    rw [mI 0 14 (by omega), e 3 (238 + i) (by omega)]
  obtain ⟨⟨hH, hr1, hr2⟩, hb, ⟨c0, c1, c2, c3⟩, hse, hsa, hpl, hpa⟩ := h
  have n0 := hb.1
  have n1 := hb.2.1
  refine ⟨⟨hH, hR1.trans hr1, hR2.trans hr2⟩, ?_, ⟨?_, ?_, ?_, ?_⟩, ?_, ?_, ?_, ?_⟩
  · simp only [ec]; exact hb
  · rw [hI _ _ (by omega), ec]; exact c0
  · rw [hI _ _ (by omega), ec]; exact c1
  · rw [hI _ _ (by omega), ec]; exact c2
  · rw [hI _ _ (by omega), ec]; exact c3
  · intro s hs
    rw [ec] at hs
    obtain ⟨g1, g2, g3, g4⟩ := hse s hs
    refine ⟨?_, ?_, fun x hx => ?_, fun j hj => ?_⟩
    · obtain ⟨q1, q2, q3, q4⟩ := g1
      refine ⟨?_, ?_, fun j hj => ?_, fun x hx => ?_⟩
      · rw [e 3 (78 + s) (by omega)]; exact q1
      · rw [e 3 (84 + 6 * s) (by omega)]; exact q2
      · rw [e 3 (84 + 6 * s + j) (by omega)]; exact q3 j hj
      · rw [e 5 (401 * s + x) (by omega)]; exact q4 x hx
    · rw [hI _ _ (by omega), mI 3 (78 + s) (by omega)]; exact g2
    · rw [hI _ _ (by omega), mI 5 _ (by omega)]; exact g3 x hx
    · rw [e 3 (78 + s) (by omega)] at hj
      have hb6 := g1.1.2
      have em : mN SM' s (j + 1) = mN SM s (j + 1) := by
        funext i
        unfold mN
        by_cases z : 5 ≤ i
        · rw [if_pos z, if_pos z]
          by_cases z2 : i < 5 + (j + 1)
          · rw [if_pos z2, if_pos z2, e 3 _ (by omega)]
          · rw [if_neg z2, if_neg z2]
        · rw [if_neg z, if_neg z, e 3 _ (by omega)]
      rw [em]
      exact nzC_c (g4 j hj) (hI _ _ (by omega)) (fun k => hI _ _ (by omega)) (fun k => hI _ _ (by omega)) (fun k => hI _ _ (by omega))
  · intro p hp
    rw [ec] at hp
    obtain ⟨g1, g2, g3, g4, g5, g6, g7, g8, g9, g10, g11⟩ := hsa p hp
    obtain ⟨q1, q2, q3, q4, q5, q6, q7, q8⟩ := g1
    refine ⟨⟨?_, ?_, ?_, ?_, ?_, ?_, ?_, fun j hj => ?_⟩, ?_, ?_, ?_, ?_, ?_, ?_, ?_, fun j hj => ?_, ?_, ?_⟩
    · rw [e 3 (120 + p) (by omega), ec]; exact q1
    · by_cases z : p = P
      · subst z
        rw [el]; exact hl
      · rw [e 3 (126 + p) (by omega)]; exact q2
    · rw [e 3 (132 + p) (by omega)]; exact q3
    · rw [e 3 (138 + p) (by omega)]; exact q4
    · rw [e 3 (144 + p) (by omega)]; exact q5
    · rw [e 3 (150 + p) (by omega)]; exact q6
    · rw [e 3 (156 + p) (by omega)]; exact q7
    · rw [e 3 (162 + 6 * p + j) (by omega)]; exact q8 j hj
    · rw [hI _ _ (by omega), mI 3 (120 + p) (by omega)]; exact g2
    · by_cases z : p = P
      · subst z
        rw [hL, mL]
      · rw [hI _ _ (by omega), mI 3 (126 + p) (by omega)]; exact g3
    · rw [hI _ _ (by omega), mI 3 (132 + p) (by omega)]; exact g4
    · rw [hI _ _ (by omega), mI 3 (138 + p) (by omega)]; exact g5
    · rw [hI _ _ (by omega), mI 3 (144 + p) (by omega)]; exact g6
    · rw [hI _ _ (by omega), mI 3 (150 + p) (by omega)]; exact g7
    · rw [hI _ _ (by omega), mI 3 (156 + p) (by omega)]; exact g8
    · rw [e 3 (156 + p) (by omega)] at hj
      rw [hI _ _ (by omega), mI 3 (162 + 6 * p + j) (by omega)]; exact g9 j hj
    · rw [hI _ _ (by omega), mI 6 p (by omega)]; exact g10
    · rw [hI _ _ (by omega), mI 7 p (by omega)]; exact g11
  · intro n hn
    rw [ec] at hn
    obtain ⟨g1, g2, g3, g4, g5, g6⟩ := hpl n hn
    refine ⟨?_, ?_, ?_, ?_, ?_, ?_⟩
    · rw [e 3 (198 + n) (by omega), e 3 (202 + n) (by omega), e 3 (206 + n) (by omega), e 3 (210 + n) (by omega), e 3 (214 + n) (by omega)]
      exact g1
    · rw [hI _ _ (by omega), mI 3 _ (by omega)]; exact g2
    · rw [hI _ _ (by omega), mI 3 _ (by omega)]; exact g3
    · rw [hI _ _ (by omega), mI 3 _ (by omega)]; exact g4
    · rw [hI _ _ (by omega), mI 3 _ (by omega)]; exact g5
    · rw [hI _ _ (by omega), mI 3 _ (by omega)]; exact g6
  · intro n hn
    rw [ec] at hn
    obtain ⟨g1, g2, g3, g4, g5, g6⟩ := hpa n hn
    refine ⟨?_, ?_, ?_, ?_, ?_, ?_⟩
    · rw [e 3 (218 + n) (by omega), e 3 (222 + n) (by omega), e 3 (226 + n) (by omega), e 3 (230 + n) (by omega), e 3 (234 + n) (by omega)]
      exact g1
    · rw [hI _ _ (by omega), mI 3 _ (by omega)]; exact g2
    · rw [hI _ _ (by omega), mI 3 _ (by omega)]; exact g3
    · rw [hI _ _ (by omega), mI 3 _ (by omega)]; exact g4
    · rw [hI _ _ (by omega), mI 3 _ (by omega)]; exact g5
    · rw [hI _ _ (by omega), mI 3 _ (by omega)]; exact g6
theorem Inv_line {SC SM : zM} {H P t : Nat} {l : Int} (h : Inv SC SM t) (hh : rHall SC SM H) (hP : P < 6) (hl : -50 ≤ l ∧ l ≤ 50) : Inv (pI SC (H + 193 + 2 * P) 2 (J l)) (pI SM 3 (126 + P) (J l)) t := by
  obtain ⟨-, h2, h3, h4, h5, h6, h7⟩ := h
  have hH := hh.1.1
  have c : ∀ q k, ¬ (q = H + 193 + 2 * P ∧ k = 2) → gI (pI SC (H + 193 + 2 * P) 2 (J l)) q k = gI SC q k := fun q k z => by rw [rII, if_neg z]
  have m : ∀ q k, ¬ (q = 3 ∧ k = 126 + P) → gI (pI SM 3 (126 + P) (J l)) q k = gI SM q k := fun q k z => by rw [rII, if_neg z]
  have mi : ∀ q k, ¬ (q = 3 ∧ k = 126 + P) → iI (pI SM 3 (126 + P) (J l)) q k = iI SM q k := fun q k z => congrArg Int32.toInt (m q k z)
  refine ⟨⟨H, rHall_line hh hP hl c (by rw [rII, if_pos ⟨rfl, rfl⟩]) rRI rRI m (by rw [rII, if_pos ⟨rfl, rfl⟩])⟩, ?_, rBook_c h3 (c 219 2 (by omega)) (fun k => c 220 k (by omega)) (m 0 21 (by omega)) (fun q k _ _ => m q k (by omega)), rCells_c h4 (c 221 7 (by omega)) (fun q k _ _ => c q k (by omega)) (m 0 21 (by omega)) (fun q k _ _ => m q k (by omega)), rSpans_c h5 (fun k => rLI) (fun k => c 238 k (by omega)), rTape_c h6 (c 0 10 (by omega)) (fun k => c 1 k (by omega)) (m 0 2 (by omega)) (fun k => m 1 k (by omega)), ⟨?_, ?_⟩, ?_, ?_, ?_, ?_⟩
  · intro p hp
    rw [mi 6 p (by omega), mi 7 p (by omega)]
    exact h2 p hp
  · rw [c 0 11 (by omega), m 0 20 (by omega)]; exact h7.1.1
  · rw [mi 0 20 (by omega)]; exact h7.1.2
  · rw [c 0 12 (by omega), m 0 11 (by omega)]; exact h7.2.1
  · rw [c 0 13 (by omega), m 0 9 (by omega)]; exact h7.2.2.1
  · rw [c 0 14 (by omega), m 0 10 (by omega), mi 0 11 (by omega)]; exact h7.2.2.2.1
  · rw [m 0 14 (by omega)]
    unfold bkn
    rw [mi 0 21 (by omega)]
    exact h7.2.2.2.2
section
variable {SC SM : zM} {t : Nat}
theorem st_moves (h : Inv SC SM t) (ht : t < 512) (x1 x2 x3 : Int32) : stp (gX11_moves SC x1 x2 x3) (gX12_moves SM x1 x2 x3) t := by
  have hInv := h
  obtain ⟨⟨H, hh⟩, -⟩ := h
  obtain ⟨n, rfl, n1, n2⟩ := J_of x1
  obtain ⟨p, rfl, p1, p2⟩ := J_of x2
  obtain ⟨x, rfl, v1, v2⟩ := J_of x3
  have hg := rHall_q hh fr_r (fmgd (S := SM))
  have hg' := hg
  obtain ⟨⟨hH, hr, -⟩, ⟨-, m0, -, m3⟩, ⟨-, c0, -, c3⟩, -⟩ := hg'
  have a1 := c_isSayer p1 p2 hH hr c0 m0
  have b1' := m_isSayer (S := mgd SM) p1 p2 m0
  have a3 := c_isPay n1 n2 hH hr c3 m3
  have b3' := m_isPay (S := mgd SM) n1 n2 m3
  unfold gX11_moves gX12_moves gX11_moves_J22 gX11_moves_J41
  simp only [J_0, J_1, J_2, J_3, J_4, J_5, J_6, J_7, J_8, J_9, J_10, J_11, J_12, J_14, J_15, J_16, J_19, J_20, J_21, J_22, J_23, J_24, J_25, J_28, J_30, J_31, J_32, J_40, J_44, J_47, J_48, J_49, J_50, J_53, J_54, J_57, J_59, J_74, J_75, J_78, J_84, J_97, J_99, J_100, J_120, J_122, J_126, J_132, J_138, J_144, J_150, J_156, J_162, J_198, J_200, J_202, J_206, J_210, J_214, J_218, J_222, J_226, J_230, J_234, J_238, J_239, J_240, J_241, J_242, J_243, J_255, J_263, J_283, J_303, J_399, J_400, J_401, J_463, J_700, J_701, J_999, J_1000, J_2048, J_4095, J_4096, J_6000, J_9999, J_10000, J_65536, J_65537, J_2147483647, J_neg, J_neg, J_add, J_sub, J_mul, m_good, ckt, b1s, b2s, lts, un2s, un3s, un4s, un5s, lmr, lml, lgr, lgl, a1, b1', a3, b3', iB0, m_not, c_passes0, c_passesN (w := 1) (by decide), c_passesN (w := 2) (by decide), c_isSize v1 v2]
  rw [m_within v1 v2 (by decide) (by decide) (by decide) (by decide), b1s, iB0]
  have no1 : stp (some (J (-1000), cps SC 1)) (some (J (-1000), mno SM 1)) t := ⟨_, _, _, rfl, rfl, Inv_w hInv fr_cps (by decide) cps_12⟩
  have no2 : stp (some (J (-1000), cps (cps SC 0) 2)) (some (J (-1000), mno SM 2)) t := ⟨_, _, _, rfl, rfl, Inv_w hInv cps_2 (by decide) cps_12⟩
  by_cases e0 : 0 ≤ n ∧ n < cnt (mgd SM) 3
  · rw [if_pos e0, if_pos e0]
    by_cases e1 : 0 ≤ p ∧ p < cnt (mgd SM) 1
    · rw [if_pos e1, if_pos e1, if_neg (show ¬ J 1 = J 0 by decide)]
      by_cases e2 : 1 ≤ x ∧ x ≤ 400
      · obtain ⟨P, rfl⟩ : ∃ P : Nat, p = P := ⟨p.toNat, by omega⟩
        obtain ⟨N, rfl⟩ : ∃ N : Nat, n = N := ⟨n.toNat, by omega⟩
        have fc := fr_w (cps_2 (S := SC) (v := 0) (w := 0)) (fun _ _ z => Eq0_456 z)
        have hq := rHall_q hh fc (fmgd (S := SM))
        have ok := okQ hInv hh ht (cps_2 (S := SC) (v := 0) (w := 0)) e1.2
        have hpay := hq.2.2.2.2.2.2 N e0.2
        have x1' : ixb (J (P : Int)) 6 = true := ixb_J (by omega) (by have := ok.2.1.1; omega) (by decide)
        have y1' : ix (J (P : Int)) = P := by rw [ix_J (by omega) (by omega)]; omega
        have x2' : ixb (J (N : Int)) 4 = true := ixb_J (by omega) (by omega) (by decide)
        have y2' : ix (J (N : Int)) = N := by rw [ix_J (by omega) (by omega)]; omega
        have x3' : ixb (J (126 + (P : Int))) 463 = true := ixb_J (by omega) (by have := ok.2.1.1; omega) (by decide)
        have y3' : ix (J (126 + (P : Int))) = 126 + P := by rw [ix_J (by omega) (by omega)]; omega
        obtain ⟨l, l1, l2, l3⟩ := best_eq ok (by omega) hpay (x := x) (by omega) (by omega)
        have eo := ok.2.2.1.2.2.1
        rw [if_pos e2, if_pos e2, if_neg (show ¬ J 1 = J 0 by decide), ok.2.2.2.2.2.1.1, zb3 hH]
        simp only [x1', y1', x2', y2', x3', y3', ckt, b1s, b2s, lts, un2s, un3s, un4s, un5s, lmr, lml, lgr, lgl, l2, l3, eo]
        rw [rII, if_pos ⟨rfl, rfl⟩, rII, if_pos ⟨rfl, rfl⟩]
        exact ⟨_, _, _, rfl, rfl, Inv_line (Inv_0 hInv cps_2 cps_12) hq (by omega) l1⟩
      · rw [if_neg e2, if_neg e2, if_pos trivial]
        exact no2
    · rw [if_neg e1, if_neg e1, if_pos trivial]
      exact no1
  · rw [if_neg e0, if_neg e0, if_pos trivial]
    exact no1
end
