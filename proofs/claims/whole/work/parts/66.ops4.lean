/-! odds and count. -/
theorem c_wholeOdds {SC : zM} {q : Nat} {o : Nat → Int} {kd : Int} (hn : nzC SC q o) (h4 : gI SC 456 4 = J kd) (hk : 0 ≤ kd ∧ kd ≤ 5) : gX0_wholeOdds SC q = some (J (if fe kd = 3 then nAll o * nAll o * nAll o else if fe kd = 2 then nAll o * nAll o else nAll o)) := by
  have hf := fe_b kd
  obtain ⟨m, hm⟩ : ∃ m, FU = m + 1 + 1 + 1 + 1 := ⟨1048572, rfl⟩
  have F := c_feelings h4 hk
  unfold gX0_wholeOdds
  rw [hm]
  have hf3 : fe kd = 1 ∨ fe kd = 2 ∨ fe kd = 3 := by omega
  rcases hf3 with e | e | e <;> rw [e] at F ⊢
  · simp (disch := decide) only [gX0_wholeOdds_L4, F, J_0, J_1, J_2, J_3, J_4, J_5, J_6, J_7, J_8, J_9, J_10, J_11, J_12, J_14, J_15, J_16, J_19, J_20, J_21, J_22, J_23, J_24, J_25, J_28, J_30, J_31, J_32, J_40, J_44, J_47, J_48, J_49, J_50, J_53, J_54, J_57, J_59, J_74, J_75, J_78, J_84, J_97, J_99, J_100, J_120, J_122, J_126, J_132, J_138, J_144, J_150, J_156, J_162, J_198, J_200, J_202, J_206, J_210, J_214, J_218, J_222, J_226, J_230, J_234, J_238, J_239, J_240, J_241, J_242, J_243, J_255, J_263, J_283, J_303, J_399, J_400, J_401, J_463, J_700, J_701, J_999, J_1000, J_2048, J_4095, J_4096, J_6000, J_9999, J_10000, J_65536, J_65537, J_2147483647, J_neg, ckt, b1s, b2s, lts, un2s, un3s, un4s, un5s, lmr, lml, lgr, lgl, hn.1, J_neg, J_add, J_sub, J_mul, J_inj, J_lt, J_le, Int.reduceEq, Int.reduceLT, Int.reduceLE, Int.reduceNeg, ↓reduceIte, true_or, or_true, false_or, or_false, true_and, and_true, false_and, and_false, not_true_eq_false, not_false_eq_true, forall_const, implies_true, true_implies, false_implies, Int.reduceAdd, Int.one_mul]
  · simp (disch := decide) only [gX0_wholeOdds_L4, F, J_0, J_1, J_2, J_3, J_4, J_5, J_6, J_7, J_8, J_9, J_10, J_11, J_12, J_14, J_15, J_16, J_19, J_20, J_21, J_22, J_23, J_24, J_25, J_28, J_30, J_31, J_32, J_40, J_44, J_47, J_48, J_49, J_50, J_53, J_54, J_57, J_59, J_74, J_75, J_78, J_84, J_97, J_99, J_100, J_120, J_122, J_126, J_132, J_138, J_144, J_150, J_156, J_162, J_198, J_200, J_202, J_206, J_210, J_214, J_218, J_222, J_226, J_230, J_234, J_238, J_239, J_240, J_241, J_242, J_243, J_255, J_263, J_283, J_303, J_399, J_400, J_401, J_463, J_700, J_701, J_999, J_1000, J_2048, J_4095, J_4096, J_6000, J_9999, J_10000, J_65536, J_65537, J_2147483647, J_neg, ckt, b1s, b2s, lts, un2s, un3s, un4s, un5s, lmr, lml, lgr, lgl, hn.1, J_neg, J_add, J_sub, J_mul, J_inj, J_lt, J_le, Int.reduceEq, Int.reduceLT, Int.reduceLE, Int.reduceNeg, ↓reduceIte, true_or, or_true, false_or, or_false, true_and, and_true, false_and, and_false, not_true_eq_false, not_false_eq_true, forall_const, implies_true, true_implies, false_implies, Int.reduceAdd, Int.one_mul]
  · simp (disch := decide) only [gX0_wholeOdds_L4, F, J_0, J_1, J_2, J_3, J_4, J_5, J_6, J_7, J_8, J_9, J_10, J_11, J_12, J_14, J_15, J_16, J_19, J_20, J_21, J_22, J_23, J_24, J_25, J_28, J_30, J_31, J_32, J_40, J_44, J_47, J_48, J_49, J_50, J_53, J_54, J_57, J_59, J_74, J_75, J_78, J_84, J_97, J_99, J_100, J_120, J_122, J_126, J_132, J_138, J_144, J_150, J_156, J_162, J_198, J_200, J_202, J_206, J_210, J_214, J_218, J_222, J_226, J_230, J_234, J_238, J_239, J_240, J_241, J_242, J_243, J_255, J_263, J_283, J_303, J_399, J_400, J_401, J_463, J_700, J_701, J_999, J_1000, J_2048, J_4095, J_4096, J_6000, J_9999, J_10000, J_65536, J_65537, J_2147483647, J_neg, ckt, b1s, b2s, lts, un2s, un3s, un4s, un5s, lmr, lml, lgr, lgl, hn.1, J_neg, J_add, J_sub, J_mul, J_inj, J_lt, J_le, Int.reduceEq, Int.reduceLT, Int.reduceLE, Int.reduceNeg, ↓reduceIte, true_or, or_true, false_or, or_false, true_and, and_true, false_and, and_false, not_true_eq_false, not_false_eq_true, forall_const, implies_true, true_implies, false_implies, Int.reduceAdd, Int.one_mul]
section
variable {SC SM : zM} {t : Nat}
theorem fr456q {S S' : zM} (h : fr E456 S S') : fr Eq0 S S' := fr_w h (fun _ _ z => Eq0_456 z)
theorem st_odds (h : Inv SC SM t) (ht : t < 512) (x1 x2 x3 x4 x5 x6 x7 : Int32) : stp (gX11_odds SC x1 x2 x3 x4 x5 x6 x7) (gX12_odds SM x1 x2 x3 x4 x5 x6 x7) t := by
  have hInv := h
  have hT := rTot_q h.2.1 (fmgd (S := SM))
  obtain ⟨⟨H, hh⟩, -⟩ := h
  obtain ⟨p, rfl, p1, p2⟩ := J_of x1
  obtain ⟨kd, rfl, k1, k2⟩ := J_of x2
  obtain ⟨a, rfl, a1, a2⟩ := J_of x3
  obtain ⟨b, rfl, b1', b2'⟩ := J_of x4
  obtain ⟨c, rfl, c1, c2⟩ := J_of x5
  obtain ⟨an, rfl, an1, an2⟩ := J_of x6
  have hg := rHall_q hh fr_r (fmgd (S := SM))
  have hb := m_bars (S := mgd SM) ⟨p1, p2⟩ ⟨k1, k2⟩ ⟨a1, a2⟩ ⟨b1', b2'⟩ ⟨c1, c2⟩ hg.2.1.1 hg.2.1.2.1
  obtain ⟨SC', g1, g2, g3, g4⟩ := c_asks hg ⟨p1, p2⟩ ⟨k1, k2⟩ ⟨a1, a2⟩ ⟨b1', b2'⟩ ⟨c1, c2⟩
  unfold gX11_odds gX12_odds
  simp only [J_0, J_1, J_2, J_3, J_4, J_5, J_6, J_7, J_8, J_9, J_10, J_11, J_12, J_14, J_15, J_16, J_19, J_20, J_21, J_22, J_23, J_24, J_25, J_28, J_30, J_31, J_32, J_40, J_44, J_47, J_48, J_49, J_50, J_53, J_54, J_57, J_59, J_74, J_75, J_78, J_84, J_97, J_99, J_100, J_120, J_122, J_126, J_132, J_138, J_144, J_150, J_156, J_162, J_198, J_200, J_202, J_206, J_210, J_214, J_218, J_222, J_226, J_230, J_234, J_238, J_239, J_240, J_241, J_242, J_243, J_255, J_263, J_283, J_303, J_399, J_400, J_401, J_463, J_700, J_701, J_999, J_1000, J_2048, J_4095, J_4096, J_6000, J_9999, J_10000, J_65536, J_65537, J_2147483647, J_neg, m_good, ckt, b1s, b2s, lts, un2s, un3s, un4s, un5s, lmr, lml, lgr, lgl, hb, g1, iB0, m_no]
  by_cases e : brs (mgd SM) p kd a b c = 0
  · have ask := g4 e
    obtain ⟨⟨q1, q2, q3, q4, q5⟩, q6⟩ := brs_0.mp e
    obtain ⟨P, rfl⟩ : ∃ P : Nat, p = P := ⟨p.toNat, by omega⟩
    have hg2 := rHall_q hh (fr456q g2) (fmgd (S := SM))
    have ok := okP_of hg2 q2 (show t ≤ 512 by omega) hT
    obtain ⟨nz1, nz2⟩ := nzP ok
    obtain ⟨A, A1, A2, A3⟩ := ansEx ok ask ⟨q3, q4⟩ q5 ⟨b1', b2'⟩ ⟨c1, c2⟩ q6.2.2.2.2
    have hs := mS_b ok
    have hk := mK_b ok
    have w8 : gR SC' 456 0 = H + 193 + 2 * P := ask.1
    have i1 : ixb (J (120 + (P : Int))) 463 = true := ixb_J (by have := ok.2.1.1; omega) (by have := ok.2.1.1; omega) (by decide)
    have j1 : ix (J (120 + (P : Int))) = 120 + P := by rw [ix_J (by omega) (by have := ok.2.1.1; omega)]; omega
    rw [if_pos e, e, if_pos rfl, w8, zb8 ok.1 ok.2.1.1, ckt, c_noiseOf ok, b1s]
    by_cases e7 : x7 = J 0
    · rw [if_pos e7, if_pos e7, m_tired ok, b1s, m_wholesNow ok, b1s, c_oddsOf ok ask q6 ⟨q3, q4⟩ q5 nz1 nz2 ⟨an1, an2⟩ A2 A3, b1s, m_oddsOf ok.2.1.1 hs.2.2 hs.1 hk.2.1 (okS ok).1 nz2 q6 ⟨q3, q4⟩ ⟨c1, c2⟩ ⟨an1, an2⟩ A1, b1s]
      exact ⟨_, _, _, rfl, rfl, Inv_0 hInv g2 (g3.trans (by rw [e]))⟩
    · have al : gX12_all (mgd SM) (gI (mgd SM) 3 (120 + P)) (J (mK (mgd SM) P)) = some (J (nAll (mN (mgd SM) (mS (mgd SM) P) (mK (mgd SM) P)))) := by
        rw [gI_J, hs.2.2, m_all hs.1 hk.2.1]
      have hf := fe_b kd
      rw [if_neg e7, if_neg e7, c_wholeOdds nz1 ask.2.2.2.2.1 ⟨q3, q4⟩, b1s, J_add, i1, ckt, m_wholesNow ok, b1s, j1, al, b1s, m_feelings ⟨q3, q4⟩, b1s, b1s, iEQ (by omega) (by omega) (by decide) (by decide), iEQ (by omega) (by omega) (by decide) (by decide), J_mul, J_mul]
      by_cases f3 : fe kd = 3
      · rw [if_pos f3, if_pos f3]
        exact ⟨_, _, _, rfl, rfl, Inv_0 hInv g2 (g3.trans (by rw [e]))⟩
      · rw [if_neg f3, if_neg f3]
        by_cases f2 : fe kd = 2
        · rw [if_pos f2, if_pos f2]
          exact ⟨_, _, _, rfl, rfl, Inv_0 hInv g2 (g3.trans (by rw [e]))⟩
        · rw [if_neg f2, if_neg f2]
          exact ⟨_, _, _, rfl, rfl, Inv_0 hInv g2 (g3.trans (by rw [e]))⟩
  · have hw : brs (mgd SM) p kd a b c = 1 ∨ brs (mgd SM) p kd a b c = 2 := by
      unfold brs at e ⊢
      repeat' split
      all_goals first | (left; rfl) | (right; rfl) | (exfalso; revert e; repeat' split) <;> omega
    have hz : ¬ J (brs (mgd SM) p kd a b c) = J 0 := by
      rw [J_inj (by omega) (by omega) (by decide) (by decide)]
      exact e
    rw [if_neg e, if_neg hz]
    exact ⟨_, _, _, rfl, rfl, Inv_w hInv g2 (by omega) g3⟩
/-- a row is of the cell that is asked about -/
theorem isOf_eq {p kd a b c : Int} {H i : Nat} (hr : mRow SM i) (h6 : ∀ j : Nat, j < 6 → gI SC 220 (6 * i + j) = gI SM (8 + j) i) (hi : i < 1000) (ask : rAsk SC SM H p kd a b c) (hk : 0 ≤ kd ∧ kd ≤ 5) (hb : inI b) (hc : inI c) : ∃ w : Int32, (w = J 0 ∨ w = J 1) ∧ gX1_isOf SC (J (i * 6)) = some w ∧ gX12_isOf SM (J i) (J p) (J kd) (J a) (J b) (J c) = some w := by
  obtain ⟨-, -, -, a3, a4, a5, a6, a7⟩ := ask
  have x0 : ixb (J ((i : Int) * 6)) 6000 = true := ixb_J (by omega) (by omega) (by decide)
  have y0 : ix (J ((i : Int) * 6)) = 6 * i + 0 := by rw [ix_J (by omega) (by omega)]; omega
  have x1 : ixb (J ((i : Int) * 6 + 1)) 6000 = true := ixb_J (by omega) (by omega) (by decide)
  have y1 : ix (J ((i : Int) * 6 + 1)) = 6 * i + 1 := by rw [ix_J (by omega) (by omega)]; omega
  have x2 : ixb (J ((i : Int) * 6 + 2)) 6000 = true := ixb_J (by omega) (by omega) (by decide)
  have y2 : ix (J ((i : Int) * 6 + 2)) = 6 * i + 2 := by rw [ix_J (by omega) (by omega)]; omega
  have x3 : ixb (J ((i : Int) * 6 + 3)) 6000 = true := ixb_J (by omega) (by omega) (by decide)
  have y3 : ix (J ((i : Int) * 6 + 3)) = 6 * i + 3 := by rw [ix_J (by omega) (by omega)]; omega
  have x4 : ixb (J ((i : Int) * 6 + 4)) 6000 = true := ixb_J (by omega) (by omega) (by decide)
  have y4 : ix (J ((i : Int) * 6 + 4)) = 6 * i + 4 := by rw [ix_J (by omega) (by omega)]; omega
  have z0 : ixb (J (i : Int)) 1000 = true := ixb_J (by omega) (by omega) (by decide)
  have z1 : ix (J (i : Int)) = i := by rw [ix_J (by omega) (by omega)]; omega
  unfold gX1_isOf gX12_isOf gX12_isOf_J36 gX12_isOf_J69
  simp only [J_0, J_1, J_2, J_3, J_4, J_5, J_6, J_7, J_8, J_9, J_10, J_11, J_12, J_14, J_15, J_16, J_19, J_20, J_21, J_22, J_23, J_24, J_25, J_28, J_30, J_31, J_32, J_40, J_44, J_47, J_48, J_49, J_50, J_53, J_54, J_57, J_59, J_74, J_75, J_78, J_84, J_97, J_99, J_100, J_120, J_122, J_126, J_132, J_138, J_144, J_150, J_156, J_162, J_198, J_200, J_202, J_206, J_210, J_214, J_218, J_222, J_226, J_230, J_234, J_238, J_239, J_240, J_241, J_242, J_243, J_255, J_263, J_283, J_303, J_399, J_400, J_401, J_463, J_700, J_701, J_999, J_1000, J_2048, J_4095, J_4096, J_6000, J_9999, J_10000, J_65536, J_65537, J_2147483647, J_neg, J_neg, J_add, J_sub, J_mul, a3, a4, a5, a6, a7, x0, y0, x1, y1, x2, y2, x3, y3, x4, y4, z0, z1, ckt, b1s, b2s, lts, un2s, un3s, un4s, un5s, lmr, lml, lgr, lgl, h6 0 (by decide), h6 1 (by decide), h6 2 (by decide), h6 3 (by decide), h6 4 (by decide), Nat.reduceAdd]
  rw [iLT (by omega) (by omega) (by decide) (by decide), iLE (by decide) (by decide) (by omega) (by omega), if_neg (show ¬ (i : Int) * 6 < 0 by omega), if_neg (show ¬ (6000 : Int) ≤ (i : Int) * 6 + 5 by omega)]
  obtain ⟨-, -, -, -, -, -, -, r11, r12⟩ := hr
  by_cases e8 : gI SM 8 i = J p
  · rw [if_pos e8, if_pos e8]
    by_cases e9 : gI SM 9 i = J kd
    · have e9' : iI SM 9 i = kd := iI_of e9 (by omega) (by omega)
      rw [e9'] at r11 r12
      rw [if_pos e9, if_pos e9]
      by_cases e10 : gI SM 10 i = J a
      · rw [if_pos e10, if_pos e10]
        have hk6 : kd = 0 ∨ kd = 1 ∨ kd = 2 ∨ kd = 3 ∨ kd = 4 ∨ kd = 5 := by omega
        have g11 : iI SM 11 i = 0 → gI SM 11 i = J 0 := fun z => by rw [gI_J, z]
        have g12 : iI SM 12 i = 0 → gI SM 12 i = J 0 := fun z => by rw [gI_J, z]
        rcases hk6 with rfl | rfl | rfl | rfl | rfl | rfl <;> simp (disch := decide) only [J_inj, J_lt, J_le, Int.reduceEq, Int.reduceLT, Int.reduceLE, Int.reduceNeg, ↓reduceIte, true_or, or_true, false_or, or_false, true_and, and_true, false_and, and_false, not_true_eq_false, not_false_eq_true, forall_const, implies_true, true_implies, false_implies] <;> simp (disch := decide) only [J_inj, J_lt, J_le, Int.reduceEq, Int.reduceLT, Int.reduceLE, Int.reduceNeg, ↓reduceIte, true_or, or_true, false_or, or_false, true_and, and_true, false_and, and_false, not_true_eq_false, not_false_eq_true, forall_const, implies_true, true_implies, false_implies] at r11 r12
        · rw [g12 (r12 ⟨by decide, by decide⟩)]
          by_cases w : gI SM 11 i = J b
          · simp only [if_pos w, if_true]; exact ⟨_, Or.inr rfl, rfl, rfl⟩
          · simp only [if_neg w, if_true]; exact ⟨_, Or.inl rfl, rfl, rfl⟩
        · rw [g12 (r12 ⟨by decide, by decide⟩), g11 r11]
          simp only [if_true]; exact ⟨_, Or.inr rfl, rfl, rfl⟩
        · by_cases w : gI SM 11 i = J b
          · simp only [if_pos w]
            by_cases w2 : gI SM 12 i = J c
            · simp only [if_pos w2]; exact ⟨_, Or.inr rfl, rfl, rfl⟩
            · simp only [if_neg w2]; exact ⟨_, Or.inl rfl, rfl, rfl⟩
          · simp only [if_neg w]; exact ⟨_, Or.inl rfl, rfl, rfl⟩
        · rw [g12 (r12 ⟨by decide, by decide⟩), g11 r11]
          simp only [if_true]; exact ⟨_, Or.inr rfl, rfl, rfl⟩
        · rw [g12 (r12 ⟨by decide, by decide⟩)]
          by_cases w : gI SM 11 i = J b
          · simp only [if_pos w, if_true]; exact ⟨_, Or.inr rfl, rfl, rfl⟩
          · simp only [if_neg w, if_true]; exact ⟨_, Or.inl rfl, rfl, rfl⟩
        · by_cases w : gI SM 11 i = J b
          · simp only [if_pos w]
            by_cases w2 : gI SM 12 i = J c
            · simp only [if_pos w2]; exact ⟨_, Or.inr rfl, rfl, rfl⟩
            · simp only [if_neg w2]; exact ⟨_, Or.inl rfl, rfl, rfl⟩
          · simp only [if_neg w]; exact ⟨_, Or.inl rfl, rfl, rfl⟩
      · rw [if_neg e10, if_neg e10, if_pos trivial]; exact ⟨_, Or.inl rfl, rfl, rfl⟩
    · rw [if_neg e9, if_neg e9, if_pos trivial]; exact ⟨_, Or.inl rfl, rfl, rfl⟩
  · rw [if_neg e8, if_neg e8, if_pos trivial]; exact ⟨_, Or.inl rfl, rfl, rfl⟩
theorem times_L {p kd a b c : Int} {H : Nat} {x : Int32} (hb : rBook SC SM) (ask : rAsk SC SM H p kd a b c) (hk : 0 ≤ kd ∧ kd ≤ 5) (hbb : inI b) (hc : inI c) : ∀ (n i : Nat) (acc : Int), i ≤ bkn SM → bkn SM < n + i → ∃ r : Int32, gX1_timesOf_L5 SC x n (J acc) (J i) = some r ∧ gX12_count_L35 SM (J p) (J kd) (J a) (J b) (J c) x n (J acc) (J i) = some (r, SM) := by
  intro n
  induction n with
  | zero => intro i acc h1 h2; omega
  | succ n ih =>
    intro i acc h1 h2
    have hbk : (bkn SM : Int) = iI SM 0 21 := by have := hb.2.1; unfold bkn; omega
    have e21 : gI SM 0 21 = J (bkn SM) := by rw [gI_J, hbk]
    have e219 : gI SC 219 2 = J (bkn SM) := hb.1.trans e21
    have h1000 := hb.2.1
    unfold gX1_timesOf_L5 gX12_count_L35
    simp only [J_0, J_1, J_2, J_3, J_4, J_5, J_6, J_7, J_8, J_9, J_10, J_11, J_12, J_14, J_15, J_16, J_19, J_20, J_21, J_22, J_23, J_24, J_25, J_28, J_30, J_31, J_32, J_40, J_44, J_47, J_48, J_49, J_50, J_53, J_54, J_57, J_59, J_74, J_75, J_78, J_84, J_97, J_99, J_100, J_120, J_122, J_126, J_132, J_138, J_144, J_150, J_156, J_162, J_198, J_200, J_202, J_206, J_210, J_214, J_218, J_222, J_226, J_230, J_234, J_238, J_239, J_240, J_241, J_242, J_243, J_255, J_263, J_283, J_303, J_399, J_400, J_401, J_463, J_700, J_701, J_999, J_1000, J_2048, J_4095, J_4096, J_6000, J_9999, J_10000, J_65536, J_65537, J_2147483647, J_neg, e21, e219]
    rw [iLE (by omega) (by omega) (by omega) (by omega), iLE (by omega) (by omega) (by omega) (by omega)]
    by_cases e : i = bkn SM
    · rw [if_pos (show (bkn SM : Int) ≤ i by omega), if_pos (show (bkn SM : Int) ≤ i by omega)]
      exact ⟨_, rfl, rfl⟩
    · obtain ⟨g1, g2⟩ := hb.2.2 i (by omega)
      obtain ⟨w, w1, w2, w3⟩ := isOf_eq g1 g2 (by omega) ask hk hbb hc
      have x5 : ixb (J ((i : Int) * 6 + 5)) 6000 = true := ixb_J (by omega) (by omega) (by decide)
      have y5 : ix (J ((i : Int) * 6 + 5)) = 6 * i + 5 := by rw [ix_J (by omega) (by omega)]; omega
      have z0 : ixb (J (i : Int)) 1000 = true := ixb_J (by omega) (by omega) (by decide)
      have z1 : ix (J (i : Int)) = i := by rw [ix_J (by omega) (by omega)]; omega
      have hn : ((i : Int) + 1) = ((i + 1 : Nat) : Int) := by omega
      rw [if_neg (show ¬ (bkn SM : Int) ≤ i by omega), if_neg (show ¬ (bkn SM : Int) ≤ i by omega)]
      simp only [J_neg, J_add, J_sub, J_mul, w2, w3, ckt, b1s, b2s, lts, un2s, un3s, un4s, un5s, lmr, lml, lgr, lgl, x5, y5, z0, z1, g2 5 (by decide), Nat.reduceAdd, hn, Int.add_zero]
      rcases w1 with rfl | rfl
      · rw [if_pos rfl, if_pos rfl]
        exact ih (i + 1) acc (by omega) (by omega)
      · rw [if_neg (show ¬ J 1 = J 0 by decide), if_neg (show ¬ J 1 = J 0 by decide)]
        by_cases v : x = J (-1)
        · rw [if_pos v, if_pos v]
          exact ih (i + 1) _ (by omega) (by omega)
        · rw [if_neg v, if_neg v]
          by_cases u : gI SM 13 i = x
          · rw [if_pos u, if_pos u]
            exact ih (i + 1) _ (by omega) (by omega)
          · rw [if_neg u, if_neg u]
            exact ih (i + 1) _ (by omega) (by omega)
theorem st_count (h : Inv SC SM t) (x1 x2 x3 x4 x5 x6 : Int32) : stp (gX11_count SC x1 x2 x3 x4 x5 x6) (gX12_count SM x1 x2 x3 x4 x5 x6) t := by
  have hInv := h
  have hB := h.2.2.1
  obtain ⟨⟨H, hh⟩, -⟩ := h
  obtain ⟨p, rfl, p1, p2⟩ := J_of x1
  obtain ⟨kd, rfl, k1, k2⟩ := J_of x2
  obtain ⟨a, rfl, a1, a2⟩ := J_of x3
  obtain ⟨b, rfl, b1', b2'⟩ := J_of x4
  obtain ⟨c, rfl, c1, c2⟩ := J_of x5
  have hg := rHall_q hh fr_r (fmgd (S := SM))
  have hb := m_bars (S := mgd SM) ⟨p1, p2⟩ ⟨k1, k2⟩ ⟨a1, a2⟩ ⟨b1', b2'⟩ ⟨c1, c2⟩ hg.2.1.1 hg.2.1.2.1
  obtain ⟨SC', g1, g2, g3, g4⟩ := c_asks hg ⟨p1, p2⟩ ⟨k1, k2⟩ ⟨a1, a2⟩ ⟨b1', b2'⟩ ⟨c1, c2⟩
  unfold gX11_count gX12_count
  simp only [J_0, J_1, J_2, J_3, J_4, J_5, J_6, J_7, J_8, J_9, J_10, J_11, J_12, J_14, J_15, J_16, J_19, J_20, J_21, J_22, J_23, J_24, J_25, J_28, J_30, J_31, J_32, J_40, J_44, J_47, J_48, J_49, J_50, J_53, J_54, J_57, J_59, J_74, J_75, J_78, J_84, J_97, J_99, J_100, J_120, J_122, J_126, J_132, J_138, J_144, J_150, J_156, J_162, J_198, J_200, J_202, J_206, J_210, J_214, J_218, J_222, J_226, J_230, J_234, J_238, J_239, J_240, J_241, J_242, J_243, J_255, J_263, J_283, J_303, J_399, J_400, J_401, J_463, J_700, J_701, J_999, J_1000, J_2048, J_4095, J_4096, J_6000, J_9999, J_10000, J_65536, J_65537, J_2147483647, J_neg, m_good, ckt, b1s, b2s, lts, un2s, un3s, un4s, un5s, lmr, lml, lgr, lgl, hb, g1, iB0, m_no]
  by_cases e : brs (mgd SM) p kd a b c = 0
  · have ask := g4 e
    obtain ⟨⟨q1, q2, q3, q4, q5⟩, q6⟩ := brs_0.mp e
    have hB2 := rBook_q hB (fr456q g2) (fmgd (S := SM))
    obtain ⟨r, r1, r2⟩ := times_L (x := x6) hB2 ask ⟨q3, q4⟩ ⟨b1', b2'⟩ ⟨c1, c2⟩ FU 0 0 (by omega) (by have := hB2.2.1; have := FUs (n := 1002) (by omega); unfold bkn; omega)
    have r1' : gX1_timesOf SC' x6 = some r := by
      unfold gX1_timesOf
      simp only [J_0, J_1, J_2, J_3, J_4, J_5, J_6, J_7, J_8, J_9, J_10, J_11, J_12, J_14, J_15, J_16, J_19, J_20, J_21, J_22, J_23, J_24, J_25, J_28, J_30, J_31, J_32, J_40, J_44, J_47, J_48, J_49, J_50, J_53, J_54, J_57, J_59, J_74, J_75, J_78, J_84, J_97, J_99, J_100, J_120, J_122, J_126, J_132, J_138, J_144, J_150, J_156, J_162, J_198, J_200, J_202, J_206, J_210, J_214, J_218, J_222, J_226, J_230, J_234, J_238, J_239, J_240, J_241, J_242, J_243, J_255, J_263, J_283, J_303, J_399, J_400, J_401, J_463, J_700, J_701, J_999, J_1000, J_2048, J_4095, J_4096, J_6000, J_9999, J_10000, J_65536, J_65537, J_2147483647, J_neg]
      exact r1
    rw [if_pos e, e, if_pos rfl, r1', b1s]
    refine ⟨_, _, _, rfl, ?_, Inv_0 hInv g2 (g3.trans (by rw [e]))⟩
    exact r2
  · have hw : brs (mgd SM) p kd a b c = 1 ∨ brs (mgd SM) p kd a b c = 2 := by
      unfold brs at e ⊢
      repeat' split
      all_goals first | (left; rfl) | (right; rfl) | (exfalso; revert e; repeat' split) <;> omega
    have hz : ¬ J (brs (mgd SM) p kd a b c) = J 0 := by
      rw [J_inj (by omega) (by omega) (by decide) (by decide)]
      exact e
    rw [if_neg e, if_neg hz]
    exact ⟨_, _, _, rfl, rfl, Inv_w hInv g2 (by omega) g3⟩
end
