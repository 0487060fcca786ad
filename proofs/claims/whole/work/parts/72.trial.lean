/-! trial, tell. -/
theorem InvB_0 {SC SC' SM : zM} {t : Nat} (h : Inv SC SM t) (fC : fr E456 SC SC') (hc : gI SC' 0 12 = J 0) : InvB SC' (mgd SM) (4095 + 1000 * t) := ⟨(Inv_0 h fC hc).1, rTb_of (rTot_q h.2.1 fmgd), (Inv_0 h fC hc).2.2⟩
theorem rAsk_c {SC SC' SM : zM} {H : Nat} {p kd a b c : Int} (h : rAsk SC SM H p kd a b c) (hI : ∀ k, gI SC' 456 k = gI SC 456 k) (hR : ∀ k, gR SC' 456 k = gR SC 456 k) : rAsk SC' SM H p kd a b c := by
  obtain ⟨h0, h1, h2, h3, h4, h5, h6, h7⟩ := h
  exact ⟨(hR 0).trans h0, (hR 1).trans h1, fun z => (hR 2).trans (h2 z), (hI 3).trans h3, (hI 4).trans h4, (hI 5).trans h5, (hI 6).trans h6, (hI 7).trans h7⟩
theorem bkn_e {SC SM : zM} (h : rBook SC SM) : gI SM 0 21 = J (bkn SM) ∧ gI SC 219 2 = J (bkn SM) ∧ bkn SM ≤ 1000 := by
  have h1 := h.2.1
  have e : gI SM 0 21 = J (bkn SM) := by
    rw [gI_J]
    unfold bkn
    congr 1
    omega
  exact ⟨e, h.1.trans e, by unfold bkn; omega⟩
theorem c_holds {S : zM} {n : Nat} {w : Int} (h : gI S 219 2 = J n) (hn : n ≤ 1000) (hw : 0 ≤ w ∧ w ≤ 100000) : gX1_holds S (J w) = some (bI ((n : Int) + w ≤ 1000)) := by
  unfold gX1_holds
  simp only [J_0, J_1, J_2, J_3, J_4, J_5, J_6, J_7, J_8, J_9, J_10, J_11, J_12, J_14, J_15, J_16, J_19, J_20, J_21, J_22, J_23, J_24, J_25, J_28, J_30, J_31, J_32, J_40, J_44, J_47, J_48, J_49, J_50, J_53, J_54, J_57, J_59, J_74, J_75, J_78, J_84, J_97, J_99, J_100, J_120, J_122, J_126, J_132, J_138, J_144, J_150, J_156, J_162, J_198, J_200, J_202, J_206, J_210, J_214, J_218, J_222, J_226, J_230, J_234, J_238, J_239, J_240, J_241, J_242, J_243, J_255, J_263, J_283, J_303, J_399, J_400, J_401, J_463, J_700, J_701, J_999, J_1000, J_2048, J_4095, J_4096, J_6000, J_9999, J_10000, J_65536, J_65537, J_2147483647, J_neg, h, J_neg, J_add, J_sub, J_mul]
  rw [iLT (by decide) (by decide) (by omega) (by omega)]
  by_cases e : (n : Int) + w ≤ 1000
  · rw [if_neg (by omega), bI_t e]
  · rw [if_pos (by omega), bI_f e]
theorem c_whyNoRoom {S : zM} {n : Nat} {w : Int} (h : gI S 219 2 = J n) (hn : n ≤ 1000) (hw : 0 ≤ w ∧ w ≤ 100000) : gX11_whyNoRoom S (J w) = some (J (if (n : Int) + w ≤ 1000 then 0 else 3)) := by
  unfold gX11_whyNoRoom
  simp only [J_0, J_1, J_2, J_3, J_4, J_5, J_6, J_7, J_8, J_9, J_10, J_11, J_12, J_14, J_15, J_16, J_19, J_20, J_21, J_22, J_23, J_24, J_25, J_28, J_30, J_31, J_32, J_40, J_44, J_47, J_48, J_49, J_50, J_53, J_54, J_57, J_59, J_74, J_75, J_78, J_84, J_97, J_99, J_100, J_120, J_122, J_126, J_132, J_138, J_144, J_150, J_156, J_162, J_198, J_200, J_202, J_206, J_210, J_214, J_218, J_222, J_226, J_230, J_234, J_238, J_239, J_240, J_241, J_242, J_243, J_255, J_263, J_283, J_303, J_399, J_400, J_401, J_463, J_700, J_701, J_999, J_1000, J_2048, J_4095, J_4096, J_6000, J_9999, J_10000, J_65536, J_65537, J_2147483647, J_neg]
  rw [c_holds h hn hw, b1s, iB0]
  split <;> rfl
theorem brs_w {S : zM} {p kd a b c : Int} (h : ¬ brs S p kd a b c = 0) : (brs S p kd a b c = 1 ∨ brs S p kd a b c = 2) ∧ ¬ J (brs S p kd a b c) = J 0 := by
  have hw : brs S p kd a b c = 1 ∨ brs S p kd a b c = 2 := by
    unfold brs at h ⊢
    repeat' split
    all_goals first | (left; rfl) | (right; rfl) | (exfalso; revert h; repeat' split) <;> omega
  refine ⟨hw, ?_⟩
  rw [J_inj (by omega) (by omega) (by decide) (by decide)]
  exact h
section
variable {SC SM : zM} {t : Nat}
theorem st_trial (h : Inv SC SM t) (ht : t < 512) (x1 x2 x3 x4 x5 : Int32) : stp (gX11_trial SC x1 x2 x3 x4 x5) (gX12_trial SM x1 x2 x3 x4 x5) t := by
  have hInv := h
  have hB := h.2.2.1
  obtain ⟨⟨H, hh⟩, -⟩ := h
  obtain ⟨p, rfl, p1, p2⟩ := J_of x1
  obtain ⟨kd, rfl, k1, k2⟩ := J_of x2
  obtain ⟨a, rfl, a1, a2⟩ := J_of x3
  obtain ⟨b, rfl, b1', b2'⟩ := J_of x4
  obtain ⟨c, rfl, c1, c2⟩ := J_of x5
  have hg := rHall_q hh fr_r (fmgd (S := SM))
  have hb := m_bars (S := mgd SM) ⟨p1, p2⟩ ⟨k1, k2⟩ ⟨a1, a2⟩ ⟨b1', b2'⟩ ⟨c1, c2⟩ hg.2.1.1 hg.2.1.2.1
  obtain ⟨SC', g1, g2, g3, g4⟩ := c_asks hg ⟨p1, p2⟩ ⟨k1, k2⟩ ⟨a1, a2⟩ ⟨b1', b2'⟩ ⟨c1, c2⟩
  unfold gX11_trial gX12_trial
  simp only [J_0, J_1, J_2, J_3, J_4, J_5, J_6, J_7, J_8, J_9, J_10, J_11, J_12, J_14, J_15, J_16, J_19, J_20, J_21, J_22, J_23, J_24, J_25, J_28, J_30, J_31, J_32, J_40, J_44, J_47, J_48, J_49, J_50, J_53, J_54, J_57, J_59, J_74, J_75, J_78, J_84, J_97, J_99, J_100, J_120, J_122, J_126, J_132, J_138, J_144, J_150, J_156, J_162, J_198, J_200, J_202, J_206, J_210, J_214, J_218, J_222, J_226, J_230, J_234, J_238, J_239, J_240, J_241, J_242, J_243, J_255, J_263, J_283, J_303, J_399, J_400, J_401, J_463, J_700, J_701, J_999, J_1000, J_2048, J_4095, J_4096, J_6000, J_9999, J_10000, J_65536, J_65537, J_2147483647, J_neg, m_good, ckt, b1s, b2s, lts, un2s, un3s, un4s, un5s, lmr, lml, lgr, lgl, hb, g1, iB0, m_no]
  by_cases e : brs (mgd SM) p kd a b c = 0
  · have ask := g4 e
    obtain ⟨⟨q1, q2, q3, q4, q5⟩, q6⟩ := brs_0.mp e
    obtain ⟨P, rfl⟩ : ∃ P : Nat, p = P := ⟨p.toNat, by omega⟩
    have hB2 := rBook_q hB (fr456q g2) (fmgd (S := SM))
    obtain ⟨n1, n2, n3⟩ := bkn_e hB2
    generalize hn : bkn (mgd SM) = n at n1 n2 n3
    rw [if_pos e, e, if_pos rfl, c_whyNoRoom n2 n3 (by decide), b1s, n1, iEQ (by omega) (by omega) (by decide) (by decide)]
    by_cases e2 : n = 1000
    · rw [if_neg (show ¬ (n : Int) + 1 ≤ 1000 by omega), if_pos (show (n : Int) = 1000 by omega), c_passesN (by decide), b2s, if_pos rfl]
      exact ⟨_, _, _, rfl, rfl, Inv_w hInv (fr_t g2 fr_cps) (by decide) cps_12⟩
    · have hI := InvB_0 hInv (fr_t g2 fr_cps) (cps_12 (S := SC') (w := 0))
      have hg2 := rHall_q hh (fr456q (fr_t g2 (fr_cps (w := 0)))) (fmgd (S := SM))
      have ask2 := rAsk_c ask (SC' := cps SC' 0) (fun k => cps_o (by omega)) (fun k => cps_R)
      obtain ⟨r, SCf, SMf, r1, r2, r3, r4, -⟩ := draw_eq (t := t + 1) hI hg2 (by omega) (by omega) q2 ask2 ⟨q3, q4⟩ q6 q5 ⟨b1', b2'⟩ ⟨c1, c2⟩ (by omega)
      rw [if_pos (show (n : Int) + 1 ≤ 1000 by omega), if_neg (show ¬ (n : Int) = 1000 by omega), c_passes0, b2s, if_neg (show ¬ J 1 = J 0 by decide), r2, b2s, r3, b2s]
      exact ⟨_, _, _, rfl, rfl, Inv_of r4 (by omega)⟩
  · obtain ⟨hw, hz⟩ := brs_w e
    rw [if_neg e, if_neg hz]
    exact ⟨_, _, _, rfl, rfl, Inv_w hInv g2 (by omega) g3⟩
/-- the greatest answer -/
def mst (kd : Int) : Int := if kd = 0 ∨ kd = 2 then 2 else if kd = 1 ∨ kd = 5 then 1 else 2147483647
theorem c_canBe {S : zM} {kd an : Int} (h4 : gI S 456 4 = J kd) (hk : 0 ≤ kd ∧ kd ≤ 5) (ha : -2147483648 ≤ an ∧ an ≤ 2147483647) : gX0_canBe S (J an) = some (bI (0 ≤ an ∧ an ≤ mst kd)) := by
  have hk6 : kd = 0 ∨ kd = 1 ∨ kd = 2 ∨ kd = 3 ∨ kd = 4 ∨ kd = 5 := by omega
  unfold gX0_canBe gX0_canBe_J21 gX0_canBe_J42 mst
  simp only [J_0, J_1, J_2, J_3, J_4, J_5, J_6, J_7, J_8, J_9, J_10, J_11, J_12, J_14, J_15, J_16, J_19, J_20, J_21, J_22, J_23, J_24, J_25, J_28, J_30, J_31, J_32, J_40, J_44, J_47, J_48, J_49, J_50, J_53, J_54, J_57, J_59, J_74, J_75, J_78, J_84, J_97, J_99, J_100, J_120, J_122, J_126, J_132, J_138, J_144, J_150, J_156, J_162, J_198, J_200, J_202, J_206, J_210, J_214, J_218, J_222, J_226, J_230, J_234, J_238, J_239, J_240, J_241, J_242, J_243, J_255, J_263, J_283, J_303, J_399, J_400, J_401, J_463, J_700, J_701, J_999, J_1000, J_2048, J_4095, J_4096, J_6000, J_9999, J_10000, J_65536, J_65537, J_2147483647, J_neg, h4]
  rw [show ∀ (α : Type) (x y : α), (if J an < J 0 then x else y) = if an < 0 then x else y from fun α x y => iLT ha.1 ha.2 (by decide) (by decide)]
  simp only [show ∀ (α : Type) (x y : α), (if J an < J 0 then x else y) = if an < 0 then x else y from fun α x y => iLT ha.1 ha.2 (by decide) (by decide), show ∀ (α : Type) (x y : α), (if J 2 < J an then x else y) = if 2 < an then x else y from fun α x y => iLT (by decide) (by decide) ha.1 ha.2, show ∀ (α : Type) (x y : α), (if J 1 < J an then x else y) = if 1 < an then x else y from fun α x y => iLT (by decide) (by decide) ha.1 ha.2]
  rcases hk6 with rfl | rfl | rfl | rfl | rfl | rfl <;> simp (disch := decide) only [J_inj, J_lt, J_le, Int.reduceEq, Int.reduceLT, Int.reduceLE, Int.reduceNeg, ↓reduceIte, true_or, or_true, false_or, or_false, true_and, and_true, false_and, and_false, not_true_eq_false, not_false_eq_true, forall_const, implies_true, true_implies, false_implies] <;> unfold bI <;> repeat' split
  all_goals first | rfl | (exfalso; omega)
theorem st_tell (h : Inv SC SM t) (ht : t < 512) (x1 x2 x3 x4 x5 x6 : Int32) : stp (gX11_tell SC x1 x2 x3 x4 x5 x6) (gX12_tell SM x1 x2 x3 x4 x5 x6) t := by
  have hInv := h
  have hB := h.2.2.1
  obtain ⟨⟨H, hh⟩, -⟩ := h
  obtain ⟨p, rfl, p1, p2⟩ := J_of x1
  obtain ⟨kd, rfl, k1, k2⟩ := J_of x2
  obtain ⟨a, rfl, a1, a2⟩ := J_of x3
  obtain ⟨b, rfl, b1', b2'⟩ := J_of x4
  obtain ⟨c, rfl, c1, c2⟩ := J_of x5
  obtain ⟨an, rfl, an1, an2⟩ := J_of x6
  have hg := rHall_q hh fr_r (fmgd (S := SM))
  have hb := m_bars (S := mgd SM) ⟨p1, p2⟩ ⟨k1, k2⟩ ⟨a1, a2⟩ ⟨b1', b2'⟩ ⟨c1, c2⟩ hg.2.1.1 hg.2.1.2.1
  obtain ⟨SC', g1, g2, g3, g4⟩ := c_asks hg ⟨p1, p2⟩ ⟨k1, k2⟩ ⟨a1, a2⟩ ⟨b1', b2'⟩ ⟨c1, c2⟩
  unfold gX11_tell gX12_tell
  simp only [J_0, J_1, J_2, J_3, J_4, J_5, J_6, J_7, J_8, J_9, J_10, J_11, J_12, J_14, J_15, J_16, J_19, J_20, J_21, J_22, J_23, J_24, J_25, J_28, J_30, J_31, J_32, J_40, J_44, J_47, J_48, J_49, J_50, J_53, J_54, J_57, J_59, J_74, J_75, J_78, J_84, J_97, J_99, J_100, J_120, J_122, J_126, J_132, J_138, J_144, J_150, J_156, J_162, J_198, J_200, J_202, J_206, J_210, J_214, J_218, J_222, J_226, J_230, J_234, J_238, J_239, J_240, J_241, J_242, J_243, J_255, J_263, J_283, J_303, J_399, J_400, J_401, J_463, J_700, J_701, J_999, J_1000, J_2048, J_4095, J_4096, J_6000, J_9999, J_10000, J_65536, J_65537, J_2147483647, J_neg, m_good, ckt, b1s, b2s, lts, un2s, un3s, un4s, un5s, lmr, lml, lgr, lgl, hb, g1, iB0, m_no]
  by_cases e : brs (mgd SM) p kd a b c = 0
  · have ask := g4 e
    obtain ⟨⟨q1, q2, q3, q4, q5⟩, q6⟩ := brs_0.mp e
    obtain ⟨P, rfl⟩ : ∃ P : Nat, p = P := ⟨p.toNat, by omega⟩
    have hB2 := rBook_q hB (fr456q g2) (fmgd (S := SM))
    obtain ⟨n1, n2, n3⟩ := bkn_e hB2
    generalize hn : bkn (mgd SM) = n at n1 n2 n3
    have hmst : 1 ≤ mst kd ∧ mst kd ≤ 2147483647 := by unfold mst; repeat' split <;> omega
    have hsel : (if J kd = J 0 then gX12_tell_J59 (mgd SM) (J P) (J kd) (J a) (J b) (J c) (J an) (J 2) else if J kd = J 2 then gX12_tell_J59 (mgd SM) (J P) (J kd) (J a) (J b) (J c) (J an) (J 2) else if J kd = J 1 then gX12_tell_J59 (mgd SM) (J P) (J kd) (J a) (J b) (J c) (J an) (J 1) else if J kd = J 5 then gX12_tell_J59 (mgd SM) (J P) (J kd) (J a) (J b) (J c) (J an) (J 1) else gX12_tell_J59 (mgd SM) (J P) (J kd) (J a) (J b) (J c) (J an) (J 2147483647)) = gX12_tell_J59 (mgd SM) (J P) (J kd) (J a) (J b) (J c) (J an) (J (mst kd)) := by
      have hk6 : kd = 0 ∨ kd = 1 ∨ kd = 2 ∨ kd = 3 ∨ kd = 4 ∨ kd = 5 := by omega
      unfold mst
      rcases hk6 with rfl | rfl | rfl | rfl | rfl | rfl <;> simp (disch := decide) only [J_inj, J_lt, J_le, Int.reduceEq, Int.reduceLT, Int.reduceLE, Int.reduceNeg, ↓reduceIte, true_or, or_true, false_or, or_false, true_and, and_true, false_and, and_false, not_true_eq_false, not_false_eq_true, forall_const, implies_true, true_implies, false_implies]
    rw [if_pos e, e, if_pos rfl, hsel, c_canBe ask.2.2.2.2.1 ⟨q3, q4⟩ ⟨an1, an2⟩, b1s, iB0, c_whyNoRoom n2 n3 (by decide), b1s]
    unfold gX12_tell_J59 gX11_tell_J36
    simp only [J_0, J_1, J_2, J_3, J_4, J_5, J_6, J_7, J_8, J_9, J_10, J_11, J_12, J_14, J_15, J_16, J_19, J_20, J_21, J_22, J_23, J_24, J_25, J_28, J_30, J_31, J_32, J_40, J_44, J_47, J_48, J_49, J_50, J_53, J_54, J_57, J_59, J_74, J_75, J_78, J_84, J_97, J_99, J_100, J_120, J_122, J_126, J_132, J_138, J_144, J_150, J_156, J_162, J_198, J_200, J_202, J_206, J_210, J_214, J_218, J_222, J_226, J_230, J_234, J_238, J_239, J_240, J_241, J_242, J_243, J_255, J_263, J_283, J_303, J_399, J_400, J_401, J_463, J_700, J_701, J_999, J_1000, J_2048, J_4095, J_4096, J_6000, J_9999, J_10000, J_65536, J_65537, J_2147483647, J_neg]
    rw [m_within an1 an2 (by decide) (by decide) (by omega) (by omega), b1s, iB0, m_no, b2s, m_no, b2s, n1, iEQ (by omega) (by omega) (by decide) (by decide)]
    by_cases e3 : 0 ≤ an ∧ an ≤ mst kd
    · rw [if_pos e3, if_pos e3]
      by_cases e2 : n = 1000
      · rw [if_neg (show ¬ (n : Int) + 1 ≤ 1000 by omega), if_pos (show (n : Int) = 1000 by omega), c_passesN (by decide), b2s, if_pos rfl]
        exact ⟨_, _, _, rfl, rfl, Inv_w hInv (fr_t g2 fr_cps) (by decide) cps_12⟩
      · have hI := InvB_0 hInv (fr_t g2 fr_cps) (cps_12 (S := SC') (w := 0))
        have hg2 := rHall_q hh (fr456q (fr_t g2 (fr_cps (w := 0)))) (fmgd (S := SM))
        have ask2 := rAsk_c ask (SC' := cps SC' 0) (fun k => cps_o (by omega)) (fun k => cps_R)
        have hB3 : 4095 + 1000 * t ≤ 1000000 := by omega
        have hk01 : kd ≤ 1 → an ≤ 2 := by
          intro z
          have h2 := e3.2
          unfold mst at h2
          split at h2
          · exact h2
          · split at h2 <;> omega
        obtain ⟨SCf, SMf, r2, r3, r4, -, -, -, r5⟩ := write_eq (an := an) hI hg2 hB3 q2 ask2 ⟨q3, q4⟩ q6 q5 ⟨⟨an1, an2⟩, e3.1, hk01⟩ (by omega)
        obtain ⟨n1', n2', -⟩ := bkn_e r4.2.2.1
        rw [if_pos (show (n : Int) + 1 ≤ 1000 by omega), if_neg (show ¬ (n : Int) = 1000 by omega), c_passes0, b2s, if_neg (show ¬ J 1 = J 0 by decide), r2, b1s, r3, b1s, n1', n2']
        exact ⟨_, _, _, rfl, rfl, Inv_of r4 (by omega)⟩
    · rw [if_neg e3, if_neg e3, c_passesN (by decide), b2s, if_pos rfl]
      exact ⟨_, _, _, rfl, rfl, Inv_w hInv (fr_t g2 fr_cps) (by decide) cps_12⟩
  · obtain ⟨hw, hz⟩ := brs_w e
    rw [if_neg e, if_neg hz]
    exact ⟨_, _, _, rfl, rfl, Inv_w hInv g2 (by omega) g3⟩
end
