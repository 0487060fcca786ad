/-! match, closes, odds, count, image. -/
theorem ma_eq {SC SM : zM} {H s o : Nat} {x : Int} (hh : rHall SC SM H) (hs : (s : Int) < cnt SM 0) (ho : (o : Int) < cnt SM 0) (hx : 0 ≤ x ∧ x ≤ 400) : ∃ r : Nat, 1 ≤ r ∧ r < 401 ∧ gX11_matched SC (J s) (J x) (J o) = some (J r) ∧ ∃ l : Int, gX12_levelOf SM (J s) (J x) = some (J l) ∧ gX12_matched SM (J o) (J l) = some (J r) := by
  obtain ⟨⟨hH, hr, -⟩, ⟨n0, -⟩, -, hse, -⟩ := hh
  have g := hse s hs
  have g2 := hse o ho
  have hb := g.1.2.2.2 x.toNat (by omega)
  obtain ⟨r, r1, r2, r3, r4⟩ := near (SC := SC) (SM := SM) (q := H + 7 + 31 * o) (s := o) (f := iI SM 5 (401 * s + x.toNat)) (by omega) g2.2.2.1 g2.1.2.2.2 (by omega)
  refine ⟨r, r1, r2, ?_, _, m_levelOf (by omega) hx.1 hx.2, r4⟩
  unfold gX11_matched
  simp only [hr, zb3 hH, ckt, b1s, b2s, lts, un2s, un3s, un4s, un5s, lmr, lml, lgr, lgl]
  rw [ixb_J (by omega) (by omega) (by decide), ixb_J (by omega) (by omega) (by decide), ckt, ckt, ix_J (by omega) (by omega), ix_J (by omega) (by omega), Int.toNat_natCast, Int.toNat_natCast, c_levelAt hx.1 hx.2, b1s, g.2.2.1 _ (by omega), gI_J SM 5, r3, b1s]
section
variable {SC SM : zM} {t : Nat}
theorem st_match (h : Inv SC SM t) (x y z : Int32) : stp (gX11_match SC x y z) (gX12_match SM x y z) t := by
  have hInv := h
  obtain ⟨⟨H, hh⟩, -⟩ := h
  obtain ⟨s, rfl, s1, s2⟩ := J_of x
  obtain ⟨v, rfl, v1, v2⟩ := J_of y
  obtain ⟨o, rfl, o1, o2⟩ := J_of z
  have hg := rHall_q hh fr_r (fmgd (S := SM))
  have hh' := hg
  obtain ⟨⟨hH, hr, -⟩, ⟨n0, -⟩, ⟨c0, -⟩, -⟩ := hh'
  have a1 := c_isSense s1 s2 hH hr c0 n0
  have a2 := c_isSense o1 o2 hH hr c0 n0
  have b1' := m_isSense (S := mgd SM) s1 s2 n0
  have b2' := m_isSense (S := mgd SM) o1 o2 n0
  unfold gX11_match gX12_match gX11_match_J22
  simp only [J_0, J_1, J_2, J_3, J_4, J_5, J_6, J_7, J_8, J_9, J_10, J_11, J_12, J_14, J_15, J_16, J_19, J_20, J_21, J_22, J_23, J_24, J_25, J_28, J_30, J_31, J_32, J_40, J_44, J_47, J_48, J_49, J_50, J_53, J_54, J_57, J_59, J_74, J_75, J_78, J_84, J_97, J_99, J_100, J_120, J_122, J_126, J_132, J_138, J_144, J_150, J_156, J_162, J_198, J_200, J_202, J_206, J_210, J_214, J_218, J_222, J_226, J_230, J_234, J_238, J_239, J_240, J_241, J_242, J_243, J_255, J_263, J_283, J_303, J_399, J_400, J_401, J_463, J_700, J_701, J_999, J_1000, J_2048, J_4095, J_4096, J_6000, J_9999, J_10000, J_65536, J_65537, J_2147483647, J_neg, m_good, ckt, b1s, b2s, lts, un2s, un3s, un4s, un5s, lmr, lml, lgr, lgl, a1, a2, b1', b2', iB0, m_no, c_passes0, c_passesN (w := 1) (by decide), c_isSize v1 v2]
  rw [m_within v1 v2 (by decide) (by decide) (by decide) (by decide), b1s, iB0]
  by_cases e1 : 0 ≤ s ∧ s < cnt (mgd SM) 0
  · rw [if_pos e1, if_pos e1]
    by_cases e2 : 0 ≤ o ∧ o < cnt (mgd SM) 0
    · rw [if_pos e2, if_pos e2, if_neg (show ¬ J 1 = J 0 by decide)]
      by_cases e3 : 1 ≤ v ∧ v ≤ 400
      · obtain ⟨i, rfl⟩ : ∃ i : Nat, s = i := ⟨s.toNat, by omega⟩
        obtain ⟨j, rfl⟩ : ∃ j : Nat, o = j := ⟨o.toNat, by omega⟩
        have hg2 := rHall_q hh (fr_w (cps_2 (S := SC) (v := 0) (w := 0)) (fun _ _ z => Eq0_456 z)) (fmgd (S := SM))
        obtain ⟨r, r1, r2, r3, l, r4, r5⟩ := ma_eq (x := v) hg2 e1.2 e2.2 (by omega)
        rw [if_pos e3, if_pos e3, if_neg (show ¬ J 1 = J 0 by decide), r3, b1s, r4, b1s, r5, b1s]
        exact ⟨_, _, _, rfl, rfl, Inv_0 hInv cps_2 cps_12⟩
      · rw [if_neg e3, if_neg e3, c_passesN (by decide), b2s, if_pos rfl]
        exact ⟨_, _, _, rfl, rfl, Inv_w hInv cps_2 (by decide) cps_12⟩
    · rw [if_neg e2, if_neg e2, if_pos trivial]
      exact ⟨_, _, _, rfl, rfl, Inv_w hInv fr_cps (by decide) cps_12⟩
  · rw [if_neg e1, if_neg e1, if_pos trivial]
    exact ⟨_, _, _, rfl, rfl, Inv_w hInv fr_cps (by decide) cps_12⟩
theorem st_closes (h : Inv SC SM t) (x y z w : Int32) : stp (gX11_closes SC x y z w) (gX12_closes SM x y z w) t := by
  have hInv := h
  obtain ⟨⟨H, hh⟩, -⟩ := h
  obtain ⟨s, rfl, s1, s2⟩ := J_of x
  obtain ⟨o, rfl, o1, o2⟩ := J_of y
  obtain ⟨u, rfl, u1, u2⟩ := J_of z
  obtain ⟨v, rfl, v1, v2⟩ := J_of w
  have hg := rHall_q hh fr_r (fmgd (S := SM))
  have hh' := hg
  obtain ⟨⟨hH, hr, -⟩, ⟨n0, -⟩, ⟨c0, -⟩, -⟩ := hh'
  have a1 := c_isSense s1 s2 hH hr c0 n0
  have a2 := c_isSense o1 o2 hH hr c0 n0
  have a3 := c_isSense u1 u2 hH hr c0 n0
  have b1' := m_isSense (S := mgd SM) s1 s2 n0
  have b2' := m_isSense (S := mgd SM) o1 o2 n0
  have b3' := m_isSense (S := mgd SM) u1 u2 n0
  unfold gX11_closes gX12_closes gX11_closes_J30
  simp only [J_0, J_1, J_2, J_3, J_4, J_5, J_6, J_7, J_8, J_9, J_10, J_11, J_12, J_14, J_15, J_16, J_19, J_20, J_21, J_22, J_23, J_24, J_25, J_28, J_30, J_31, J_32, J_40, J_44, J_47, J_48, J_49, J_50, J_53, J_54, J_57, J_59, J_74, J_75, J_78, J_84, J_97, J_99, J_100, J_120, J_122, J_126, J_132, J_138, J_144, J_150, J_156, J_162, J_198, J_200, J_202, J_206, J_210, J_214, J_218, J_222, J_226, J_230, J_234, J_238, J_239, J_240, J_241, J_242, J_243, J_255, J_263, J_283, J_303, J_399, J_400, J_401, J_463, J_700, J_701, J_999, J_1000, J_2048, J_4095, J_4096, J_6000, J_9999, J_10000, J_65536, J_65537, J_2147483647, J_neg, m_good, ckt, b1s, b2s, lts, un2s, un3s, un4s, un5s, lmr, lml, lgr, lgl, a1, a2, a3, b1', b2', b3', iB0, m_not, c_passes0, c_passesN (w := 1) (by decide), c_isSize v1 v2]
  rw [m_within v1 v2 (by decide) (by decide) (by decide) (by decide), b1s, iB0]
  by_cases e1 : 0 ≤ s ∧ s < cnt (mgd SM) 0
  · rw [if_pos e1, if_pos e1]
    by_cases e2 : 0 ≤ o ∧ o < cnt (mgd SM) 0
    · rw [if_pos e2, if_pos e2]
      by_cases e3 : 0 ≤ u ∧ u < cnt (mgd SM) 0
      · rw [if_pos e3, if_pos e3, if_neg (show ¬ J 1 = J 0 by decide)]
        unfold gX11_closes_J50
        simp only [J_0, J_1, J_2, J_3, J_4, J_5, J_6, J_7, J_8, J_9, J_10, J_11, J_12, J_14, J_15, J_16, J_19, J_20, J_21, J_22, J_23, J_24, J_25, J_28, J_30, J_31, J_32, J_40, J_44, J_47, J_48, J_49, J_50, J_53, J_54, J_57, J_59, J_74, J_75, J_78, J_84, J_97, J_99, J_100, J_120, J_122, J_126, J_132, J_138, J_144, J_150, J_156, J_162, J_198, J_200, J_202, J_206, J_210, J_214, J_218, J_222, J_226, J_230, J_234, J_238, J_239, J_240, J_241, J_242, J_243, J_255, J_263, J_283, J_303, J_399, J_400, J_401, J_463, J_700, J_701, J_999, J_1000, J_2048, J_4095, J_4096, J_6000, J_9999, J_10000, J_65536, J_65537, J_2147483647, J_neg]
        by_cases e4 : 1 ≤ v ∧ v ≤ 400
        · obtain ⟨i, rfl⟩ : ∃ i : Nat, s = i := ⟨s.toNat, by omega⟩
          obtain ⟨j, rfl⟩ : ∃ j : Nat, o = j := ⟨o.toNat, by omega⟩
          obtain ⟨k, rfl⟩ : ∃ k : Nat, u = k := ⟨u.toNat, by omega⟩
          have hg2 := rHall_q hh (fr_w (cps_2 (S := SC) (v := 0) (w := 0)) (fun _ _ z => Eq0_456 z)) (fmgd (S := SM))
          obtain ⟨r, r1, r2, r3, l, r4, r5⟩ := ma_eq (x := v) hg2 e1.2 e2.2 (by omega)
          obtain ⟨r', r1', r2', r3', l', r4', r5'⟩ := ma_eq (x := r) hg2 e2.2 e3.2 (by omega)
          obtain ⟨r'', r1'', r2'', r3'', l'', r4'', r5''⟩ := ma_eq (x := r') hg2 e3.2 e1.2 (by omega)
          rw [if_pos e4, if_pos e4, c_passes0, b2s, if_neg (show ¬ J 1 = J 0 by decide), r3, b1s, r3', b1s, r3'', b1s, r4, b1s, r5, b1s, r4', b1s, r5', b1s, r4'', b1s, r5'', b1s]
          exact ⟨_, _, _, rfl, rfl, Inv_0 hInv cps_2 cps_12⟩
        · rw [if_neg e4, if_neg e4, c_passesN (by decide), b2s, if_pos rfl]
          exact ⟨_, _, _, rfl, rfl, Inv_w hInv cps_2 (by decide) cps_12⟩
      · rw [if_neg e3, if_neg e3, if_pos trivial]
        exact ⟨_, _, _, rfl, rfl, Inv_w hInv fr_cps (by decide) cps_12⟩
    · rw [if_neg e2, if_neg e2, if_pos trivial]
      exact ⟨_, _, _, rfl, rfl, Inv_w hInv fr_cps (by decide) cps_12⟩
  · rw [if_neg e1, if_neg e1, if_pos trivial]
    exact ⟨_, _, _, rfl, rfl, Inv_w hInv fr_cps (by decide) cps_12⟩
theorem st_image (h : Inv SC SM t) (x : Int32) : stp (gX11_image SC x) (gX12_image SM x) t := by
  have hInv := h
  have hms := h.2.2.2.2.2.2
  have hT := rTot_q h.2.1 (fmgd (S := SM))
  obtain ⟨⟨H, hh⟩, -⟩ := h
  obtain ⟨p, rfl, p1, p2⟩ := J_of x
  have hg := rHall_q hh fr_r (fmgd (S := SM))
  have hg2 := rHall_q hh (fr_w (cps_2 (S := SC) (v := 0) (w := 0)) (fun _ _ z => Eq0_456 z)) (fmgd (S := SM))
  have hg1 := rHall_q hh (fcps (S := SC) (w := 0)) (fmgd (S := SM))
  have hh' := hg
  obtain ⟨⟨hH, hr, -⟩, ⟨-, n0, -⟩, ⟨-, c0, -⟩, -⟩ := hh'
  have a1 := c_isSayer p1 p2 hH hr c0 n0
  have b1' := m_isSayer (S := mgd SM) p1 p2 n0
  unfold gX11_image gX12_image gX11_image_J14
  simp only [J_0, J_1, J_2, J_3, J_4, J_5, J_6, J_7, J_8, J_9, J_10, J_11, J_12, J_14, J_15, J_16, J_19, J_20, J_21, J_22, J_23, J_24, J_25, J_28, J_30, J_31, J_32, J_40, J_44, J_47, J_48, J_49, J_50, J_53, J_54, J_57, J_59, J_74, J_75, J_78, J_84, J_97, J_99, J_100, J_120, J_122, J_126, J_132, J_138, J_144, J_150, J_156, J_162, J_198, J_200, J_202, J_206, J_210, J_214, J_218, J_222, J_226, J_230, J_234, J_238, J_239, J_240, J_241, J_242, J_243, J_255, J_263, J_283, J_303, J_399, J_400, J_401, J_463, J_700, J_701, J_999, J_1000, J_2048, J_4095, J_4096, J_6000, J_9999, J_10000, J_65536, J_65537, J_2147483647, J_neg, JL_0, JL_1, JL_9, JL_10, JL_32, JL_40, JL_48, JL_64, JL_97, JL_100, JL_4095, JL_4096, JL_16384, JL_65537, JL_524287, JL_524288, JL_268435455, JL_1099511627775, JL_neg, m_good, ckt, b1s, b2s, lts, un2s, un3s, un4s, un5s, lmr, lml, lgr, lgl, a1, b1', iB0, m_no, c_passes0, c_passesN (w := 1) (by decide)]
  by_cases e1 : 0 ≤ p ∧ p < cnt (mgd SM) 1
  · obtain ⟨P, rfl⟩ : ∃ P : Nat, p = P := ⟨p.toNat, by omega⟩
    obtain ⟨hm, -, -, -, -, -, -, -, -, r9, r10⟩ := hg1.2.2.2.2.1 P e1.2
    obtain ⟨-, -, -, -, -, -, -, -, -, q9, q10⟩ := hg2.2.2.2.2.1 P e1.2
    have x1 : ixb (J (P : Int)) 6 = true := ixb_J (by omega) (by omega) (by decide)
    have x2 : ix (J (P : Int)) = P := by rw [ix_J (by omega) (by omega)]; omega
    have hT1 := (hT P (by omega)).1
    have hx1 := iI_lo (mgd SM) 6 P
    have hx2 := iI_hi (mgd SM) 6 P
    rw [if_pos e1, if_pos e1, if_neg (show ¬ J 1 = J 0 by decide), hg1.1.2.1, zb3 hH, ckt, x1, ckt, ckt, ckt, ckt, x2, r9]
    rw [gI_J (mgd SM) 6 P, iLT (by omega) (by omega) (by decide) (by decide), iLE (by omega) (by omega) (by decide) (by decide)]
    unfold gX11_image_J44
    simp only [J_0, J_1, J_2, J_3, J_4, J_5, J_6, J_7, J_8, J_9, J_10, J_11, J_12, J_14, J_15, J_16, J_19, J_20, J_21, J_22, J_23, J_24, J_25, J_28, J_30, J_31, J_32, J_40, J_44, J_47, J_48, J_49, J_50, J_53, J_54, J_57, J_59, J_74, J_75, J_78, J_84, J_97, J_99, J_100, J_120, J_122, J_126, J_132, J_138, J_144, J_150, J_156, J_162, J_198, J_200, J_202, J_206, J_210, J_214, J_218, J_222, J_226, J_230, J_234, J_238, J_239, J_240, J_241, J_242, J_243, J_255, J_263, J_283, J_303, J_399, J_400, J_401, J_463, J_700, J_701, J_999, J_1000, J_2048, J_4095, J_4096, J_6000, J_9999, J_10000, J_65536, J_65537, J_2147483647, J_neg, JL_0, JL_1, JL_9, JL_10, JL_32, JL_40, JL_48, JL_64, JL_97, JL_100, JL_4095, JL_4096, JL_16384, JL_65537, JL_524287, JL_524288, JL_268435455, JL_1099511627775, JL_neg]
    by_cases e2 : iI (mgd SM) 6 P ≤ 4095
    · rw [if_pos e2, if_pos (show iI (mgd SM) 6 P < 4096 by omega), c_passes0, b2s, if_neg (show ¬ J 1 = J 0 by decide)]
      have e20 : gI (cps (cps SC 0) 0) 0 11 = gI (mgd SM) 0 20 := by
        rw [cps_o (by omega), cps_o (by omega), hms.1.1]
        exact (fmgd.1 0 20 (by unfold Em0; omega)).symm
      have R8 : gR (cps (cps SC 0) 0) 0 8 = H := hg2.1.2.1
      rw [R8, zb3 hH, ckt, x1, ckt, x2, e20, q9, q10, gI_J (mgd SM) 6 P]
      exact ⟨_, _, _, rfl, rfl, Inv_0 hInv cps_2 cps_12⟩
    · rw [if_neg e2, if_neg (show ¬ iI (mgd SM) 6 P < 4096 by omega), c_passesN (by decide), b2s, if_pos rfl]
      refine ⟨_, _, _, rfl, ?_, Inv_w hInv cps_2 (by decide) cps_12⟩
      rw [J_toL (by decide) (by decide)]
  · rw [if_neg e1, if_neg e1, if_pos trivial]
    refine ⟨_, _, _, rfl, ?_, Inv_w hInv fr_cps (by decide) cps_12⟩
    rw [J_toL (by decide) (by decide)]
end
