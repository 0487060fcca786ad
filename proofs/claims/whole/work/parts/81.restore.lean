/-! What is restored. -/
section
variable {SC SM : zM} {t : Nat}
theorem st_restore (h : Inv SC SM t) (x1 : Int32) (x2 : Int64) : stp (gX11_restore SC x1 x2) (gX12_restore SM x1 x2) t := by
  have hInv := h
  obtain ⟨⟨H, hh⟩, hT, -⟩ := h
  obtain ⟨p, rfl, p1, p2⟩ := J_of x1
  obtain ⟨v, rfl, v1, v2⟩ := JL_of x2
  have hg := rHall_q hh fr_r (fmgd (S := SM))
  have hg' := hg
  obtain ⟨⟨hH, hr, -⟩, ⟨-, m0, -⟩, ⟨-, c0, -⟩, -⟩ := hg'
  have a1 := c_isSayer p1 p2 hH hr c0 m0
  have b1' := m_isSayer (S := mgd SM) p1 p2 m0
  have no1 : stp (some (J 0, cps SC 1)) (some (J 0, mno SM 1)) t := ⟨_, _, _, rfl, rfl, Inv_w hInv fr_cps (by decide) cps_12⟩
  have no2 : stp (some (J 0, cps (cps SC 0) 2)) (some (J 0, mno SM 2)) t := ⟨_, _, _, rfl, rfl, Inv_w hInv cps_2 (by decide) cps_12⟩
  unfold gX11_restore gX12_restore gX11_restore_J37 gX11_restore_J72
  simp only [J_0, J_1, J_2, J_3, J_4, J_5, J_6, J_7, J_8, J_9, J_10, J_11, J_12, J_14, J_15, J_16, J_19, J_20, J_21, J_22, J_23, J_24, J_25, J_28, J_30, J_31, J_32, J_40, J_44, J_47, J_48, J_49, J_50, J_53, J_54, J_57, J_59, J_74, J_75, J_78, J_84, J_97, J_99, J_100, J_120, J_122, J_126, J_132, J_138, J_144, J_150, J_156, J_162, J_198, J_200, J_202, J_206, J_210, J_214, J_218, J_222, J_226, J_230, J_234, J_238, J_239, J_240, J_241, J_242, J_243, J_255, J_263, J_283, J_303, J_399, J_400, J_401, J_463, J_700, J_701, J_999, J_1000, J_2048, J_4095, J_4096, J_6000, J_9999, J_10000, J_65536, J_65537, J_2147483647, J_neg, JL_0, JL_1, JL_9, JL_10, JL_32, JL_40, JL_48, JL_64, JL_97, JL_100, JL_4095, JL_4096, JL_16384, JL_65537, JL_524287, JL_524288, JL_268435455, JL_1099511627775, JL_neg, m_good, ckt, b1s, b2s, lts, un2s, un3s, un4s, un5s, lmr, lml, lgr, lgl, a1, b1', iB0, m_isNot, c_passes0, c_passesN (w := 1) (by decide), c_passesN (w := 2) (by decide), show isB (J 0) = true by decide]
  by_cases e : 0 ≤ p ∧ p < cnt (mgd SM) 1
  · rw [if_pos e, if_pos e]
    simp only [if_true, if_neg (show ¬ J 1 = J 0 by decide)]
    rw [iLTl v1 v2 (by decide) (by decide), iLEl (by decide) (by decide) v1 v2]
    by_cases e2 : v < 0
    · rw [if_pos e2, if_neg (show ¬ 0 ≤ v by omega)]
      exact no2
    · have hu : 0 ≤ v / 65537 ∧ v / 65537 ≤ v := ⟨by omega, by omega⟩
      have hd : 65537 * (v / 65537) ≤ v ∧ v < 65537 * (v / 65537) + 65537 := by omega
      rw [if_neg e2, if_pos (show 0 ≤ v by omega), JL_div (a := v) (b := 65537) (by omega) v2 (by decide) (by decide)]
      generalize v / 65537 = u at hu hd ⊢
      have hd2 : 4096 * (u / 4096) ≤ u ∧ u < 4096 * (u / 4096) + 4096 ∧ 0 ≤ u / 4096 := by omega
      rw [JL_div (a := u) (b := 4096) (by omega) (by omega) (by decide) (by decide)]
      generalize u / 4096 = w at hd2 ⊢
      simp only [JL_neg, JL_add, JL_sub, JL_mul, JL_toI]
      rw [iLTl (by omega) (by omega) (by omega) (by omega), iLTl (by omega) (by omega) (by omega) (by omega), iLTl (by omega) (by omega) (by omega) (by omega), iLEl (by omega) (by omega) (by omega) (by omega)]
      by_cases e3 : 4095 < w
      · rw [if_pos e3]
        by_cases z : w < u - w * 4096
        · rw [if_pos z]; exact no2
        · rw [if_neg z, if_neg (show ¬ w < 4096 by omega)]; exact no2
      · by_cases z : w < u - w * 4096
        · rw [if_pos z, if_neg e3, if_neg (show ¬ u - w * 4096 ≤ w by omega)]; exact no2
        · obtain ⟨P, rfl⟩ : ∃ P : Nat, p = P := ⟨p.toNat, by omega⟩
          have x1 : ixb (J (P : Int)) 6 = true := ixb_J (by omega) (by omega) (by decide)
          have y1 : ix (J (P : Int)) = P := by rw [ix_J (by omega) (by omega)]; omega
          have R8 : gR (cps (cps SC 0) 0) 0 8 = H := by rw [cps_R, cps_R]; exact hr
          rw [if_neg z, if_pos (show w < 4096 by omega), if_neg e3, if_pos (show u - w * 4096 ≤ w by omega)]
          simp only [rRI, R8, zb3 hH, x1, y1, ckt, b1s, b2s, lts, un2s, un3s, un4s, un5s, lmr, lml, lgr, lgl]
          refine ⟨_, _, _, rfl, rfl, Inv_u hInv hh (fr_t (fr_t (fr_t (fEq_456 cps_2) (fr_pI (Or.inr (Or.inl ⟨rfl, rfl⟩)))) (fr_pI (Or.inr (Or.inr (by unfold sy89; omega))))) (fr_pI (Or.inr (Or.inr (by unfold sy89; omega))))) (fr_t (fr_t (fr_t fEm_mgd (fr_pI (Or.inl ⟨rfl, by omega⟩))) (fr_pI (Or.inr (Or.inr rfl)))) (fr_pI (Or.inr (Or.inl rfl)))) (fun q hq hq6 e8 e9 => ?_) ?_ ⟨?_, ?_⟩ ?_ ?_⟩
          · by_cases zz : q = P
            · subst zz
              constructor
              · rw [rII, if_neg (by omega), rII, if_pos (by omega), rII, if_pos (by omega)]
              · rw [rII, if_pos (by omega), rII, if_neg (by omega), rII, if_pos (by omega)]
            · constructor
              · rw [rII, if_neg (by omega), rII, if_neg (by omega), rII, if_neg (by omega), cps_o (by omega), cps_o (by omega), rII, if_neg (by omega), rII, if_neg (by omega), rII, if_neg (by omega), mgd_o (by omega)]
                exact e8
              · rw [rII, if_neg (by omega), rII, if_neg (by omega), rII, if_neg (by omega), cps_o (by omega), cps_o (by omega), rII, if_neg (by omega), rII, if_neg (by omega), rII, if_neg (by omega), mgd_o (by omega)]
                exact e9
          · intro q hq
            have h1 := hT q hq
            by_cases zz : q = P
            · subst zz
              rw [iI_of (q := 6) (a := w) (by rw [rII, if_pos (by omega)]) (by omega) (by omega), iI_of (q := 7) (a := u - w * 4096) (by rw [rII, if_neg (by omega), rII, if_pos (by omega)]) (by omega) (by omega)]
              omega
            · rw [iI_c (q := 6) (S' := SM) (q' := 6) (k' := q) (by rw [rII, if_neg (by omega), rII, if_neg (by omega), rII, if_neg (by omega), mgd_o (by omega)]), iI_c (q := 7) (S' := SM) (q' := 7) (k' := q) (by rw [rII, if_neg (by omega), rII, if_neg (by omega), rII, if_neg (by omega), mgd_o (by omega)])]
              omega
          · rw [rII, if_neg (by omega), rII, if_neg (by omega), rII, if_pos (by omega), rII, if_neg (by omega), rII, if_neg (by omega), rII, if_pos (by omega)]
          · rw [iI_of (a := v - u * 65537) (by rw [rII, if_neg (by omega), rII, if_neg (by omega), rII, if_pos (by omega)]) (by omega) (by omega)]
            omega
          · rw [rII, if_neg (by omega), rII, if_neg (by omega), rII, if_neg (by omega), cps_12, rII, if_neg (by omega), rII, if_neg (by omega), rII, if_neg (by omega), mgd_11]
          · rw [iI_of (a := 0) (by rw [rII, if_neg (by omega), rII, if_neg (by omega), rII, if_neg (by omega), mgd_11]) (by decide) (by decide)]; decide
  · rw [if_neg e, if_neg e, if_pos trivial]
    exact no1
end
