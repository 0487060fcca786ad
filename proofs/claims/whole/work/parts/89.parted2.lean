/-! parted, the call. -/
section
variable {SC SM : zM} {t : Nat}
theorem part_all {SC SM : zM} {H s u : Nat} {fm to' k : Int} (hk : k = 0 ∨ k = 1 ∨ k = 3) (hh : rHall SC SM H) (hs : (s : Int) < cnt SM 0) (hu : (u : Int) < cnt SM 0) (hf : 0 ≤ fm) (hft : fm ≤ to') (hto : to' ≤ 400) : ∃ (r : Int32) (SC' SM' : zM), fr f242 SC SC' ∧ fr f25 SM SM' ∧ (if J k = J 0 then b2 (gX11_pairParted SC (H + 7 + 31 * s) (H + 7 + 31 * u) (J fm) (J to')) (fun r12 S13 => some (r12, S13)) else gX11_parted_L145 SC (J k) (J to') (H + 7 + 31 * s) (H + 7 + 31 * u) FU (J fm)) = some (r, SC') ∧ gX12_parted_L88 (J s) (J u) (J k) (J fm) (J to') FU SM (J fm) = some (r, SM') := by
  by_cases z : k = 0
  · subst z
    obtain ⟨r, SC', SM', q1, q2, q3, q4⟩ := part_0 hh hs hu hf hft hto
    refine ⟨r, SC', SM', q1, q2, ?_, q4⟩
    rw [if_pos rfl, q3, b2s]
  · obtain ⟨r, q1, q2⟩ := part_13 (show k = 1 ∨ k = 3 by omega) hh hs hu hf (to' := to') ⟨by omega, hto⟩ FU fm (Int.le_refl fm) (by omega) (by have := FUs (n := 402) (by omega); omega)
    refine ⟨r, SC, SM, fr_r, fr_r, ?_, q2⟩
    have : ¬ J k = J 0 := by
      have : k = 1 ∨ k = 3 := by omega
      rcases this with w | w <;> subst w <;> decide
    rw [if_neg this]
    exact q1
theorem part_J94 (h : Inv SC SM t) {H : Nat} (hh : rHall SC SM H) {s u : Nat} (hs : (s : Int) < cnt SM 0) (hu : (u : Int) < cnt SM 0) {k fm to' lo : Int} (hk : k = 0 ∨ k = 1 ∨ k = 3) (hlo : lo = 0 ∨ lo = 1) (f1 : -2147483648 ≤ fm) (f2 : fm ≤ 2147483647) (g1 : -2147483648 ≤ to') (g2 : to' ≤ 2147483647) : stp (gX11_parted_J60 SC (J s) (J u) (J k) (J fm) (J to') (J lo) (J 0)) (gX12_parted_J50 (mgd SM) (J s) (J u) (J k) (J fm) (J to') (J lo)) t := by
  have hH := hh.1.1
  have h6 := hh.2.1.1.2
  have no2 : stp (some (J (-1), cps (cps SC 0) 2)) (some (J (-1), mno SM 2)) t := ⟨_, _, _, rfl, rfl, Inv_w h cps_2 (by decide) cps_12⟩
  unfold gX11_parted_J60 gX12_parted_J50 gX11_parted_J94
  simp only [J_0, J_1, J_2, J_3, J_4, J_5, J_6, J_7, J_8, J_9, J_10, J_11, J_12, J_14, J_15, J_16, J_19, J_20, J_21, J_22, J_23, J_24, J_25, J_28, J_30, J_31, J_32, J_40, J_44, J_47, J_48, J_49, J_50, J_53, J_54, J_57, J_59, J_74, J_75, J_78, J_84, J_97, J_99, J_100, J_120, J_122, J_126, J_132, J_138, J_144, J_150, J_156, J_162, J_198, J_200, J_202, J_206, J_210, J_214, J_218, J_222, J_226, J_230, J_234, J_238, J_239, J_240, J_241, J_242, J_243, J_255, J_263, J_283, J_303, J_399, J_400, J_401, J_463, J_700, J_701, J_999, J_1000, J_2048, J_4095, J_4096, J_6000, J_9999, J_10000, J_65536, J_65537, J_2147483647, J_neg, c_passes0, c_passesN (w := 2) (by decide), ckt, b1s, b2s, lts, un2s, un3s, un4s, un5s, lmr, lml, lgr, lgl, m_no]
  rw [m_within f1 f2 (by omega) (by omega) (by decide) (by decide), b1s, iB0, m_within g1 g2 f1 f2 (by decide) (by decide), b1s, iB0, if_neg (show ¬ J 1 = J 0 by decide), iLT f1 f2 (by omega) (by omega), iLT (by decide) (by decide) g1 g2, iLE f1 f2 g1 g2]
  simp only [if_true, if_neg (show ¬ J 1 = J 0 by decide)]
  by_cases e1 : fm < lo
  · rw [if_pos e1, if_neg (show ¬ (lo ≤ fm ∧ fm ≤ 400) by omega)]
    exact no2
  · rw [if_neg e1]
    by_cases e2 : 400 < to'
    · rw [if_pos e2]
      by_cases y : lo ≤ fm ∧ fm ≤ 400
      · rw [if_pos y, if_neg (show ¬ (fm ≤ to' ∧ to' ≤ 400) by omega)]; exact no2
      · rw [if_neg y]; exact no2
    · rw [if_neg e2]
      by_cases e3 : fm ≤ to'
      · rw [if_pos e3, if_pos (show lo ≤ fm ∧ fm ≤ 400 by omega), if_pos (show fm ≤ to' ∧ to' ≤ 400 by omega)]
        have fc := fr_w (cps_2 (S := SC) (v := 0) (w := 0)) (fun _ _ z => Eq0_456 z)
        have hq := rHall_q hh fc (fmgd (S := SM))
        have x1 : ixb (J (s : Int)) 6 = true := ixb_J (by omega) (by omega) (by decide)
        have y1 : ix (J (s : Int)) = s := by rw [ix_J (by omega) (by omega)]; omega
        have x2 : ixb (J (u : Int)) 6 = true := ixb_J (by omega) (by omega) (by decide)
        have y2 : ix (J (u : Int)) = u := by rw [ix_J (by omega) (by omega)]; omega
        obtain ⟨r, SC', SM', q1, q2, q3, q4⟩ := part_all hk hq (by rw [cnt_q fmgd]; exact hs) (by rw [cnt_q fmgd]; exact hu) (show 0 ≤ fm by omega) e3 (show to' ≤ 400 by omega)
        rw [hq.1.2.1, zb3 hH, ckt, x1, ckt, ckt, x2, ckt, y1, y2, q3, q4]
        refine ⟨r, SC', SM', rfl, rfl, Inv_q h (fr_t fc (f242_q q1)) (fr_t fmgd (f25_q q2)) (rSpans_c h.2.2.2.2.1 (fun k => ?_) (fun k => ?_)) ?_ (fun z => ?_)⟩
        · rw [q1.2.1 237 k (by unfold f242; omega)]
          exact (cps_2 (S := SC) (v := 0) (w := 0)).2.1 237 k (by unfold E456; omega)
        · rw [q1.1 238 k (by unfold f242; omega), cps_o (by omega), cps_o (by omega)]
        · rw [q1.1 0 12 (by unfold f242; omega), cps_12, q2.1 0 11 (by unfold f25; omega), mgd_11]
        · rw [iI_of (a := 0) (by rw [q2.1 0 11 (by unfold f25; omega)]; exact mgd_11) (by decide) (by decide)] at z
          omega
      · rw [if_neg e3]
        by_cases y : lo ≤ fm ∧ fm ≤ 400
        · rw [if_pos y, if_neg (show ¬ (fm ≤ to' ∧ to' ≤ 400) by omega)]; exact no2
        · rw [if_neg y]; exact no2
theorem part_J1 (h : Inv SC SM t) {v1 v2 v3 v4 v5 : Int32} : stp (gX11_parted_J35 SC v1 v2 v3 v4 v5 (J 0)) (some (J (-1), mno SM 1)) t := by
  refine ⟨J (-1), cps SC 1, _, ?_, rfl, Inv_w h fr_cps (by decide) cps_12⟩
  unfold gX11_parted_J35 gX11_parted_J47 gX11_parted_J60
  simp only [J_0, J_1, J_2, J_3, J_4, J_5, J_6, J_7, J_8, J_9, J_10, J_11, J_12, J_14, J_15, J_16, J_19, J_20, J_21, J_22, J_23, J_24, J_25, J_28, J_30, J_31, J_32, J_40, J_44, J_47, J_48, J_49, J_50, J_53, J_54, J_57, J_59, J_74, J_75, J_78, J_84, J_97, J_99, J_100, J_120, J_122, J_126, J_132, J_138, J_144, J_150, J_156, J_162, J_198, J_200, J_202, J_206, J_210, J_214, J_218, J_222, J_226, J_230, J_234, J_238, J_239, J_240, J_241, J_242, J_243, J_255, J_263, J_283, J_303, J_399, J_400, J_401, J_463, J_700, J_701, J_999, J_1000, J_2048, J_4095, J_4096, J_6000, J_9999, J_10000, J_65536, J_65537, J_2147483647, J_neg, if_true, c_passesN (w := 1) (by decide), ckt, b1s, b2s, lts, un2s, un3s, un4s, un5s, lmr, lml, lgr, lgl, if_neg (show ¬ J 1 = J 0 by decide)]
  split <;> rfl
theorem st_parted (h : Inv SC SM t) (x1 x2 x3 x4 x5 : Int32) : stp (gX11_parted SC x1 x2 x3 x4 x5) (gX12_parted SM x1 x2 x3 x4 x5) t := by
  have hInv := h
  obtain ⟨⟨H, hh⟩, -⟩ := h
  obtain ⟨s, rfl, s1, s2⟩ := J_of x1
  obtain ⟨u, rfl, u1, u2⟩ := J_of x2
  obtain ⟨k, rfl, k1, k2⟩ := J_of x3
  obtain ⟨fm, rfl, f1, f2⟩ := J_of x4
  obtain ⟨to', rfl, g1, g2⟩ := J_of x5
  have hg := rHall_q hh fr_r (fmgd (S := SM))
  have hg' := hg
  obtain ⟨⟨hH, hr, -⟩, ⟨m0, -⟩, ⟨c0, -⟩, -⟩ := hg'
  have a1 := c_isSense s1 s2 hH hr c0 m0
  have a2 := c_isSense u1 u2 hH hr c0 m0
  have b1' := m_isSense (S := mgd SM) s1 s2 m0
  have b2' := m_isSense (S := mgd SM) u1 u2 m0
  unfold gX11_parted gX12_parted
  simp only [J_0, J_1, J_2, J_3, J_4, J_5, J_6, J_7, J_8, J_9, J_10, J_11, J_12, J_14, J_15, J_16, J_19, J_20, J_21, J_22, J_23, J_24, J_25, J_28, J_30, J_31, J_32, J_40, J_44, J_47, J_48, J_49, J_50, J_53, J_54, J_57, J_59, J_74, J_75, J_78, J_84, J_97, J_99, J_100, J_120, J_122, J_126, J_132, J_138, J_144, J_150, J_156, J_162, J_198, J_200, J_202, J_206, J_210, J_214, J_218, J_222, J_226, J_230, J_234, J_238, J_239, J_240, J_241, J_242, J_243, J_255, J_263, J_283, J_303, J_399, J_400, J_401, J_463, J_700, J_701, J_999, J_1000, J_2048, J_4095, J_4096, J_6000, J_9999, J_10000, J_65536, J_65537, J_2147483647, J_neg, m_good, ckt, b1s, b2s, lts, un2s, un3s, un4s, un5s, lmr, lml, lgr, lgl, a1, a2, b1', b2', iB0, m_no]
  rw [iEQ k1 k2 (by decide) (by decide), iEQ k1 k2 (by decide) (by decide), iEQ k1 k2 (by decide) (by decide)]
  by_cases e1 : 0 ≤ s ∧ s < cnt (mgd SM) 0
  · rw [if_pos e1, if_pos e1]
    by_cases e2 : 0 ≤ u ∧ u < cnt (mgd SM) 0
    · rw [if_pos e2, if_pos e2]
      obtain ⟨s', rfl⟩ : ∃ P : Nat, s = P := ⟨s.toNat, by omega⟩
      obtain ⟨u', rfl⟩ : ∃ P : Nat, u = P := ⟨u.toNat, by omega⟩
      have q1 := e1.2
      have q2 := e2.2
      rw [cnt_q fmgd] at q1 q2
      have j47 : ∀ k lo : Int, gX11_parted_J47 SC (J s') (J u') (J k) (J fm) (J to') (J 1) (J lo) = gX11_parted_J60 SC (J s') (J u') (J k) (J fm) (J to') (J lo) (J 0) := fun k lo => by
        unfold gX11_parted_J47
        simp only [J_0, J_1, J_2, J_3, J_4, J_5, J_6, J_7, J_8, J_9, J_10, J_11, J_12, J_14, J_15, J_16, J_19, J_20, J_21, J_22, J_23, J_24, J_25, J_28, J_30, J_31, J_32, J_40, J_44, J_47, J_48, J_49, J_50, J_53, J_54, J_57, J_59, J_74, J_75, J_78, J_84, J_97, J_99, J_100, J_120, J_122, J_126, J_132, J_138, J_144, J_150, J_156, J_162, J_198, J_200, J_202, J_206, J_210, J_214, J_218, J_222, J_226, J_230, J_234, J_238, J_239, J_240, J_241, J_242, J_243, J_255, J_263, J_283, J_303, J_399, J_400, J_401, J_463, J_700, J_701, J_999, J_1000, J_2048, J_4095, J_4096, J_6000, J_9999, J_10000, J_65536, J_65537, J_2147483647, J_neg]
        rw [if_neg (show ¬ J 1 = J 0 by decide)]
      by_cases z0 : k = 0
      · subst z0
        unfold gX11_parted_J35
        simp only [J_0, J_1, J_2, J_3, J_4, J_5, J_6, J_7, J_8, J_9, J_10, J_11, J_12, J_14, J_15, J_16, J_19, J_20, J_21, J_22, J_23, J_24, J_25, J_28, J_30, J_31, J_32, J_40, J_44, J_47, J_48, J_49, J_50, J_53, J_54, J_57, J_59, J_74, J_75, J_78, J_84, J_97, J_99, J_100, J_120, J_122, J_126, J_132, J_138, J_144, J_150, J_156, J_162, J_198, J_200, J_202, J_206, J_210, J_214, J_218, J_222, J_226, J_230, J_234, J_238, J_239, J_240, J_241, J_242, J_243, J_255, J_263, J_283, J_303, J_399, J_400, J_401, J_463, J_700, J_701, J_999, J_1000, J_2048, J_4095, J_4096, J_6000, J_9999, J_10000, J_65536, J_65537, J_2147483647, J_neg, if_true, if_neg (show ¬ J 0 = J 1 by decide), j47]
        exact part_J94 hInv hh q1 q2 (Or.inl rfl) (Or.inr rfl) f1 f2 g1 g2
      · by_cases z1 : k = 1
        · subst z1
          unfold gX11_parted_J35
          simp only [J_0, J_1, J_2, J_3, J_4, J_5, J_6, J_7, J_8, J_9, J_10, J_11, J_12, J_14, J_15, J_16, J_19, J_20, J_21, J_22, J_23, J_24, J_25, J_28, J_30, J_31, J_32, J_40, J_44, J_47, J_48, J_49, J_50, J_53, J_54, J_57, J_59, J_74, J_75, J_78, J_84, J_97, J_99, J_100, J_120, J_122, J_126, J_132, J_138, J_144, J_150, J_156, J_162, J_198, J_200, J_202, J_206, J_210, J_214, J_218, J_222, J_226, J_230, J_234, J_238, J_239, J_240, J_241, J_242, J_243, J_255, J_263, J_283, J_303, J_399, J_400, J_401, J_463, J_700, J_701, J_999, J_1000, J_2048, J_4095, J_4096, J_6000, J_9999, J_10000, J_65536, J_65537, J_2147483647, J_neg, if_true, if_neg (show ¬ J 1 = J 0 by decide), j47]
          exact part_J94 hInv hh q1 q2 (Or.inr (Or.inl rfl)) (Or.inl rfl) f1 f2 g1 g2
        · by_cases z3 : k = 3
          · subst z3
            unfold gX11_parted_J35
            simp only [J_0, J_1, J_2, J_3, J_4, J_5, J_6, J_7, J_8, J_9, J_10, J_11, J_12, J_14, J_15, J_16, J_19, J_20, J_21, J_22, J_23, J_24, J_25, J_28, J_30, J_31, J_32, J_40, J_44, J_47, J_48, J_49, J_50, J_53, J_54, J_57, J_59, J_74, J_75, J_78, J_84, J_97, J_99, J_100, J_120, J_122, J_126, J_132, J_138, J_144, J_150, J_156, J_162, J_198, J_200, J_202, J_206, J_210, J_214, J_218, J_222, J_226, J_230, J_234, J_238, J_239, J_240, J_241, J_242, J_243, J_255, J_263, J_283, J_303, J_399, J_400, J_401, J_463, J_700, J_701, J_999, J_1000, J_2048, J_4095, J_4096, J_6000, J_9999, J_10000, J_65536, J_65537, J_2147483647, J_neg, if_true, if_neg (show ¬ J 3 = J 0 by decide), if_neg (show ¬ J 3 = J 1 by decide), j47]
            exact part_J94 hInv hh q1 q2 (Or.inr (Or.inr rfl)) (Or.inr rfl) f1 f2 g1 g2
          · rw [if_neg z0, if_neg z1, if_neg z3, iEQ k1 k2 (by decide) (by decide), if_neg z0, iEQ k1 k2 (by decide) (by decide), if_neg z1, iEQ k1 k2 (by decide) (by decide), if_neg z3]
            exact part_J1 hInv
    · rw [if_neg e2, if_neg e2]
      exact part_J1 hInv
  · rw [if_neg e1, if_neg e1]
    exact part_J1 hInv
end
