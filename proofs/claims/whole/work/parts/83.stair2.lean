/-! stair, the call. -/
section
variable {SC SM : zM} {t : Nat}
theorem st_stair (h : Inv SC SM t) (ht : t < 512) (x1 x2 x3 x4 x5 : Int32) : stp (gX11_stair SC x1 x2 x3 x4 x5) (gX12_stair SM x1 x2 x3 x4 x5) t := by
  have hInv := h
  obtain ⟨⟨H, hh⟩, -⟩ := h
  obtain ⟨p, rfl, p1, p2⟩ := J_of x1
  obtain ⟨a, rfl, a1, a2⟩ := J_of x2
  obtain ⟨s, rfl, s1, s2⟩ := J_of x3
  obtain ⟨m, rfl, m1, m2⟩ := J_of x4
  obtain ⟨x, rfl, v1, v2⟩ := J_of x5
  have hg := rHall_q hh fr_r (fmgd (S := SM))
  have hg' := hg
  obtain ⟨⟨hH, hr, -⟩, ⟨-, m0, -⟩, ⟨-, c0, -⟩, -⟩ := hg'
  have ca := c_isSayer p1 p2 hH hr c0 m0
  have ma := m_isSayer (S := mgd SM) p1 p2 m0
  have e1 : (J (-1)).toInt64 = JL (-1) := J_toL (by decide) (by decide)
  have no1 : stp (some (JL (-1), cps SC 1)) (some (JL (-1), mno SM 1)) t := ⟨_, _, _, rfl, rfl, Inv_w hInv fr_cps (by decide) cps_12⟩
  have no2 : stp (some (JL (-1), cps (cps SC 0) 2)) (some (JL (-1), mno SM 2)) t := ⟨_, _, _, rfl, rfl, Inv_w hInv cps_2 (by decide) cps_12⟩
  unfold gX11_stair gX12_stair gX11_stair_J40 gX11_stair_J56 gX11_stair_J73
  simp only [J_0, J_1, J_2, J_3, J_4, J_5, J_6, J_7, J_8, J_9, J_10, J_11, J_12, J_14, J_15, J_16, J_19, J_20, J_21, J_22, J_23, J_24, J_25, J_28, J_30, J_31, J_32, J_40, J_44, J_47, J_48, J_49, J_50, J_53, J_54, J_57, J_59, J_74, J_75, J_78, J_84, J_97, J_99, J_100, J_120, J_122, J_126, J_132, J_138, J_144, J_150, J_156, J_162, J_198, J_200, J_202, J_206, J_210, J_214, J_218, J_222, J_226, J_230, J_234, J_238, J_239, J_240, J_241, J_242, J_243, J_255, J_263, J_283, J_303, J_399, J_400, J_401, J_463, J_700, J_701, J_999, J_1000, J_2048, J_4095, J_4096, J_6000, J_9999, J_10000, J_65536, J_65537, J_2147483647, J_neg, JL_0, JL_1, JL_9, JL_10, JL_32, JL_40, JL_48, JL_64, JL_97, JL_100, JL_4095, JL_4096, JL_16384, JL_65537, JL_524287, JL_524288, JL_268435455, JL_1099511627775, JL_neg, m_good, ckt, b1s, b2s, lts, un2s, un3s, un4s, un5s, lmr, lml, lgr, lgl, ca, ma, iB0, m_no, e1, c_passes0, c_passesN (w := 1) (by decide), c_passesN (w := 2) (by decide), c_isSize a1 a2, c_isSize s1 s2, c_isSize v1 v2]
  rw [m_within a1 a2 (by decide) (by decide) (by decide) (by decide), b1s, iB0, m_within s1 s2 (by decide) (by decide) (by decide) (by decide), b1s, iB0, m_within m1 m2 (by decide) (by decide) (by decide) (by decide), b1s, iB0, m_within v1 v2 (by decide) (by decide) (by decide) (by decide), b1s, iB0, iLT m1 m2 (by decide) (by decide), iLT (by decide) (by decide) m1 m2]
  by_cases z0 : 0 ≤ p ∧ p < cnt (mgd SM) 1
  · simp only [if_pos z0, if_true, if_neg (show ¬ J 1 = J 0 by decide)]
    by_cases z1 : 1 ≤ a ∧ a ≤ 400
    · rw [if_pos z1, if_pos z1]
      by_cases z2 : 1 ≤ s ∧ s ≤ 400
      · rw [if_pos z2, if_pos z2]
        by_cases z3 : 1 ≤ m ∧ m ≤ 9
        · rw [if_pos z3, if_neg (show ¬ m < 1 by omega), if_neg (show ¬ 9 < m by omega)]
          by_cases z4 : 1 ≤ x ∧ x ≤ 400
          · rw [if_pos z4, if_pos z4]
            obtain ⟨P, rfl⟩ : ∃ P : Nat, p = P := ⟨p.toNat, by omega⟩
            obtain ⟨A, rfl⟩ : ∃ A : Nat, a = A := ⟨a.toNat, by omega⟩
            have xA : ixb (J (A : Int)) 401 = true := ixb_J (by omega) (by omega) (by decide)
            have yA : ix (J (A : Int)) = A := by rw [ix_J (by omega) (by omega)]; omega
            have ok := okQ hInv hh ht (cps_2 (S := SC) (v := 0) (w := 0)) z0.2
            obtain ⟨i1, j1, g120, f1, f2⟩ := m_pre ok
            have hf := FUs (n := 500) (by omega)
            obtain ⟨T, t1, t2, t3⟩ := c_fillW (q := 240) (n := 401) (v := JL 0) (S := cps (cps SC 0) 0) (by decide)
            obtain ⟨SM1, w1, w2, w3⟩ := m_first_L (a := A) (by omega) (v1 := J P) (v3 := J s) (v4 := J m) (v5 := J x) (v6 := J (nAll (nP (mgd SM) P))) FU 1 (mgd SM) (mgd SM) (by omega) (by omega) (by omega) fr_r (fun k k1 k2 => by omega)
            have fc : fr Eq0 SC (pL T 240 A (JL 1)) := fr_t (fr_t (fr_w (cps_2 (S := SC) (v := 0) (w := 0)) (fun _ _ z => Eq0_456 z)) (fr_w t2 (fun q k z => by unfold Eq0; omega))) (fr_pL (by unfold Eq0; omega))
            have fm : fr Em0 SM SM1 := fr_t fmgd (fr_w w2 (fun q k z => by unfold Em0; omega))
            have wr : wR (pL T 240 A (JL 1)) SM1 240 28 := fun k k1 k2 => by
              rw [rLL, w3 k k1 k2]
              by_cases z : k = A
              · rw [if_pos ⟨rfl, z⟩, if_pos z]
              · rw [if_neg (fun w => z w.2), if_neg z, t3 k (by omega)]
            have e3 : ∀ k, gI SM1 3 k = gI (mgd SM) 3 k := fun k => w2.1 3 k (by omega)
            have ei : ∀ k, iI SM1 3 k = iI (mgd SM) 3 k := fun k => congrArg Int32.toInt (e3 k)
            have es : mS SM1 P = mS (mgd SM) P := by unfold mS; rw [ei]
            have ek : fK SM1 (mS (mgd SM) P) = fK (mgd SM) (mS (mgd SM) P) := by unfold fK; rw [ei]
            have hW : nAll (nP (mgd SM) P) = nAll (nP SM1 P) := by
              unfold nP
              rw [es, ek, mN_c e3]
            have hp1 : (P : Int) < cnt SM1 1 := by
              have h1 := z0.2
              rw [cnt_q fmgd] at h1
              rw [cnt_q fm]
              exact h1
            obtain ⟨r, SC', SM', q1, q2, q3, q4⟩ := stair_L z2 z3 z4 (p := P) (t := t) (by omega) FU 0 _ _ (by omega) (by omega) (rHall_q hh fc fm) (rTot_q hInv.2.1 fm) (by omega) hp1 wr hW
            rw [show J ((0 : Nat) : Int) = J 0 from rfl] at q1 q2
            rw [show J ((1 : Nat) : Int) = J 1 from rfl] at w1
            rw [t1, b1s, xA, ckt, yA, J_add, i1, ckt, ckt, j1, g120, f1, b1s, f2, b1s, w1, b1s, q1, q2]
            have F1 : fr Eq0 SC SC' := fr_t fc (fW_q q3)
            have F2 : fr Em0 SM SM' := fr_t fm (fV_q q4)
            have G : fr (fun q _ => q = 240 ∨ q = 241) (cps (cps SC 0) 0) SC' := fr_t (fr_t (fr_w t2 (fun q k z => Or.inl z)) (fr_pL (Or.inl rfl))) q3
            have GM : fr (fun q _ => q = 28 ∨ q = 29) (mgd SM) SM' := fr_t (fr_w w2 (fun q k z => Or.inl z)) q4
            have e11 : gI SM' 0 11 = J 0 := by rw [GM.1 0 11 (by omega)]; exact mgd_11
            refine ⟨r, SC', SM', rfl, rfl, Inv_q hInv F1 F2 (rSpans_c hInv.2.2.2.2.1 (fun k => ?_) (fun k => ?_)) ?_ (fun z => ?_)⟩
            · rw [G.2.1 237 k (by omega)]
              exact (cps_2 (S := SC) (v := 0) (w := 0)).2.1 237 k (by unfold E456; omega)
            · rw [G.1 238 k (by omega), cps_o (by omega), cps_o (by omega)]
            · rw [G.1 0 12 (by omega), cps_12, e11]
            · rw [iI_of (a := 0) e11 (by decide) (by decide)] at z
              omega
          · rw [if_neg z4, if_neg z4]
            exact no2
        · rw [if_neg z3]
          by_cases z4 : 1 ≤ x ∧ x ≤ 400
          · rw [if_pos z4]
            by_cases y : m < 1
            · rw [if_pos y]; exact no2
            · rw [if_neg y, if_pos (show 9 < m by omega)]; exact no2
          · rw [if_neg z4]; exact no2
      · rw [if_neg z2, if_neg z2]
        by_cases z4 : 1 ≤ x ∧ x ≤ 400
        · rw [if_pos z4]; exact no2
        · rw [if_neg z4]; exact no2
    · rw [if_neg z1, if_neg z1]
      exact no2
  · simp only [if_neg z0, if_true]
    refine ⟨JL (-1), cps SC 1, _, ?_, rfl, Inv_w hInv fr_cps (by decide) cps_12⟩
    repeat' split
    all_goals rfl
end
