/-! lets, lineOf, secondOf. -/
theorem m_noR {S : zM} {w : Int} : gX12_no S (J w) = some (J (-1), pI S 0 11 (J w)) := by
  unfold gX12_no
  simp only [J_0, J_1, J_2, J_3, J_4, J_5, J_6, J_7, J_8, J_9, J_10, J_11, J_12, J_14, J_15, J_16, J_19, J_20, J_21, J_22, J_23, J_24, J_25, J_28, J_30, J_31, J_32, J_40, J_44, J_47, J_48, J_49, J_50, J_53, J_54, J_57, J_59, J_74, J_75, J_78, J_84, J_97, J_99, J_100, J_120, J_122, J_126, J_132, J_138, J_144, J_150, J_156, J_162, J_198, J_200, J_202, J_206, J_210, J_214, J_218, J_222, J_226, J_230, J_234, J_238, J_239, J_240, J_241, J_242, J_243, J_255, J_263, J_283, J_303, J_399, J_400, J_401, J_463, J_700, J_701, J_999, J_1000, J_2048, J_4095, J_4096, J_6000, J_9999, J_10000, J_65536, J_65537, J_2147483647, J_neg]
theorem m_notR {S : zM} {w : Int} : gX12_not S (J w) = some (J (-1000), pI S 0 11 (J w)) := by
  unfold gX12_not
  simp only [J_0, J_1, J_2, J_3, J_4, J_5, J_6, J_7, J_8, J_9, J_10, J_11, J_12, J_14, J_15, J_16, J_19, J_20, J_21, J_22, J_23, J_24, J_25, J_28, J_30, J_31, J_32, J_40, J_44, J_47, J_48, J_49, J_50, J_53, J_54, J_57, J_59, J_74, J_75, J_78, J_84, J_97, J_99, J_100, J_120, J_122, J_126, J_132, J_138, J_144, J_150, J_156, J_162, J_198, J_200, J_202, J_206, J_210, J_214, J_218, J_222, J_226, J_230, J_234, J_238, J_239, J_240, J_241, J_242, J_243, J_255, J_263, J_283, J_303, J_399, J_400, J_401, J_463, J_700, J_701, J_999, J_1000, J_2048, J_4095, J_4096, J_6000, J_9999, J_10000, J_65536, J_65537, J_2147483647, J_neg]
theorem fLy_q {S S' : zM} (f : fr fLy S S') : fr Em0 S S' := fr_w f (fun q k z => by unfold fLy at z; unfold Em0; omega)
theorem fMj_q {S S' : zM} (f : fr fMj S S') : fr Em0 S S' := fr_w f (fun q k z => by unfold fMj at z; unfold Em0; omega)
section
variable {SC SM SC1 : zM} {H t : Nat} {p : Int}
theorem Inv_e {SC' SM' : zM} {w : Int} (h : Inv SC SM t) (f : fr Eq0 SC SC') (h12 : gI SC' 0 12 = J w) (hs : rSpans SC') (g : fr Em0 SM SM') (e11 : gI SM' 0 11 = J w) (hw : 0 ≤ w ∧ w ≤ 6 ∧ w ≠ 4) : Inv SC' SM' (t + 1) :=
  Inv_q h f g hs (h12.trans e11.symm) (fun z => by rw [iI_of e11 (by omega) (by omega)] at z; omega)
/-- what judging needs -/
def jdB (SC SM : zM) (H : Nat) : Prop := rHall SC SM H ∧ rBook SC SM ∧ rCells SC SM ∧ rSpans SC
theorem jd_of (h : Inv SC SM t) (hh : rHall SC SM H) (f : fr E456 SC SC1) : jdB SC1 (mgd SM) H := by
  have g := fr_w f (fun _ _ z => Eq0_456 z)
  exact ⟨rHall_q hh g fmgd, rBook_q h.2.2.1 g fmgd, rCells_q h.2.2.2.1 g fmgd, rSpans_c h.2.2.2.2.1 (fun k => f.2.1 237 k (by unfold E456; omega)) (fun k => f.1 238 k (by unfold E456; omega))⟩
theorem c_why (h : jdB SC1 SM H) (hp : 0 ≤ p ∧ p < 6) : ∃ r : Int, (r = 0 ∨ r = 3) ∧ gX11_whyNotJudged SC1 (J p) = some (J r) ∧ (r = 0 ↔ notFull SM p) := by
  obtain ⟨r, r1, r2, r3⟩ := c_overfull h.2.2.1 h.2.1 hp
  unfold gX11_whyNotJudged
  simp only [J_0, J_1, J_2, J_3, J_4, J_5, J_6, J_7, J_8, J_9, J_10, J_11, J_12, J_14, J_15, J_16, J_19, J_20, J_21, J_22, J_23, J_24, J_25, J_28, J_30, J_31, J_32, J_40, J_44, J_47, J_48, J_49, J_50, J_53, J_54, J_57, J_59, J_74, J_75, J_78, J_84, J_97, J_99, J_100, J_120, J_122, J_126, J_132, J_138, J_144, J_150, J_156, J_162, J_198, J_200, J_202, J_206, J_210, J_214, J_218, J_222, J_226, J_230, J_234, J_238, J_239, J_240, J_241, J_242, J_243, J_255, J_263, J_283, J_303, J_399, J_400, J_401, J_463, J_700, J_701, J_999, J_1000, J_2048, J_4095, J_4096, J_6000, J_9999, J_10000, J_65536, J_65537, J_2147483647, J_neg]
  rw [r2, b1s]
  rcases r1 with z | z
  · subst z
    rw [if_pos rfl]
    exact ⟨0, Or.inl rfl, rfl, r3⟩
  · subst z
    rw [if_neg (by decide)]
    exact ⟨3, Or.inr rfl, rfl, fun v => absurd v (by decide), fun v => absurd (r3.mpr v) (by decide)⟩
theorem m_laysQ (h : jdB SC1 SM H) (hp : 0 ≤ p ∧ p < 6) : ∃ (r : Int) (S' : zM) (m : Nat), gX12_lays SM (J p) = some (J r, S') ∧ fr fLy SM S' ∧ (r = 0 ∨ r = 1) ∧ (r = 1 ↔ notFull SM p) ∧ ∀ s : Nat, (s : Int) < cnt SM 0 → mOK S' SM s m p := by
  have hB := h.2.1
  have e : gI SM 0 21 = J (bkn SM) := by
    rw [gI_J]
    congr 1
    have := hB.2.1
    unfold bkn
    omega
  have hb : bkn SM ≤ 1000 := by have := hB.2.1; unfold bkn; omega
  obtain ⟨r, S', m, q1, q2, q3, q4, q5⟩ := m_lays e hb (fun i hi => (hB.2.2 i hi).1) hp
  have c : ∀ q k, ¬ fLy q k → gI S' q k = gI SM q k := q2.1
  refine ⟨r, S', m, q1, q2, q3, q4, fun s hs => ⟨mSense_c (h.1.2.2.2.1 s hs).1 (fun k => c 3 k (by unfold fLy; omega)) (fun k => c 5 k (by unfold fLy; omega)), q5, ?_, fun x => ?_⟩⟩
  · unfold nS
    rw [show fK S' s = fK SM s by unfold fK iI; rw [c 3 _ (by unfold fLy; omega)], mN_c (fun k => c 3 k (by unfold fLy; omega))]
  · unfold lvS iI
    rw [c 5 _ (by unfold fLy; omega)]
/-- a sayer's guess, in both -/
theorem jd_g (h : jdB SC1 SM H) {P : Nat} (hP : (P : Int) < cnt SM 1) : ∃ g : Int, (g = 0 ∨ g = 1) ∧ gI SC1 (H + 193 + 2 * P) 6 = J g ∧ gI SM 3 (150 + P) = J g := by
  obtain ⟨g1, -, -, -, -, -, g2, -⟩ := h.1.2.2.2.2.1 P hP
  exact ⟨iI SM 3 (150 + P), g1.2.2.2.2.2.1, g2.trans (gI_J _ _ _), gI_J _ _ _⟩
end
section
variable {SC SM : zM} {t : Nat}
theorem st_lets (h : Inv SC SM t) (x1 x2 x3 x4 : Int32) : stp (gX11_lets SC x1 x2 x3 x4) (gX12_lets SM x1 x2 x3 x4) t := by
  have hInv := h
  obtain ⟨⟨H, hh⟩, -⟩ := h
  obtain ⟨p, rfl, p1, p2⟩ := J_of x1
  obtain ⟨s, rfl, s1, s2⟩ := J_of x2
  obtain ⟨l, rfl, l1, l2⟩ := J_of x3
  obtain ⟨x, rfl, v1, v2⟩ := J_of x4
  have hg := rHall_q hh fr_r (fmgd (S := SM))
  obtain ⟨⟨hH, hr, -⟩, ⟨m0, m1, -⟩, ⟨c0, c1, -⟩, -⟩ := id hg
  have a1 := c_isSayer p1 p2 hH hr c1 m1
  have a2 := c_isSense s1 s2 hH hr c0 m0
  have b1' := m_isSayer (S := mgd SM) p1 p2 m1
  have b2' := m_isSense (S := mgd SM) s1 s2 m0
  have no1 : stp (some (J (-1), cps SC 1)) (some (J (-1), mno SM 1)) t := ⟨_, _, _, rfl, rfl, Inv_w hInv fr_cps (by decide) cps_12⟩
  have no2 : stp (some (J (-1), cps (cps SC 0) 2)) (some (J (-1), mno SM 2)) t := ⟨_, _, _, rfl, rfl, Inv_w hInv cps_2 (by decide) cps_12⟩
  unfold gX11_lets gX12_lets gX11_lets_J22 gX11_lets_J53
  simp only [J_0, J_1, J_2, J_3, J_4, J_5, J_6, J_7, J_8, J_9, J_10, J_11, J_12, J_14, J_15, J_16, J_19, J_20, J_21, J_22, J_23, J_24, J_25, J_28, J_30, J_31, J_32, J_40, J_44, J_47, J_48, J_49, J_50, J_53, J_54, J_57, J_59, J_74, J_75, J_78, J_84, J_97, J_99, J_100, J_120, J_122, J_126, J_132, J_138, J_144, J_150, J_156, J_162, J_198, J_200, J_202, J_206, J_210, J_214, J_218, J_222, J_226, J_230, J_234, J_238, J_239, J_240, J_241, J_242, J_243, J_255, J_263, J_283, J_303, J_399, J_400, J_401, J_463, J_700, J_701, J_999, J_1000, J_2048, J_4095, J_4096, J_6000, J_9999, J_10000, J_65536, J_65537, J_2147483647, J_neg, m_good, ckt, b1s, b2s, lts, un2s, un3s, un4s, un5s, lmr, lml, lgr, lgl, a1, a2, b1', b2', iB0, m_no, c_passes0, c_passesN (w := 1) (by decide), c_passesN (w := 2) (by decide), c_isFar l1 l2, c_isFar v1 v2, if_true, if_neg (show ¬ J 1 = J 0 by decide)]
  rw [m_within l1 l2 (by decide) (by decide) (by decide) (by decide), b1s, iB0, m_within v1 v2 (by decide) (by decide) (by decide) (by decide), b1s, iB0]
  by_cases e1 : 0 ≤ p ∧ p < cnt (mgd SM) 1
  · rw [if_pos e1, if_pos e1]
    by_cases e2 : 0 ≤ s ∧ s < cnt (mgd SM) 0
    · rw [if_pos e2, if_pos e2]
      by_cases e3 : -50 ≤ l ∧ l ≤ 50
      · rw [if_pos e3, if_pos e3]
        by_cases e4 : -50 ≤ x ∧ x ≤ 50
        · rw [if_pos e4, if_pos e4]
          obtain ⟨p, rfl⟩ : ∃ P : Nat, p = P := ⟨p.toNat, by omega⟩
          obtain ⟨s, rfl⟩ : ∃ P : Nat, s = P := ⟨s.toNat, by omega⟩
          have jd := jd_of hInv hh (fr_cps (S := SC) (w := 0))
          have jd2 := jd_of hInv hh (cps_2 (S := SC) (v := 0) (w := 0))
          have hp : 0 ≤ (p : Int) ∧ (p : Int) < 6 := by omega
          have x1 : ixb (J (p : Int)) 6 = true := ixb_J (by omega) (by omega) (by decide)
          have y1 : ix (J (p : Int)) = p := by rw [ix_J (by omega) (by omega)]; omega
          have x2 : ixb (J (s : Int)) 6 = true := ixb_J (by omega) (by omega) (by decide)
          have y2 : ix (J (s : Int)) = s := by rw [ix_J (by omega) (by omega)]; omega
          obtain ⟨w, w1, w2, w3⟩ := c_why jd hp
          obtain ⟨r, M1, m, q1, q2, q3, q4, q5⟩ := m_laysQ jd hp
          have k11 : gI M1 0 11 = J 0 := by rw [q2.1 0 11 (by unfold fLy; omega)]; exact mgd_11
          rw [w2, b1s, q1, b2s]
          by_cases nf : notFull (mgd SM) p
          · have hw := w3.mpr nf
            have hr1 := q4.mpr nf
            subst hw
            subst hr1
            obtain ⟨g, g1, g2, g3⟩ := jd_g jd2 e1.2
            have hse := jd2.1.2.2.2.1 s e2.2
            have hR := jd2.1.1.2.1
            obtain ⟨r5, C5, u1, u2, u3, u4, u5⟩ := c_lineLets (s := s) (p := p) (l := l) hse hH (by omega) hp (by omega) jd2.2.2.1 jd2.2.1 nf fr_r jd2.2.2.2
            obtain ⟨r6, M6, z1, z2, z3, z4⟩ := m_lineOK (l := l) (q5 s e2.2) (by omega) (by omega) nf
            have er : r5 = r6 := by have := u5.trans z4.symm; omega
            rw [c_passes0, b2s, if_neg (show ¬ J 1 = J 0 by decide), if_neg (show ¬ J 1 = J 0 by decide), hR, zb3 hH, ckt, x2, ckt, y2, u2, b2s, z2, b2s]
            have F1 : fr Eq0 SC C5 := fr_t (fr_w cps_2 (fun _ _ z => Eq0_456 z)) (fC_q u3)
            have G1 : fr Em0 SM M6 := fr_t fmgd (fr_t (fLy_q q2) (fMj_q (fMk_j z3)))
            have t5 : gI C5 0 12 = J 0 := by rw [u3.1 0 12 (by unfold fC; omega), cps_12]
            have t6 : gI M6 0 11 = J 0 := by rw [z3.1 0 11 (by unfold fMk; omega), k11]
            subst er
            rcases u1 with y | y
            · subst y
              rw [if_pos rfl, if_pos rfl]
              exact ⟨_, _, _, rfl, rfl, Inv_e hInv F1 t5 u4 G1 t6 (by decide)⟩
            · subst y
              obtain ⟨r7, C7, a1', a2', a3', a4', a5'⟩ := c_secondLets (s := s) (p := p) (l := x) (g := g) hse hH (by omega) hp (by omega) g1 jd2.2.2.1 jd2.2.1 nf u3 u4
              obtain ⟨r8, M8, d1, d2, d3, d4⟩ := m_secOK (l := x) (g := g) (mOK_c (q5 s e2.2) (fMk_j z3)) (by omega) hp (by omega) g1 nf (by rw [Int.toNat_natCast, z3.1 3 _ (by unfold fMk; omega), q2.1 3 _ (by unfold fLy; omega)]; exact g3)
              have er : r7 = r8 := by have := a5'.trans d4.symm; omega
              rw [if_neg (show ¬ J 1 = J 0 by decide), if_neg (show ¬ J 1 = J 0 by decide), show gR C5 0 8 = H from (u3.2.2 0 8 (by unfold fC; omega)).trans hR, zb3 hH, ckt, x1, ckt, y1, u3.1 _ 6 (by unfold fC; omega), g2, a2', b2s, d2, b2s]
              have F2 : fr Eq0 SC C7 := fr_t (fr_w cps_2 (fun _ _ z => Eq0_456 z)) (fC_q a3')
              have G2 : fr Em0 SM M8 := fr_t G1 (fMj_q (fMk_j d3))
              have t7 : gI C7 0 12 = J 0 := by rw [a3'.1 0 12 (by unfold fC; omega), cps_12]
              have t8 : gI M8 0 11 = J 0 := by rw [d3.1 0 11 (by unfold fMk; omega), t6]
              subst er
              rcases a1' with y | y
              · subst y
                rw [if_pos rfl, if_pos rfl]
                exact ⟨_, _, _, rfl, rfl, Inv_e hInv F2 t7 a4' G2 t8 (by decide)⟩
              · subst y
                rw [if_neg (show ¬ J 1 = J 0 by decide), if_neg (show ¬ J 1 = J 0 by decide)]
                exact ⟨_, _, _, rfl, rfl, Inv_e hInv F2 t7 a4' G2 t8 (by decide)⟩
          · have hw : w = 3 := by rcases w1 with z | z; exact absurd (w3.mp z) nf; exact z
            have hr1 : r = 0 := by rcases q3 with z | z; exact z; exact absurd (q4.mp z) nf
            subst hw
            subst hr1
            rw [c_passesN (w := 3) (by decide), b2s, if_pos rfl, if_pos rfl, m_noR, b2s]
            exact ⟨_, _, _, rfl, rfl, Inv_e hInv (fr_w cps_2 (fun _ _ z => Eq0_456 z)) cps_12 (rSpans_cps jd.2.2.2) (fr_t fmgd (fr_t (fLy_q q2) (fr_pI (by unfold Em0; omega)))) (by rw [rII, if_pos ⟨rfl, rfl⟩]) (by decide)⟩
        · rw [if_neg e4, if_neg e4]
          exact no2
      · rw [if_neg e3, if_neg e3]
        exact no2
    · rw [if_neg e2, if_neg e2]
      exact no1
  · rw [if_neg e1, if_neg e1]
    exact no1
end
