/-! lineOf, secondOf. -/
/-- what a search leaves -/
def srP (SC1 S0 SC' SM' : zM) : Prop := fr Eq0 SC1 SC' ∧ rSpans SC' ∧ fr Em0 S0 SM' ∧ ∃ w : Int, (w = 0 ∨ w = 6) ∧ gI SC' 0 12 = J w ∧ gI SM' 0 11 = J w
section
variable {SC1 B S0 : zM} {H s m : Nat} {p : Int} {o : Int32}
theorem lineOf_L (jd : jdB SC1 B H) (hs : (s : Int) < cnt B 0) (hp : 0 ≤ p ∧ p < 6) (nf : notFull B p) (h12 : gI SC1 0 12 = J 0) (h11 : gI S0 0 11 = J 0) : ∀ (n i : Nat) (C M : zM), i ≤ 101 → 101 < n + i → fr fC SC1 C → rSpans C → fr fMj S0 M → mOK M B s m p → ∃ (r : Int32) (SC' SM' : zM), gX11_lineOf_L40 (J p) (J s) o n C (J ((i : Int) - 50)) = some (r, SC') ∧ gX12_lineOf_L43 (J s) o n M (J i) = some (r, SM') ∧ srP SC1 S0 SC' SM' := by
  have hH := jd.1.1.1
  have hR := jd.1.1.2.1
  have s6 := jd.1.2.1.1
  have hse := jd.1.2.2.2.1 s hs
  have x2 : ixb (J (s : Int)) 6 = true := ixb_J (by omega) (by omega) (by decide)
  have y2 : ix (J (s : Int)) = s := by rw [ix_J (by omega) (by omega)]; omega
  intro n
  induction n with
  | zero => intro i C M g1 g2; omega
  | succ n ih =>
    intro i C M g1 g2 f hsp g ok
    have k12 : gI C 0 12 = J 0 := (f.1 0 12 (by unfold fC; omega)).trans h12
    have k11 : gI M 0 11 = J 0 := (g.1 0 11 (by unfold fMj; omega)).trans h11
    unfold gX11_lineOf_L40 gX12_lineOf_L43
    simp only [J_0, J_1, J_2, J_3, J_4, J_5, J_6, J_7, J_8, J_9, J_10, J_11, J_12, J_14, J_15, J_16, J_19, J_20, J_21, J_22, J_23, J_24, J_25, J_28, J_30, J_31, J_32, J_40, J_44, J_47, J_48, J_49, J_50, J_53, J_54, J_57, J_59, J_74, J_75, J_78, J_84, J_97, J_99, J_100, J_120, J_122, J_126, J_132, J_138, J_144, J_150, J_156, J_162, J_198, J_200, J_202, J_206, J_210, J_214, J_218, J_222, J_226, J_230, J_234, J_238, J_239, J_240, J_241, J_242, J_243, J_255, J_263, J_283, J_303, J_399, J_400, J_401, J_463, J_700, J_701, J_999, J_1000, J_2048, J_4095, J_4096, J_6000, J_9999, J_10000, J_65536, J_65537, J_2147483647, J_neg, J_neg, J_add, J_sub, J_mul]
    rw [iLT (by decide) (by decide) (by omega) (by omega), iLT (by decide) (by decide) (by omega) (by omega)]
    by_cases e : i = 101
    · rw [if_pos (by omega), if_pos (by omega), m_notR, b2s]
      exact ⟨_, _, _, rfl, rfl, fr_t (fC_q f) (fr_pI (by unfold Eq0; omega)), rSpans_c hsp (fun k => rLI) (fun k => by rw [rII, if_neg (by omega)]), fr_t (fMj_q g) (fr_pI (by unfold Em0; omega)), 6, Or.inr rfl, by rw [rII, if_pos ⟨rfl, rfl⟩], by rw [rII, if_pos ⟨rfl, rfl⟩]⟩
    · rw [if_neg (show ¬ (50 : Int) < (i : Int) - 50 by omega), if_neg (show ¬ (100 : Int) < (i : Int) by omega), show (i : Int) + 1 = ((i + 1 : Nat) : Int) by omega]
      have go : ∀ l : Int, -50 ≤ l ∧ l ≤ 50 → ∃ (r : Int32) (SC' SM' : zM), lm (gX11_lineOf_J59 C (J p) (J s) o (J ((i : Int) - 50)) (J l)) (un2 fun v4 S => gX11_lineOf_L40 (J p) (J s) o n S v4) = some (r, SC') ∧ (b2 (gX12_letsLine M (J s) (J l)) fun r11 S12 => if r11 = J 0 then gX12_lineOf_L43 (J s) o n S12 (J ((i + 1 : Nat) : Int)) else some (J l, S12)) = some (r, SM') ∧ srP SC1 S0 SC' SM' := by
        intro l hl
        obtain ⟨r5, C5, u1, u2, u3, u4, u5⟩ := c_lineLets (s := s) (p := p) (l := l) hse hH (by omega) hp (by omega) jd.2.2.1 jd.2.1 nf f hsp
        obtain ⟨r6, M6, z1, z2, z3, z4⟩ := m_lineOK (l := l) ok (by omega) (by omega) nf
        have er : r5 = r6 := by have := u5.trans z4.symm; omega
        subst er
        unfold gX11_lineOf_J59
        simp only [J_0, J_1, J_2, J_3, J_4, J_5, J_6, J_7, J_8, J_9, J_10, J_11, J_12, J_14, J_15, J_16, J_19, J_20, J_21, J_22, J_23, J_24, J_25, J_28, J_30, J_31, J_32, J_40, J_44, J_47, J_48, J_49, J_50, J_53, J_54, J_57, J_59, J_74, J_75, J_78, J_84, J_97, J_99, J_100, J_120, J_122, J_126, J_132, J_138, J_144, J_150, J_156, J_162, J_198, J_200, J_202, J_206, J_210, J_214, J_218, J_222, J_226, J_230, J_234, J_238, J_239, J_240, J_241, J_242, J_243, J_255, J_263, J_283, J_303, J_399, J_400, J_401, J_463, J_700, J_701, J_999, J_1000, J_2048, J_4095, J_4096, J_6000, J_9999, J_10000, J_65536, J_65537, J_2147483647, J_neg]
        rw [show gR C 0 8 = H from (f.2.2 0 8 (by unfold fC; omega)).trans hR, zb3 hH, ckt, x2, ckt, y2, u2, b2s, z2, b2s]
        rcases u1 with y | y
        · subst y
          rw [if_pos rfl, if_pos rfl, lmr, un2s, J_add, show (i : Int) - 50 + 1 = ((i + 1 : Nat) : Int) - 50 by omega]
          exact ih (i + 1) C5 M6 (by omega) (by omega) u3 u4 (fr_t g (fMk_j z3)) (mOK_c ok (fMk_j z3))
        · subst y
          rw [if_neg (show ¬ J 1 = J 0 by decide), if_neg (show ¬ J 1 = J 0 by decide), lml]
          exact ⟨_, _, _, rfl, rfl, fC_q u3, u4, fMj_q (fr_t g (fMk_j z3)), 0, Or.inl rfl, (u3.1 0 12 (by unfold fC; omega)).trans h12, (z3.1 0 11 (by unfold fMk; omega)).trans k11⟩
      by_cases z : o = J 0
      · rw [if_pos z, if_pos z]
        exact go _ (by omega)
      · rw [if_neg z, if_neg z, show (-((i : Int) - 50)) = 50 - (i : Int) by omega]
        exact go _ (by omega)
theorem secondOf_L (jd : jdB SC1 B H) (hs : (s : Int) < cnt B 0) (hp : 0 ≤ p ∧ p < 6) (nf : notFull B p) (h12 : gI SC1 0 12 = J 0) (h11 : gI S0 0 11 = J 0) {g : Int} (hg : g = 0 ∨ g = 1) : ∀ (n i : Nat) (C M : zM), i ≤ 101 → 101 < n + i → fr fC SC1 C → rSpans C → fr fMj S0 M → mOK M B s m p → gI M 3 (150 + p.toNat) = J g → ∃ (r : Int32) (SC' SM' : zM), gX11_secondOf_L54 (J p) (J s) o (J g) n C (J ((i : Int) - 50)) = some (r, SC') ∧ gX12_secondOf_L43 (J p) (J s) o n M (J i) = some (r, SM') ∧ srP SC1 S0 SC' SM' := by
  have hH := jd.1.1.1
  have hR := jd.1.1.2.1
  have s6 := jd.1.2.1.1
  have hse := jd.1.2.2.2.1 s hs
  have x2 : ixb (J (s : Int)) 6 = true := ixb_J (by omega) (by omega) (by decide)
  have y2 : ix (J (s : Int)) = s := by rw [ix_J (by omega) (by omega)]; omega
  intro n
  induction n with
  | zero => intro i C M g1 g2; omega
  | succ n ih =>
    intro i C M g1 g2 f hsp g' ok e150
    have k12 : gI C 0 12 = J 0 := (f.1 0 12 (by unfold fC; omega)).trans h12
    have k11 : gI M 0 11 = J 0 := (g'.1 0 11 (by unfold fMj; omega)).trans h11
    unfold gX11_secondOf_L54 gX12_secondOf_L43
    simp only [J_0, J_1, J_2, J_3, J_4, J_5, J_6, J_7, J_8, J_9, J_10, J_11, J_12, J_14, J_15, J_16, J_19, J_20, J_21, J_22, J_23, J_24, J_25, J_28, J_30, J_31, J_32, J_40, J_44, J_47, J_48, J_49, J_50, J_53, J_54, J_57, J_59, J_74, J_75, J_78, J_84, J_97, J_99, J_100, J_120, J_122, J_126, J_132, J_138, J_144, J_150, J_156, J_162, J_198, J_200, J_202, J_206, J_210, J_214, J_218, J_222, J_226, J_230, J_234, J_238, J_239, J_240, J_241, J_242, J_243, J_255, J_263, J_283, J_303, J_399, J_400, J_401, J_463, J_700, J_701, J_999, J_1000, J_2048, J_4095, J_4096, J_6000, J_9999, J_10000, J_65536, J_65537, J_2147483647, J_neg, J_neg, J_add, J_sub, J_mul]
    rw [iLT (by decide) (by decide) (by omega) (by omega), iLT (by decide) (by decide) (by omega) (by omega)]
    by_cases e : i = 101
    · rw [if_pos (by omega), if_pos (by omega), m_notR, b2s]
      exact ⟨_, _, _, rfl, rfl, fr_t (fC_q f) (fr_pI (by unfold Eq0; omega)), rSpans_c hsp (fun k => rLI) (fun k => by rw [rII, if_neg (by omega)]), fr_t (fMj_q g') (fr_pI (by unfold Em0; omega)), 6, Or.inr rfl, by rw [rII, if_pos ⟨rfl, rfl⟩], by rw [rII, if_pos ⟨rfl, rfl⟩]⟩
    · rw [if_neg (show ¬ (50 : Int) < (i : Int) - 50 by omega), if_neg (show ¬ (100 : Int) < (i : Int) by omega)]
      have go : ∀ l : Int, -50 ≤ l ∧ l ≤ 50 → ∃ (r : Int32) (SC' SM' : zM), lm (gX11_secondOf_J73 C (J p) (J s) o (J g) (J ((i : Int) - 50)) (J l)) (un2 fun v5 S => gX11_secondOf_L54 (J p) (J s) o (J g) n S v5) = some (r, SC') ∧ lm (gX12_secondOf_J67 M (J p) (J s) o (J (i : Int)) (J l)) (un2 fun v4 S => gX12_secondOf_L43 (J p) (J s) o n S v4) = some (r, SM') ∧ srP SC1 S0 SC' SM' := by
        intro l hl
        obtain ⟨r5, C5, u1, u2, u3, u4, u5⟩ := c_secondLets (s := s) (p := p) (l := l) (g := g) hse hH (by omega) hp (by omega) hg jd.2.2.1 jd.2.1 nf f hsp
        obtain ⟨r6, M6, z1, z2, z3, z4⟩ := m_secOK (l := l) (g := g) ok (by omega) hp (by omega) hg nf e150
        have er : r5 = r6 := by have := u5.trans z4.symm; omega
        subst er
        unfold gX11_secondOf_J73 gX12_secondOf_J67
        simp only [J_0, J_1, J_2, J_3, J_4, J_5, J_6, J_7, J_8, J_9, J_10, J_11, J_12, J_14, J_15, J_16, J_19, J_20, J_21, J_22, J_23, J_24, J_25, J_28, J_30, J_31, J_32, J_40, J_44, J_47, J_48, J_49, J_50, J_53, J_54, J_57, J_59, J_74, J_75, J_78, J_84, J_97, J_99, J_100, J_120, J_122, J_126, J_132, J_138, J_144, J_150, J_156, J_162, J_198, J_200, J_202, J_206, J_210, J_214, J_218, J_222, J_226, J_230, J_234, J_238, J_239, J_240, J_241, J_242, J_243, J_255, J_263, J_283, J_303, J_399, J_400, J_401, J_463, J_700, J_701, J_999, J_1000, J_2048, J_4095, J_4096, J_6000, J_9999, J_10000, J_65536, J_65537, J_2147483647, J_neg, J_neg, J_add, J_sub, J_mul]
        rw [show gR C 0 8 = H from (f.2.2 0 8 (by unfold fC; omega)).trans hR, zb3 hH, ckt, x2, ckt, y2, u2, b2s, z2, b2s]
        rcases u1 with y | y
        · subst y
          rw [if_pos rfl, if_pos rfl, lmr, lmr, un2s, un2s, show (i : Int) - 50 + 1 = ((i + 1 : Nat) : Int) - 50 by omega, show (i : Int) + 1 = ((i + 1 : Nat) : Int) by omega]
          exact ih (i + 1) C5 M6 (by omega) (by omega) u3 u4 (fr_t g' (fMk_j z3)) (mOK_c ok (fMk_j z3)) ((z3.1 3 _ (by unfold fMk; omega)).trans e150)
        · subst y
          rw [if_neg (show ¬ J 1 = J 0 by decide), if_neg (show ¬ J 1 = J 0 by decide), lml, lml]
          exact ⟨_, _, _, rfl, rfl, fC_q u3, u4, fMj_q (fr_t g' (fMk_j z3)), 0, Or.inl rfl, (u3.1 0 12 (by unfold fC; omega)).trans h12, (z3.1 0 11 (by unfold fMk; omega)).trans k11⟩
      by_cases z : o = J 0
      · rw [if_pos z, if_pos z]
        exact go _ (by omega)
      · rw [if_neg z, if_neg z, show (-((i : Int) - 50)) = 50 - (i : Int) by omega]
        exact go _ (by omega)
end
section
variable {SC SM : zM} {t : Nat}
theorem srP_stp {SC1 S0 SC' SM' : zM} {r : Int32} (h : Inv SC SM t) (f : fr E456 SC SC1) (g : fr Em0 SM S0) (k : srP SC1 S0 SC' SM') : stp (some (r, SC')) (some (r, SM')) t := by
  obtain ⟨k1, k2, k3, w, k4, k5, k6⟩ := k
  exact ⟨_, _, _, rfl, rfl, Inv_e h (fr_t (fr_w f (fun _ _ z => Eq0_456 z)) k1) k5 k2 (fr_t g k3) k6 (by omega)⟩
theorem st_lineOf (h : Inv SC SM t) (x1 x2 x3 : Int32) : stp (gX11_lineOf SC x1 x2 x3) (gX12_lineOf SM x1 x2 x3) t := by
  have hInv := h
  obtain ⟨⟨H, hh⟩, -⟩ := h
  obtain ⟨p, rfl, p1, p2⟩ := J_of x1
  obtain ⟨s, rfl, s1, s2⟩ := J_of x2
  have hg := rHall_q hh fr_r (fmgd (S := SM))
  obtain ⟨⟨hH, hr, -⟩, ⟨m0, m1, -⟩, ⟨c0, c1, -⟩, -⟩ := id hg
  have a1 := c_isSayer p1 p2 hH hr c1 m1
  have a2 := c_isSense s1 s2 hH hr c0 m0
  have b1' := m_isSayer (S := mgd SM) p1 p2 m1
  have b2' := m_isSense (S := mgd SM) s1 s2 m0
  have no1 : stp (some (J (-1000), cps SC 1)) (some (J (-1000), mno SM 1)) t := ⟨_, _, _, rfl, rfl, Inv_w hInv fr_cps (by decide) cps_12⟩
  unfold gX11_lineOf gX12_lineOf
  simp only [J_0, J_1, J_2, J_3, J_4, J_5, J_6, J_7, J_8, J_9, J_10, J_11, J_12, J_14, J_15, J_16, J_19, J_20, J_21, J_22, J_23, J_24, J_25, J_28, J_30, J_31, J_32, J_40, J_44, J_47, J_48, J_49, J_50, J_53, J_54, J_57, J_59, J_74, J_75, J_78, J_84, J_97, J_99, J_100, J_120, J_122, J_126, J_132, J_138, J_144, J_150, J_156, J_162, J_198, J_200, J_202, J_206, J_210, J_214, J_218, J_222, J_226, J_230, J_234, J_238, J_239, J_240, J_241, J_242, J_243, J_255, J_263, J_283, J_303, J_399, J_400, J_401, J_463, J_700, J_701, J_999, J_1000, J_2048, J_4095, J_4096, J_6000, J_9999, J_10000, J_65536, J_65537, J_2147483647, J_neg, m_good, ckt, b1s, b2s, lts, un2s, un3s, un4s, un5s, lmr, lml, lgr, lgl, a1, a2, b1', b2', iB0, m_not, c_passes0, c_passesN (w := 1) (by decide), if_true, if_neg (show ¬ J 1 = J 0 by decide)]
  by_cases e1 : 0 ≤ p ∧ p < cnt (mgd SM) 1
  · rw [if_pos e1, if_pos e1]
    by_cases e2 : 0 ≤ s ∧ s < cnt (mgd SM) 0
    · rw [if_pos e2, if_pos e2]
      obtain ⟨p, rfl⟩ : ∃ P : Nat, p = P := ⟨p.toNat, by omega⟩
      obtain ⟨s, rfl⟩ : ∃ P : Nat, s = P := ⟨s.toNat, by omega⟩
      have jd := jd_of hInv hh fr_r
      have jd2 := jd_of hInv hh (fr_cps (S := SC) (w := 0))
      have hp : 0 ≤ (p : Int) ∧ (p : Int) < 6 := by omega
      obtain ⟨w, w1, w2, w3⟩ := c_why jd hp
      obtain ⟨r, M1, m, q1, q2, q3, q4, q5⟩ := m_laysQ jd hp
      have k11 : gI M1 0 11 = J 0 := by rw [q2.1 0 11 (by unfold fLy; omega)]; exact mgd_11
      rw [w2, b1s, q1, b2s]
      by_cases nf : notFull (mgd SM) p
      · have hw := w3.mpr nf
        have hr1 := q4.mpr nf
        subst hw
        subst hr1
        rw [c_passes0, b2s, if_neg (show ¬ J 1 = J 0 by decide), if_neg (show ¬ J 1 = J 0 by decide)]
        obtain ⟨r', SC', SM', z1, z2, z3⟩ := lineOf_L (o := x3) jd2 e2.2 hp nf cps_12 k11 FU 0 _ M1 (by omega) (by have := FUs (n := 120) (by omega); omega) fr_r jd2.2.2.2 fr_r (q5 s e2.2)
        rw [show ((0 : Nat) : Int) - 50 = -50 from rfl] at z1
        rw [show J ((0 : Nat) : Int) = J 0 from rfl] at z2
        rw [z1, z2]
        exact srP_stp hInv fr_cps (fr_t fmgd (fLy_q q2)) z3
      · have hw : w = 3 := by rcases w1 with z | z; exact absurd (w3.mp z) nf; exact z
        have hr1 : r = 0 := by rcases q3 with z | z; exact z; exact absurd (q4.mp z) nf
        subst hw
        subst hr1
        rw [c_passesN (w := 3) (by decide), b2s, if_pos rfl, if_pos rfl, m_notR, b2s]
        exact ⟨_, _, _, rfl, rfl, Inv_e hInv fcps cps_12 (rSpans_cps jd.2.2.2) (fr_t fmgd (fr_t (fLy_q q2) (fr_pI (by unfold Em0; omega)))) (by rw [rII, if_pos ⟨rfl, rfl⟩]) (by decide)⟩
    · rw [if_neg e2, if_neg e2]
      exact no1
  · rw [if_neg e1, if_neg e1]
    exact no1
theorem st_secondOf (h : Inv SC SM t) (x1 x2 x3 : Int32) : stp (gX11_secondOf SC x1 x2 x3) (gX12_secondOf SM x1 x2 x3) t := by
  have hInv := h
  obtain ⟨⟨H, hh⟩, -⟩ := h
  obtain ⟨p, rfl, p1, p2⟩ := J_of x1
  obtain ⟨s, rfl, s1, s2⟩ := J_of x2
  have hg := rHall_q hh fr_r (fmgd (S := SM))
  obtain ⟨⟨hH, hr, -⟩, ⟨m0, m1, -⟩, ⟨c0, c1, -⟩, -⟩ := id hg
  have a1 := c_isSayer p1 p2 hH hr c1 m1
  have a2 := c_isSense s1 s2 hH hr c0 m0
  have b1' := m_isSayer (S := mgd SM) p1 p2 m1
  have b2' := m_isSense (S := mgd SM) s1 s2 m0
  have no1 : stp (some (J (-1000), cps SC 1)) (some (J (-1000), mno SM 1)) t := ⟨_, _, _, rfl, rfl, Inv_w hInv fr_cps (by decide) cps_12⟩
  unfold gX11_secondOf gX12_secondOf gX11_secondOf_J26
  simp only [J_0, J_1, J_2, J_3, J_4, J_5, J_6, J_7, J_8, J_9, J_10, J_11, J_12, J_14, J_15, J_16, J_19, J_20, J_21, J_22, J_23, J_24, J_25, J_28, J_30, J_31, J_32, J_40, J_44, J_47, J_48, J_49, J_50, J_53, J_54, J_57, J_59, J_74, J_75, J_78, J_84, J_97, J_99, J_100, J_120, J_122, J_126, J_132, J_138, J_144, J_150, J_156, J_162, J_198, J_200, J_202, J_206, J_210, J_214, J_218, J_222, J_226, J_230, J_234, J_238, J_239, J_240, J_241, J_242, J_243, J_255, J_263, J_283, J_303, J_399, J_400, J_401, J_463, J_700, J_701, J_999, J_1000, J_2048, J_4095, J_4096, J_6000, J_9999, J_10000, J_65536, J_65537, J_2147483647, J_neg, m_good, ckt, b1s, b2s, lts, un2s, un3s, un4s, un5s, lmr, lml, lgr, lgl, a1, a2, b1', b2', iB0, m_not, c_passes0, c_passesN (w := 1) (by decide), if_true, if_neg (show ¬ J 1 = J 0 by decide)]
  by_cases e1 : 0 ≤ p ∧ p < cnt (mgd SM) 1
  · rw [if_pos e1, if_pos e1]
    by_cases e2 : 0 ≤ s ∧ s < cnt (mgd SM) 0
    · rw [if_pos e2, if_pos e2]
      obtain ⟨p, rfl⟩ : ∃ P : Nat, p = P := ⟨p.toNat, by omega⟩
      obtain ⟨s, rfl⟩ : ∃ P : Nat, s = P := ⟨s.toNat, by omega⟩
      have jd := jd_of hInv hh fr_r
      have jd2 := jd_of hInv hh (fr_cps (S := SC) (w := 0))
      have hp : 0 ≤ (p : Int) ∧ (p : Int) < 6 := by omega
      have x1 : ixb (J (p : Int)) 6 = true := ixb_J (by omega) (by omega) (by decide)
      have y1 : ix (J (p : Int)) = p := by rw [ix_J (by omega) (by omega)]; omega
      obtain ⟨w, w1, w2, w3⟩ := c_why jd hp
      obtain ⟨r, M1, m, q1, q2, q3, q4, q5⟩ := m_laysQ jd hp
      have k11 : gI M1 0 11 = J 0 := by rw [q2.1 0 11 (by unfold fLy; omega)]; exact mgd_11
      rw [w2, b1s, q1, b2s]
      by_cases nf : notFull (mgd SM) p
      · have hw := w3.mpr nf
        have hr1 := q4.mpr nf
        subst hw
        subst hr1
        obtain ⟨g, g1, g2, g3⟩ := jd_g jd2 e1.2
        rw [c_passes0, b2s, if_neg (show ¬ J 1 = J 0 by decide), if_neg (show ¬ J 1 = J 0 by decide), jd2.1.1.2.1, zb3 hH, ckt, x1, ckt, y1, g2]
        obtain ⟨r', SC', SM', z1, z2, z3⟩ := secondOf_L (o := x3) jd2 e2.2 hp nf cps_12 k11 g1 FU 0 _ M1 (by omega) (by have := FUs (n := 120) (by omega); omega) fr_r jd2.2.2.2 fr_r (q5 s e2.2) (by rw [Int.toNat_natCast, q2.1 3 _ (by unfold fLy; omega)]; exact g3)
        rw [show ((0 : Nat) : Int) - 50 = -50 from rfl] at z1
        rw [show J ((0 : Nat) : Int) = J 0 from rfl] at z2
        rw [z1, z2]
        exact srP_stp hInv fr_cps (fr_t fmgd (fLy_q q2)) z3
      · have hw : w = 3 := by rcases w1 with z | z; exact absurd (w3.mp z) nf; exact z
        have hr1 : r = 0 := by rcases q3 with z | z; exact z; exact absurd (q4.mp z) nf
        subst hw
        subst hr1
        rw [c_passesN (w := 3) (by decide), b2s, if_pos rfl, if_pos rfl, m_notR, b2s]
        exact ⟨_, _, _, rfl, rfl, Inv_e hInv fcps cps_12 (rSpans_cps jd.2.2.2) (fr_t fmgd (fr_t (fLy_q q2) (fr_pI (by unfold Em0; omega)))) (by rw [rII, if_pos ⟨rfl, rfl⟩]) (by decide)⟩
    · rw [if_neg e2, if_neg e2]
      exact no1
  · rw [if_neg e1, if_neg e1]
    exact no1
end
