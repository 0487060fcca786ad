/-! span, fewest. -/
theorem fC_q {S S' : zM} (f : fr fC S S') : fr Eq0 S S' := fr_w f (fun q k z => by unfold fC at z; unfold Eq0; omega)
theorem fM_q {S S' : zM} (f : fr fM S S') : fr Em0 S S' := fr_w f (fun q k z => by unfold fM at z; unfold Em0; omega)
theorem rSpans_cps {S : zM} {w : Int} (h : rSpans S) : rSpans (cps S w) := rSpans_c h (fun k => rLI) (fun k => cps_o (by omega))
section
variable {SC SM : zM} {t : Nat}
/-- after a question that used spans -/
theorem Inv_sp {SC1 SC' SM' : zM} (h : Inv SC SM t) (f1 : fr E456 SC SC1) (h12 : gI SC1 0 12 = J 0) (f2 : fr fC SC1 SC') (hs : rSpans SC') (f3 : fr (fun q _ => 14 ≤ q ∧ q ≤ 29) (mgd SM) SM') : Inv SC' SM' (t + 1) := by
  have e11 : gI SM' 0 11 = J 0 := by rw [f3.1 0 11 (by omega)]; exact mgd_11
  refine Inv_q h (fr_t (fr_w f1 (fun _ _ z => Eq0_456 z)) (fC_q f2)) (fr_t fmgd (fr_w f3 (fun q k z => by unfold Em0; omega))) hs ?_ (fun z => ?_)
  · rw [f2.1 0 12 (by unfold fC; omega), h12, e11]
  · rw [iI_of (a := 0) e11 (by decide) (by decide)] at z
    omega
theorem st_span (h : Inv SC SM t) (x1 x2 x3 x4 : Int32) : stp (gX11_span SC x1 x2 x3 x4) (gX12_span SM x1 x2 x3 x4) t := by
  have hSp := h.2.2.2.2.1
  obtain ⟨n, rfl, n1, n2⟩ := J_of x1
  obtain ⟨x, rfl, v1, v2⟩ := J_of x2
  obtain ⟨y, rfl, y1, y2⟩ := J_of x3
  have no2 : stp (some (J (-1), cps SC 2)) (some (J (-1), mno SM 2)) t := ⟨_, _, _, rfl, rfl, Inv_w h fr_cps (by decide) cps_12⟩
  unfold gX11_span gX12_span gX11_span_J38
  simp only [J_0, J_1, J_2, J_3, J_4, J_5, J_6, J_7, J_8, J_9, J_10, J_11, J_12, J_14, J_15, J_16, J_19, J_20, J_21, J_22, J_23, J_24, J_25, J_28, J_30, J_31, J_32, J_40, J_44, J_47, J_48, J_49, J_50, J_53, J_54, J_57, J_59, J_74, J_75, J_78, J_84, J_97, J_99, J_100, J_120, J_122, J_126, J_132, J_138, J_144, J_150, J_156, J_162, J_198, J_200, J_202, J_206, J_210, J_214, J_218, J_222, J_226, J_230, J_234, J_238, J_239, J_240, J_241, J_242, J_243, J_255, J_263, J_283, J_303, J_399, J_400, J_401, J_463, J_700, J_701, J_999, J_1000, J_2048, J_4095, J_4096, J_6000, J_9999, J_10000, J_65536, J_65537, J_2147483647, J_neg, m_good, ckt, b1s, b2s, lts, un2s, un3s, un4s, un5s, lmr, lml, lgr, lgl, m_no, c_passes0, c_passesN (w := 2) (by decide), if_true, if_neg (show ¬ J 1 = J 0 by decide)]
  rw [m_within n1 n2 (by decide) (by decide) (by decide) (by decide), b1s, iB0, m_within y1 y2 (by decide) (by decide) (by decide) (by decide), b1s, iB0, m_within v1 v2 (by decide) (by decide) y1 y2, b1s, iB0, iLT n1 n2 (by decide) (by decide), iLT (by decide) (by decide) n1 n2, iLT y1 y2 (by decide) (by decide), iLT (by decide) (by decide) y1 y2, iLT v1 v2 (by decide) (by decide), iLE v1 v2 y1 y2]
  by_cases e1 : 1 ≤ n ∧ n ≤ 40
  · rw [if_neg (show ¬ n < 1 by omega), if_neg (show ¬ 40 < n by omega), if_pos e1]
    by_cases e2 : 1 ≤ y ∧ y ≤ 10000
    · rw [if_neg (show ¬ y < 1 by omega), if_neg (show ¬ 10000 < y by omega), if_pos e2]
      by_cases e3 : 0 ≤ x ∧ x ≤ y
      · rw [if_neg (show ¬ x < 0 by omega), if_pos e3.2, if_pos e3]
        obtain ⟨N, rfl⟩ : ∃ N : Nat, n = N := ⟨n.toNat, by omega⟩
        obtain ⟨SM', r1, r2⟩ := m_spanOf (S := mgd SM) (n := N) (by omega) e3.1 e3.2 e2 x4
        have hs0 := rSpans_cps (w := 0) hSp
        have f3 : fr (fun q _ => 14 ≤ q ∧ q ≤ 29) (mgd SM) SM' := fr_w r2 (fun q k z => by unfold fM at z; omega)
        have b1' := spH_le (n := N) (x := x) (z := y - x)
        rw [r1, b2s]
        by_cases z : x4 = J 0
        · obtain ⟨SC', q1, q2, q3⟩ := c_least (n := N) hs0 (by omega) e3.1 e3.2 e2
          rw [if_pos z, if_pos z, iLE (by decide) (by decide) (by omega) (by omega), if_pos (by omega), q1, b2s]
          exact ⟨_, _, _, rfl, rfl, Inv_sp h fr_cps cps_12 q2 q3 f3⟩
        · obtain ⟨SC', q1, q2, q3⟩ := c_greatest (n := N) hs0 (by omega) e3.1 e3.2 e2
          rw [if_neg z, if_neg z, iLE (by decide) (by decide) (by omega) (by omega), if_pos (by omega), q1, b2s]
          exact ⟨_, _, _, rfl, rfl, Inv_sp h fr_cps cps_12 q2 q3 f3⟩
      · rw [if_neg e3]
        by_cases z : x < 0
        · rw [if_pos z]; exact no2
        · rw [if_neg z, if_neg (by omega)]; exact no2
    · rw [if_neg e2]
      by_cases z : y < 1
      · rw [if_pos z]; exact no2
      · rw [if_neg z, if_pos (show 10000 < y by omega)]; exact no2
  · rw [if_neg e1]
    by_cases z : n < 1
    · rw [if_pos z]; exact no2
    · rw [if_neg z, if_pos (show 40 < n by omega)]; exact no2
theorem few_L {x1 y1 x2 y2 : Int} (h1 : 0 ≤ x1 ∧ x1 ≤ y1 ∧ 1 ≤ y1 ∧ y1 ≤ 10000) (h2 : 0 ≤ x2 ∧ x2 ≤ y2 ∧ 1 ≤ y2 ∧ y2 ≤ 10000) {W1 W2 : Int} (hW1 : W1 * W1 = y1) (hW2 : W2 * W2 = y2) : ∀ (f i : Nat) (SC SM : zM), 1 ≤ i → i ≤ 41 → 42 ≤ f + i → rSpans SC → ∃ (r : Int32) (SC' SM' : zM), gX11_fewest_L128 (J x1) (J y1) (J x2) (J y2) f SC (J i) = some (r, SC') ∧ gX12_fewest_L116 (J W1) (J W2) (J x1) (J x2) f SM (J i) = some (r, SM') ∧ fr fC SC SC' ∧ fr fM SM SM' ∧ rSpans SC' := by
  intro f
  induction f with
  | zero => intro i SC SM g1 g2; omega
  | succ f ih =>
    intro i SC SM g1 g2 g3 hs
    unfold gX11_fewest_L128 gX12_fewest_L116
    simp only [J_0, J_1, J_2, J_3, J_4, J_5, J_6, J_7, J_8, J_9, J_10, J_11, J_12, J_14, J_15, J_16, J_19, J_20, J_21, J_22, J_23, J_24, J_25, J_28, J_30, J_31, J_32, J_40, J_44, J_47, J_48, J_49, J_50, J_53, J_54, J_57, J_59, J_74, J_75, J_78, J_84, J_97, J_99, J_100, J_120, J_122, J_126, J_132, J_138, J_144, J_150, J_156, J_162, J_198, J_200, J_202, J_206, J_210, J_214, J_218, J_222, J_226, J_230, J_234, J_238, J_239, J_240, J_241, J_242, J_243, J_255, J_263, J_283, J_303, J_399, J_400, J_401, J_463, J_700, J_701, J_999, J_1000, J_2048, J_4095, J_4096, J_6000, J_9999, J_10000, J_65536, J_65537, J_2147483647, J_neg]
    rw [iLT (by decide) (by decide) (by omega) (by omega), iLT (by decide) (by decide) (by omega) (by omega)]
    by_cases e : (40 : Int) < i
    · rw [if_pos e, if_pos e]
      exact ⟨_, SC, SM, rfl, rfl, fr_r, fr_r, hs⟩
    · have hi : 1 ≤ i ∧ i ≤ 40 := by omega
      obtain ⟨C1, a1, a2, a3⟩ := c_greatest (n := i) hs hi h1.1 h1.2.1 h1.2.2
      obtain ⟨C2, b1', b2', b3'⟩ := c_least (n := i) a3 hi h2.1 h2.2.1 h2.2.2
      obtain ⟨C3, c1, c2, c3⟩ := c_greatest (n := i) b3' hi h2.1 h2.2.1 h2.2.2
      obtain ⟨C4, d1, d2, d3⟩ := c_least (n := i) c3 hi h1.1 h1.2.1 h1.2.2
      obtain ⟨M1, p1, p2⟩ := m_spanOf (S := SM) (n := i) hi h1.1 h1.2.1 h1.2.2 (J 1)
      obtain ⟨M2, q1, q2⟩ := m_spanOf (S := M1) (n := i) hi h2.1 h2.2.1 h2.2.2 (J 0)
      obtain ⟨M3, r1, r2⟩ := m_spanOf (S := M2) (n := i) hi h2.1 h2.2.1 h2.2.2 (J 1)
      obtain ⟨M4, s1, s2⟩ := m_spanOf (S := M3) (n := i) hi h1.1 h1.2.1 h1.2.2 (J 0)
      rw [if_neg (show ¬ J 1 = J 0 by decide)] at p1 r1
      rw [if_pos rfl] at q1 s1
      simp only [J_neg, J_add, J_sub, J_mul, hW1, hW2]
      rw [if_neg e, if_neg e, a1, b2s, b1', b2s, p1, b2s, q1, b2s]
      by_cases z : J (spH i x1 (y1 - x1)) < J ((i - spH i (y2 - x2) x2 : Nat) : Int)
      · rw [if_pos z, if_pos z]
        exact ⟨_, C2, M2, rfl, rfl, fr_t a2 b2', fr_t p2 q2, b3'⟩
      · rw [if_neg z, if_neg z, c1, b2s, d1, b2s, r1, b2s, s1, b2s]
        by_cases w : J ((i - spH i (y1 - x1) x1 : Nat) : Int) ≤ J (spH i x2 (y2 - x2))
        · rw [if_pos w, if_pos w, show (i : Int) + 1 = ((i + 1 : Nat) : Int) by omega]
          obtain ⟨r, SC', SM', u1, u2, u3, u4, u5⟩ := ih (i + 1) C4 M4 (by omega) (by omega) (by omega) d3
          exact ⟨r, SC', SM', u1, u2, fr_t (fr_t (fr_t (fr_t a2 b2') c2) d2) u3, fr_t (fr_t (fr_t (fr_t p2 q2) r2) s2) u4, u5⟩
        · rw [if_neg w, if_neg w]
          exact ⟨_, C4, M4, rfl, rfl, fr_t (fr_t (fr_t a2 b2') c2) d2, fr_t (fr_t (fr_t p2 q2) r2) s2, d3⟩
theorem c_pairOnes {H s : Nat} (h : rSense SC SM H s) {x y : Int} (hx : 0 ≤ x ∧ x ≤ 400) (hy : 0 ≤ y ∧ y ≤ 400) : gX11_pairOnes SC (H + 7 + 31 * s) (J x) (J y) = some (J (pOd (nS SM s) (lvS SM s y - lvS SM s x) false 1)) := by
  obtain ⟨f1, nz, ho⟩ := c_fresh h
  have b1' := lvS_b h.1 hx.1 hx.2
  have b2' := lvS_b h.1 hy.1 hy.2
  have p1 := c_pairOdds (v := lvS SM s y - lvS SM s x) (g := 0) (a := 1) nz (by omega) (by omega) (Or.inl rfl) (by omega) (by omega)
  rw [show decide ((0 : Int) = 1) = false from rfl] at p1
  unfold gX11_pairOnes
  simp only [J_0, J_1, J_2, J_3, J_4, J_5, J_6, J_7, J_8, J_9, J_10, J_11, J_12, J_14, J_15, J_16, J_19, J_20, J_21, J_22, J_23, J_24, J_25, J_28, J_30, J_31, J_32, J_40, J_44, J_47, J_48, J_49, J_50, J_53, J_54, J_57, J_59, J_74, J_75, J_78, J_84, J_97, J_99, J_100, J_120, J_122, J_126, J_132, J_138, J_144, J_150, J_156, J_162, J_198, J_200, J_202, J_206, J_210, J_214, J_218, J_222, J_226, J_230, J_234, J_238, J_239, J_240, J_241, J_242, J_243, J_255, J_263, J_283, J_303, J_399, J_400, J_401, J_463, J_700, J_701, J_999, J_1000, J_2048, J_4095, J_4096, J_6000, J_9999, J_10000, J_65536, J_65537, J_2147483647, J_neg]
  rw [f1, b1s, lvS_C h hy.1 hy.2, b1s, lvS_C h hx.1 hx.2, b1s, J_sub, p1, b1s]
  rfl
end
section
variable {SC SM : zM} {t : Nat}
theorem st_fewest (h : Inv SC SM t) (x1 x2 x3 x4 : Int32) : stp (gX11_fewest SC x1 x2 x3 x4) (gX12_fewest SM x1 x2 x3 x4) t := by
  have hInv := h
  have hSp := h.2.2.2.2.1
  obtain ⟨⟨H, hh⟩, -⟩ := h
  obtain ⟨s, rfl, s1, s2⟩ := J_of x1
  obtain ⟨u, rfl, u1, u2⟩ := J_of x2
  obtain ⟨x, rfl, v1, v2⟩ := J_of x3
  obtain ⟨y, rfl, y1, y2⟩ := J_of x4
  have hg := rHall_q hh fr_r (fmgd (S := SM))
  have hg' := hg
  obtain ⟨⟨hH, hr, -⟩, ⟨m0, -⟩, ⟨c0, -⟩, -⟩ := hg'
  have a1 := c_isSense s1 s2 hH hr c0 m0
  have a2 := c_isSense u1 u2 hH hr c0 m0
  have b1' := m_isSense (S := mgd SM) s1 s2 m0
  have b2' := m_isSense (S := mgd SM) u1 u2 m0
  have no1 : stp (some (J (-1), cps SC 1)) (some (J (-1), mno SM 1)) t := ⟨_, _, _, rfl, rfl, Inv_w hInv fr_cps (by decide) cps_12⟩
  have no2 : stp (some (J (-1), cps (cps SC 0) 2)) (some (J (-1), mno SM 2)) t := ⟨_, _, _, rfl, rfl, Inv_w hInv cps_2 (by decide) cps_12⟩
  unfold gX11_fewest gX12_fewest gX11_fewest_J22 gX11_fewest_J49
  simp only [J_0, J_1, J_2, J_3, J_4, J_5, J_6, J_7, J_8, J_9, J_10, J_11, J_12, J_14, J_15, J_16, J_19, J_20, J_21, J_22, J_23, J_24, J_25, J_28, J_30, J_31, J_32, J_40, J_44, J_47, J_48, J_49, J_50, J_53, J_54, J_57, J_59, J_74, J_75, J_78, J_84, J_97, J_99, J_100, J_120, J_122, J_126, J_132, J_138, J_144, J_150, J_156, J_162, J_198, J_200, J_202, J_206, J_210, J_214, J_218, J_222, J_226, J_230, J_234, J_238, J_239, J_240, J_241, J_242, J_243, J_255, J_263, J_283, J_303, J_399, J_400, J_401, J_463, J_700, J_701, J_999, J_1000, J_2048, J_4095, J_4096, J_6000, J_9999, J_10000, J_65536, J_65537, J_2147483647, J_neg, m_good, ckt, b1s, b2s, lts, un2s, un3s, un4s, un5s, lmr, lml, lgr, lgl, a1, a2, b1', b2', iB0, m_no, c_passes0, c_passesN (w := 1) (by decide), c_passesN (w := 2) (by decide), c_isSize v1 v2, c_isSize y1 y2, if_true, if_neg (show ¬ J 1 = J 0 by decide)]
  rw [m_within v1 v2 (by decide) (by decide) (by decide) (by decide), b1s, iB0, m_within y1 y2 (by decide) (by decide) (by decide) (by decide), b1s, iB0]
  by_cases e1 : 0 ≤ s ∧ s < cnt (mgd SM) 0
  · rw [if_pos e1, if_pos e1]
    by_cases e2 : 0 ≤ u ∧ u < cnt (mgd SM) 0
    · rw [if_pos e2, if_pos e2]
      by_cases e3 : 1 ≤ x ∧ x ≤ 400
      · rw [if_pos e3, if_pos e3]
        by_cases e4 : 1 ≤ y ∧ y ≤ 400
        · rw [if_pos e4, if_pos e4]
          obtain ⟨s, rfl⟩ : ∃ P : Nat, s = P := ⟨s.toNat, by omega⟩
          obtain ⟨u, rfl⟩ : ∃ P : Nat, u = P := ⟨u.toNat, by omega⟩
          have fc := fr_w (cps_2 (S := SC) (v := 0) (w := 0)) (fun _ _ z => Eq0_456 z)
          have hq := rHall_q hh fc (fmgd (S := SM))
          have h6 := hq.2.1.1.2
          have hS := hq.2.2.2.1 s e1.2
          have hU := hq.2.2.2.1 u e2.2
          have k1 := fK_b hS.1
          have k2 := fK_b hU.1
          obtain ⟨f1, nz, ho⟩ := c_fresh hS
          obtain ⟨f2, nz', ho'⟩ := c_fresh hU
          rw [show mN (mgd SM) s (fK (mgd SM) s) = nS (mgd SM) s from rfl] at ho nz
          rw [show mN (mgd SM) u (fK (mgd SM) u) = nS (mgd SM) u from rfl] at ho' nz'
          have c1 := m_all (S := mgd SM) (s := s) (by omega) k1.2.1
          have c2 := m_all (S := mgd SM) (s := u) (by omega) k2.2.1
          rw [show mN (mgd SM) s (fK (mgd SM) s) = nS (mgd SM) s from rfl] at c1
          rw [show mN (mgd SM) u (fK (mgd SM) u) = nS (mgd SM) u from rfl] at c2
          have W1 := nAll_lo ho
          have W2 := nAll_lo ho'
          have X1 := nSq_hi ho
          have X2 := nSq_hi ho'
          have Y1 : 1 * 1 ≤ nAll (nS (mgd SM) s) * nAll (nS (mgd SM) s) := Int.mul_le_mul W1 W1 (by omega) (by omega)
          have Y2 : 1 * 1 ≤ nAll (nS (mgd SM) u) * nAll (nS (mgd SM) u) := Int.mul_le_mul W2 W2 (by omega) (by omega)
          obtain ⟨M1, p1, p2, p3, p4⟩ := m_pairs hS.1 (show s < 6 by omega) (x := x) (y := y) (by omega) (by omega)
          obtain ⟨h1, g1, g2, g3⟩ := mSense_25 hU.1 p2
          obtain ⟨M2, q1, q2, q3, q4⟩ := m_pairs h1 (show u < 6 by omega) (x := x) (y := y) (by omega) (by omega)
          rw [g2, g3, g3] at q4
          have d1 := c_pairOnes hS (x := x) (y := y) (by omega) (by omega)
          have d2 := c_pairOnes hU (x := x) (y := y) (by omega) (by omega)
          have t1 : ∀ {o : Nat → Int} (ho : nOK o) (l : Int), 0 ≤ pOd o l false 1 ∧ pOd o l false 1 ≤ nAll o * nAll o := fun ho l => ⟨nPab_lo ho (-l), nPab_hi ho (-l)⟩
          have t2 := t1 ho (lvS (mgd SM) s y - lvS (mgd SM) s x)
          have t3 := t1 ho' (lvS (mgd SM) u y - lvS (mgd SM) u x)
          have x1 : ixb (J (s : Int)) 6 = true := ixb_J (by omega) (by omega) (by decide)
          have z1 : ix (J (s : Int)) = s := by rw [ix_J (by omega) (by omega)]; omega
          have x2 : ixb (J (u : Int)) 6 = true := ixb_J (by omega) (by omega) (by decide)
          have z2 : ix (J (u : Int)) = u := by rw [ix_J (by omega) (by omega)]; omega
          have i1 : ix (J 1) = 1 := by decide
          have j1 : ixb (J 1) 3 = true := by decide
          have hs0 := rSpans_cps (w := 0) (rSpans_cps (w := 0) hSp)
          obtain ⟨r, SC', SM', r1, r2, r3, r4, r5⟩ := few_L (x1 := pOd (nS (mgd SM) s) (lvS (mgd SM) s y - lvS (mgd SM) s x) false 1) (x2 := pOd (nS (mgd SM) u) (lvS (mgd SM) u y - lvS (mgd SM) u x) false 1) ⟨t2.1, t2.2, by omega, by omega⟩ ⟨t3.1, t3.2, by omega, by omega⟩ rfl rfl FU 1 (cps (cps SC 0) 0) M2 (by omega) (by omega) (by have := FUs (n := 60) (by omega); omega) hs0
          rw [show J ((1 : Nat) : Int) = J 1 from rfl] at r1 r2
          rw [hq.1.2.1, zb3 hH]
          simp only [x1, x2, z1, z2, i1, j1, ckt, b1s, b2s, lts, un2s, un3s, un4s, un5s, lmr, lml, lgr, lgl, d1, d2, f1, f2, c_pairs nz, c_pairs nz', m_fullOf hS.1 (show s < 6 by omega), m_fullOf hU.1 (show u < 6 by omega), c1, c2, p1, q1, p4, q4]
          rw [r1, r2]
          have f3 : fr (fun q _ => 14 ≤ q ∧ q ≤ 29) (mgd SM) SM' := fr_t (fr_t (fr_w p2 (fun q k z => by omega)) (fr_w q2 (fun q k z => by omega))) (fr_w r4 (fun q k z => by unfold fM at z; omega))
          exact ⟨_, _, _, rfl, rfl, Inv_sp hInv cps_2 cps_12 r3 r5 f3⟩
        · rw [if_neg e4, if_neg e4]
          exact no2
      · rw [if_neg e3, if_neg e3]
        exact no2
    · rw [if_neg e2, if_neg e2]
      exact no1
  · rw [if_neg e1, if_neg e1]
    exact no1
end
