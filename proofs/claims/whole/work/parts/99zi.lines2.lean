/-! Lines of plans and of pay, by both. -/
def mPl (M : zM) : Option zM := if gI M 4 240 = J 4 then b1 (gX12_wrong M (J 5) (gI M 0 4)) fun S24 => b1 (gX12_next S24) fun S26 => b1 (gX12_planLine S26) fun S28 => some S28 else b1 (gX12_next M) fun S20 => b1 (gX12_planLine S20) fun S22 => some S22
def mPa (M : zM) : Option zM := if gI M 4 241 = J 4 then b1 (gX12_wrong M (J 5) (gI M 0 4)) fun S13 => b1 (gX12_next S13) fun S15 => b1 (gX12_payLine S15) fun S17 => some S17 else b1 (gX12_next M) fun S9 => b1 (gX12_payLine S9) fun S11 => some S11
section
variable {b : Nat → Int} {n T k : Nat} {C M : zM} {G ns np nl ny : Nat}
theorem b_planLine (h : gI M 0 13 = J 1) : gX12_planLine M = some M := by
  unfold gX12_planLine
  simp only [J_0, J_1, J_2, J_3, J_4, J_5, J_6, J_7, J_8, J_9, J_10, J_11, J_12, J_14, J_15, J_16, J_19, J_20, J_21, J_22, J_23, J_24, J_25, J_28, J_30, J_31, J_32, J_40, J_44, J_47, J_48, J_49, J_50, J_53, J_54, J_57, J_59, J_74, J_75, J_78, J_84, J_97, J_99, J_100, J_120, J_122, J_126, J_132, J_138, J_144, J_150, J_156, J_162, J_198, J_200, J_202, J_206, J_210, J_214, J_218, J_222, J_226, J_230, J_234, J_238, J_239, J_240, J_241, J_242, J_243, J_255, J_263, J_283, J_303, J_399, J_400, J_401, J_463, J_700, J_701, J_999, J_1000, J_2048, J_4095, J_4096, J_6000, J_9999, J_10000, J_65536, J_65537, J_2147483647, J_neg]
  rw [h, if_neg (by decide)]
theorem b_payLine (h : gI M 0 13 = J 1) : gX12_payLine M = some M := by
  unfold gX12_payLine
  simp only [J_0, J_1, J_2, J_3, J_4, J_5, J_6, J_7, J_8, J_9, J_10, J_11, J_12, J_14, J_15, J_16, J_19, J_20, J_21, J_22, J_23, J_24, J_25, J_28, J_30, J_31, J_32, J_40, J_44, J_47, J_48, J_49, J_50, J_53, J_54, J_57, J_59, J_74, J_75, J_78, J_84, J_97, J_99, J_100, J_120, J_122, J_126, J_132, J_138, J_144, J_150, J_156, J_162, J_198, J_200, J_202, J_206, J_210, J_214, J_218, J_222, J_226, J_230, J_234, J_238, J_239, J_240, J_241, J_242, J_243, J_255, J_263, J_283, J_303, J_399, J_400, J_401, J_463, J_700, J_701, J_999, J_1000, J_2048, J_4095, J_4096, J_6000, J_9999, J_10000, J_65536, J_65537, J_2147483647, J_neg]
  rw [h, if_neg (by decide)]
theorem fHall_P {q : Nat} (h1 : G ≤ q) (h2 : q ≤ G + 212) {A B : zM} (f : fr (fPc q) A B) : fr (fHall G) A B := fr_w f (fun a k z => by unfold fPc at z; unfold fHall; rcases z with z | z; exact Or.inl z; exact Or.inr (by omega))
theorem fRoom_P {B l Z : Nat} {A A' : zM} (f : fr (fPm B l Z) A A') : fr fRoom A A' := fr_w f (fun q k z => by unfold fPm f4p at z; unfold fRoom; rcases z with z | z; exact Or.inl z; exact Or.inr z.1)
theorem lP_E {q l : Nat} {z : Int} (h : Ep q l z C M) : lP C M q l ∧ gI M 4 240 = J (z + 1) := by
  obtain ⟨f, ⟨h1, h2⟩, g0, g1, g2, g3, g4⟩ := h
  have e0 := h1 0 (by decide)
  have e1 := h1 1 (by decide)
  have e2 := h1 2 (by decide)
  have e3 := h1 3 (by decide)
  have e4 := h1 4 (by decide)
  have g1' := g1 (by decide)
  have g2' := g2 (by decide)
  have g3' := g3 (by decide)
  have g4' := g4 (by decide)
  exact ⟨⟨f 0, f 1, f 2, f 3, f 4, g0, by omega, g3', g4'.1, g4'.2, ⟨e0.1, e1.1, e2.1, e3.1, e4.1⟩, e0.2, e1.2, e2.2, e3.2, e4.2⟩, h2⟩
theorem aP_E {q l : Nat} {z : Int} (h : Ea q l z C M) : aP C M q l ∧ gI M 4 241 = J (z + 1) := by
  obtain ⟨f, ⟨h1, h2⟩, g0, g4⟩ := h
  have e0 := h1 0 (by decide)
  have e1 := h1 1 (by decide)
  have e2 := h1 2 (by decide)
  have e3 := h1 3 (by decide)
  have e4 := h1 4 (by decide)
  exact ⟨⟨⟨f 0, g0 0 (by decide) (by decide), e0.1, e0.2⟩, ⟨f 1, g0 1 (by decide) (by decide), e1.1, e1.2⟩, ⟨f 2, g0 2 (by decide) (by decide), e2.1, e2.2⟩, ⟨f 3, g0 3 (by decide) (by decide), e3.1, e3.2⟩, ⟨f 4, g4 (by decide), e4.1, e4.2⟩⟩, h2⟩
theorem rd_plan (h : rdS b n T C M k) (hG : G = 6 ∨ G = 243) (hR : gR C 2 6 = G) (hB : bld C M G ns np nl ny) : two b n T k (fHall G) fRoom C M (gX7_readPlan C) (mPl M) (fun C' M' => bld C' M' G ns np (nl + 1) ny) := by
  obtain ⟨⟨⟨n1, n2, n3, n4⟩, ⟨c6, c7, c8, c9⟩, m238, m239, m240, m241⟩, hI, ⟨hz1, hz2⟩, hN⟩ := hB
  unfold gX7_readPlan mPl
  simp only [J_0, J_1, J_2, J_3, J_4, J_5, J_6, J_7, J_8, J_9, J_10, J_11, J_12, J_14, J_15, J_16, J_19, J_20, J_21, J_22, J_23, J_24, J_25, J_28, J_30, J_31, J_32, J_40, J_44, J_47, J_48, J_49, J_50, J_53, J_54, J_57, J_59, J_74, J_75, J_78, J_84, J_97, J_99, J_100, J_120, J_122, J_126, J_132, J_138, J_144, J_150, J_156, J_162, J_198, J_200, J_202, J_206, J_210, J_214, J_218, J_222, J_226, J_230, J_234, J_238, J_239, J_240, J_241, J_242, J_243, J_255, J_263, J_283, J_303, J_399, J_400, J_401, J_463, J_700, J_701, J_999, J_1000, J_2048, J_4095, J_4096, J_6000, J_9999, J_10000, J_65536, J_65537, J_2147483647, J_neg]
  rw [hR, zb3 hG, ckt, c8, m240, iLT (by omega) (by omega) (by decide) (by decide), iEQ (by omega) (by omega) (by decide) (by decide)]
  by_cases e : nl = 4
  · obtain ⟨C1, M1, q1, q2, q3, q4, q5⟩ := rd_many h (X := gX12_planLine) (fun h => b_planLine h)
    rw [if_neg (by omega), q1, b2s, show isB (J 0) = true by decide, ckt, if_pos (by omega), q2]
    exact ⟨0, _, _, rfl, rfl, fHall_2 q3, fRoom_2 q4, Or.inr ⟨rfl, q5⟩⟩
  · obtain ⟨C1, M1, k1, a1, a2, a3, a4, a5, -, a6, -⟩ := rd_step h
    have hR1 : gR C1 2 6 = G := (a4.2.2 2 6 (by unfold fC2; omega)).trans hR
    have c81 : gI C1 G 8 = J nl := (a4.1 G 8 (by unfold fC2; omega)).trans c8
    have m2401 : gI M1 4 240 = J nl := (a5.1 4 240 (by unfold fNx; omega)).trans m240
    have xs : ixb (J (nl : Int)) 4 = true := ixb_J (by omega) (by omega) (by decide)
    have ys : ix (J (nl : Int)) = nl := by rw [ix_J (by omega) (by omega)]; omega
    generalize hq : G + 205 + 1 * nl = q
    have h13 := a3.2.2.2.2.2.2
    have ml : gX12_planLine M1 = b1 (gX12_newName M1 (J 2) (J nl)) fun S3 => if gI S3 0 13 = J 0 then chM nl S3 else some S3 := by
      unfold gX12_planLine chM
      simp only [J_0, J_1, J_2, J_3, J_4, J_5, J_6, J_7, J_8, J_9, J_10, J_11, J_12, J_14, J_15, J_16, J_19, J_20, J_21, J_22, J_23, J_24, J_25, J_28, J_30, J_31, J_32, J_40, J_44, J_47, J_48, J_49, J_50, J_53, J_54, J_57, J_59, J_74, J_75, J_78, J_84, J_97, J_99, J_100, J_120, J_122, J_126, J_132, J_138, J_144, J_150, J_156, J_162, J_198, J_200, J_202, J_206, J_210, J_214, J_218, J_222, J_226, J_230, J_234, J_238, J_239, J_240, J_241, J_242, J_243, J_255, J_263, J_283, J_303, J_399, J_400, J_401, J_463, J_700, J_701, J_999, J_1000, J_2048, J_4095, J_4096, J_6000, J_9999, J_10000, J_65536, J_65537, J_2147483647, J_neg, show ixb (J 240) 463 = true by decide, show ix (J 240) = 240 by decide, ckt]
      rw [h13, if_pos rfl, m2401]
    rw [if_pos (by omega), a1, b1s, if_neg (by omega), a2, b1s, ml]
    generalize hC3 : pI C1 G 8 (J ((nl + 1 : Nat) : Int)) = C3
    have f3 : fr (fun a k => a = G ∧ k = 8) C1 C3 := by rw [← hC3]; exact fr_pI ⟨rfl, rfl⟩
    have hR3 : gR C3 2 6 = G := (f3.2.2 2 6 (by omega)).trans hR1
    have r3 : rdS b n T C3 M1 k1 := rdS_c6 a3 (fr_w f3 (fun q k z => by omega))
    have N3 : bN C3 M1 G (ns + np + nl + ny) ns := bN_c hN (by rw [f3.1 G 10 (by omega), a4.1 G 10 (by unfold fC2; omega)]) (fun v => by rw [f3.2.1 _ v (by omega), a4.2.1 _ v (by unfold fC2; omega)]) (fun v => by rw [f3.1 _ v (by omega), a4.1 _ v (by unfold fC2; omega)]) (fun e _ _ => a5.1 4 e (by unfold fNx; omega))
    obtain ⟨r4, C4, M4, e1, e2, e3, e4, e5⟩ := rd_newName r3 N3 (by omega) hG hR3 (so := 2) (x := nl) (ms' := ns) (by decide) (Nat.le_refl ns) n1 (fun w => absurd w (by decide))
    rw [if_neg (by decide)] at e1
    have FC4 : fr (fHall G) C C4 := fr_t (fHall_2 a4) (fr_t (fr_w f3 (fun a k z => Or.inr (by omega))) (fHall_N e3))
    have FM4 : fr fRoom M M4 := fr_t (fRoom_2 (fNx_2 a5)) (fRoom_N e4)
    simp only [hR1, zb3 hG, c81, xs, ys, ckt, b1s, b2s, lts, un2s, un3s, un4s, un5s, lmr, lml, lgr, lgl, hq, J_add, show ((nl : Int) + 1) = ((nl + 1 : Nat) : Int) by omega, hC3, J_neg, e1]
    rw [e2, b1s]
    have clq : ∀ S : zM, (b1 (gX7_isWord S 10019) fun r10 => if r10 = J 0 then b1 (gX7_isWord S 10020) fun r11 => if r11 = J 0 then b1 (gX7_isWord S 10021) fun r12 => if r12 = J 0 then gX7_readPlan_J104 S q (J (-1)) else gX7_readPlan_J104 S q (J 2) else gX7_readPlan_J104 S q (J 1) else gX7_readPlan_J104 S q (J 0)) = chC q S := fun S => rfl
    simp only [clq]
    rcases e5 with ⟨u, ⟨k4, u0, u2⟩, N4⟩ | ⟨u, u2⟩
    · subst u
      rw [if_neg (show ¬ J 1 = J 0 by decide), u2.2.2.2.2.2.2, if_pos rfl]
      have m4 : ∀ e, e < 242 → gI M4 4 e = gI M 4 e := fun e he => by
        rw [e4.1 4 e (by unfold fMN fM2; omega), a5.1 4 e (by unfold fNx; omega)]
      have c4 : ∀ a j, 6 ≤ a → ¬ (a = G ∧ (j = 8 ∨ j = 10)) → ¬ a = G + 5 → ¬ a = G + 6 → gI C4 a j = gI C a j := fun a j h1 h2 h3 h4 => by
        rw [e3.1 a j (by unfold fCN fC2; omega), f3.1 a j (by omega), a4.1 a j (by unfold fC2; omega)]
      obtain ⟨r6, C6, M6, i1, i2, i3, i4, i5⟩ := rd_how u2 (q := q) (l := nl) (z := nl) (by omega) (by omega) (by rw [m4 240 (by omega), m240])
      rw [i1, i2, b1s]
      have FC6 : fr (fHall G) C C6 := fr_t FC4 (fHall_P (by omega) (by omega) i3)
      have FM6 : fr fRoom M M6 := fr_t FM4 (fRoom_P i4)
      rcases i5 with ⟨u, ⟨k6, w0, w2⟩, w3⟩ | ⟨u, w2⟩
      · subst u
        obtain ⟨w3, w4⟩ := lP_E w3
        have oC : ∀ a j, 6 ≤ a → ¬ (a = G ∧ (j = 8 ∨ j = 10)) → ¬ a = G + 5 → ¬ a = G + 6 → ¬ a = q → gI C6 a j = gI C a j := fun a j h1 h2 h3 h4 h5 => by
          rw [i3.1 a j (by unfold fPc fC2; omega), c4 a j h1 h2 h3 h4]
        have oM : ∀ e, e < 242 → ¬ e = 240 → ¬ kLm nl e → gI M6 4 e = gI M 4 e := fun e h1 h2 h3 => by
          rw [i4.1 4 e (fun z => by unfold fPm f4p fM2 kBm at z; unfold kLm at h3; omega), m4 e h1]
        refine ⟨1, _, _, rfl, rfl, FC6, FM6, Or.inl ⟨rfl, ⟨k6, by omega, w2⟩, ⟨⟨n1, n2, by omega, n4⟩, ⟨?_, ?_, ?_, ?_⟩, ?_, ?_, ?_, ?_⟩, ?_, ⟨fun s h1 h2 => ?_, fun p h1 h2 => ?_⟩, ?_⟩⟩
        · rw [oC G 6 (by omega) (by omega) (by omega) (by omega) (by omega), c6]
        · rw [oC G 7 (by omega) (by omega) (by omega) (by omega) (by omega), c7]
        · rw [i3.1 G 8 (by unfold fPc fC2; omega), e3.1 G 8 (by unfold fCN fC2; omega), ← hC3, rII, if_pos ⟨rfl, rfl⟩]
        · rw [oC G 9 (by omega) (by omega) (by omega) (by omega) (by omega), c9]
        · rw [oM 238 (by omega) (by omega) (by unfold kLm; omega), m238]
        · rw [oM 239 (by omega) (by omega) (by unfold kLm; omega), m239]
        · rw [w4]; rfl
        · rw [oM 241 (by omega) (by omega) (by unfold kLm; omega), m241]
        · have old : bIt C6 M6 G ns np nl ny := by
            refine bIt_c hI (fun a j z => ?_) (fun e z => ?_)
            · rcases z with ⟨s, z1, z2⟩ | ⟨p, z1, z2⟩ | ⟨l, z1, z2⟩ | ⟨y, z1, z2⟩
              · exact oC a j (by omega) (by omega) (by omega) (by omega) (by omega)
              · exact oC a j (by omega) (by omega) (by omega) (by omega) (by omega)
              · exact oC a j (by omega) (by omega) (by omega) (by omega) (by omega)
              · exact oC a j (by omega) (by omega) (by omega) (by omega) (by omega)
            · rcases z with ⟨s, z1, z2⟩ | ⟨p, z1, z2⟩ | ⟨l, z1, z2⟩ | ⟨y, z1, z2⟩
              · unfold kMt kWm at z2
                exact oM e (by omega) (by omega) (by unfold kLm; omega)
              · unfold kYm at z2
                exact oM e (by omega) (by omega) (by unfold kLm; omega)
              · unfold kLm at z2
                exact oM e (by omega) (by omega) (by unfold kLm; omega)
              · unfold kAm at z2
                exact oM e (by omega) (by omega) (by unfold kLm; omega)
          obtain ⟨o1, o2, o3, o4⟩ := old
          refine ⟨o1, o2, fun l hl => ?_, o4⟩
          by_cases z : l = nl
          · rw [z, hq]
            exact w3
          · exact o3 l (by omega)
        · exact ⟨(oM s (by omega) (by omega) (by unfold kLm; omega)).trans (hz1 s h1 h2).1, fun j hj => (oM _ (by omega) (by omega) (by unfold kLm; omega)).trans ((hz1 s h1 h2).2 j hj)⟩
        · obtain ⟨z1, z2, z3, z4, z5, z6, z7⟩ := hz2 p h1 h2
          exact ⟨(oM _ (by omega) (by omega) (by unfold kLm; omega)).trans z1, (oM _ (by omega) (by omega) (by unfold kLm; omega)).trans z2, (oM _ (by omega) (by omega) (by unfold kLm; omega)).trans z3, (oM _ (by omega) (by omega) (by unfold kLm; omega)).trans z4, (oM _ (by omega) (by omega) (by unfold kLm; omega)).trans z5, (oM _ (by omega) (by omega) (by unfold kLm; omega)).trans z6, fun j hj => (oM _ (by omega) (by omega) (by unfold kLm; omega)).trans (z7 j hj)⟩
        · rw [show ns + np + (nl + 1) + ny = ns + np + nl + ny + 1 by omega]
          exact bN_c N4 (i3.1 G 10 (by unfold fPc fC2; omega)) (fun v => i3.2.1 _ v (by unfold fPc fC2; omega)) (fun v => i3.1 _ v (by unfold fPc fC2; omega)) (fun e h1 h2 => i4.1 4 e (by unfold fPm f4p fM2 kBm; omega))
      · subst u
        exact ⟨0, _, _, rfl, rfl, FC6, FM6, Or.inr ⟨rfl, w2⟩⟩
    · subst u
      rw [if_pos rfl, u2.1, if_neg (by decide), b1s]
      exact ⟨0, _, _, rfl, rfl, FC4, FM4, Or.inr ⟨rfl, u2⟩⟩
theorem rd_pay (h : rdS b n T C M k) (hG : G = 6 ∨ G = 243) (hR : gR C 2 6 = G) (hB : bld C M G ns np nl ny) : two b n T k (fHall G) fRoom C M (gX7_readPay C) (mPa M) (fun C' M' => bld C' M' G ns np nl (ny + 1)) := by
  obtain ⟨⟨⟨n1, n2, n3, n4⟩, ⟨c6, c7, c8, c9⟩, m238, m239, m240, m241⟩, hI, ⟨hz1, hz2⟩, hN⟩ := hB
  unfold gX7_readPay mPa
  simp only [J_0, J_1, J_2, J_3, J_4, J_5, J_6, J_7, J_8, J_9, J_10, J_11, J_12, J_14, J_15, J_16, J_19, J_20, J_21, J_22, J_23, J_24, J_25, J_28, J_30, J_31, J_32, J_40, J_44, J_47, J_48, J_49, J_50, J_53, J_54, J_57, J_59, J_74, J_75, J_78, J_84, J_97, J_99, J_100, J_120, J_122, J_126, J_132, J_138, J_144, J_150, J_156, J_162, J_198, J_200, J_202, J_206, J_210, J_214, J_218, J_222, J_226, J_230, J_234, J_238, J_239, J_240, J_241, J_242, J_243, J_255, J_263, J_283, J_303, J_399, J_400, J_401, J_463, J_700, J_701, J_999, J_1000, J_2048, J_4095, J_4096, J_6000, J_9999, J_10000, J_65536, J_65537, J_2147483647, J_neg]
  rw [hR, zb3 hG, ckt, c9, m241, iLT (by omega) (by omega) (by decide) (by decide), iEQ (by omega) (by omega) (by decide) (by decide)]
  by_cases e : ny = 4
  · obtain ⟨C1, M1, q1, q2, q3, q4, q5⟩ := rd_many h (X := gX12_payLine) (fun h => b_payLine h)
    rw [if_neg (by omega), q1, b2s, show isB (J 0) = true by decide, ckt, if_pos (by omega), q2]
    exact ⟨0, _, _, rfl, rfl, fHall_2 q3, fRoom_2 q4, Or.inr ⟨rfl, q5⟩⟩
  · obtain ⟨C1, M1, k1, a1, a2, a3, a4, a5, -, a6, -⟩ := rd_step h
    have hR1 : gR C1 2 6 = G := (a4.2.2 2 6 (by unfold fC2; omega)).trans hR
    have c91 : gI C1 G 9 = J ny := (a4.1 G 9 (by unfold fC2; omega)).trans c9
    have m2411 : gI M1 4 241 = J ny := (a5.1 4 241 (by unfold fNx; omega)).trans m241
    have xs : ixb (J (ny : Int)) 4 = true := ixb_J (by omega) (by omega) (by decide)
    have ys : ix (J (ny : Int)) = ny := by rw [ix_J (by omega) (by omega)]; omega
    generalize hq : G + 209 + 1 * ny = q
    have h13 := a3.2.2.2.2.2.2
    have x218 : ixb (J (218 + (ny : Int))) 463 = true := ixb_J (by omega) (by omega) (by decide)
    have y218 : ix (J (218 + (ny : Int))) = 218 + ny := by rw [ix_J (by omega) (by omega)]; omega
    have x222 : ixb (J (222 + (ny : Int))) 463 = true := ixb_J (by omega) (by omega) (by decide)
    have y222 : ix (J (222 + (ny : Int))) = 222 + ny := by rw [ix_J (by omega) (by omega)]; omega
    have x226 : ixb (J (226 + (ny : Int))) 463 = true := ixb_J (by omega) (by omega) (by decide)
    have y226 : ix (J (226 + (ny : Int))) = 226 + ny := by rw [ix_J (by omega) (by omega)]; omega
    have x230 : ixb (J (230 + (ny : Int))) 463 = true := ixb_J (by omega) (by omega) (by decide)
    have y230 : ix (J (230 + (ny : Int))) = 230 + ny := by rw [ix_J (by omega) (by omega)]; omega
    have x234 : ixb (J (234 + (ny : Int))) 463 = true := ixb_J (by omega) (by omega) (by decide)
    have y234 : ix (J (234 + (ny : Int))) = 234 + ny := by rw [ix_J (by omega) (by omega)]; omega
    have ml : gX12_payLine M1 = b1 (gX12_newName M1 (J 3) (J ny)) fun S3 => mPay ny S3 := by
      unfold gX12_payLine
      simp only [J_0, J_1, J_2, J_3, J_4, J_5, J_6, J_7, J_8, J_9, J_10, J_11, J_12, J_14, J_15, J_16, J_19, J_20, J_21, J_22, J_23, J_24, J_25, J_28, J_30, J_31, J_32, J_40, J_44, J_47, J_48, J_49, J_50, J_53, J_54, J_57, J_59, J_74, J_75, J_78, J_84, J_97, J_99, J_100, J_120, J_122, J_126, J_132, J_138, J_144, J_150, J_156, J_162, J_198, J_200, J_202, J_206, J_210, J_214, J_218, J_222, J_226, J_230, J_234, J_238, J_239, J_240, J_241, J_242, J_243, J_255, J_263, J_283, J_303, J_399, J_400, J_401, J_463, J_700, J_701, J_999, J_1000, J_2048, J_4095, J_4096, J_6000, J_9999, J_10000, J_65536, J_65537, J_2147483647, J_neg, show ixb (J 241) 463 = true by decide, show ix (J 241) = 241 by decide, ckt]
      rw [h13, if_pos rfl, m2411]
      simp only [J_add, x218, y218, x222, y222, x226, y226, x230, y230, x234, y234, ckt, lts]
      rfl
    rw [if_pos (by omega), a1, b1s, if_neg (by omega), a2, b1s, ml]
    generalize hC3 : pI C1 G 9 (J ((ny + 1 : Nat) : Int)) = C3
    have f3 : fr (fun a k => a = G ∧ k = 9) C1 C3 := by rw [← hC3]; exact fr_pI ⟨rfl, rfl⟩
    have hR3 : gR C3 2 6 = G := (f3.2.2 2 6 (by omega)).trans hR1
    have r3 : rdS b n T C3 M1 k1 := rdS_c6 a3 (fr_w f3 (fun q k z => by omega))
    have N3 : bN C3 M1 G (ns + np + nl + ny) ns := bN_c hN (by rw [f3.1 G 10 (by omega), a4.1 G 10 (by unfold fC2; omega)]) (fun v => by rw [f3.2.1 _ v (by omega), a4.2.1 _ v (by unfold fC2; omega)]) (fun v => by rw [f3.1 _ v (by omega), a4.1 _ v (by unfold fC2; omega)]) (fun e _ _ => a5.1 4 e (by unfold fNx; omega))
    obtain ⟨r4, C4, M4, e1, e2, e3, e4, e5⟩ := rd_newName r3 N3 (by omega) hG hR3 (so := 3) (x := ny) (ms' := ns) (by decide) (Nat.le_refl ns) n1 (fun w => absurd w (by decide))
    rw [if_neg (by decide)] at e1
    have FC4 : fr (fHall G) C C4 := fr_t (fHall_2 a4) (fr_t (fr_w f3 (fun a k z => Or.inr (by omega))) (fHall_N e3))
    have FM4 : fr fRoom M M4 := fr_t (fRoom_2 (fNx_2 a5)) (fRoom_N e4)
    simp only [hR1, zb3 hG, c91, xs, ys, ckt, b1s, b2s, lts, un2s, un3s, un4s, un5s, lmr, lml, lgr, lgl, hq, J_add, show ((ny : Int) + 1) = ((ny + 1 : Nat) : Int) by omega, hC3, J_neg, e1, c_pay]
    rw [e2, b1s]
    rcases e5 with ⟨u, ⟨k4, u0, u2⟩, N4⟩ | ⟨u, u2⟩
    · subst u
      rw [if_neg (show ¬ J 1 = J 0 by decide)]
      have m4 : ∀ e, e < 242 → gI M4 4 e = gI M 4 e := fun e he => by
        rw [e4.1 4 e (by unfold fMN fM2; omega), a5.1 4 e (by unfold fNx; omega)]
      have c4 : ∀ a j, 6 ≤ a → ¬ (a = G ∧ (j = 9 ∨ j = 10)) → ¬ a = G + 5 → ¬ a = G + 6 → gI C4 a j = gI C a j := fun a j h1 h2 h3 h4 => by
        rw [e3.1 a j (by unfold fCN fC2; omega), f3.1 a j (by omega), a4.1 a j (by unfold fC2; omega)]
      obtain ⟨r6, C6, M6, i1, i2, i3, i4, i5⟩ := (wayPay (q := q) (l := ny) (z := ny) (by omega) (by omega)).1 C4 M4 k4 (fun _ => 0) u2 ⟨fun j hj => absurd hj (by omega), by rw [m4 241 (by omega), m241]⟩ ⟨fun j hj => absurd hj (by omega), fun w => absurd w (by decide)⟩
      rw [i1, i2, b1s]
      have FC6 : fr (fHall G) C C6 := fr_t FC4 (fHall_P (by omega) (by omega) i3)
      have FM6 : fr fRoom M M6 := fr_t FM4 (fRoom_P i4)
      rcases i5 with ⟨u, ⟨k6, w0, w2⟩, w3⟩ | ⟨u, w2⟩
      · subst u
        obtain ⟨w3, w4⟩ := aP_E w3
        have oC : ∀ a j, 6 ≤ a → ¬ (a = G ∧ (j = 9 ∨ j = 10)) → ¬ a = G + 5 → ¬ a = G + 6 → ¬ a = q → gI C6 a j = gI C a j := fun a j h1 h2 h3 h4 h5 => by
          rw [i3.1 a j (by unfold fPc fC2; omega), c4 a j h1 h2 h3 h4]
        have oM : ∀ e, e < 242 → ¬ e = 241 → ¬ kAm ny e → gI M6 4 e = gI M 4 e := fun e h1 h2 h3 => by
          rw [i4.1 4 e (fun z => by unfold fPm f4p fM2 kBm at z; unfold kAm at h3; omega), m4 e h1]
        refine ⟨1, _, _, rfl, rfl, FC6, FM6, Or.inl ⟨rfl, ⟨k6, by omega, w2⟩, ⟨⟨n1, n2, n3, by omega⟩, ⟨?_, ?_, ?_, ?_⟩, ?_, ?_, ?_, ?_⟩, ?_, ⟨fun s h1 h2 => ?_, fun p h1 h2 => ?_⟩, ?_⟩⟩
        · rw [oC G 6 (by omega) (by omega) (by omega) (by omega) (by omega), c6]
        · rw [oC G 7 (by omega) (by omega) (by omega) (by omega) (by omega), c7]
        · rw [oC G 8 (by omega) (by omega) (by omega) (by omega) (by omega), c8]
        · rw [i3.1 G 9 (by unfold fPc fC2; omega), e3.1 G 9 (by unfold fCN fC2; omega), ← hC3, rII, if_pos ⟨rfl, rfl⟩]
        · rw [oM 238 (by omega) (by omega) (by unfold kAm; omega), m238]
        · rw [oM 239 (by omega) (by omega) (by unfold kAm; omega), m239]
        · rw [oM 240 (by omega) (by omega) (by unfold kAm; omega), m240]
        · rw [w4]; rfl
        · have old : bIt C6 M6 G ns np nl ny := by
            refine bIt_c hI (fun a j z => ?_) (fun e z => ?_)
            · rcases z with ⟨s, z1, z2⟩ | ⟨p, z1, z2⟩ | ⟨l, z1, z2⟩ | ⟨y, z1, z2⟩
              · exact oC a j (by omega) (by omega) (by omega) (by omega) (by omega)
              · exact oC a j (by omega) (by omega) (by omega) (by omega) (by omega)
              · exact oC a j (by omega) (by omega) (by omega) (by omega) (by omega)
              · exact oC a j (by omega) (by omega) (by omega) (by omega) (by omega)
            · rcases z with ⟨s, z1, z2⟩ | ⟨p, z1, z2⟩ | ⟨l, z1, z2⟩ | ⟨y, z1, z2⟩
              · unfold kMt kWm at z2
                exact oM e (by omega) (by omega) (by unfold kAm; omega)
              · unfold kYm at z2
                exact oM e (by omega) (by omega) (by unfold kAm; omega)
              · unfold kLm at z2
                exact oM e (by omega) (by omega) (by unfold kAm; omega)
              · unfold kAm at z2
                exact oM e (by omega) (by omega) (by unfold kAm; omega)
          obtain ⟨o1, o2, o3, o4⟩ := old
          refine ⟨o1, o2, o3, fun y hy => ?_⟩
          by_cases z : y = ny
          · rw [z, hq]
            exact w3
          · exact o4 y (by omega)
        · exact ⟨(oM s (by omega) (by omega) (by unfold kAm; omega)).trans (hz1 s h1 h2).1, fun j hj => (oM _ (by omega) (by omega) (by unfold kAm; omega)).trans ((hz1 s h1 h2).2 j hj)⟩
        · obtain ⟨z1, z2, z3, z4, z5, z6, z7⟩ := hz2 p h1 h2
          exact ⟨(oM _ (by omega) (by omega) (by unfold kAm; omega)).trans z1, (oM _ (by omega) (by omega) (by unfold kAm; omega)).trans z2, (oM _ (by omega) (by omega) (by unfold kAm; omega)).trans z3, (oM _ (by omega) (by omega) (by unfold kAm; omega)).trans z4, (oM _ (by omega) (by omega) (by unfold kAm; omega)).trans z5, (oM _ (by omega) (by omega) (by unfold kAm; omega)).trans z6, fun j hj => (oM _ (by omega) (by omega) (by unfold kAm; omega)).trans (z7 j hj)⟩
        · rw [show ns + np + nl + (ny + 1) = ns + np + nl + ny + 1 by omega]
          exact bN_c N4 (i3.1 G 10 (by unfold fPc fC2; omega)) (fun v => i3.2.1 _ v (by unfold fPc fC2; omega)) (fun v => i3.1 _ v (by unfold fPc fC2; omega)) (fun e h1 h2 => i4.1 4 e (by unfold fPm f4p fM2 kBm; omega))
      · subst u
        exact ⟨0, _, _, rfl, rfl, FC6, FM6, Or.inr ⟨rfl, w2⟩⟩
    · subst u
      obtain ⟨M', m1, m2⟩ := (wayPay (b := b) (n := n) (T := T) (q := q) (l := ny) (z := ny) (by omega) (by omega)).2 M4 u2.1
      rw [if_pos rfl, m1, b1s]
      exact two_bad FC4 FM4 (fRoom_P (fPm_4 m2)) u2 rfl (fun j => m2.1 0 j (by unfold f4p; omega))
end
