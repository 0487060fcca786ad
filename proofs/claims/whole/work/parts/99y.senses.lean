/-! A line of a sense, from its first word on, by both. -/
def fHall (G q k : Nat) : Prop := fC2 q k ∨ (G ≤ q ∧ q ≤ G + 212)
def fRoom (q k : Nat) : Prop := fM2 q k ∨ q = 4
def mSe (M : zM) : Option zM := if gI M 4 238 = J 6 then b1 (gX12_wrong M (J 5) (gI M 0 4)) fun S46 => b1 (gX12_next S46) fun S48 => b1 (gX12_senseLine S48) fun S50 => some S50 else b1 (gX12_next M) fun S42 => b1 (gX12_senseLine S42) fun S44 => some S44
section
variable {b : Nat → Int} {n T k : Nat} {C M : zM} {G ns np nl ny : Nat}
theorem b_next (h : rdS b n T C M k) {f q : Int} : ∃ M', gX12_next (mbad M f q) = some M' ∧ fr fM2 (mbad M f q) M' ∧ gI M' 0 13 = J 1 ∧ gI M' 0 9 = J f ∧ gI M' 0 10 = J q := by
  obtain ⟨hb, hc, hk, h24, ⟨ht, -⟩, ⟨m4, m5, -⟩, h13⟩ := h
  have e : ∀ j, ¬ (j = 13 ∨ j = 9 ∨ j = 10) → gI (mbad M f q) 0 j = gI M 0 j := fun j hj => by
    unfold mbad
    rw [rII, if_neg (by omega), rII, if_neg (by omega), rII, if_neg (by omega)]
  have e1 : ∀ j, gI (mbad M f q) 1 j = gI M 1 j := fun j => by
    unfold mbad
    rw [rII, if_neg (by omega), rII, if_neg (by omega), rII, if_neg (by omega)]
  obtain ⟨M', r1, r2, -⟩ := m_next hb (mTp_c ht (e 3 (by omega)) e1) (te_le (tpos_le (b := b) (n := n) k)) ((e 5 (by omega)).trans m5)
  refine ⟨M', r1, fNx_2 r2, ?_, ?_, ?_⟩
  · rw [r2.1 0 13 (by unfold fNx; omega), mbad_13]
  · rw [r2.1 0 9 (by unfold fNx; omega)]
    unfold mbad
    rw [rII, if_neg (by omega), rII, if_pos ⟨rfl, rfl⟩]
  · rw [r2.1 0 10 (by unfold fNx; omega)]
    unfold mbad
    rw [rII, if_pos ⟨rfl, rfl⟩]
/-- one of its sort too many: the model goes on with the line, and reads nothing -/
theorem rd_many (h : rdS b n T C M k) {X : zM → Option zM} (hX : ∀ {A : zM}, gI A 0 13 = J 1 → X A = some A) : ∃ C' M', gX7_wrong C (J 5) = some (J 0, C') ∧ (b1 (gX12_wrong M (J 5) (gI M 0 4)) fun S46 => b1 (gX12_next S46) fun S48 => b1 (X S48) fun S50 => some S50) = some M' ∧ fr fC2 C C' ∧ fr fM2 M M' ∧ bad C' M' := by
  obtain ⟨C1, q1, q2, q3, q4, q5⟩ := rd_wrong h (f := 5) (by decide)
  obtain ⟨M1, s1, s2, s3, s4, s5⟩ := b_next h (f := 5) (q := (tpos b n k : Nat))
  obtain ⟨g1, g2, g3, f, g4, g5⟩ := q3
  rw [q1, q2, b1s, s1, b1s, hX s3, b1s]
  refine ⟨C1, M1, rfl, rfl, q4, fr_t q5 s2, s3, ?_, ?_, f, g4, ?_⟩
  · rw [g2, s4]; unfold mbad; rw [rII, if_neg (by omega), rII, if_pos ⟨rfl, rfl⟩]
  · rw [g3, s5]; unfold mbad; rw [rII, if_pos ⟨rfl, rfl⟩]
  · rw [s4, ← g5]; unfold mbad; rw [rII, if_neg (by omega), rII, if_pos ⟨rfl, rfl⟩]
theorem b_senseLine (h : gI M 0 13 = J 1) : gX12_senseLine M = some M := by
  unfold gX12_senseLine
  simp only [J_0, J_1, J_2, J_3, J_4, J_5, J_6, J_7, J_8, J_9, J_10, J_11, J_12, J_14, J_15, J_16, J_19, J_20, J_21, J_22, J_23, J_24, J_25, J_28, J_30, J_31, J_32, J_40, J_44, J_47, J_48, J_49, J_50, J_53, J_54, J_57, J_59, J_74, J_75, J_78, J_84, J_97, J_99, J_100, J_120, J_122, J_126, J_132, J_138, J_144, J_150, J_156, J_162, J_198, J_200, J_202, J_206, J_210, J_214, J_218, J_222, J_226, J_230, J_234, J_238, J_239, J_240, J_241, J_242, J_243, J_255, J_263, J_283, J_303, J_399, J_400, J_401, J_463, J_700, J_701, J_999, J_1000, J_2048, J_4095, J_4096, J_6000, J_9999, J_10000, J_65536, J_65537, J_2147483647, J_neg]
  rw [h, if_neg (by decide)]
theorem m_senseLine {s : Nat} (hs : s < 6) (h13 : gI M 0 13 = J 0) (h238 : gI M 4 238 = J s) : gX12_senseLine M = b1 (gX12_newName M (J 0) (J s)) fun S3 => tlS S3 s := by
  have x1 : ixb (J 238) 463 = true := by decide
  have y1 : ix (J 238) = 238 := by decide
  have x2 : ixb (J (84 + 6 * (s : Int))) 463 = true := ixb_J (by omega) (by omega) (by decide)
  have y2 : ix (J (84 + 6 * (s : Int))) = 84 + 6 * s := by rw [ix_J (by omega) (by omega)]; omega
  have x3 : ixb (J (78 + (s : Int))) 463 = true := ixb_J (by omega) (by omega) (by decide)
  have y3 : ix (J (78 + (s : Int))) = 78 + s := by rw [ix_J (by omega) (by omega)]; omega
  unfold gX12_senseLine tlS tlN
  simp only [J_0, J_1, J_2, J_3, J_4, J_5, J_6, J_7, J_8, J_9, J_10, J_11, J_12, J_14, J_15, J_16, J_19, J_20, J_21, J_22, J_23, J_24, J_25, J_28, J_30, J_31, J_32, J_40, J_44, J_47, J_48, J_49, J_50, J_53, J_54, J_57, J_59, J_74, J_75, J_78, J_84, J_97, J_99, J_100, J_120, J_122, J_126, J_132, J_138, J_144, J_150, J_156, J_162, J_198, J_200, J_202, J_206, J_210, J_214, J_218, J_222, J_226, J_230, J_234, J_238, J_239, J_240, J_241, J_242, J_243, J_255, J_263, J_283, J_303, J_399, J_400, J_401, J_463, J_700, J_701, J_999, J_1000, J_2048, J_4095, J_4096, J_6000, J_9999, J_10000, J_65536, J_65537, J_2147483647, J_neg]
  rw [h13, if_pos rfl]
  simp only [x1, y1, h238, J_mul, J_add, x2, y2, x3, y3, ckt, b1s, b2s, lts, un2s, un3s, un4s, un5s, lmr, lml, lgr, lgl]
theorem fHall_2 {A B : zM} (f : fr fC2 A B) : fr (fHall G) A B := fr_w f (fun _ _ z => Or.inl z)
theorem fRoom_2 {A B : zM} (f : fr fM2 A B) : fr fRoom A B := fr_w f (fun _ _ z => Or.inl z)
theorem fHall_N {A B : zM} (f : fr (fCN G) A B) : fr (fHall G) A B := fr_w f (fun q k z => by unfold fCN at z; unfold fHall; rcases z with z | z; exact Or.inl z; exact Or.inr (by omega))
theorem fRoom_N {A B : zM} (f : fr fMN A B) : fr fRoom A B := fr_w f (fun q k z => by unfold fMN at z; unfold fRoom; rcases z with z | z; exact Or.inl z; exact Or.inr z.1)
theorem rd_sense (h : rdS b n T C M k) (hG : G = 6 ∨ G = 243) (hR : gR C 2 6 = G) (hB : bld C M G ns np nl ny) : two b n T k (fHall G) fRoom C M (gX7_readSense C) (mSe M) (fun C' M' => bld C' M' G (ns + 1) np nl ny) := by
  obtain ⟨⟨⟨n1, n2, n3, n4⟩, ⟨c6, c7, c8, c9⟩, m238, m239, m240, m241⟩, hI, ⟨hz1, hz2⟩, hN⟩ := hB
  unfold gX7_readSense mSe
  simp only [J_0, J_1, J_2, J_3, J_4, J_5, J_6, J_7, J_8, J_9, J_10, J_11, J_12, J_14, J_15, J_16, J_19, J_20, J_21, J_22, J_23, J_24, J_25, J_28, J_30, J_31, J_32, J_40, J_44, J_47, J_48, J_49, J_50, J_53, J_54, J_57, J_59, J_74, J_75, J_78, J_84, J_97, J_99, J_100, J_120, J_122, J_126, J_132, J_138, J_144, J_150, J_156, J_162, J_198, J_200, J_202, J_206, J_210, J_214, J_218, J_222, J_226, J_230, J_234, J_238, J_239, J_240, J_241, J_242, J_243, J_255, J_263, J_283, J_303, J_399, J_400, J_401, J_463, J_700, J_701, J_999, J_1000, J_2048, J_4095, J_4096, J_6000, J_9999, J_10000, J_65536, J_65537, J_2147483647, J_neg]
  rw [hR, zb3 hG, ckt, c6, m238, iLT (by omega) (by omega) (by decide) (by decide), iEQ (by omega) (by omega) (by decide) (by decide)]
  by_cases e : ns = 6
  · obtain ⟨C1, M1, q1, q2, q3, q4, q5⟩ := rd_many h (X := gX12_senseLine) (fun h => b_senseLine h)
    rw [if_neg (by omega), q1, b2s, show isB (J 0) = true by decide, ckt, if_pos (by omega), q2]
    exact ⟨0, _, _, rfl, rfl, fHall_2 q3, fRoom_2 q4, Or.inr ⟨rfl, q5⟩⟩
  · obtain ⟨C1, M1, k1, a1, a2, a3, a4, a5, -, a6, -⟩ := rd_step h
    have hR1 : gR C1 2 6 = G := (a4.2.2 2 6 (by unfold fC2; omega)).trans hR
    have c61 : gI C1 G 6 = J ns := (a4.1 G 6 (by unfold fC2; omega)).trans c6
    have m2381 : gI M1 4 238 = J ns := (a5.1 4 238 (by unfold fNx; omega)).trans m238
    have xs : ixb (J (ns : Int)) 6 = true := ixb_J (by omega) (by omega) (by decide)
    have ys : ix (J (ns : Int)) = ns := by rw [ix_J (by omega) (by omega)]; omega
    rw [if_pos (by omega), a1, b1s, if_neg (by omega), a2, b1s, m_senseLine (by omega) a3.2.2.2.2.2.2 m2381]
    generalize hC2 : pI (pI C1 (G + 7 + 31 * ns) 6 (J 0)) (G + 7 + 31 * ns) 7 (J 0) = C2
    have f2 : fr (fun q _ => q = G + 7 + 31 * ns) C1 C2 := by rw [← hC2]; exact fr_t (fr_pI rfl) (fr_pI rfl)
    have c2 : ∀ q j, ¬ q = G + 7 + 31 * ns → gI C2 q j = gI C1 q j := f2.1
    have hR2 : gR C2 2 6 = G := (f2.2.2 2 6 (by omega)).trans hR1
    have q6 : gI C2 (G + 7 + 31 * ns) 6 = J 0 := by rw [← hC2, rII, if_neg (by omega), rII, if_pos ⟨rfl, rfl⟩]
    have q7 : gI C2 (G + 7 + 31 * ns) 7 = J 0 := by rw [← hC2, rII, if_pos ⟨rfl, rfl⟩]
    have c62 : gI C2 G 6 = J ns := (c2 G 6 (by omega)).trans c61
    have r2 : rdS b n T C2 M1 k1 := rdS_c6 a3 (fr_w f2 (fun q k z => by omega))
    have N2 : bN C2 M1 G (ns + np + nl + ny) ns := bN_c hN ((c2 G 10 (by omega)).trans (a4.1 G 10 (by unfold fC2; omega))) (fun v => (f2.2.1 _ v (by omega)).trans (a4.2.1 _ v (by unfold fC2; omega))) (fun v => (c2 _ v (by omega)).trans (a4.1 _ v (by unfold fC2; omega))) (fun e _ _ => a5.1 4 e (by unfold fNx; omega))
    obtain ⟨r3, C3, M3, e1, e2, e3, e4, e5⟩ := rd_newName r2 N2 (by omega) hG hR2 (so := 0) (x := ns) (ms' := ns + 1) (by decide) (by omega) (by omega) (fun _ => by omega)
    rw [if_pos rfl] at e1
    unfold gX9_empty
    simp only [J_0, J_1, J_2, J_3, J_4, J_5, J_6, J_7, J_8, J_9, J_10, J_11, J_12, J_14, J_15, J_16, J_19, J_20, J_21, J_22, J_23, J_24, J_25, J_28, J_30, J_31, J_32, J_40, J_44, J_47, J_48, J_49, J_50, J_53, J_54, J_57, J_59, J_74, J_75, J_78, J_84, J_97, J_99, J_100, J_120, J_122, J_126, J_132, J_138, J_144, J_150, J_156, J_162, J_198, J_200, J_202, J_206, J_210, J_214, J_218, J_222, J_226, J_230, J_234, J_238, J_239, J_240, J_241, J_242, J_243, J_255, J_263, J_283, J_303, J_399, J_400, J_401, J_463, J_700, J_701, J_999, J_1000, J_2048, J_4095, J_4096, J_6000, J_9999, J_10000, J_65536, J_65537, J_2147483647, J_neg, hR1, zb3 hG, c61, xs, ys, ckt, b1s, b2s, lts, un2s, un3s, un4s, un5s, lmr, lml, lgr, lgl, hC2, hR2, c62, e1]
    rw [e2, b1s]
    have FC : fr (fHall G) C C3 := fr_t (fHall_2 a4) (fr_t (fr_w f2 (fun q k z => Or.inr (by omega))) (fHall_N e3))
    have FM : fr fRoom M M3 := fr_t (fRoom_2 (fNx_2 a5)) (fRoom_N e4)
    rcases e5 with ⟨u, ⟨k3, u0, u2⟩, N3⟩ | ⟨u, u2⟩
    · subst u
      have hR3 : gR C3 2 6 = G := (e3.2.2 2 6 (by unfold fCN fC2; omega)).trans hR2
      have c63 : gI C3 G 6 = J ns := (e3.1 G 6 (by unfold fCN fC2; omega)).trans c62
      simp only [if_neg (show ¬ J 1 = J 0 by decide), hR3, zb3 hG, c63, ckt, b1s, b2s, lts, un2s, un3s, un4s, un5s, lmr, lml, lgr, lgl, J_add]
      rw [show ((ns : Int) + 1) = ((ns + 1 : Nat) : Int) by omega]
      generalize hC4 : pI C3 G 6 (J ((ns + 1 : Nat) : Int)) = C4
      have f4 : fr (fun q k => q = G ∧ k = 6) C3 C4 := by rw [← hC4]; exact fr_pI ⟨rfl, rfl⟩
      have r4 : rdS b n T C4 M3 k3 := rdS_c6 u2 (fr_w f4 (fun q k z => by omega))
      have P4 : sP C4 M3 (G + 7 + 31 * ns) ns 0 := by
        refine ⟨by omega, ?_, ?_, fun j hj => by omega⟩
        · rw [f4.1 _ 6 (by omega), e3.1 _ 6 (by unfold fCN fC2; omega), q6]; rfl
        · rw [e4.1 4 ns (by unfold fMN fM2; omega), a5.1 4 ns (by unfold fNx; omega), (hz1 ns (by omega) (by omega)).1]; rfl
      have q74 : gI C4 (G + 7 + 31 * ns) 7 = J 0 := by rw [f4.1 _ 7 (by omega), e3.1 _ 7 (by unfold fCN fC2; omega), q7]
      have m2383 : gI M3 4 238 = J ns := (e4.1 4 238 (by unfold fMN fM2; omega)).trans m2381
      obtain ⟨r5, C5, M5, g1, g2, g3, g4, g5⟩ := rd_steps r4 (by omega) (by omega) P4 q74 (fun j hj => by rw [e4.1 4 _ (by unfold fMN fM2; omega), a5.1 4 _ (by unfold fNx; omega), (hz1 ns (by omega) (by omega)).2 j hj]) m2383
      rw [show (b2 (gX7_readSteps C4 (G + 7 + 31 * ns)) fun r13 S14 => if r13 = J 0 then some (J 0, S14) else b2 (gX7_takeWord S14 10005) fun r15 S16 => if r15 = J 0 then some (J 0, S16) else b2 (gX7_readNoise S16 (G + 7 + 31 * ns)) fun r17 S18 => if r17 = J 0 then some (J 0, S18) else some (J 1, S18)) = clS C4 (G + 7 + 31 * ns) from rfl, g1, g2]
      have FC5 : fr (fHall G) C C5 := fr_t FC (fr_t (fr_w f4 (fun q k z => Or.inr (by omega))) (fr_w g3 (fun q k z => by unfold fSL at z; unfold fHall; rcases z with z | z; exact Or.inl z; exact Or.inr (by omega))))
      have FM5 : fr fRoom M M5 := fr_t FM (fr_w g4 (fun q k z => by unfold fSM at z; unfold fRoom; rcases z with z | z; exact Or.inl z; exact Or.inr z.1))
      rcases g5 with ⟨y, ⟨k5, y0, y2⟩, ⟨m, w, y3, y4, y5⟩, y6⟩ | ⟨y, y2⟩
      · subst y
        -- what was there before
        have oC : ∀ q j, 6 ≤ q → ¬ (q = G ∧ (j = 6 ∨ j = 10)) → ¬ q = G + 5 → ¬ q = G + 6 → ¬ (G + 7 + 31 * ns ≤ q ∧ q ≤ G + 11 + 31 * ns) → gI C5 q j = gI C q j := fun q j h1 h2 h3 h4 h5 => by
          rw [g3.1 q j (by unfold fSL fC2; omega), f4.1 q j (by omega), e3.1 q j (by unfold fCN fC2; omega), c2 q j (by omega), a4.1 q j (by unfold fC2; omega)]
        have oM : ∀ e, e < 242 → ¬ e = 238 → ¬ kMt ns e → ¬ kWm ns e → gI M5 4 e = gI M 4 e := fun e h1 h2 h3 h4 => by
          rw [g4.1 4 e (fun z => by unfold fSM fM2 at z; rcases z with z | ⟨-, z⟩; omega; rcases z with z | z | z; exact h2 z; exact h3 z; exact h4 z), e4.1 4 e (by unfold fMN fM2; omega), a5.1 4 e (by unfold fNx; omega)]
        refine ⟨1, _, _, rfl, rfl, FC5, FM5, Or.inl ⟨rfl, ⟨k5, by omega, y2⟩, ⟨⟨by omega, n2, n3, n4⟩, ⟨?_, ?_, ?_, ?_⟩, ?_, ?_, ?_, ?_⟩, ?_, ⟨fun s h1 h2 => ?_, fun p h1 h2 => ?_⟩, ?_⟩⟩
        · rw [g3.1 G 6 (by unfold fSL fC2; omega), ← hC4, rII, if_pos ⟨rfl, rfl⟩]
        · rw [oC G 7 (by omega) (by omega) (by omega) (by omega) (by omega), c7]
        · rw [oC G 8 (by omega) (by omega) (by omega) (by omega) (by omega), c8]
        · rw [oC G 9 (by omega) (by omega) (by omega) (by omega) (by omega), c9]
        · rw [y6]; rfl
        · rw [oM 239 (by omega) (by omega) (by unfold kMt; omega) (by unfold kWm; omega), m239]
        · rw [oM 240 (by omega) (by omega) (by unfold kMt; omega) (by unfold kWm; omega), m240]
        · rw [oM 241 (by omega) (by omega) (by unfold kMt; omega) (by unfold kWm; omega), m241]
        · have old : bIt C5 M5 G ns np nl ny := by
            refine bIt_c hI (fun q j z => ?_) (fun e z => ?_)
            · rcases z with ⟨s, z1, z2⟩ | ⟨p, z1, z2⟩ | ⟨l, z1, z2⟩ | ⟨y, z1, z2⟩
              · exact oC q j (by omega) (by omega) (by omega) (by omega) (by omega)
              · exact oC q j (by omega) (by omega) (by omega) (by omega) (by omega)
              · exact oC q j (by omega) (by omega) (by omega) (by omega) (by omega)
              · exact oC q j (by omega) (by omega) (by omega) (by omega) (by omega)
            · have := n1
              rcases z with ⟨s, z1, z2⟩ | ⟨p, z1, z2⟩ | ⟨l, z1, z2⟩ | ⟨y, z1, z2⟩
              · unfold kMt kWm at z2
                exact oM e (by omega) (by omega) (by unfold kMt; omega) (by unfold kWm; omega)
              · unfold kYm at z2
                exact oM e (by omega) (by omega) (by unfold kMt; omega) (by unfold kWm; omega)
              · unfold kLm at z2
                exact oM e (by omega) (by omega) (by unfold kMt; omega) (by unfold kWm; omega)
              · unfold kAm at z2
                exact oM e (by omega) (by omega) (by unfold kMt; omega) (by unfold kWm; omega)
          obtain ⟨o1, o2, o3, o4⟩ := old
          refine ⟨fun s hs => ?_, fun p hp => ?_, o3, o4⟩
          · by_cases z : s = ns
            · rw [z]
              exact ⟨m, w, y3, y4, y5⟩
            · exact o1 s (by omega)
          · obtain ⟨⟨v, v1, v2, v3⟩, o5⟩ := o2 p hp
            exact ⟨⟨v, by omega, v2, v3⟩, o5⟩
        · exact ⟨(oM s (by omega) (by omega) (by unfold kMt; omega) (by unfold kWm; omega)).trans (hz1 s (by omega) h2).1, fun j hj => (oM _ (by omega) (by omega) (by unfold kMt; omega) (by unfold kWm; omega)).trans ((hz1 s (by omega) h2).2 j hj)⟩
        · obtain ⟨z1, z2, z3, z4, z5, z6, z7⟩ := hz2 p h1 h2
          have om : ∀ e, 126 + p ≤ e → e ≤ 156 + p → gI M5 4 e = gI M 4 e := fun e h3 h4 => oM e (by omega) (by omega) (by unfold kMt; omega) (by unfold kWm; omega)
          exact ⟨(om _ (by omega) (by omega)).trans z1, (om _ (by omega) (by omega)).trans z2, (om _ (by omega) (by omega)).trans z3, (om _ (by omega) (by omega)).trans z4, (om _ (by omega) (by omega)).trans z5, (om _ (by omega) (by omega)).trans z6, fun j hj => (oM _ (by omega) (by omega) (by unfold kMt; omega) (by unfold kWm; omega)).trans (z7 j hj)⟩
        · rw [show ns + 1 + np + nl + ny = ns + np + nl + ny + 1 by omega]
          exact bN_c N3 (by rw [g3.1 G 10 (by unfold fSL fC2; omega), f4.1 G 10 (by omega)]) (fun v => by rw [g3.2.1 _ v (by unfold fSL fC2; omega), f4.2.1 _ v (by omega)]) (fun v => by rw [g3.1 _ v (by unfold fSL fC2; omega), f4.1 _ v (by omega)]) (fun e h1 h2 => g4.1 4 e (by unfold fSM fM2 kMt kWm; omega))
      · subst y
        exact ⟨0, _, _, rfl, rfl, FC5, FM5, Or.inr ⟨rfl, y2⟩⟩
    · subst u
      have tb : tlS M3 ns = some M3 := by
        have hf := FUs (n := 2) (by omega)
        obtain ⟨f', hf'⟩ : ∃ f', FU = f' + 1 := ⟨FU - 1, by omega⟩
        unfold tlS
        rw [b_stepOf u2.1, b1s, hf', m_L28_b u2.1, b1s, b_must u2.1, b1s, u2.1, if_neg (by decide)]
      rw [tb]
      simp only [if_true, ckt, b1s, b2s, lts, un2s, un3s, un4s, un5s, lmr, lml, lgr, lgl]
      exact ⟨0, _, _, rfl, rfl, FC, FM, Or.inr ⟨rfl, u2⟩⟩
end
