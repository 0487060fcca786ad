/-! A line of a sayer, from its first word on, by both. -/
def mSa (M : zM) : Option zM := if gI M 4 239 = J 6 then b1 (gX12_wrong M (J 5) (gI M 0 4)) fun S35 => b1 (gX12_next S35) fun S37 => b1 (gX12_sayerLine S37) fun S39 => some S39 else b1 (gX12_next M) fun S31 => b1 (gX12_sayerLine S31) fun S33 => some S33
section
variable {b : Nat → Int} {n T k : Nat} {C M : zM} {G ns np nl ny : Nat}
theorem b_sayerLine (h : gI M 0 13 = J 1) : gX12_sayerLine M = some M := by
  unfold gX12_sayerLine
  simp only [J_0, J_1, J_2, J_3, J_4, J_5, J_6, J_7, J_8, J_9, J_10, J_11, J_12, J_14, J_15, J_16, J_19, J_20, J_21, J_22, J_23, J_24, J_25, J_28, J_30, J_31, J_32, J_40, J_44, J_47, J_48, J_49, J_50, J_53, J_54, J_57, J_59, J_74, J_75, J_78, J_84, J_97, J_99, J_100, J_120, J_122, J_126, J_132, J_138, J_144, J_150, J_156, J_162, J_198, J_200, J_202, J_206, J_210, J_214, J_218, J_222, J_226, J_230, J_234, J_238, J_239, J_240, J_241, J_242, J_243, J_255, J_263, J_283, J_303, J_399, J_400, J_401, J_463, J_700, J_701, J_999, J_1000, J_2048, J_4095, J_4096, J_6000, J_9999, J_10000, J_65536, J_65537, J_2147483647, J_neg]
  rw [h, if_neg (by decide)]
theorem mSy_b {v1 v2 : Int32} (h : gI M 0 13 = J 1) : mSy M v1 v2 = some M := by
  unfold mSy
  rw [h, if_neg (by decide)]
/-- from the sense's name on -/
def clY (q : Nat) (C : zM) : Option (Int32 × zM) := b2 (gX7_takeSenseName C) fun r14 S15 => if r14 = J 0 then some (J 0, S15) else kL0 q (pI S15 q 1 (gI S15 2 5))
def mlY (v1 : Int32) (M : zM) : Option zM := b1 (gX12_mustName M) fun S7 => if gI S7 0 13 = J 0 then b1 (gX12_find S7) fun r8 => gX12_sayerLine_J57 S7 v1 r8 else gX12_sayerLine_J57 S7 v1 (J (-1))
theorem fHall_Y {p : Nat} (hp : p < 6) {A B : zM} (f : fr (fYc (G + 193 + 2 * p)) A B) : fr (fHall G) A B := fr_w f (fun q k z => by unfold fYc at z; unfold fHall; rcases z with z | z; exact Or.inl z; exact Or.inr (by omega))
theorem fRoom_Y {p : Nat} {A B : zM} (f : fr (fYm p) A B) : fr fRoom A B := fr_w f (fun q k z => by unfold fYm f4y at z; unfold fRoom; rcases z with z | z; exact Or.inl z; exact Or.inr z.1)
def fYa (q0 q k : Nat) : Prop := fYc q0 q k ∨ (q = q0 ∧ k = 1)
def fYb (p q k : Nat) : Prop := fYm p q k ∨ (q = 4 ∧ k = 120 + p)
theorem yQ_o {C' M' : zM} {q p : Nat} (h : yQ C M q p) (c : ∀ j, 2 ≤ j → gI C' q j = gI C q j) (c1 : ∀ j, gI C' (q + 1) j = gI C (q + 1) j) (m : ∀ k, kYo p k → gI M' 4 k = gI M 4 k) : yQ C' M' q p := by
  obtain ⟨h2, h3, h4, h5, h6, ⟨w, h7, h8, h9, h10, hz⟩, h11, h12⟩ := h
  exact ⟨fld_c h2 (c 2 (by omega)) (m _ (by unfold kYo kYm; omega)), fld_c h3 (c 3 (by omega)) (m _ (by unfold kYo kYm; omega)), fld_c h4 (c 4 (by omega)) (m _ (by unfold kYo kYm; omega)), fld_c h5 (c 5 (by omega)) (m _ (by unfold kYo kYm; omega)), fld_c h6 (c 6 (by omega)) (m _ (by unfold kYo kYm; omega)), ⟨w, h7, (c 7 (by omega)).trans h8, (m _ (by unfold kYo kYm; omega)).trans h9, fun j hj => fld_c (h10 j hj) (c1 j) (m _ (by unfold kYo kYm; omega)), fun j h1 h2 => (m _ (by unfold kYo kYm; omega)).trans (hz j h1 h2)⟩, (c 8 (by omega)).trans h11, (c 9 (by omega)).trans h12⟩
theorem rd_saySense {q p u : Nat} {z : Int} (h : rdS b n T C M k) (hq : 6 ≤ q) (hp : p < 6) (hG : G = 6 ∨ G = 243) (hR : gR C 2 6 = G) (hms : ns ≤ 6) (hN : bN C M G u ns) (y : yQ C M q p) (y9 : gI M 4 239 = J z) : two b n T k (fYa q) (fYb p) C M (clY q C) (mlY (J p) M) (fun C' M' => yE q p z C' M' ∧ fld C' M' q 1 (120 + p) 0 ((ns : Int) - 1)) := by
  have hu := hN.1
  have w2 : ∀ {A B : zM}, fr (fYc q) A B → fr (fYa q) A B := fun f => fr_w f (fun _ _ z => Or.inl z)
  have v2 : ∀ {A B : zM}, fr (fYm p) A B → fr (fYb p) A B := fun f => fr_w f (fun _ _ z => Or.inl z)
  have h13 := h.2.2.2.2.2.2
  unfold clY mlY
  simp only [mSq_e]
  rcases rd_senseName h hms hN hG hR with ⟨v, x, d1, d2, d3, d4, d5, d6, d7⟩ | ⟨C1, d1, d2, d3⟩
  · have hs : rdS b n T (pI C 2 5 (J x)) (pI M 4 (120 + p) (J x)) k := rdS_w h (by rw [rII, if_neg (by omega)]) (by rw [rII, if_neg (by omega)]) (by rw [rII, if_neg (by omega)]) (fun k => ⟨by rw [rII, if_neg (by omega)], by rw [rII, if_neg (by omega)], rLI⟩) (fun _ _ => by rw [rII, if_neg (by omega)]) (fun _ => by rw [rII, if_neg (by omega)]) (fun _ => by rw [rII, if_neg (by omega)])
    obtain ⟨C2, M2, k2, s1, s2, s3, s4, s5, -, s6, -⟩ := rd_step hs
    have h5 : gI C2 2 5 = J x := by
      have : gX7_step (pI C 2 5 (J x)) = some C2 := s1
      unfold gX7_step at this
      split at this
      · have := Option.some.inj this
        rw [← this, rII, if_pos ⟨rfl, rfl⟩]
      · have := Option.some.inj this
        rw [← this, rII, if_neg (by omega), rII, if_pos ⟨rfl, rfl⟩]
    have x1 : ixb (J (243 + (v : Int))) 463 = true := ixb_J (by omega) (by omega) (by decide)
    have y1 : ix (J (243 + (v : Int))) = 243 + v := by rw [ix_J (by omega) (by omega)]; omega
    have x2 : ixb (J (263 + (v : Int))) 463 = true := ixb_J (by omega) (by omega) (by decide)
    have y2 : ix (J (263 + (v : Int))) = 263 + v := by rw [ix_J (by omega) (by omega)]; omega
    have x3 : ixb (J (120 + (p : Int))) 463 = true := ixb_J (by omega) (by omega) (by decide)
    have y3 : ix (J (120 + (p : Int))) = 120 + p := by rw [ix_J (by omega) (by omega)]; omega
    rw [d3, s1, b1s, b2s, if_neg (show ¬ J 1 = J 0 by decide), h5, d4, b1s, h13, if_pos rfl, d5, b1s, if_pos rfl, iLT (by omega) (by omega) (by decide) (by decide), if_neg (by omega), J_add, x1, ckt, y1, d6, if_pos rfl]
    unfold mSy
    rw [h13, if_pos rfl, J_add, J_add, x2, ckt, x3, ckt, y2, y3, d7, s2, b1s]
    have yq : yQ (pI C2 q 1 (J x)) M2 q p := by
      refine yQ_o y (fun j hj => ?_) (fun j => ?_) (fun e he => ?_)
      · rw [rII, if_neg (by omega), s4.1 q j (by unfold fC2; omega), rII, if_neg (by omega)]
      · rw [rII, if_neg (by omega), s4.1 _ j (by unfold fC2; omega), rII, if_neg (by omega)]
      · rw [s5.1 4 e (by unfold fNx; omega), rII, if_neg (fun w => he.2 w.2)]
    have m9 : gI M2 4 239 = J z := by rw [s5.1 4 239 (by unfold fNx; omega), rII, if_neg (by omega), y9]
    obtain ⟨r, C3, M3, g1, g2, g3, g4, g5⟩ := (way0 hq hp).1 (pI C2 q 1 (J x)) M2 k2 (rdS_c6 s3 (fr_pI hq)) yq m9
    refine ⟨r, C3, M3, g1, g2, fr_t (w2 (fYc_2 (fr_t (fr_pI (by unfold fC2; omega)) s4))) (fr_t (fr_pI (Or.inr ⟨rfl, rfl⟩)) (w2 g3)), fr_t (fr_pI (Or.inr ⟨rfl, rfl⟩)) (fr_t (v2 (fYm_2 (fNx_2 s5))) (v2 g4)), ?_⟩
    rcases g5 with ⟨t1, ⟨k3, t2, t3⟩, t4⟩ | ⟨t1, t2⟩
    · refine Or.inl ⟨t1, ⟨k3, by omega, t3⟩, t4, x, by omega, ?_, ?_⟩
      · rw [g3.1 q 1 (by unfold fYc fC2; omega), rII, if_pos ⟨rfl, rfl⟩]
      · rw [g4.1 4 (120 + p) (by unfold fYm fM2 f4y kYo; omega), s5.1 4 _ (by unfold fNx; omega), rII, if_pos ⟨rfl, rfl⟩]
    · exact Or.inr ⟨t1, t2⟩
  · rw [d1, b2s, if_pos rfl]
    rcases d3 with ⟨e1, e2⟩ | ⟨e1, e2, e3, e4⟩
    · obtain ⟨-, -, -, -, -, o5⟩ := rd_wrong h (f := 1) (by decide)
      rw [e1, b1s, mbad_13, if_neg (by decide), if_neg (by decide), mSy_b mbad_13]
      exact ⟨0, C1, _, rfl, rfl, w2 (fYc_2 d2), v2 (fYm_2 o5), Or.inr ⟨rfl, e2⟩⟩
    · obtain ⟨-, -, -, -, -, o5⟩ := rd_wrong h (f := 2) (by decide)
      rw [e1, b1s, h13, if_pos rfl]
      rcases e4 with e4 | ⟨v, so, v1, e4, e5, e6, e7⟩
      · rw [e4, b1s, if_pos rfl, if_pos (show J (-1) < J 0 by decide), e2, b1s, mSy_b mbad_13]
        exact ⟨0, C1, _, rfl, rfl, w2 (fYc_2 d2), v2 (fYm_2 o5), Or.inr ⟨rfl, e3⟩⟩
      · have x1 : ixb (J (243 + (v : Int))) 463 = true := ixb_J (by omega) (by omega) (by decide)
        have y1 : ix (J (243 + (v : Int))) = 243 + v := by rw [ix_J (by omega) (by omega)]; omega
        rw [e4, b1s, if_pos rfl, iLT (by omega) (by omega) (by decide) (by decide), if_neg (by omega), J_add, x1, ckt, y1, e5, iEQ (by omega) (by omega) (by decide) (by decide), if_neg (by omega), e2, b1s, mSy_b mbad_13]
        exact ⟨0, C1, _, rfl, rfl, w2 (fYc_2 d2), v2 (fYm_2 o5), Or.inr ⟨rfl, e3⟩⟩
theorem rd_sayer (h : rdS b n T C M k) (hG : G = 6 ∨ G = 243) (hR : gR C 2 6 = G) (hB : bld C M G ns np nl ny) : two b n T k (fHall G) fRoom C M (gX7_readSayer C) (mSa M) (fun C' M' => bld C' M' G ns (np + 1) nl ny) := by
  obtain ⟨⟨⟨n1, n2, n3, n4⟩, ⟨c6, c7, c8, c9⟩, m238, m239, m240, m241⟩, hI, ⟨hz1, hz2⟩, hN⟩ := hB
  unfold gX7_readSayer mSa
  simp only [J_0, J_1, J_2, J_3, J_4, J_5, J_6, J_7, J_8, J_9, J_10, J_11, J_12, J_14, J_15, J_16, J_19, J_20, J_21, J_22, J_23, J_24, J_25, J_28, J_30, J_31, J_32, J_40, J_44, J_47, J_48, J_49, J_50, J_53, J_54, J_57, J_59, J_74, J_75, J_78, J_84, J_97, J_99, J_100, J_120, J_122, J_126, J_132, J_138, J_144, J_150, J_156, J_162, J_198, J_200, J_202, J_206, J_210, J_214, J_218, J_222, J_226, J_230, J_234, J_238, J_239, J_240, J_241, J_242, J_243, J_255, J_263, J_283, J_303, J_399, J_400, J_401, J_463, J_700, J_701, J_999, J_1000, J_2048, J_4095, J_4096, J_6000, J_9999, J_10000, J_65536, J_65537, J_2147483647, J_neg]
  rw [hR, zb3 hG, ckt, c7, m239, iLT (by omega) (by omega) (by decide) (by decide), iEQ (by omega) (by omega) (by decide) (by decide)]
  by_cases e : np = 6
  · obtain ⟨C1, M1, q1, q2, q3, q4, q5⟩ := rd_many h (X := gX12_sayerLine) (fun h => b_sayerLine h)
    rw [if_neg (by omega), q1, b2s, show isB (J 0) = true by decide, ckt, if_pos (by omega), q2]
    exact ⟨0, _, _, rfl, rfl, fHall_2 q3, fRoom_2 q4, Or.inr ⟨rfl, q5⟩⟩
  · obtain ⟨C1, M1, k1, a1, a2, a3, a4, a5, -, a6, -⟩ := rd_step h
    have hR1 : gR C1 2 6 = G := (a4.2.2 2 6 (by unfold fC2; omega)).trans hR
    have c71 : gI C1 G 7 = J np := (a4.1 G 7 (by unfold fC2; omega)).trans c7
    have m2391 : gI M1 4 239 = J np := (a5.1 4 239 (by unfold fNx; omega)).trans m239
    have xs : ixb (J (np : Int)) 6 = true := ixb_J (by omega) (by omega) (by decide)
    have ys : ix (J (np : Int)) = np := by rw [ix_J (by omega) (by omega)]; omega
    generalize hq : G + 193 + 2 * np = q
    have h13 := a3.2.2.2.2.2.2
    have ml : gX12_sayerLine M1 = b1 (gX12_newName M1 (J 1) (J np)) fun S3 => b1 (gX12_must S3 10015) fun S5 => if gI S5 0 13 = J 0 then mlY (J np) S5 else some S5 := by
      unfold gX12_sayerLine mlY
      simp only [J_0, J_1, J_2, J_3, J_4, J_5, J_6, J_7, J_8, J_9, J_10, J_11, J_12, J_14, J_15, J_16, J_19, J_20, J_21, J_22, J_23, J_24, J_25, J_28, J_30, J_31, J_32, J_40, J_44, J_47, J_48, J_49, J_50, J_53, J_54, J_57, J_59, J_74, J_75, J_78, J_84, J_97, J_99, J_100, J_120, J_122, J_126, J_132, J_138, J_144, J_150, J_156, J_162, J_198, J_200, J_202, J_206, J_210, J_214, J_218, J_222, J_226, J_230, J_234, J_238, J_239, J_240, J_241, J_242, J_243, J_255, J_263, J_283, J_303, J_399, J_400, J_401, J_463, J_700, J_701, J_999, J_1000, J_2048, J_4095, J_4096, J_6000, J_9999, J_10000, J_65536, J_65537, J_2147483647, J_neg, show ixb (J 239) 463 = true by decide, show ix (J 239) = 239 by decide, ckt]
      rw [h13, if_pos rfl, m2391]
    rw [if_pos (by omega), a1, b1s, if_neg (by omega), a2, b1s, ml]
    generalize hC2 : pI (pI (pI (pI (pI (pI (pI (pI (pI C1 q 1 (J 0)) q 2 (J 0)) q 3 (J 0)) q 4 (J 0)) q 5 (J 0)) q 6 (J 0)) q 7 (J 0)) q 8 (J 0)) q 9 (J 0) = C2
    have f2 : fr (fun a _ => a = q) C1 C2 := by rw [← hC2]; exact fr_t (fr_t (fr_t (fr_t (fr_t (fr_t (fr_t (fr_t (fr_pI rfl) (fr_pI rfl)) (fr_pI rfl)) (fr_pI rfl)) (fr_pI rfl)) (fr_pI rfl)) (fr_pI rfl)) (fr_pI rfl)) (fr_pI rfl)
    have c2 : ∀ a j, ¬ a = q → gI C2 a j = gI C1 a j := f2.1
    have hR2 : gR C2 2 6 = G := (f2.2.2 2 6 (by omega)).trans hR1
    have z2 : ∀ j, 2 ≤ j → j ≤ 9 → gI C2 q j = J 0 := fun j j1 j2 => by
      rw [← hC2]
      simp only [rII, true_and]
      have : j = 2 ∨ j = 3 ∨ j = 4 ∨ j = 5 ∨ j = 6 ∨ j = 7 ∨ j = 8 ∨ j = 9 := by omega
      rcases this with x | x | x | x | x | x | x | x <;> subst x <;> simp
    have c72 : gI C2 G 7 = J np := (c2 G 7 (by omega)).trans c71
    have em : gX8_empty C1 q = some C2 := by
      unfold gX8_empty
      simp only [J_0, J_1, J_2, J_3, J_4, J_5, J_6, J_7, J_8, J_9, J_10, J_11, J_12, J_14, J_15, J_16, J_19, J_20, J_21, J_22, J_23, J_24, J_25, J_28, J_30, J_31, J_32, J_40, J_44, J_47, J_48, J_49, J_50, J_53, J_54, J_57, J_59, J_74, J_75, J_78, J_84, J_97, J_99, J_100, J_120, J_122, J_126, J_132, J_138, J_144, J_150, J_156, J_162, J_198, J_200, J_202, J_206, J_210, J_214, J_218, J_222, J_226, J_230, J_234, J_238, J_239, J_240, J_241, J_242, J_243, J_255, J_263, J_283, J_303, J_399, J_400, J_401, J_463, J_700, J_701, J_999, J_1000, J_2048, J_4095, J_4096, J_6000, J_9999, J_10000, J_65536, J_65537, J_2147483647, J_neg, ckt, b1s, b2s, lts, un2s, un3s, un4s, un5s, lmr, lml, lgr, lgl]
      rw [hC2]
    generalize hC3 : pI C2 G 7 (J ((np + 1 : Nat) : Int)) = C3
    have f3 : fr (fun a k => a = G ∧ k = 7) C2 C3 := by rw [← hC3]; exact fr_pI ⟨rfl, rfl⟩
    have hR3 : gR C3 2 6 = G := (f3.2.2 2 6 (by omega)).trans hR2
    have r3 : rdS b n T C3 M1 k1 := rdS_c6 (rdS_c6 a3 (fr_w f2 (fun q k z => by omega))) (fr_w f3 (fun q k z => by omega))
    have N3 : bN C3 M1 G (ns + np + nl + ny) ns := bN_c hN (by rw [f3.1 G 10 (by omega), c2 G 10 (by omega), a4.1 G 10 (by unfold fC2; omega)]) (fun v => by rw [f3.2.1 _ v (by omega), f2.2.1 _ v (by omega), a4.2.1 _ v (by unfold fC2; omega)]) (fun v => by rw [f3.1 _ v (by omega), c2 _ v (by omega), a4.1 _ v (by unfold fC2; omega)]) (fun e _ _ => a5.1 4 e (by unfold fNx; omega))
    obtain ⟨r4, C4, M4, e1, e2, e3, e4, e5⟩ := rd_newName r3 N3 (by omega) hG hR3 (so := 1) (x := np) (ms' := ns) (by decide) (Nat.le_refl ns) n1 (fun w => absurd w (by decide))
    rw [if_neg (by decide)] at e1
    have FC4 : fr (fHall G) C C4 := fr_t (fHall_2 a4) (fr_t (fr_w f2 (fun a k z => Or.inr (by omega))) (fr_t (fr_w f3 (fun a k z => Or.inr (by omega))) (fHall_N e3)))
    have FM4 : fr fRoom M M4 := fr_t (fRoom_2 (fNx_2 a5)) (fRoom_N e4)
    simp only [hR1, zb3 hG, c71, xs, ys, ckt, b1s, b2s, lts, un2s, un3s, un4s, un5s, lmr, lml, lgr, lgl, hq, em, hR2, c72, J_add, show ((np : Int) + 1) = ((np + 1 : Nat) : Int) by omega, hC3, J_neg, e1]
    rw [e2, b1s]
    have clq : ∀ S : zM, (b2 (gX7_takeSenseName S) fun r14 S15 => if r14 = J 0 then some (J 0, S15) else b2 (gX7_readLines (pI S15 q 1 (gI S15 2 5)) q) fun r16 S17 => if r16 = J 0 then some (J 0, S17) else b2 (gX7_readYears S17 q) fun r18 S19 => if r18 = J 0 then some (J 0, S19) else b2 (gX7_readLikes S19 q) fun r20 S21 => if r20 = J 0 then some (J 0, S21) else some (J 1, S21)) = clY q S := fun S => rfl
    simp only [clq]
    rcases e5 with ⟨u, ⟨k4, u0, u2⟩, N4⟩ | ⟨u, u2⟩
    · subst u
      obtain ⟨r5, C5, M5, g1, g2, g3, g4, g5⟩ := rd_must u2 (w := 15) (by decide)
      rw [show (10000 + 15 : Nat) = 10015 from rfl] at g1 g2
      rw [if_neg (show ¬ J 1 = J 0 by decide), g1, b2s, g2, b1s]
      have FC5 := fr_t FC4 (fHall_2 g3)
      have FM5 := fr_t FM4 (fRoom_2 g4)
      rcases g5 with ⟨u, ⟨k5, v0, v2⟩, -⟩ | ⟨u, v2⟩
      · subst u
        have hR5 : gR C5 2 6 = G := by rw [g3.2.2 2 6 (by unfold fC2; omega), e3.2.2 2 6 (by unfold fCN fC2; omega), hR3]
        have N5 : bN C5 M5 G (ns + np + nl + ny + 1) ns := bN_c N4 (g3.1 G 10 (by unfold fC2; omega)) (fun v => g3.2.1 _ v (by unfold fC2; omega)) (fun v => g3.1 _ v (by unfold fC2; omega)) (fun e _ _ => g4.1 4 e (by unfold fM2; omega))
        have c5 : ∀ a j, 6 ≤ a → ¬ (a = G ∧ (j = 7 ∨ j = 10)) → ¬ a = G + 5 → ¬ a = G + 6 → gI C5 a j = gI C2 a j := fun a j h1 h2 h3 h4 => by
          rw [g3.1 a j (by unfold fC2; omega), e3.1 a j (by unfold fCN fC2; omega), f3.1 a j (by omega)]
        have m5 : ∀ e, e < 242 → gI M5 4 e = gI M 4 e := fun e he => by
          rw [g4.1 4 e (by unfold fM2; omega), e4.1 4 e (by unfold fMN fM2; omega), a5.1 4 e (by unfold fNx; omega)]
        obtain ⟨z1, z2', z3, z4, z5, z6, z7⟩ := hz2 np (Nat.le_refl np) (by omega)
        have fz : ∀ {a e : Nat} {lo hi : Int}, 2 ≤ a → a ≤ 9 → e < 242 → gI M 4 e = J 0 → lo ≤ 0 → 0 ≤ hi → fld C5 M5 q a e lo hi := fun {a e lo hi} h1 h2 h3 h4 h5 h6 => ⟨0, ⟨h5, h6⟩, by rw [c5 q a (by omega) (by omega) (by omega) (by omega), z2 a h1 h2], by rw [m5 e h3, h4]⟩
        have y5 : yQ C5 M5 q np := ⟨fz (by omega) (by omega) (by omega) z1 (by omega) (by omega), fz (by omega) (by omega) (by omega) z2' (by omega) (by omega), fz (by omega) (by omega) (by omega) z3 (by omega) (by omega), fz (by omega) (by omega) (by omega) z4 (by omega) (by omega), fz (by omega) (by omega) (by omega) z5 (by omega) (by omega), ⟨0, by omega, by rw [c5 q 7 (by omega) (by omega) (by omega) (by omega), z2 7 (by omega) (by omega)]; rfl, by rw [m5 _ (by omega), z6]; rfl, fun j hj => by omega, fun j h1 h2 => by rw [m5 _ (by omega), z7 j h2]⟩, by rw [c5 q 8 (by omega) (by omega) (by omega) (by omega), z2 8 (by omega) (by omega)], by rw [c5 q 9 (by omega) (by omega) (by omega) (by omega), z2 9 (by omega) (by omega)]⟩
        obtain ⟨r6, C6, M6, i1, i2, i3, i4, i5⟩ := rd_saySense v2 (q := q) (p := np) (z := np) (by omega) (by omega) hG hR5 n1 N5 y5 (by rw [m5 239 (by omega), m239])
        rw [if_neg (show ¬ J 1 = J 0 by decide), i1, v2.2.2.2.2.2.2, if_pos rfl, i2, b1s]
        have FC6 : fr (fHall G) C C6 := fr_t FC5 (fr_w i3 (fun a k z => by unfold fYa fYc at z; unfold fHall; rcases z with (z | z) | z; exact Or.inl z; exact Or.inr (by omega); exact Or.inr (by omega)))
        have FM6 : fr fRoom M M6 := fr_t FM5 (fr_w i4 (fun a k z => by unfold fYb fYm f4y at z; unfold fRoom; rcases z with (z | z) | z; exact Or.inl z; exact Or.inr z.1; exact Or.inr z.1))
        rcases i5 with ⟨u, ⟨k6, w0, w2⟩, ⟨w3, w4⟩, w5⟩ | ⟨u, w2⟩
        · subst u
          have oC : ∀ a j, 6 ≤ a → ¬ (a = G ∧ (j = 7 ∨ j = 10)) → ¬ a = G + 5 → ¬ a = G + 6 → ¬ (q ≤ a ∧ a ≤ q + 1) → gI C6 a j = gI C a j := fun a j h1 h2 h3 h4 h5 => by
            rw [i3.1 a j (by unfold fYa fYc fC2; omega), c5 a j h1 h2 h3 h4, c2 a j (by omega), a4.1 a j (by unfold fC2; omega)]
          have oM : ∀ e, e < 242 → ¬ e = 239 → ¬ kYm np e → gI M6 4 e = gI M 4 e := fun e h1 h2 h3 => by
            rw [i4.1 4 e (fun z => by unfold fYb fYm f4y fM2 kYo at z; unfold kYm at h3; unfold kYm at z; omega), m5 e h1]
          refine ⟨1, _, _, rfl, rfl, FC6, FM6, Or.inl ⟨rfl, ⟨k6, by omega, w2⟩, ⟨⟨n1, by omega, n3, n4⟩, ⟨?_, ?_, ?_, ?_⟩, ?_, ?_, ?_, ?_⟩, ?_, ⟨fun s h1 h2 => ?_, fun p h1 h2 => ?_⟩, ?_⟩⟩
          · rw [oC G 6 (by omega) (by omega) (by omega) (by omega) (by omega), c6]
          · rw [i3.1 G 7 (by unfold fYa fYc fC2; omega), g3.1 G 7 (by unfold fC2; omega), e3.1 G 7 (by unfold fCN fC2; omega), ← hC3, rII, if_pos ⟨rfl, rfl⟩]
          · rw [oC G 8 (by omega) (by omega) (by omega) (by omega) (by omega), c8]
          · rw [oC G 9 (by omega) (by omega) (by omega) (by omega) (by omega), c9]
          · rw [oM 238 (by omega) (by omega) (by unfold kYm; omega), m238]
          · rw [w4]; rfl
          · rw [oM 240 (by omega) (by omega) (by unfold kYm; omega), m240]
          · rw [oM 241 (by omega) (by omega) (by unfold kYm; omega), m241]
          · have old : bIt C6 M6 G ns np nl ny := by
              refine bIt_c hI (fun a j z => ?_) (fun e z => ?_)
              · rcases z with ⟨s, z1, z2⟩ | ⟨p, z1, z2⟩ | ⟨l, z1, z2⟩ | ⟨y, z1, z2⟩
                · exact oC a j (by omega) (by omega) (by omega) (by omega) (by omega)
                · exact oC a j (by omega) (by omega) (by omega) (by omega) (by omega)
                · exact oC a j (by omega) (by omega) (by omega) (by omega) (by omega)
                · exact oC a j (by omega) (by omega) (by omega) (by omega) (by omega)
              · rcases z with ⟨s, z1, z2⟩ | ⟨p, z1, z2⟩ | ⟨l, z1, z2⟩ | ⟨y, z1, z2⟩
                · unfold kMt kWm at z2
                  exact oM e (by omega) (by omega) (by unfold kYm; omega)
                · unfold kYm at z2
                  exact oM e (by omega) (by omega) (by unfold kYm; omega)
                · unfold kLm at z2
                  exact oM e (by omega) (by omega) (by unfold kYm; omega)
                · unfold kAm at z2
                  exact oM e (by omega) (by omega) (by unfold kYm; omega)
            obtain ⟨o1, o2, o3, o4⟩ := old
            refine ⟨o1, fun p hp => ?_, o3, o4⟩
            by_cases z : p = np
            · rw [z, hq]
              exact ⟨w5, w3⟩
            · exact o2 p (by omega)
          · exact ⟨(oM s (by omega) (by omega) (by unfold kYm; omega)).trans (hz1 s h1 h2).1, fun j hj => (oM _ (by omega) (by omega) (by unfold kYm; omega)).trans ((hz1 s h1 h2).2 j hj)⟩
          · obtain ⟨z1, z2, z3, z4, z5, z6, z7⟩ := hz2 p (by omega) h2
            exact ⟨(oM _ (by omega) (by omega) (by unfold kYm; omega)).trans z1, (oM _ (by omega) (by omega) (by unfold kYm; omega)).trans z2, (oM _ (by omega) (by omega) (by unfold kYm; omega)).trans z3, (oM _ (by omega) (by omega) (by unfold kYm; omega)).trans z4, (oM _ (by omega) (by omega) (by unfold kYm; omega)).trans z5, (oM _ (by omega) (by omega) (by unfold kYm; omega)).trans z6, fun j hj => (oM _ (by omega) (by omega) (by unfold kYm; omega)).trans (z7 j hj)⟩
          · rw [show ns + (np + 1) + nl + ny = ns + np + nl + ny + 1 by omega]
            exact bN_c N5 (i3.1 G 10 (by unfold fYa fYc fC2; omega)) (fun v => i3.2.1 _ v (by unfold fYa fYc fC2; omega)) (fun v => i3.1 _ v (by unfold fYa fYc fC2; omega)) (fun e h1 h2 => i4.1 4 e (by unfold fYb fYm f4y fM2 kYo kYm; omega))
        · subst u
          exact ⟨0, _, _, rfl, rfl, FC6, FM6, Or.inr ⟨rfl, w2⟩⟩
      · subst u
        rw [if_pos rfl, v2.1, if_neg (by decide), b1s]
        exact ⟨0, _, _, rfl, rfl, FC5, FM5, Or.inr ⟨rfl, v2⟩⟩
    · subst u
      rw [if_pos rfl, b_must u2.1, b1s, u2.1, if_neg (by decide), b1s]
      exact ⟨0, _, _, rfl, rfl, FC4, FM4, Or.inr ⟨rfl, u2⟩⟩
end
