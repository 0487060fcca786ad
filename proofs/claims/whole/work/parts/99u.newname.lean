/-! New names, names of senses, by both. -/
def fCN (G q k : Nat) : Prop := fC2 q k ∨ (q = G ∧ k = 10) ∨ q = G + 5 ∨ q = G + 6
def fMN (q k : Nat) : Prop := fM2 q k ∨ (q = 4 ∧ 242 ≤ k ∧ k < 463)
section
variable {b : Nat → Int} {n T k : Nat} {C M : zM}
theorem bN_c {C' M' : zM} {G u ms : Nat} (h : bN C M G u ms) (c10 : gI C' G 10 = gI C G 10) (c5 : ∀ v, gL C' (G + 5) v = gL C (G + 5) v) (c6 : ∀ v, gI C' (G + 6) v = gI C (G + 6) v) (m : ∀ k, 242 ≤ k → k < 463 → gI M' 4 k = gI M 4 k) : bN C' M' G u ms := by
  obtain ⟨h1, h2, h3, h4, h5⟩ := h
  refine ⟨h1, c10.trans h2, (m 242 (by omega) (by omega)).trans h3, fun v w hv hw => by rw [c5, c5]; exact h4 v w hv hw, fun v hv => ?_⟩
  obtain ⟨⟨L, f, g1, g2, g3, g4, g5⟩, so, x, g6, g7, g8, g9, g10⟩ := h5 v hv
  exact ⟨⟨L, f, g1, g2, (m _ (by omega) (by omega)).trans g3, fun j hj => (m _ (by omega) (by omega)).trans (g4 j hj), (c5 v).trans g5⟩, so, x, g6, (m _ (by omega) (by omega)).trans g7, (m _ (by omega) (by omega)).trans g8, (c6 v).trans g9, g10⟩
theorem bN_ms {G u ms ms' : Nat} (h : bN C M G u ms) (hm : ms ≤ ms') : bN C M G u ms' := by
  obtain ⟨h1, h2, h3, h4, h5⟩ := h
  refine ⟨h1, h2, h3, h4, fun v hv => ?_⟩
  obtain ⟨g, so, x, g6, g7, g8, g9, g10⟩ := h5 v hv
  exact ⟨g, so, x, g6, g7, g8, g9, fun z => by have := g10 z; omega⟩
def mfin (S : zM) (u L : Nat) (so x : Int) : zM := pI (pI (pI (pI S 4 (283 + u) (J L)) 4 (243 + u) (J so)) 4 (263 + u) (J x)) 4 242 (J ((u + 1 : Nat) : Int))
theorem m_L47 {u L q : Nat} {so x : Int} (hu : u < 20) (hL : L ≤ 8) (h8 : gI M 0 8 = J L) (h2 : ∀ j : Nat, j < L → gI M 2 j = J (b (q + j))) (h242 : gI M 4 242 = J u) : ∀ (F j : Nat) (S : zM), j ≤ L → L < F + j → fr (fun a e => a = 4 ∧ 303 + 8 * u ≤ e ∧ e < 303 + 8 * u + 8) M S → (∀ i : Nat, i < j → gI S 4 (303 + 8 * u + i) = J (b (q + i))) → ∃ S1, gX12_newName_L47 (J so) (J x) (J u) F S (J j) = (b1 (gX12_next (mfin S1 u L so x)) fun S => some S) ∧ fr (fun a e => a = 4 ∧ 303 + 8 * u ≤ e ∧ e < 303 + 8 * u + 8) M S1 ∧ ∀ i : Nat, i < L → gI S1 4 (303 + 8 * u + i) = J (b (q + i)) := by
  intro F
  induction F with
  | zero => intro j S g1 g2; omega
  | succ F ih =>
    intro j S g1 g2 f hj
    unfold gX12_newName_L47
    simp only [J_0, J_1, J_2, J_3, J_4, J_5, J_6, J_7, J_8, J_9, J_10, J_11, J_12, J_14, J_15, J_16, J_19, J_20, J_21, J_22, J_23, J_24, J_25, J_28, J_30, J_31, J_32, J_40, J_44, J_47, J_48, J_49, J_50, J_53, J_54, J_57, J_59, J_74, J_75, J_78, J_84, J_97, J_99, J_100, J_120, J_122, J_126, J_132, J_138, J_144, J_150, J_156, J_162, J_198, J_200, J_202, J_206, J_210, J_214, J_218, J_222, J_226, J_230, J_234, J_238, J_239, J_240, J_241, J_242, J_243, J_255, J_263, J_283, J_303, J_399, J_400, J_401, J_463, J_700, J_701, J_999, J_1000, J_2048, J_4095, J_4096, J_6000, J_9999, J_10000, J_65536, J_65537, J_2147483647, J_neg]
    rw [show gI S 0 8 = J L from (f.1 0 8 (by omega)).trans h8, iLE (by omega) (by omega) (by omega) (by omega)]
    by_cases e : j = L
    · have x1 : ixb (J (283 + (u : Int))) 463 = true := ixb_J (by omega) (by omega) (by decide)
      have y1 : ix (J (283 + (u : Int))) = 283 + u := by rw [ix_J (by omega) (by omega)]; omega
      have x2 : ixb (J (243 + (u : Int))) 463 = true := ixb_J (by omega) (by omega) (by decide)
      have y2 : ix (J (243 + (u : Int))) = 243 + u := by rw [ix_J (by omega) (by omega)]; omega
      have x3 : ixb (J (263 + (u : Int))) 463 = true := ixb_J (by omega) (by omega) (by decide)
      have y3 : ix (J (263 + (u : Int))) = 263 + u := by rw [ix_J (by omega) (by omega)]; omega
      have x4 : ixb (J 242) 463 = true := by decide
      have y4 : ix (J 242) = 242 := by decide
      have h242' : gI (pI (pI (pI S 4 (283 + u) (J L)) 4 (243 + u) (J so)) 4 (263 + u) (J x)) 4 242 = J u := by
        rw [rII, if_neg (by omega), rII, if_neg (by omega), rII, if_neg (by omega), f.1 4 242 (by omega), h242]
      rw [if_pos (by omega)]
      simp only [J_neg, J_add, J_sub, J_mul, x1, y1, x2, y2, x3, y3, x4, y4, ckt, b1s, b2s, lts, un2s, un3s, un4s, un5s, lmr, lml, lgr, lgl, h242']
      subst e
      exact ⟨S, rfl, f, hj⟩
    · have x1 : ixb (J (j : Int)) 8 = true := ixb_J (by omega) (by omega) (by decide)
      have y1 : ix (J (j : Int)) = j := by rw [ix_J (by omega) (by omega)]; omega
      have x2 : ixb (J (303 + 8 * (u : Int) + j)) 463 = true := ixb_J (by omega) (by omega) (by decide)
      have y2 : ix (J (303 + 8 * (u : Int) + j)) = 303 + 8 * u + j := by rw [ix_J (by omega) (by omega)]; omega
      rw [if_neg (by omega)]
      simp only [J_neg, J_add, J_sub, J_mul, x1, y1, x2, y2, ckt, b1s, b2s, lts, un2s, un3s, un4s, un5s, lmr, lml, lgr, lgl]
      rw [show gI S 2 j = J (b (q + j)) from (f.1 2 j (by omega)).trans (h2 j (by omega)), show (j : Int) + 1 = ((j + 1 : Nat) : Int) by omega]
      refine ih (j + 1) _ (by omega) (by omega) (fr_t f (fr_pI ⟨rfl, by omega, by omega⟩)) (fun i hi => ?_)
      rw [rII]
      by_cases z : i = j
      · rw [if_pos ⟨rfl, by omega⟩, z]
      · rw [if_neg (fun w => z (by omega))]
        exact hj i (by omega)
theorem rd_newName (h : rdS b n T C M k) {G u ms ms' : Nat} (hN : bN C M G u ms) (hu : u < 20) (hG : G = 6 ∨ G = 243) (hR : gR C 2 6 = G) {so x : Int} (hso : 0 ≤ so ∧ so ≤ 3) (hm : ms ≤ ms') (hm6 : ms' ≤ 6) (hx : so = 0 → 0 ≤ x ∧ x < ms') : two b n T k (fCN G) fMN C M (gX7_takeNewName C (J (if so = 0 then x else -1))) (gX12_newName M (J so) (J x)) (fun C' M' => bN C' M' G (u + 1) ms') := by
  have hf := FUs (n := 30) (by omega)
  obtain ⟨r, r1, r2, r3, r4⟩ := rd_isName h
  obtain ⟨x1, y1, -, -, -⟩ := rd_x h
  have h13 := h.2.2.2.2.2.2
  have w2 : ∀ {A B : zM}, fr fC2 A B → fr (fCN G) A B := fun f => fr_w f (fun q k z => Or.inl z)
  have v2 : ∀ {A B : zM}, fr fM2 A B → fr fMN A B := fun f => fr_w f (fun q k z => Or.inl z)
  unfold gX7_takeNewName gX12_newName
  simp only [J_0, J_1, J_2, J_3, J_4, J_5, J_6, J_7, J_8, J_9, J_10, J_11, J_12, J_14, J_15, J_16, J_19, J_20, J_21, J_22, J_23, J_24, J_25, J_28, J_30, J_31, J_32, J_40, J_44, J_47, J_48, J_49, J_50, J_53, J_54, J_57, J_59, J_74, J_75, J_78, J_84, J_97, J_99, J_100, J_120, J_122, J_126, J_132, J_138, J_144, J_150, J_156, J_162, J_198, J_200, J_202, J_206, J_210, J_214, J_218, J_222, J_226, J_230, J_234, J_238, J_239, J_240, J_241, J_242, J_243, J_255, J_263, J_283, J_303, J_399, J_400, J_401, J_463, J_700, J_701, J_999, J_1000, J_2048, J_4095, J_4096, J_6000, J_9999, J_10000, J_65536, J_65537, J_2147483647, J_neg, J_neg]
  generalize hkd : (if so = 0 then x else (-1 : Int)) = kd
  rw [r2, b1s, r3, b1s]
  rcases r1 with z | z
  · subst z
    obtain ⟨C1, q1, q2, q3, q4, q5⟩ := rd_wrong h (f := 1) (by decide)
    rw [if_pos rfl, if_neg (show ¬ (0 : Int) = 1 by decide), q1, b2s, mbad_13, if_neg (by decide), if_neg (by decide), show isB (J 0) = true by decide, ckt]
    exact ⟨0, _, _, rfl, rfl, w2 q4, v2 q5, Or.inr ⟨rfl, q3⟩⟩
  · subst z
    rw [if_neg (show ¬ J 1 = J 0 by decide), if_pos rfl, hR, zb3 hG, ckt, x1, ckt, y1, h13, if_pos rfl]
    rcases rd_find h (r4 rfl) hN with ⟨v, v1, v2', v3, v4⟩ | ⟨v1, v2', v3⟩
    · obtain ⟨C1, q1, q2, q3, q4, q5⟩ := rd_wrong h (f := 3) (by decide)
      obtain ⟨-, so', x', g6, g7, g8, g9, g10⟩ := hN.2.2.2.2 v v1
      have n2 : ¬ J (if so' = 0 then x' else -1) = J (-2) := by
        by_cases z : so' = 0
        · have := g10 z
          rw [if_pos z, J_inj (by omega) (by omega) (by decide) (by decide)]
          omega
        · rw [if_neg z]
          decide
      rw [v3, b1s, g9, if_neg n2, q1, b2s, show isB (J 0) = true by decide, ckt, v4, b1s, iLT (by omega) (by have := hN.1; omega) (by decide) (by decide), if_neg (by omega), q2, b1s]
      unfold gX12_newName_J27
      simp only [J_0, J_1, J_2, J_3, J_4, J_5, J_6, J_7, J_8, J_9, J_10, J_11, J_12, J_14, J_15, J_16, J_19, J_20, J_21, J_22, J_23, J_24, J_25, J_28, J_30, J_31, J_32, J_40, J_44, J_47, J_48, J_49, J_50, J_53, J_54, J_57, J_59, J_74, J_75, J_78, J_84, J_97, J_99, J_100, J_120, J_122, J_126, J_132, J_138, J_144, J_150, J_156, J_162, J_198, J_200, J_202, J_206, J_210, J_214, J_218, J_222, J_226, J_230, J_234, J_238, J_239, J_240, J_241, J_242, J_243, J_255, J_263, J_283, J_303, J_399, J_400, J_401, J_463, J_700, J_701, J_999, J_1000, J_2048, J_4095, J_4096, J_6000, J_9999, J_10000, J_65536, J_65537, J_2147483647, J_neg]
      rw [mbad_13, if_neg (by decide)]
      exact ⟨0, _, _, rfl, rfl, w2 q4, v2 q5, Or.inr ⟨rfl, q3⟩⟩
    · obtain ⟨q, L, l1, l2, l3, l4, l5⟩ := rd_letters h (r4 rfl)
      have h10 := hN.2.1
      have h242 := hN.2.2.1
      obtain ⟨S1, s1, s2, s3⟩ := m_L47 (b := b) (q := q) (so := so) (x := x) hu l1.2 l2 l3 h242 FU 0 M (by omega) (by omega) fr_r (fun i hi => by omega)
      rw [v2', b1s, if_pos rfl, ckt, ckt, v3, b1s, if_pos (show J (-1) < J 0 by decide), if_pos rfl, show ixb (J 242) 463 = true by decide, ckt, show ix (J 242) = 242 by decide, h242, show J 0 = J ((0 : Nat) : Int) from rfl, s1]
      have xu : ixb (J (u : Int)) 20 = true := ixb_J (by omega) (by omega) (by decide)
      have yu : ix (J (u : Int)) = u := by rw [ix_J (by omega) (by omega)]; omega
      generalize hA : pI (pI (pL C (G + 5) u (gL C 5 k)) (G + 6) u (J kd)) G 10 (J ((u + 1 : Nat) : Int)) = A
      have ad : gX3_addName C G (gL C 5 k) (J kd) = some A := by
        have e1 : gI (pL C (G + 5) u (gL C 5 k)) G 10 = J u := by rw [rIL, h10]
        have e2 : gI (pI (pL C (G + 5) u (gL C 5 k)) (G + 6) u (J kd)) G 10 = J u := by rw [rII, if_neg (by omega), e1]
        unfold gX3_addName
        simp only [J_0, J_1, J_2, J_3, J_4, J_5, J_6, J_7, J_8, J_9, J_10, J_11, J_12, J_14, J_15, J_16, J_19, J_20, J_21, J_22, J_23, J_24, J_25, J_28, J_30, J_31, J_32, J_40, J_44, J_47, J_48, J_49, J_50, J_53, J_54, J_57, J_59, J_74, J_75, J_78, J_84, J_97, J_99, J_100, J_120, J_122, J_126, J_132, J_138, J_144, J_150, J_156, J_162, J_198, J_200, J_202, J_206, J_210, J_214, J_218, J_222, J_226, J_230, J_234, J_238, J_239, J_240, J_241, J_242, J_243, J_255, J_263, J_283, J_303, J_399, J_400, J_401, J_463, J_700, J_701, J_999, J_1000, J_2048, J_4095, J_4096, J_6000, J_9999, J_10000, J_65536, J_65537, J_2147483647, J_neg, h10, xu, yu, e1, e2, ckt, b1s, b2s, lts, un2s, un3s, un4s, un5s, lmr, lml, lgr, lgl, J_add]
        rw [iLE (by decide) (by decide) (by omega) (by omega), if_neg (by omega), ← hA]
        congr 2
      have cA : ∀ q e, ¬ ((q = G + 6 ∧ e = u) ∨ (q = G ∧ e = 10)) → gI A q e = gI C q e := fun q e z => by
        rw [← hA, rII, if_neg (by omega), rII, if_neg (by omega), rIL]
      have lA' : ∀ q e, gL A q e = if q = G + 5 ∧ e = u then gL C 5 k else gL C q e := fun q e => by
        rw [← hA, rLI, rLI, rLL]
      have fA : fr (fCN G) C A := by
        rw [← hA]
        exact fr_t (fr_t (fr_pL (by unfold fCN; omega)) (fr_pI (by unfold fCN; omega))) (fr_pI (by unfold fCN; omega))
      generalize hB : mfin S1 u L so x = B
      have mB : ∀ q e, ¬ (q = 4 ∧ ((303 + 8 * u ≤ e ∧ e < 303 + 8 * u + 8) ∨ e = 283 + u ∨ e = 243 + u ∨ e = 263 + u ∨ e = 242)) → gI B q e = gI M q e := fun q e z => by
        rw [← hB]
        unfold mfin
        rw [rII, if_neg (by omega), rII, if_neg (by omega), rII, if_neg (by omega), rII, if_neg (by omega)]
        exact s2.1 q e (by omega)
      have fB : fr fMN M B := by
        rw [← hB]
        exact fr_t (fr_t (fr_t (fr_t (fr_w s2 (fun q k z => Or.inr (by omega))) (fr_pI (Or.inr (by omega)))) (fr_pI (Or.inr (by omega)))) (fr_pI (Or.inr (by omega)))) (fr_pI (Or.inr (by omega)))
      have rAB : rdS b n T A B k := rdS_w h (cA 2 3 (by omega)) (cA 2 4 (by omega)) (cA 2 7 (by omega)) (fun j => ⟨cA 3 j (by omega), cA 4 j (by omega), by rw [lA', if_neg (by omega)]⟩) (fun j _ => mB 0 j (by omega)) (fun j => mB 1 j (by omega)) (fun j => mB 2 j (by omega))
      obtain ⟨C', M', k', p1, p2, p3, p4, p5, -, p6, -⟩ := rd_step rAB
      have b283 : gI B 4 (283 + u) = J L := by
        rw [← hB]; unfold mfin
        rw [rII, if_neg (by omega), rII, if_neg (by omega), rII, if_neg (by omega), rII, if_pos ⟨rfl, rfl⟩]
      have b243 : gI B 4 (243 + u) = J so := by
        rw [← hB]; unfold mfin
        rw [rII, if_neg (by omega), rII, if_neg (by omega), rII, if_pos ⟨rfl, rfl⟩]
      have b263 : gI B 4 (263 + u) = J x := by
        rw [← hB]; unfold mfin
        rw [rII, if_neg (by omega), rII, if_pos ⟨rfl, rfl⟩]
      have b242 : gI B 4 242 = J ((u + 1 : Nat) : Int) := by
        rw [← hB]; unfold mfin
        rw [rII, if_pos ⟨rfl, rfl⟩]
      have b303 : ∀ i : Nat, i < L → gI B 4 (303 + 8 * u + i) = J (b (q + i)) := fun i hi => by
        rw [← hB]; unfold mfin
        rw [rII, if_neg (by omega), rII, if_neg (by omega), rII, if_neg (by omega), rII, if_neg (by omega)]
        exact s3 i hi
      have hNAB : bN A B G (u + 1) ms' := by
        obtain ⟨g1, g2, g3, g4, g5⟩ := bN_ms hN hm
        refine ⟨by omega, by rw [← hA, rII, if_pos ⟨rfl, rfl⟩], b242, fun v w hv hw => ?_, fun v hv => ?_⟩
        · rw [lA', lA']
          by_cases zv : v = u
          · by_cases zw : w = u
            · intro _; omega
            · rw [if_pos ⟨rfl, zv⟩, if_neg (fun y => zw y.2)]
              intro y
              exact absurd y.symm (v1 w (by omega))
          · by_cases zw : w = u
            · rw [if_neg (fun y => zv y.2), if_pos ⟨rfl, zw⟩]
              intro y
              exact absurd y (v1 v (by omega))
            · rw [if_neg (fun y => zv y.2), if_neg (fun y => zw y.2)]
              exact g4 v w (by omega) (by omega)
        · by_cases zv : v = u
          · subst zv
            refine ⟨⟨L, fun j => b (q + j), l1, l4, b283, b303, ?_⟩, so, x, hso, b243, b263, ?_, hx⟩
            · rw [lA', if_pos ⟨rfl, rfl⟩, l5]
              congr 1
              exact cdW_e _ (fun j hj => by rw [Nat.zero_add])
            · rw [← hA, rII, if_neg (by omega), rII, if_pos ⟨rfl, rfl⟩, hkd]
          · obtain ⟨⟨L', f', a1, a2, a3, a4, a5⟩, so', x', a6, a7, a8, a9, a10⟩ := g5 v (by omega)
            exact ⟨⟨L', f', a1, a2, (mB 4 _ (by omega)).trans a3, fun j hj => (mB 4 _ (by omega)).trans (a4 j hj), by rw [lA', if_neg (fun y => zv y.2)]; exact a5⟩, so', x', a6, (mB 4 _ (by omega)).trans a7, (mB 4 _ (by omega)).trans a8, (cA _ _ (by omega)).trans a9, a10⟩
      rw [ad, b1s, p1, b1s, p2, b1s]
      have p5' := fNx_2 p5
      exact ⟨1, _, _, rfl, rfl, fr_t fA (w2 p4), fr_t fB (v2 p5'), Or.inl ⟨rfl, ⟨k', p6, p3⟩, bN_c hNAB (p4.1 G 10 (by unfold fC2; omega)) (fun v => p4.2.1 _ v (by unfold fC2; omega)) (fun v => p4.1 _ v (by unfold fC2; omega)) (fun e e1 e2 => p5.1 4 e (by unfold fNx; omega))⟩⟩
/-- a sense's name is told -/
theorem rd_senseName (h : rdS b n T C M k) {G u ms : Nat} (hms : ms ≤ 6) (hN : bN C M G u ms) (hG : G = 6 ∨ G = 243) (hR : gR C 2 6 = G) : (∃ (v : Nat) (x : Int), v < u ∧ (0 ≤ x ∧ x < ms) ∧ gX7_takeSenseName C = (b1 (gX7_step (pI C 2 5 (J x))) fun S => some (J 1, S)) ∧ gX12_mustName M = some M ∧ gX12_find M = some (J v) ∧ gI M 4 (243 + v) = J 0 ∧ gI M 4 (263 + v) = J x) ∨ ∃ C', gX7_takeSenseName C = some (J 0, C') ∧ fr fC2 C C' ∧ ((gX12_mustName M = some (mbad M 1 (tpos b n k)) ∧ bad C' (mbad M 1 (tpos b n k))) ∨ (gX12_mustName M = some M ∧ gX12_wrong M (J 2) (gI M 0 4) = some (mbad M 2 (tpos b n k)) ∧ bad C' (mbad M 2 (tpos b n k)) ∧ (gX12_find M = some (J (-1)) ∨ ∃ (v : Nat) (so : Int), v < 20 ∧ gX12_find M = some (J v) ∧ gI M 4 (243 + v) = J so ∧ 1 ≤ so ∧ so ≤ 3))) := by
  obtain ⟨r, r1, r2, r3, r4⟩ := rd_isName h
  obtain ⟨x1, y1, -, -, -⟩ := rd_x h
  unfold gX7_takeSenseName
  simp only [J_0, J_1, J_2, J_3, J_4, J_5, J_6, J_7, J_8, J_9, J_10, J_11, J_12, J_14, J_15, J_16, J_19, J_20, J_21, J_22, J_23, J_24, J_25, J_28, J_30, J_31, J_32, J_40, J_44, J_47, J_48, J_49, J_50, J_53, J_54, J_57, J_59, J_74, J_75, J_78, J_84, J_97, J_99, J_100, J_120, J_122, J_126, J_132, J_138, J_144, J_150, J_156, J_162, J_198, J_200, J_202, J_206, J_210, J_214, J_218, J_222, J_226, J_230, J_234, J_238, J_239, J_240, J_241, J_242, J_243, J_255, J_263, J_283, J_303, J_399, J_400, J_401, J_463, J_700, J_701, J_999, J_1000, J_2048, J_4095, J_4096, J_6000, J_9999, J_10000, J_65536, J_65537, J_2147483647, J_neg]
  rw [r2, b1s]
  rcases r1 with z | z
  · subst z
    obtain ⟨C1, q1, q2, q3, q4, q5⟩ := rd_wrong h (f := 1) (by decide)
    rw [if_pos rfl, q1, b2s, show isB (J 0) = true by decide, ckt]
    rw [if_neg (show ¬ (0 : Int) = 1 by decide)] at r3
    exact Or.inr ⟨C1, rfl, q4, Or.inl ⟨r3, q3⟩⟩
  · subst z
    rw [if_pos rfl] at r3
    obtain ⟨C1, q1, q2, q3, q4, q5⟩ := rd_wrong h (f := 2) (by decide)
    rw [if_neg (show ¬ J 1 = J 0 by decide), hR, zb3 hG, ckt, x1, ckt, y1]
    rcases rd_find h (r4 rfl) hN with ⟨v, v1, v2, v3, v4⟩ | ⟨v1, v2, v3⟩
    · obtain ⟨-, so, x, g6, g7, g8, g9, g10⟩ := hN.2.2.2.2 v v1
      rw [v3, b1s, g9]
      by_cases z : so = 0
      · have := g10 z
        rw [if_pos z, iLE (by decide) (by decide) (by omega) (by omega), if_pos this.1]
        subst z
        exact Or.inl ⟨v, x, v1, this, rfl, r3, v4, g7, g8⟩
      · rw [if_neg z, if_neg (by decide), q1, b2s, show isB (J 0) = true by decide, ckt]
        exact Or.inr ⟨C1, rfl, q4, Or.inr ⟨r3, q2, q3, Or.inr ⟨v, so, by have := hN.1; omega, v4, g7, by omega, g6.2⟩⟩⟩
    · rw [v2, b1s, if_neg (by decide), q1, b2s, show isB (J 0) = true by decide, ckt]
      exact Or.inr ⟨C1, rfl, q4, Or.inr ⟨r3, q2, q3, Or.inl v3⟩⟩
end
