/-! The call of a new room. -/
section
variable {SC SM : zM} {t : Nat}
theorem c_room {a : Int} (ha : -2147483648 ≤ a ∧ a ≤ 2147483647) (hb : 0 ≤ iI SM 0 2 ∧ iI SM 0 2 ≤ 700) (h10 : gI SC 0 10 = gI SM 0 2) : gX11_room SC (J a) = if 0 ≤ a ∧ a ≤ iI SM 0 2 then gX11_room_J18 SC (J a) (J 0) else some (J (-1), cps SC 2) := by
  have e10 : gI SC 0 10 = J (iI SM 0 2) := h10.trans (gI_J _ _ _)
  have j2 : gX11_room_J18 SC (J a) (J 2) = some (J (-1), cps SC 2) := by
    unfold gX11_room_J18
    simp only [J_0, J_1, J_2, J_3, J_4, J_5, J_6, J_7, J_8, J_9, J_10, J_11, J_12, J_14, J_15, J_16, J_19, J_20, J_21, J_22, J_23, J_24, J_25, J_28, J_30, J_31, J_32, J_40, J_44, J_47, J_48, J_49, J_50, J_53, J_54, J_57, J_59, J_74, J_75, J_78, J_84, J_97, J_99, J_100, J_120, J_122, J_126, J_132, J_138, J_144, J_150, J_156, J_162, J_198, J_200, J_202, J_206, J_210, J_214, J_218, J_222, J_226, J_230, J_234, J_238, J_239, J_240, J_241, J_242, J_243, J_255, J_263, J_283, J_303, J_399, J_400, J_401, J_463, J_700, J_701, J_999, J_1000, J_2048, J_4095, J_4096, J_6000, J_9999, J_10000, J_65536, J_65537, J_2147483647, J_neg]
    rw [c_passesN (by decide), b2s, if_pos rfl]
  unfold gX11_room
  simp only [J_0, J_1, J_2, J_3, J_4, J_5, J_6, J_7, J_8, J_9, J_10, J_11, J_12, J_14, J_15, J_16, J_19, J_20, J_21, J_22, J_23, J_24, J_25, J_28, J_30, J_31, J_32, J_40, J_44, J_47, J_48, J_49, J_50, J_53, J_54, J_57, J_59, J_74, J_75, J_78, J_84, J_97, J_99, J_100, J_120, J_122, J_126, J_132, J_138, J_144, J_150, J_156, J_162, J_198, J_200, J_202, J_206, J_210, J_214, J_218, J_222, J_226, J_230, J_234, J_238, J_239, J_240, J_241, J_242, J_243, J_255, J_263, J_283, J_303, J_399, J_400, J_401, J_463, J_700, J_701, J_999, J_1000, J_2048, J_4095, J_4096, J_6000, J_9999, J_10000, J_65536, J_65537, J_2147483647, J_neg]
  rw [j2, e10, iLT (by omega) (by omega) (by decide) (by decide), iLE (by omega) (by omega) (by omega) (by omega)]
  by_cases e : a < 0
  · rw [if_pos e, if_neg (by omega)]
  · rw [if_neg e]
    by_cases z : a ≤ iI SM 0 2
    · rw [if_pos z, if_pos (by omega)]
    · rw [if_neg z, if_neg (by omega)]
theorem st_room (h : Inv SC SM t) (a1 : Int32) : stp (gX11_room SC a1) (gX12_room SM a1) t := by
  have hInv := h
  obtain ⟨⟨H, hh⟩, hT, hB, hC, hS, hTp, hM⟩ := h
  obtain ⟨⟨hH, hR8, hR6⟩, -⟩ := id hh
  have hb := hTp.2.1
  obtain ⟨a, rfl, ha⟩ := J_of a1
  rw [c_room ha hb hTp.1, m_room ha hb]
  by_cases e : 0 ≤ a ∧ a ≤ iI SM 0 2
  · rw [if_pos e, if_pos e]
    obtain ⟨n, hn⟩ : ∃ n : Nat, a = n := ⟨a.toNat, by omega⟩
    subst hn
    obtain ⟨G, hG⟩ : ∃ G, G = 249 - H := ⟨_, rfl⟩
    have hG' : G = 6 ∨ G = 243 := by omega
    have hHG : H = 249 - G := by omega
    have bOKn : bOK (fun k => iI SM 1 k) n := ⟨by omega, fun k hk => (hTp.2.2 k (by omega)).1⟩
    generalize hC0 : pI (cps SC 0) 0 10 (J 0) = C0
    have f0 : fr (fun q k => q = 0 ∧ (k = 10 ∨ k = 12)) SC C0 := by rw [← hC0]; exact fr_t (show fr _ _ (cps _ _) from fr_pI (by omega)) (fr_pI (by omega))
    have fm : fr (fun q k => q = 0 ∧ (k = 0 ∨ k = 11)) SM (mgd SM) := fr_mgd
    have cT0 : cTp C0 (fun k => iI SM 1 k) n := fun k hk => by
      rw [f0.1 1 k (by omega)]
      exact (hTp.2.2 k (by omega)).2
    obtain ⟨C5, M5, r1, r2, r3, r4⟩ := rd_reads (b := fun k => iI SM 1 k) (n := n) (C := C0) (M := mgd SM) (G := G) bOKn hG' (by rw [f0.2.2 2 6 (by omega), hR6, hG]) cT0 (fun k hk => by rw [fm.1 1 k (by omega)]; exact gI_J _ _ _)
    have FC5 : fr (fun q k => fRd G q k ∨ (q = 0 ∧ (k = 10 ∨ k = 12))) SC C5 := fr_t (fr_w f0 (fun q k z => Or.inr z)) (fr_w r1 (fun q k z => Or.inl z))
    have FM5 : fr (fun q k => fRm q k ∨ (q = 0 ∧ (k = 0 ∨ k = 11))) SM M5 := fr_t (fr_w fm (fun q k z => Or.inr z)) (fr_w r2 (fun q k z => Or.inl z))
    have m11 : gI M5 0 11 = J 0 := by rw [r2.1 0 11 (by unfold fRm; omega), mgd_11]
    have c10 : gI C5 0 10 = J 0 := by rw [r1.1 0 10 (by unfold fRd; omega), ← hC0, rII, if_pos ⟨rfl, rfl⟩]
    generalize hC6 : pI (pI C5 0 13 (gI C5 2 7)) 0 14 (gI (pI C5 0 13 (gI C5 2 7)) 2 8) = C6
    have f6 : fr (fun q k => q = 0 ∧ (k = 13 ∨ k = 14)) C5 C6 := by rw [← hC6]; exact fr_t (fr_pI (by omega)) (fr_pI (by omega))
    unfold gX11_room_J18
    simp only [J_0, J_1, J_2, J_3, J_4, J_5, J_6, J_7, J_8, J_9, J_10, J_11, J_12, J_14, J_15, J_16, J_19, J_20, J_21, J_22, J_23, J_24, J_25, J_28, J_30, J_31, J_32, J_40, J_44, J_47, J_48, J_49, J_50, J_53, J_54, J_57, J_59, J_74, J_75, J_78, J_84, J_97, J_99, J_100, J_120, J_122, J_126, J_132, J_138, J_144, J_150, J_156, J_162, J_198, J_200, J_202, J_206, J_210, J_214, J_218, J_222, J_226, J_230, J_234, J_238, J_239, J_240, J_241, J_242, J_243, J_255, J_263, J_283, J_303, J_399, J_400, J_401, J_463, J_700, J_701, J_999, J_1000, J_2048, J_4095, J_4096, J_6000, J_9999, J_10000, J_65536, J_65537, J_2147483647, J_neg]
    rw [c_passes0, b2s, if_neg (show ¬ J 1 = J 0 by decide), hC0]
    rcases r4 with ⟨g1, ⟨b1', b2', b3', fv, b4', b5'⟩, g3⟩ | ⟨g1, g2, g3, ⟨ns, np, nl, ny, hns, hbld⟩, g4⟩
    · rw [g1, b2s, if_pos rfl, hC6, g3]
      unfold gX11_room_J76
      simp only [J_0, J_1, J_2, J_3, J_4, J_5, J_6, J_7, J_8, J_9, J_10, J_11, J_12, J_14, J_15, J_16, J_19, J_20, J_21, J_22, J_23, J_24, J_25, J_28, J_30, J_31, J_32, J_40, J_44, J_47, J_48, J_49, J_50, J_53, J_54, J_57, J_59, J_74, J_75, J_78, J_84, J_97, J_99, J_100, J_120, J_122, J_126, J_132, J_138, J_144, J_150, J_156, J_162, J_198, J_200, J_202, J_206, J_210, J_214, J_218, J_222, J_226, J_230, J_234, J_238, J_239, J_240, J_241, J_242, J_243, J_255, J_263, J_283, J_303, J_399, J_400, J_401, J_463, J_700, J_701, J_999, J_1000, J_2048, J_4095, J_4096, J_6000, J_9999, J_10000, J_65536, J_65537, J_2147483647, J_neg]
      rw [c_passesN (by decide), b2s, if_pos rfl]
      have FC : fr (fun q k => fRd G q k ∨ (q = 0 ∧ (k = 10 ∨ k = 12 ∨ k = 13 ∨ k = 14))) SC (cps C6 4) := fr_t (fr_w FC5 (fun q k z => by unfold fRd at z ⊢; omega)) (fr_t (fr_w f6 (fun q k z => by unfold fRd; omega)) (show fr _ _ (cps _ _) from fr_pI (by unfold fRd; omega)))
      have FM : fr (fun q k => fRm q k ∨ (q = 0 ∧ (k = 0 ∨ k = 11))) SM (pI M5 0 11 (J 4)) := fr_t FM5 (fr_pI (by unfold fRm; omega))
      generalize hSC : cps C6 4 = SC' at FC ⊢
      generalize hSM : pI M5 0 11 (J 4) = SM' at FM ⊢
      have c : ∀ q k, ¬ (fRd G q k ∨ (q = 0 ∧ (k = 10 ∨ k = 12 ∨ k = 13 ∨ k = 14))) → gI SC' q k = gI SC q k := FC.1
      have m : ∀ q k, ¬ (fRm q k ∨ (q = 0 ∧ (k = 0 ∨ k = 11))) → gI SM' q k = gI SM q k := FM.1
      have e10 : gI SC' 0 10 = J 0 := by rw [← hSC, cps_o (by omega), f6.1 0 10 (by omega), c10]
      have e2 : gI SM' 0 2 = J 0 := by rw [← hSM, rII, if_neg (by omega), r3]
      have i2 : iI SM' 0 2 = 0 := iI_of e2 (by decide) (by decide)
      have m20 : iI SM' 0 20 = iI SM 0 20 := iI_c (m 0 20 (by unfold fRm; omega))
      have m21 : gI SM' 0 21 = gI SM 0 21 := m 0 21 (by unfold fRm; omega)
      refine ⟨J (-1), SC', SM', rfl, rfl, ⟨H, rHall_c hh (fun q k x y => c q k (by unfold fRd; omega)) (FC.2.2 0 8 (by unfold fRd; omega)) (FC.2.2 2 6 (by unfold fRd; omega)) (m 0 14 (by unfold fRm; omega)) (fun k => m 3 k (by unfold fRm; omega)) (fun k => m 5 k (by unfold fRm; omega)) (fun k => m 6 k (by unfold fRm; omega)) (fun k => m 7 k (by unfold fRm; omega))⟩, rTot_w hT (fun k => m 6 k (by unfold fRm; omega)) (fun k => m 7 k (by unfold fRm; omega)), rBook_c hB (c 219 2 (by unfold fRd; omega)) (fun k => c 220 k (by unfold fRd; omega)) m21 (fun q k x y => m q k (by unfold fRm; omega)), rCells_c hC (c 221 7 (by unfold fRd; omega)) (fun q k x y => c q k (by unfold fRd; omega)) m21 (fun q k x y => m q k (by unfold fRm; omega)), rSpans_c hS (fun k => FC.2.1 237 k (by unfold fRd; omega)) (fun k => c 238 k (by unfold fRd; omega)), ⟨e10.trans e2.symm, by omega, fun k hk => absurd hk (by omega)⟩, ?_⟩
      obtain ⟨⟨q1, q2⟩, q3, q4, q5, q6⟩ := hM
      refine ⟨⟨?_, by rw [m20]; exact q2⟩, ?_, ?_, fun _ => ?_, fun z => ?_⟩
      · rw [c 0 11 (by unfold fRd; omega), m 0 20 (by unfold fRm; omega)]; exact q1
      · rw [← hSC, cps_12, ← hSM, rII, if_pos ⟨rfl, rfl⟩]
      · rw [← hSC, cps_o (by omega), ← hC6, rII, if_neg (by omega), rII, if_pos ⟨rfl, rfl⟩, b2', ← hSM, rII, if_neg (by omega)]
      · rw [← hSC, cps_o (by omega), ← hC6, rII, if_pos ⟨rfl, rfl⟩, rII, if_neg (by omega), b3', ← hSM, rII, if_neg (by omega)]
      · have eb : bkn SM' = bkn SM := by unfold bkn; rw [iI_c m21]
        rw [eb]
        exact q6 ((m 0 14 (by unfold fRm; omega)).symm.trans z)
    · rw [g1, b2s, if_neg (show ¬ J 1 = J 0 by decide), hC6, g4]
      unfold gX11_room_J76
      simp only [J_0, J_1, J_2, J_3, J_4, J_5, J_6, J_7, J_8, J_9, J_10, J_11, J_12, J_14, J_15, J_16, J_19, J_20, J_21, J_22, J_23, J_24, J_25, J_28, J_30, J_31, J_32, J_40, J_44, J_47, J_48, J_49, J_50, J_53, J_54, J_57, J_59, J_74, J_75, J_78, J_84, J_97, J_99, J_100, J_120, J_122, J_126, J_132, J_138, J_144, J_150, J_156, J_162, J_198, J_200, J_202, J_206, J_210, J_214, J_218, J_222, J_226, J_230, J_234, J_238, J_239, J_240, J_241, J_242, J_243, J_255, J_263, J_283, J_303, J_399, J_400, J_401, J_463, J_700, J_701, J_999, J_1000, J_2048, J_4095, J_4096, J_6000, J_9999, J_10000, J_65536, J_65537, J_2147483647, J_neg]
      rw [c_passes0, b2s, if_neg (show ¬ J 1 = J 0 by decide)]
      generalize hC8 : cps C6 0 = C8
      have f8 : fr (fun q k => q = 0 ∧ (k = 12 ∨ k = 13 ∨ k = 14)) C5 C8 := by rw [← hC8]; exact fr_t (fr_w f6 (fun q k z => by omega)) (show fr _ _ (cps _ _) from fr_pI (by omega))
      have R8 : gR C8 0 8 = H := by rw [f8.2.2 0 8 (by omega), FC5.2.2 0 8 (by unfold fRd; omega), hR8]
      have R6 : gR C8 2 6 = G := by rw [f8.2.2 2 6 (by omega), FC5.2.2 2 6 (by unfold fRd; omega), hR6, hG]
      have B8 : bld C8 M5 G ns np nl ny := by
        obtain ⟨⟨k1, ⟨k2, k3, k4, k5⟩, k6⟩, hI, hz, hN⟩ := hbld
        exact ⟨⟨k1, ⟨(f8.1 G 6 (by omega)).trans k2, (f8.1 G 7 (by omega)).trans k3, (f8.1 G 8 (by omega)).trans k4, (f8.1 G 9 (by omega)).trans k5⟩, k6⟩, bIt_c hI (fun q j z => by rcases z with ⟨s, z1, z2, z3⟩ | ⟨s, z1, z2, z3⟩ | ⟨s, z1, z2⟩ | ⟨s, z1, z2⟩ <;> exact f8.1 q j (by omega)) (fun _ _ => rfl), hz, bN_c hN (f8.1 G 10 (by omega)) (fun v => f8.2.1 _ v (by omega)) (fun v => f8.1 _ v (by omega)) (fun _ _ _ => rfl)⟩
      obtain ⟨S1, SM', s1, s2, s3, s4, s5, s6, s7, s8, s9⟩ := rd_settle hG' hHG R8 R6 B8
      obtain ⟨S2, e1, e2, e3, e4, e5⟩ := c_empty (S := S1)
      obtain ⟨⟨-, T8, T6⟩, hcn, ⟨hc6, -⟩, -⟩ := id s9
      have x8 : gR (pR (pR C8 0 8 G) 2 6 H) 0 8 = G := by rw [rRR, if_neg (by omega), rRR, if_pos ⟨rfl, rfl⟩]
      have U8 : gR (pI S2 0 11 (J 0)) 0 8 = G := by rw [rRI, e2.2.2 0 8 (by omega), T8]
      rw [R8, R6, zb3 hH, ckt, zb3 hG', ckt, x8, zb3 hG', ckt, s1, b1s, e1, b1s, U8, zb3 hG', ckt, s2]
      have FC : fr (fun q k => fRd G q k ∨ (q = 0 ∧ (k = 8 ∨ k = 10 ∨ k = 11 ∨ k = 12 ∨ k = 13 ∨ k = 14)) ∨ (q = 2 ∧ k = 6) ∨ (q = 219 ∧ k = 2) ∨ (q = 221 ∧ k = 7) ∨ q = 222) SC (pI S2 0 11 (J 0)) := fr_t (fr_w FC5 (fun q k z => by unfold fRd at z ⊢; omega)) (fr_t (fr_w f8 (fun q k z => by unfold fRd; omega)) (fr_t (fr_w s3 (fun q k z => by unfold fLv at z; unfold fRd; omega)) (fr_t (fr_w e2 (fun q k z => by unfold fRd; omega)) (fr_pI (by unfold fRd; omega)))))
      have FM : fr (fun q k => fRm q k ∨ (q = 0 ∧ (k = 0 ∨ k = 11 ∨ k = 14 ∨ k = 20 ∨ k = 21)) ∨ q = 3 ∨ q = 5 ∨ q = 6 ∨ q = 7) SM SM' := fr_t (fr_w FM5 (fun q k z => by unfold fRm at z ⊢; omega)) (fr_w s4 (fun q k z => by unfold fRm; omega))
      have G2 : fr (fun q k => (q = 219 ∧ k = 2) ∨ (q = 221 ∧ k = 7) ∨ q = 222 ∨ (q = 0 ∧ k = 11)) S1 (pI S2 0 11 (J 0)) := fr_t (fr_w e2 (fun q k z => by omega)) (fr_pI (by omega))
      have v6 : gI (pI S2 0 11 (J 0)) G 6 = J ns := by
        rw [G2.1 G 6 (by omega), s3.1 G 6 (by unfold fLv; omega)]
        exact B8.1.2.1.1
      rw [v6]
      have S0 : ∀ k, ¬ (k = 8 ∨ k = 11) → gI (pI S2 0 11 (J 0)) 0 k = gI C8 0 k := fun k hk => by rw [G2.1 0 k (by omega), s3.1 0 k (by unfold fLv; omega)]
      have c0 : gI (pI S2 0 11 (J 0)) 0 10 = J 0 := by rw [S0 10 (by omega), f8.1 0 10 (by omega), c10]
      have c12 : gI (pI S2 0 11 (J 0)) 0 12 = J 0 := by rw [S0 12 (by omega), ← hC8, cps_12]
      have c13 : gI (pI S2 0 11 (J 0)) 0 13 = J 0 := by rw [S0 13 (by omega), ← hC8, cps_o (by omega), ← hC6, rII, if_neg (by omega), rII, if_pos ⟨rfl, rfl⟩, g2]
      have c11 : gI (pI S2 0 11 (J 0)) 0 11 = J 0 := by rw [rII, if_pos ⟨rfl, rfl⟩]
      have d2 : gI (pI S2 0 11 (J 0)) 219 2 = J 0 := by rw [rII, if_neg (by omega), e3]
      have d7 : gI (pI S2 0 11 (J 0)) 221 7 = J 0 := by rw [rII, if_neg (by omega), e4]
      have d22 : ∀ k, k < 2048 → gI (pI S2 0 11 (J 0)) 222 k = J 0 := fun k hk => by rw [rII, if_neg (by omega)]; exact e5 k hk
      generalize pI S2 0 11 (J 0) = SC' at FC G2 v6 S0 c0 c12 c13 c11 d2 d7 d22 ⊢
      have m2 : gI SM' 0 2 = J 0 := by rw [s4.1 0 2 (by omega), r3]
      have i2 : iI SM' 0 2 = 0 := iI_of m2 (by decide) (by decide)
      obtain ⟨hB', hb0⟩ := rBook_0 d2 s8
      have i67 : ∀ p, p < 6 → iI SM' 6 p = 0 ∧ iI SM' 7 p = 0 := fun p hp => ⟨iI_of (s5 p hp).1 (by decide) (by decide), iI_of (s5 p hp).2 (by decide) (by decide)⟩
      refine ⟨J ns, SC', SM', rfl, rfl, ⟨G, rHall_c s9 (fun q k x y => G2.1 q k (by omega)) (G2.2.2 0 8 (by omega)) (G2.2.2 2 6 (by omega)) rfl (fun _ => rfl) (fun _ => rfl) (fun _ => rfl) (fun _ => rfl)⟩, fun p hp => ?_, hB', rCells_0 d7 d22 hb0, rSpans_c hS (fun k => FC.2.1 237 k (by unfold fRd; omega)) (fun k => FC.1 238 k (by unfold fRd; omega)), ⟨c0.trans m2.symm, by omega, fun k hk => absurd hk (by omega)⟩, ?_⟩
      · obtain ⟨j1, j2⟩ := i67 p hp
        rw [j1, j2]
        omega
      · have i20 : iI SM' 0 20 = 0 := iI_of s7 (by decide) (by decide)
        have m11' : gI SM' 0 11 = J 0 := by rw [s4.1 0 11 (by omega), m11]
        refine ⟨⟨c11.trans s7.symm, by rw [i20]; decide⟩, c12.trans m11'.symm, ?_, fun z => ?_, fun _ => hb0⟩
        · rw [c13, s4.1 0 9 (by omega), g3]
        · rw [iI_of m11' (by decide) (by decide)] at z
          exact absurd z (by decide)
  · rw [if_neg e, if_neg e]
    exact ⟨_, _, _, rfl, rfl, Inv_w hInv fr_cps (by decide) cps_12⟩
end
