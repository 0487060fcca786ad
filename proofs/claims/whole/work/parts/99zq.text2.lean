/-! The text read as a whole, by both. -/
def fRd (G q k : Nat) : Prop := (q = 2 ∧ ¬ k = 6) ∨ (3 ≤ q ∧ q ≤ 5) ∨ (G ≤ q ∧ q ≤ G + 212)
def fRm (q k : Nat) : Prop := (q = 0 ∧ k ≤ 13 ∧ ¬ k = 0 ∧ ¬ k = 11) ∨ q = 2 ∨ q = 4
section
variable {b : Nat → Int} {n : Nat} {C M : zM} {G : Nat}
theorem tKd_0 {q : Nat} : tKd b n q = 0 ↔ ¬ q < n := by
  unfold tKd
  by_cases e : q < n
  · rw [if_pos e]
    refine ⟨fun w => ?_, fun w => absurd e w⟩
    exfalso
    revert w
    repeat' split
    all_goals omega
  · rw [if_neg e]
    exact ⟨fun _ => e, fun _ => rfl⟩
theorem mKd_0 {q : Nat} : mKd b n q = 0 ↔ ¬ q < n := by
  unfold mKd
  by_cases e : q < n
  · rw [if_pos e]
    refine ⟨fun w => ?_, fun w => absurd e w⟩
    exfalso
    revert w
    repeat' split
    all_goals omega
  · rw [if_neg e]
    exact ⟨fun _ => e, fun _ => rfl⟩
theorem fRd_H {A B : zM} (f : fr (fHall G) A B) : fr (fRd G) A B := fr_w f (fun q k z => by unfold fHall fC2 at z; unfold fRd; omega)
theorem fRm_R {A B : zM} (f : fr fRoom A B) : fr fRm A B := fr_w f (fun q k z => by unfold fRoom fM2 at z; unfold fRm; omega)
theorem rd_reads (hb : bOK b n) (hG : G = 6 ∨ G = 243) (hR : gR C 2 6 = G) (ht : cTp C b n) (hm : ∀ k, k < n → gI M 1 k = J (b k)) : ∃ C' M', fr (fRd G) C C' ∧ fr fRm M M' ∧ gI M' 0 2 = J 0 ∧ ((gX7_reads C (J n) = some (J 0, C') ∧ bad C' M' ∧ mTx M (J n) = some (J (-1), pI M' 0 11 (J 4))) ∨ (gX7_reads C (J n) = some (J 1, C') ∧ gI C' 2 7 = J 0 ∧ gI M' 0 9 = J 0 ∧ (∃ ns np nl ny, 1 ≤ ns ∧ bld C' M' G ns np nl ny) ∧ mTx M (J n) = mFin M')) := by
  have hn := hb.1
  have hf := FUs (n := 2000) (by omega)
  generalize hC1 : pI (pI (pI (pI (pI C G 6 (J 0)) G 7 (J 0)) G 8 (J 0)) G 9 (J 0)) G 10 (J 0) = C1
  have em : gX3_empty C G = some C1 := by
    unfold gX3_empty
    simp only [J_0, J_1, J_2, J_3, J_4, J_5, J_6, J_7, J_8, J_9, J_10, J_11, J_12, J_14, J_15, J_16, J_19, J_20, J_21, J_22, J_23, J_24, J_25, J_28, J_30, J_31, J_32, J_40, J_44, J_47, J_48, J_49, J_50, J_53, J_54, J_57, J_59, J_74, J_75, J_78, J_84, J_97, J_99, J_100, J_120, J_122, J_126, J_132, J_138, J_144, J_150, J_156, J_162, J_198, J_200, J_202, J_206, J_210, J_214, J_218, J_222, J_226, J_230, J_234, J_238, J_239, J_240, J_241, J_242, J_243, J_255, J_263, J_283, J_303, J_399, J_400, J_401, J_463, J_700, J_701, J_999, J_1000, J_2048, J_4095, J_4096, J_6000, J_9999, J_10000, J_65536, J_65537, J_2147483647, J_neg, ckt, b1s, b2s, lts, un2s, un3s, un4s, un5s, lmr, lml, lgr, lgl]
    rw [hC1]
  generalize hC2 : pI (pI C1 2 7 (J 0)) 2 8 (J 0) = C2
  have f1 : fr (fun q _ => q = G) C C1 := by rw [← hC1]; exact fr_t (fr_t (fr_t (fr_t (fr_pI rfl) (fr_pI rfl)) (fr_pI rfl)) (fr_pI rfl)) (fr_pI rfl)
  have f2 : fr (fun q k => q = 2 ∧ (k = 7 ∨ k = 8)) C1 C2 := by rw [← hC2]; exact fr_t (fr_pI (by omega)) (fr_pI (by omega))
  have c1 : ∀ j, 6 ≤ j → j ≤ 10 → gI C1 G j = J 0 := fun j j1 j2 => by
    rw [← hC1]
    simp only [rII, true_and]
    have : j = 6 ∨ j = 7 ∨ j = 8 ∨ j = 9 ∨ j = 10 := by omega
    rcases this with x | x | x | x | x <;> subst x <;> simp
  have c27 : gI C2 2 7 = J 0 := by rw [← hC2, rII, if_neg (by omega), rII, if_pos ⟨rfl, rfl⟩]
  have ht2 : cTp C2 b n := fun k hk => by rw [f2.1 1 k (by omega), f1.1 1 k (by omega)]; exact ht k hk
  obtain ⟨C3, T, s1, s2, s3, s4⟩ := c_scan hb ht2
  have hT := s3.1
  obtain ⟨M2, l1, l2, l3⟩ := m_L39 (M := pI (pI (pI M 0 2 (J 0)) 0 9 (J 0)) 0 13 (J 0)) (v1 := J n) FU 0 _ (by omega) (by omega) fr_r (fun x hx => absurd hx (by omega))
  rw [show J ((0 : Nat) : Int) = J 0 from rfl] at l1
  generalize hM3 : pI (pI M2 0 3 (J n)) 0 5 (J 0) = M3
  have g1 : fr (fun q k => q = 0 ∧ (k = 2 ∨ k = 9 ∨ k = 13)) M (pI (pI (pI M 0 2 (J 0)) 0 9 (J 0)) 0 13 (J 0)) := fr_t (fr_t (fr_pI (by omega)) (fr_pI (by omega))) (fr_pI (by omega))
  have g3 : fr (fun q k => q = 0 ∧ (k = 3 ∨ k = 5)) M2 M3 := by rw [← hM3]; exact fr_t (fr_pI (by omega)) (fr_pI (by omega))
  have m3 : ∀ k, ¬ (k = 3 ∨ k = 5) → gI M3 0 k = gI (pI (pI (pI M 0 2 (J 0)) 0 9 (J 0)) 0 13 (J 0)) 0 k := fun k hk => by rw [g3.1 0 k (by omega), l2.1 0 k (by omega)]
  have mt3 : mTp M3 b n := ⟨by rw [← hM3, rII, if_neg (by omega), rII, if_pos ⟨rfl, rfl⟩], fun k hk => by rw [g3.1 1 k (by omega), l2.1 1 k (by omega), g1.1 1 k (by omega)]; exact hm k hk⟩
  obtain ⟨M4, n1, n2, n3⟩ := m_next hb mt3 (i := 0) (Nat.zero_le n) (by rw [← hM3, rII, if_pos ⟨rfl, rfl⟩]; rfl)
  have m4 : ∀ k, ¬ (4 ≤ k ∧ k ≤ 8) → gI M4 0 k = gI M3 0 k := fun k hk => n2.1 0 k (by unfold fNx; omega)
  have z4 : ∀ e, e < 463 → gI M4 4 e = J 0 := fun e he => by rw [n2.1 4 e (by unfold fNx; omega), g3.1 4 e (by omega), l3 e he]
  have c3 : ∀ q j, 6 ≤ q → gI C3 q j = gI C1 q j := fun q j hq => by rw [s2.1 q j (by unfold fSc; omega), f2.1 q j (by omega)]
  have r0 : rdS b n T C3 M4 0 := by
    refine ⟨hb, s3, Nat.zero_le T, s4, ⟨⟨?_, fun k hk => ?_⟩, ?_, ?_⟩, n3, ?_⟩
    · rw [m4 3 (by omega)]; exact mt3.1
    · rw [n2.1 1 k (by unfold fNx; omega)]; exact mt3.2 k hk
    · rw [s2.1 2 7 (by unfold fSc; omega), c27]
    · rw [m4 9 (by omega), m3 9 (by omega), rII, if_neg (by omega), rII, if_pos ⟨rfl, rfl⟩]
    · rw [m4 13 (by omega), m3 13 (by omega), rII, if_pos ⟨rfl, rfl⟩]
  have B0 : bldE G C3 M4 := ⟨0, 0, 0, 0, ⟨⟨by omega, by omega, by omega, by omega⟩, ⟨by rw [c3 G 6 (by omega), c1 6 (by omega) (by omega)]; rfl, by rw [c3 G 7 (by omega), c1 7 (by omega) (by omega)]; rfl, by rw [c3 G 8 (by omega), c1 8 (by omega) (by omega)]; rfl, by rw [c3 G 9 (by omega), c1 9 (by omega) (by omega)]; rfl⟩, z4 238 (by omega), z4 239 (by omega), z4 240 (by omega), z4 241 (by omega)⟩, ⟨fun s hs => absurd hs (by omega), fun s hs => absurd hs (by omega), fun s hs => absurd hs (by omega), fun s hs => absurd hs (by omega)⟩, ⟨fun s _ hs => ⟨z4 s (by omega), fun j hj => z4 _ (by omega)⟩, fun p _ hp => ⟨z4 _ (by omega), z4 _ (by omega), z4 _ (by omega), z4 _ (by omega), z4 _ (by omega), z4 _ (by omega), fun j hj => z4 _ (by omega)⟩⟩, ⟨by omega, by rw [c3 G 10 (by omega), c1 10 (by omega) (by omega)]; rfl, z4 242 (by omega), fun v w hv => absurd hv (by omega), fun v hv => absurd hv (by omega)⟩⟩
  have hR3 : gR C3 2 6 = G := by rw [s2.2.2 2 6 (by unfold fSc; omega), f2.2.2 2 6 (by omega), f1.2.2 2 6 (by omega), hR]
  obtain ⟨C5, M5, i1, i2, i3, i4⟩ := rd_reads_L hG FU 0 0 C3 M4 (by omega) (Nat.le_refl 0) r0 hR3 B0
  have FC3 : fr (fRd G) C C3 := fr_t (fr_w f1 (fun q k z => by unfold fRd; omega)) (fr_t (fr_w f2 (fun q k z => by unfold fRd; omega)) (fr_w s2 (fun q k z => by unfold fSc at z; unfold fRd; omega)))
  have FM4 : fr fRm M M4 := fr_t (fr_w g1 (fun q k z => by unfold fRm; omega)) (fr_t (fr_w l2 (fun q k z => by unfold fRm; omega)) (fr_t (fr_w g3 (fun q k z => by unfold fRm; omega)) (fr_w n2 (fun q k z => by unfold fNx at z; unfold fRm; omega))))
  have FC5 := fr_t FC3 (fRd_H i2)
  have FM5 := fr_t FM4 (fRm_R i3)
  have m02 : gI M5 0 2 = J 0 := by
    rw [i3.1 0 2 (by unfold fRoom fM2; omega), m4 2 (by omega), m3 2 (by omega), rII, if_neg (by omega), rII, if_neg (by omega), rII, if_pos ⟨rfl, rfl⟩]
  have jn : jmax (J 0) (jmin (J n) (J 700)) = J n := by
    rw [jmin_J (by omega) (by omega) (by decide) (by decide), jmax_J (by decide) (by decide) (by omega) (by omega), show max 0 (min (n : Int) 700) = (n : Int) by omega]
  have mx : mTx M (J n) = mRm M5 := by
    unfold mTx
    rw [l1, b1s, hM3, n1, b1s, i1, b1s]
  unfold gX7_reads
  simp only [J_0, J_1, J_2, J_3, J_4, J_5, J_6, J_7, J_8, J_9, J_10, J_11, J_12, J_14, J_15, J_16, J_19, J_20, J_21, J_22, J_23, J_24, J_25, J_28, J_30, J_31, J_32, J_40, J_44, J_47, J_48, J_49, J_50, J_53, J_54, J_57, J_59, J_74, J_75, J_78, J_84, J_97, J_99, J_100, J_120, J_122, J_126, J_132, J_138, J_144, J_150, J_156, J_162, J_198, J_200, J_202, J_206, J_210, J_214, J_218, J_222, J_226, J_230, J_234, J_238, J_239, J_240, J_241, J_242, J_243, J_255, J_263, J_283, J_303, J_399, J_400, J_401, J_463, J_700, J_701, J_999, J_1000, J_2048, J_4095, J_4096, J_6000, J_9999, J_10000, J_65536, J_65537, J_2147483647, J_neg]
  rw [hR, zb3 hG, ckt, em, b1s, hC2, jn, s1, b1s, mx]
  rw [show J ((0 : Nat) : Int) = J 0 from rfl] at i4
  rcases i4 with ⟨j1, ⟨k, j2⟩, ns, np, nl, ny, j3⟩ | ⟨j1, j2⟩
  · have hR5 : gR C5 2 6 = G := by rw [i2.2.2 2 6 (by unfold fHall fC2; omega), hR3]
    obtain ⟨x1, y1, x3, x4, x5⟩ := rd_x j2
    have k6 := (rd_kind j2).2
    have kb := tKd_b (b := b) (n := n) (q := tpos b n k)
    have mb := mKd_b (b := b) (n := n) (q := tpos b n k)
    have h13 := j2.2.2.2.2.2.2
    have c6 := j3.1.2.1.1
    have m6 := j3.1.2.2.1
    have nb := j3.1.1.1
    rw [j1, lmr, x1, ckt, y1, x3, iEQ (by omega) (by omega) (by decide) (by decide), hR5, zb3 hG, ckt, c6, iLT (by decide) (by decide) (by omega) (by omega)]
    by_cases e : tKd b n (tpos b n k) = 0
    · have e0 := tKd_0.mp e
      have t6 : gI M5 0 6 = J 0 := by rw [k6, mKd_0.mpr e0]
      by_cases z : ns = 0
      · obtain ⟨C6, q1, q2, q3, q4, q5⟩ := rd_wrong j2 (f := 6) (by decide)
        subst z
        rw [if_pos e, if_neg (by omega), q1, b2s, if_pos rfl, mRm_n h13 t6 m6 q2 mbad_13]
        refine ⟨C6, _, fr_t FC5 (fRd_H (fHall_2 q4)), fr_t FM5 (fRm_R (fRoom_2 q5)), ?_, Or.inl ⟨rfl, q3, rfl⟩⟩
        rw [q5.1 0 2 (by unfold fM2; omega), m02]
      · have n238 : ¬ gI M5 4 238 = J 0 := by rw [m6, J_inj (by omega) (by omega) (by decide) (by decide)]; omega
        rw [if_pos e, if_pos (by omega), mRm_o h13 t6 n238]
        exact ⟨C5, M5, FC5, FM5, m02, Or.inr ⟨rfl, j2.2.2.2.2.1.2.1, j2.2.2.2.2.1.2.2, ⟨ns, np, nl, ny, by omega, j3⟩, rfl⟩⟩
    · obtain ⟨C6, q1, q2, q3, q4, q5⟩ := rd_wrong j2 (f := 1) (by decide)
      have t6 : ¬ gI M5 0 6 = J 0 := by
        rw [k6, J_inj (by omega) (by omega) (by decide) (by decide)]
        exact fun w => e (tKd_0.mpr (mKd_0.mp w))
      rw [if_neg e, q1, b2s, show isB (J 0) = true by decide, ckt, mRm_t h13 t6 q2 mbad_13]
      refine ⟨C6, _, fr_t FC5 (fRd_H (fHall_2 q4)), fr_t FM5 (fRm_R (fRoom_2 q5)), ?_, Or.inl ⟨rfl, q3, rfl⟩⟩
      rw [q5.1 0 2 (by unfold fM2; omega), m02]
  · rw [j1, lml, mRm_b j2.1]
    exact ⟨C5, M5, FC5, FM5, m02, Or.inl ⟨rfl, j2, rfl⟩⟩
end
