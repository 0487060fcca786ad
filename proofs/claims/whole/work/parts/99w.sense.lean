/-! A sense's line, by both. -/
section
variable {b : Nat → Int} {n T k : Nat} {C M : zM} {q s m : Nat}
theorem b_stepOf (h : gI M 0 13 = J 1) : gX12_stepOf M (J s) = some M := by
  unfold gX12_stepOf gX12_stepOf_J53
  simp only [J_0, J_1, J_2, J_3, J_4, J_5, J_6, J_7, J_8, J_9, J_10, J_11, J_12, J_14, J_15, J_16, J_19, J_20, J_21, J_22, J_23, J_24, J_25, J_28, J_30, J_31, J_32, J_40, J_44, J_47, J_48, J_49, J_50, J_53, J_54, J_57, J_59, J_74, J_75, J_78, J_84, J_97, J_99, J_100, J_120, J_122, J_126, J_132, J_138, J_144, J_150, J_156, J_162, J_198, J_200, J_202, J_206, J_210, J_214, J_218, J_222, J_226, J_230, J_234, J_238, J_239, J_240, J_241, J_242, J_243, J_255, J_263, J_283, J_303, J_399, J_400, J_401, J_463, J_700, J_701, J_999, J_1000, J_2048, J_4095, J_4096, J_6000, J_9999, J_10000, J_65536, J_65537, J_2147483647, J_neg, b_word h, ckt, b1s, b2s, lts, un2s, un3s, un4s, un5s, lmr, lml, lgr, lgl, if_true, J_neg, b_wrong h, b_J68 h]
theorem isB_r {r : Int} (h : r = 0 ∨ r = 1) : isB (J r) = true := by rcases h with z | z <;> rw [z] <;> decide
/-- a two, after which a truth value is handed on -/
theorem two_ck {EC EM : Nat → Nat → Prop} {F : Option (Int32 × zM)} {Gm : Option zM} {E : zM → zM → Prop} (h : two b n T k EC EM C M F Gm E) : two b n T k EC EM C M (b2 F fun r S => ck (isB r) (some (r, S))) Gm E := by
  obtain ⟨r, C', M', h1, h2, h3, h4, h5⟩ := h
  refine ⟨r, C', M', ?_, h2, h3, h4, h5⟩
  rw [h1, b2s, isB_r (by rcases h5 with z | z; exact Or.inr z.1; exact Or.inl z.1), ckt]
theorem rd_readStep (h : rdS b n T C M k) (hP : sP C M q s m) (hq : 6 ≤ q) (hs : s < 6) : two b n T k (fSt q) (fMt s) C M (gX7_readStep C q) (gX12_stepOf M (J s)) (fun C' M' => m < 4 ∧ sP C' M' q s (m + 1)) := by
  obtain ⟨r1, a1, c1, m1, -⟩ := rd_word h (w := 12) (by decide)
  obtain ⟨r2, a2, c2, m2, -⟩ := rd_word h (w := 13) (by decide)
  obtain ⟨r3, a3, c3, m3, -⟩ := rd_word h (w := 6) (by decide)
  obtain ⟨r4, a4, c4, m4, -⟩ := rd_word h (w := 14) (by decide)
  have s0 := two_ck (rd_stepOf h hP hq hs (kd := 0) (by decide))
  have s1 := two_ck (rd_stepOf h hP hq hs (kd := 1) (by decide))
  have s2 := two_ck (rd_stepOf h hP hq hs (kd := 2) (by decide))
  have s3 := two_ck (rd_stepOf h hP hq hs (kd := 3) (by decide))
  unfold gX7_readStep gX12_stepOf
  simp only [J_0, J_1, J_2, J_3, J_4, J_5, J_6, J_7, J_8, J_9, J_10, J_11, J_12, J_14, J_15, J_16, J_19, J_20, J_21, J_22, J_23, J_24, J_25, J_28, J_30, J_31, J_32, J_40, J_44, J_47, J_48, J_49, J_50, J_53, J_54, J_57, J_59, J_74, J_75, J_78, J_84, J_97, J_99, J_100, J_120, J_122, J_126, J_132, J_138, J_144, J_150, J_156, J_162, J_198, J_200, J_202, J_206, J_210, J_214, J_218, J_222, J_226, J_230, J_234, J_238, J_239, J_240, J_241, J_242, J_243, J_255, J_263, J_283, J_303, J_399, J_400, J_401, J_463, J_700, J_701, J_999, J_1000, J_2048, J_4095, J_4096, J_6000, J_9999, J_10000, J_65536, J_65537, J_2147483647, J_neg, J_neg]
  rw [show (10012 : Nat) = 10000 + 12 from rfl, show (10013 : Nat) = 10000 + 13 from rfl, show (10006 : Nat) = 10000 + 6 from rfl, show (10014 : Nat) = 10000 + 14 from rfl, c1, b1s, m1, b1s]
  rcases a1 with z | z
  · subst z
    rw [if_pos rfl, if_pos rfl, c2, b1s, m2, b1s]
    rcases a2 with z | z
    · subst z
      rw [if_pos rfl, if_pos rfl, c3, b1s, m3, b1s]
      rcases a3 with z | z
      · subst z
        rw [if_pos rfl, if_pos rfl, c4, b1s, m4, b1s]
        rcases a4 with z | z
        · subst z
          obtain ⟨C1, q1, q2, q3, q4, q5⟩ := rd_wrong h (f := 1) (by decide)
          rw [if_pos rfl, if_pos rfl, q1, b2s, show isB (J 0) = true by decide, ckt]
          unfold gX12_stepOf_J53
          simp only [J_0, J_1, J_2, J_3, J_4, J_5, J_6, J_7, J_8, J_9, J_10, J_11, J_12, J_14, J_15, J_16, J_19, J_20, J_21, J_22, J_23, J_24, J_25, J_28, J_30, J_31, J_32, J_40, J_44, J_47, J_48, J_49, J_50, J_53, J_54, J_57, J_59, J_74, J_75, J_78, J_84, J_97, J_99, J_100, J_120, J_122, J_126, J_132, J_138, J_144, J_150, J_156, J_162, J_198, J_200, J_202, J_206, J_210, J_214, J_218, J_222, J_226, J_230, J_234, J_238, J_239, J_240, J_241, J_242, J_243, J_255, J_263, J_283, J_303, J_399, J_400, J_401, J_463, J_700, J_701, J_999, J_1000, J_2048, J_4095, J_4096, J_6000, J_9999, J_10000, J_65536, J_65537, J_2147483647, J_neg, J_neg]
          rw [if_pos trivial, q2, b1s, b_J68 mbad_13]
          exact ⟨0, _, _, rfl, rfl, fC2_St q4, fM2_t q5, Or.inr ⟨rfl, q3⟩⟩
        · subst z
          rw [if_neg (show ¬ J 1 = J 0 by decide), if_neg (show ¬ J 1 = J 0 by decide)]
          exact s3
      · subst z
        rw [if_neg (show ¬ J 1 = J 0 by decide), if_neg (show ¬ J 1 = J 0 by decide)]
        exact s2
    · subst z
      rw [if_neg (show ¬ J 1 = J 0 by decide), if_neg (show ¬ J 1 = J 0 by decide)]
      exact s1
  · subst z
    rw [if_neg (show ¬ J 1 = J 0 by decide), if_neg (show ¬ J 1 = J 0 by decide)]
    exact s0
theorem c_L8_0 {f : Nat} {v3 : Int32} : gX7_readSteps_L8 q (f + 1) C (J 0) v3 = some (J 0, C) := by
  unfold gX7_readSteps_L8
  simp only [J_0, J_1, J_2, J_3, J_4, J_5, J_6, J_7, J_8, J_9, J_10, J_11, J_12, J_14, J_15, J_16, J_19, J_20, J_21, J_22, J_23, J_24, J_25, J_28, J_30, J_31, J_32, J_40, J_44, J_47, J_48, J_49, J_50, J_53, J_54, J_57, J_59, J_74, J_75, J_78, J_84, J_97, J_99, J_100, J_120, J_122, J_126, J_132, J_138, J_144, J_150, J_156, J_162, J_198, J_200, J_202, J_206, J_210, J_214, J_218, J_222, J_226, J_230, J_234, J_238, J_239, J_240, J_241, J_242, J_243, J_255, J_263, J_283, J_303, J_399, J_400, J_401, J_463, J_700, J_701, J_999, J_1000, J_2048, J_4095, J_4096, J_6000, J_9999, J_10000, J_65536, J_65537, J_2147483647, J_neg, show isB (J 0) = true by decide, ckt, b1s, b2s, lts, un2s, un3s, un4s, un5s, lmr, lml, lgr, lgl, if_true]
  split <;> rfl
theorem m_L28_b {f : Nat} {v : Int32} (h : gI M 0 13 = J 1) : gX12_senseLine_L28 v (f + 1) M = some M := by
  unfold gX12_senseLine_L28
  simp only [J_0, J_1, J_2, J_3, J_4, J_5, J_6, J_7, J_8, J_9, J_10, J_11, J_12, J_14, J_15, J_16, J_19, J_20, J_21, J_22, J_23, J_24, J_25, J_28, J_30, J_31, J_32, J_40, J_44, J_47, J_48, J_49, J_50, J_53, J_54, J_57, J_59, J_74, J_75, J_78, J_84, J_97, J_99, J_100, J_120, J_122, J_126, J_132, J_138, J_144, J_150, J_156, J_162, J_198, J_200, J_202, J_206, J_210, J_214, J_218, J_222, J_226, J_230, J_234, J_238, J_239, J_240, J_241, J_242, J_243, J_255, J_263, J_283, J_303, J_399, J_400, J_401, J_463, J_700, J_701, J_999, J_1000, J_2048, J_4095, J_4096, J_6000, J_9999, J_10000, J_65536, J_65537, J_2147483647, J_neg]
  rw [h, if_neg (by decide)]
theorem rd_steps_L (hq : 6 ≤ q) (hs : s < 6) : ∀ (f c k m : Nat) (C M : zM), T + 2 < f + c → c ≤ k → 1 ≤ m → rdS b n T C M k → sP C M q s m → two b n T k (fSt q) (fMt s) C M (gX7_readSteps_L8 q f C (J 1) (J c)) (gX12_senseLine_L28 (J s) f M) (fun C' M' => ∃ m', 1 ≤ m' ∧ sP C' M' q s m') := by
  intro f
  induction f with
  | zero =>
    intro c k m C M g1 g2 g3 h
    have := h.2.2.1
    omega
  | succ f ih =>
    intro c k m C M g1 g2 g3 h hP
    have hk := h.2.2.1
    have hT := h.2.1.1
    obtain ⟨r, r1, r2, r3, r4⟩ := rd_word h (w := 4) (by decide)
    unfold gX7_readSteps_L8 gX12_senseLine_L28
    simp only [J_0, J_1, J_2, J_3, J_4, J_5, J_6, J_7, J_8, J_9, J_10, J_11, J_12, J_14, J_15, J_16, J_19, J_20, J_21, J_22, J_23, J_24, J_25, J_28, J_30, J_31, J_32, J_40, J_44, J_47, J_48, J_49, J_50, J_53, J_54, J_57, J_59, J_74, J_75, J_78, J_84, J_97, J_99, J_100, J_120, J_122, J_126, J_132, J_138, J_144, J_150, J_156, J_162, J_198, J_200, J_202, J_206, J_210, J_214, J_218, J_222, J_226, J_230, J_234, J_238, J_239, J_240, J_241, J_242, J_243, J_255, J_263, J_283, J_303, J_399, J_400, J_401, J_463, J_700, J_701, J_999, J_1000, J_2048, J_4095, J_4096, J_6000, J_9999, J_10000, J_65536, J_65537, J_2147483647, J_neg]
    rw [show (10004 : Nat) = 10000 + 4 from rfl, h.2.1.2.2.2.1, iLE (by omega) (by omega) (by omega) (by omega), if_neg (by omega), if_neg (show ¬ J 1 = J 0 by decide), r2, b1s, h.2.2.2.2.2.2, if_pos rfl]
    rcases r1 with z | z
    · subst z
      rw [if_pos rfl, m_takes0 r3, b2s, if_pos rfl, show isB (J 1) = true by decide, ckt]
      exact ⟨1, C, M, rfl, rfl, fr_r, fr_r, Or.inl ⟨rfl, ⟨k, Nat.le_refl k, h⟩, m, g3, hP⟩⟩
    · subst z
      obtain ⟨C1, M1, k1, a1, a2, a3, a4, a5, -, -, a6⟩ := rd_step h
      have kk := a6 (r4 rfl).1
      have hP1 : sP C1 M1 q s m := sP_c hP (a4.1 q 6 (by unfold fC2; omega)) (fun a j e1 _ => a4.1 a j (by unfold fC2; omega)) (fun e _ => a5.1 4 e (by unfold fNx; omega))
      obtain ⟨r', C2, M2, b1', b2', b3', b4', b5'⟩ := rd_readStep a3 hP1 hq hs
      rw [if_neg (show ¬ J 1 = J 0 by decide), a1, b1s, b1', b2s, m_takes1 r3 a2, b2s, if_neg (show ¬ J 1 = J 0 by decide), b2', b1s, J_add, show (c : Int) + 1 = ((c + 1 : Nat) : Int) by omega]
      have FC := fr_t (fC2_St (q := q) a4) b3'
      have FM := fr_t (fM2_t (s := s) (fNx_2 a5)) b4'
      rcases b5' with ⟨y, ⟨k2, y0, y2⟩, y3, y4⟩ | ⟨y, y2⟩
      · subst y
        obtain ⟨r3', C3, M3, d1, d2, d3, d4, d5⟩ := ih (c + 1) k2 (m + 1) C2 M2 (by omega) (by omega) (by omega) y2 y4
        refine ⟨r3', C3, M3, d1, d2, fr_t FC d3, fr_t FM d4, ?_⟩
        rcases d5 with ⟨u, ⟨k3, u0, u2⟩, u3⟩ | u
        · exact Or.inl ⟨u, ⟨k3, by omega, u2⟩, u3⟩
        · exact Or.inr u
      · subst y
        obtain ⟨f', rfl⟩ : ∃ f', f = f' + 1 := ⟨f - 1, by omega⟩
        rw [c_L8_0, m_L28_b y2.1]
        exact ⟨0, _, _, rfl, rfl, FC, FM, Or.inr ⟨rfl, y2⟩⟩
/-- wholes of noise -/
def wP (C M : zM) (q s w : Nat) : Prop := (1 ≤ w ∧ w ≤ 6) ∧ gI C q 7 = J w ∧ gI M 4 (78 + s) = J w ∧ (∀ j, j < w → ∃ v : Int, (0 ≤ v ∧ v ≤ 9) ∧ (j = 0 → 1 ≤ v) ∧ gI C (q + 4) j = J v ∧ gI M 4 (84 + 6 * s + j) = J v) ∧ ∀ j, w ≤ j → j < 6 → gI M 4 (84 + 6 * s + j) = J 0
def fWc (q0 q k : Nat) : Prop := fC2 q k ∨ (q = q0 ∧ k = 7) ∨ q = q0 + 4
def kWm (s k : Nat) : Prop := k = 78 + s ∨ (84 + 6 * s ≤ k ∧ k < 90 + 6 * s)
def fWm (s q k : Nat) : Prop := fM2 q k ∨ (q = 4 ∧ kWm s k)
theorem wP_c {C' M' : zM} {w : Nat} (h : wP C M q s w) (c7 : gI C' q 7 = gI C q 7) (c : ∀ j, gI C' (q + 4) j = gI C (q + 4) j) (m4 : ∀ k, kWm s k → gI M' 4 k = gI M 4 k) : wP C' M' q s w := by
  obtain ⟨h1, h2, h3, h4, h5⟩ := h
  refine ⟨h1, c7.trans h2, (m4 _ (Or.inl rfl)).trans h3, fun j hj => ?_, fun j a1 a2 => (m4 _ (by unfold kWm; omega)).trans (h5 j a1 a2)⟩
  obtain ⟨v, g1, g2, g3, g4⟩ := h4 j hj
  exact ⟨v, g1, g2, (c j).trans g3, (m4 _ (by unfold kWm; omega)).trans g4⟩
theorem c_addWhole {w : Nat} {v : Int} (h : gI C q 7 = J w) (hw : w < 6) : gX9_addWhole C q (J v) = some (pI (pI C (q + 4) w (J v)) q 7 (J ((w + 1 : Nat) : Int))) := by
  have x1 : ixb (J (w : Int)) 6 = true := ixb_J (by omega) (by omega) (by decide)
  have y1 : ix (J (w : Int)) = w := by rw [ix_J (by omega) (by omega)]; omega
  have e1 : gI (pI C (q + 4) w (J v)) q 7 = J w := by rw [rII, if_neg (by omega), h]
  unfold gX9_addWhole
  simp only [J_0, J_1, J_2, J_3, J_4, J_5, J_6, J_7, J_8, J_9, J_10, J_11, J_12, J_14, J_15, J_16, J_19, J_20, J_21, J_22, J_23, J_24, J_25, J_28, J_30, J_31, J_32, J_40, J_44, J_47, J_48, J_49, J_50, J_53, J_54, J_57, J_59, J_74, J_75, J_78, J_84, J_97, J_99, J_100, J_120, J_122, J_126, J_132, J_138, J_144, J_150, J_156, J_162, J_198, J_200, J_202, J_206, J_210, J_214, J_218, J_222, J_226, J_230, J_234, J_238, J_239, J_240, J_241, J_242, J_243, J_255, J_263, J_283, J_303, J_399, J_400, J_401, J_463, J_700, J_701, J_999, J_1000, J_2048, J_4095, J_4096, J_6000, J_9999, J_10000, J_65536, J_65537, J_2147483647, J_neg, h, x1, y1, e1, ckt, b1s, b2s, lts, un2s, un3s, un4s, un5s, lmr, lml, lgr, lgl, J_add]
  rw [iLE (by decide) (by decide) (by omega) (by omega), if_neg (by omega)]
  rfl
/-- a whole above what is let -/
theorem rd_above (h : rdS b n T C M k) (y : tN b n (tpos b n k)) (hv : ¬ dcW b (tpos b n k) (te b n (tpos b n k) - tpos b n k) ≤ 9) : ∃ C', gX7_takeWhole C (J 0) (J 9) = some (J 0, C') ∧ gX12_wrong M (J 4) (gI M 0 4) = some (mbad M 4 (tpos b n k)) ∧ bad C' (mbad M 4 (tpos b n k)) ∧ fr fC2 C C' ∧ fr fM2 M (mbad M 4 (tpos b n k)) := by
  have h' := h
  obtain ⟨C1, q1, q2, q3, q4, q5⟩ := rd_wrong h (f := 4) (by decide)
  obtain ⟨x1, y1, x3, x4, x5⟩ := rd_x h
  obtain ⟨v1, v2, v3⟩ := tN_v y
  refine ⟨C1, ?_, q2, q3, q4, q5⟩
  unfold gX7_takeWhole
  simp only [J_0, J_1, J_2, J_3, J_4, J_5, J_6, J_7, J_8, J_9, J_10, J_11, J_12, J_14, J_15, J_16, J_19, J_20, J_21, J_22, J_23, J_24, J_25, J_28, J_30, J_31, J_32, J_40, J_44, J_47, J_48, J_49, J_50, J_53, J_54, J_57, J_59, J_74, J_75, J_78, J_84, J_97, J_99, J_100, J_120, J_122, J_126, J_132, J_138, J_144, J_150, J_156, J_162, J_198, J_200, J_202, J_206, J_210, J_214, J_218, J_222, J_226, J_230, J_234, J_238, J_239, J_240, J_241, J_242, J_243, J_255, J_263, J_283, J_303, J_399, J_400, J_401, J_463, J_700, J_701, J_999, J_1000, J_2048, J_4095, J_4096, J_6000, J_9999, J_10000, J_65536, J_65537, J_2147483647, J_neg]
  rw [x1, ckt, ckt, ckt, ckt, y1, x3, x5, tN_k.mpr y, if_pos rfl, v1, J_toL (by decide) (by decide), J_toL (by decide) (by decide), iLTl (by omega) (by omega) (by decide) (by decide), if_neg (by omega), iLEl (by omega) (by omega) (by decide) (by decide), if_neg hv, q1, b2s, show isB (J 0) = true by decide, ckt]
theorem rd_noise_L (hq : 6 ≤ q) (hs : s < 6) : ∀ (f c k w : Nat) (C M : zM), T + 2 < f + c → c ≤ k → rdS b n T C M k → wP C M q s w → ∃ (r : Int) (C' M' : zM), gX7_readNoise_L22 q f C (J c) = some (J r, C') ∧ fr (fWc q) C C' ∧ fr (fWm s) M M' ∧ ((r = 1 ∧ (∃ k', k ≤ k' ∧ rdS b n T C' M' k') ∧ (∃ w', wP C' M' q s w') ∧ gX12_senseLine_L95 (J s) f M = some (.inr M')) ∨ (r = 0 ∧ bad C' M' ∧ (gX12_senseLine_L95 (J s) f M = some (.inr M') ∨ gX12_senseLine_L95 (J s) f M = some (.inl M')))) := by
  have x78 : ixb (J ((78 + s : Nat) : Int)) 463 = true := ixb_J (by omega) (by omega) (by decide)
  have y78 : ix (J ((78 + s : Nat) : Int)) = 78 + s := by rw [ix_J (by omega) (by omega)]; omega
  have a78 : J 78 + J (s : Int) = J ((78 + s : Nat) : Int) := by rw [J_add]; rfl
  intro f
  induction f with
  | zero =>
    intro c k w C M g1 g2 h
    have := h.2.2.1
    omega
  | succ f ih =>
    intro c k w C M g1 g2 h hP
    have hk := h.2.2.1
    have hT := h.2.1.1
    have kb := tKd_b (b := b) (n := n) (q := tpos b n k)
    have mb := mKd_b (b := b) (n := n) (q := tpos b n k)
    have h13 := h.2.2.2.2.2.2
    obtain ⟨x1, y1, x3, x4, x5⟩ := rd_x h
    obtain ⟨k3, k6⟩ := rd_kind h
    obtain ⟨hw, p7, p78, pj, pz⟩ := id hP
    have a84 : J 84 + J 6 * J (s : Int) + J (w : Int) = J (84 + 6 * (s : Int) + (w : Int)) := by rw [J_mul, J_add, J_add]
    have ac : J (c : Int) + J 1 = J ((c + 1 : Nat) : Int) := by rw [J_add]; rfl
    have aw : J (w : Int) + J 1 = J ((w + 1 : Nat) : Int) := by rw [J_add]; rfl
    unfold gX7_readNoise_L22 gX12_senseLine_L95
    simp only [J_0, J_1, J_2, J_3, J_4, J_5, J_6, J_7, J_8, J_9, J_10, J_11, J_12, J_14, J_15, J_16, J_19, J_20, J_21, J_22, J_23, J_24, J_25, J_28, J_30, J_31, J_32, J_40, J_44, J_47, J_48, J_49, J_50, J_53, J_54, J_57, J_59, J_74, J_75, J_78, J_84, J_97, J_99, J_100, J_120, J_122, J_126, J_132, J_138, J_144, J_150, J_156, J_162, J_198, J_200, J_202, J_206, J_210, J_214, J_218, J_222, J_226, J_230, J_234, J_238, J_239, J_240, J_241, J_242, J_243, J_255, J_263, J_283, J_303, J_399, J_400, J_401, J_463, J_700, J_701, J_999, J_1000, J_2048, J_4095, J_4096, J_6000, J_9999, J_10000, J_65536, J_65537, J_2147483647, J_neg, JL_0, JL_1, JL_9, JL_10, JL_32, JL_40, JL_48, JL_64, JL_97, JL_100, JL_4095, JL_4096, JL_16384, JL_65537, JL_524287, JL_524288, JL_268435455, JL_1099511627775, JL_neg]
    rw [h.2.1.2.2.2.1, iLE (by omega) (by omega) (by omega) (by omega), if_neg (by omega), x1, ckt, ckt, y1, x3, x5, h13, if_pos rfl, k6, iEQ (by omega) (by omega) (by decide) (by decide), iEQ (by omega) (by omega) (by decide) (by decide)]
    by_cases y : tN b n (tpos b n k)
    · obtain ⟨v1, v2, v3⟩ := tN_v y
      have m7 := h.2.2.2.2.2.1.2.2.2.2 y.1 y.2.1 y.2.2.1 y.2.2.2
      rw [if_pos (tN_k.mpr y), if_pos (tN_m.mpr y), v1, iLTl (by decide) (by decide) (by omega) (by omega), m7, m_within (by omega) (by omega) (by decide) (by decide) (by decide) (by decide), b1s, iB0]
      by_cases hv : dcW b (tpos b n k) (te b n (tpos b n k) - tpos b n k) ≤ 9
      · rw [if_neg (show ¬ (9 : Int) < dcW b (tpos b n k) (te b n (tpos b n k) - tpos b n k) by omega), if_pos (show 0 ≤ dcW b (tpos b n k) (te b n (tpos b n k) - tpos b n k) ∧ dcW b (tpos b n k) (te b n (tpos b n k) - tpos b n k) ≤ 9 from ⟨v2, hv⟩), p7, iLT (by omega) (by omega) (by decide) (by decide), a78, x78, ckt, y78, p78, iEQ (by omega) (by omega) (by decide) (by decide)]
        by_cases e : w = 6
        · obtain ⟨C1, q1, q2, q3, q4, q5⟩ := rd_wrong h (f := 5) (by decide)
          rw [if_neg (show ¬ (w : Int) < 6 by omega), q1, b2s, show isB (J 0) = true by decide, ckt, if_pos (show (w : Int) = 6 by omega), q2, b1s]
          unfold gX12_senseLine_J158
          simp only [J_0, J_1, J_2, J_3, J_4, J_5, J_6, J_7, J_8, J_9, J_10, J_11, J_12, J_14, J_15, J_16, J_19, J_20, J_21, J_22, J_23, J_24, J_25, J_28, J_30, J_31, J_32, J_40, J_44, J_47, J_48, J_49, J_50, J_53, J_54, J_57, J_59, J_74, J_75, J_78, J_84, J_97, J_99, J_100, J_120, J_122, J_126, J_132, J_138, J_144, J_150, J_156, J_162, J_198, J_200, J_202, J_206, J_210, J_214, J_218, J_222, J_226, J_230, J_234, J_238, J_239, J_240, J_241, J_242, J_243, J_255, J_263, J_283, J_303, J_399, J_400, J_401, J_463, J_700, J_701, J_999, J_1000, J_2048, J_4095, J_4096, J_6000, J_9999, J_10000, J_65536, J_65537, J_2147483647, J_neg]
          rw [mbad_13, if_neg (by decide), lml]
          exact ⟨0, _, _, rfl, fr_w q4 (fun _ _ z => Or.inl z), fr_w q5 (fun _ _ z => Or.inl z), Or.inr ⟨rfl, q3, Or.inr rfl⟩⟩
        · obtain ⟨r, v, C1, M1, a1, a2, a3, a4, a5⟩ := rd_number h (lo := 0) (hi := 9) (by decide) (by decide)
          rw [if_pos (show (w : Int) < 6 by omega), a1, b2s, if_neg (show ¬ (w : Int) = 6 by omega), if_pos rfl, ckt, a2, b2s, a84]
          have xw : ixb (J (84 + 6 * (s : Int) + (w : Int))) 463 = true := ixb_J (by omega) (by omega) (by decide)
          have yw : ix (J (84 + 6 * (s : Int) + (w : Int))) = 84 + 6 * s + w := by rw [ix_J (by omega) (by omega)]; omega
          have m78 : gI (pI M1 4 (84 + 6 * s + w) (J v)) 4 (78 + s) = J w := by rw [rII, if_neg (by omega), a4.1 4 _ (by unfold fM2; omega), p78]
          rw [xw, ckt, yw, lts, ckt, ckt, m78, aw, ac]
          have fA : fr (fWm s) M1 (pI (pI M1 4 (84 + 6 * s + w) (J v)) 4 (78 + s) (J ((w + 1 : Nat) : Int))) := fr_t (fr_pI (Or.inr (by unfold kWm; omega))) (fr_pI (Or.inr (by unfold kWm; omega)))
          have fA4 : fr (fun q _ => q = 4) M1 (pI (pI M1 4 (84 + 6 * s + w) (J v)) 4 (78 + s) (J ((w + 1 : Nat) : Int))) := fr_t (fr_pI rfl) (fr_pI rfl)
          have FM := fr_t (fr_w a4 (fun q k z => (Or.inl z : fWm s q k))) fA
          rcases a5 with ⟨u, ⟨k1, u0, u2⟩, u3, u4, u5⟩ | ⟨u, u2⟩
          · subst u
            have c7 : gI C1 q 7 = J w := by rw [a3.1 q 7 (by unfold fC2; omega), p7]
            rw [if_neg (by decide), u3, c_addWhole c7 (by omega), b1s]
            have fC6 : fr (fun q _ => 6 ≤ q) C1 (pI (pI C1 (q + 4) w (J v)) q 7 (J ((w + 1 : Nat) : Int))) := fr_t (fr_pI (by omega)) (fr_pI (by omega))
            have fCw : fr (fWc q) C1 (pI (pI C1 (q + 4) w (J v)) q 7 (J ((w + 1 : Nat) : Int))) := fr_t (fr_pI (Or.inr (Or.inr rfl))) (fr_pI (Or.inr (Or.inl ⟨rfl, rfl⟩)))
            have hP1 : wP (pI (pI C1 (q + 4) w (J v)) q 7 (J ((w + 1 : Nat) : Int))) (pI (pI M1 4 (84 + 6 * s + w) (J v)) 4 (78 + s) (J ((w + 1 : Nat) : Int))) q s (w + 1) := by
              refine ⟨by omega, by rw [rII, if_pos ⟨rfl, rfl⟩], by rw [rII, if_pos ⟨rfl, rfl⟩], fun j hj => ?_, fun j h1 h2 => by rw [rII, if_neg (by omega), rII, if_neg (by omega), a4.1 4 _ (by unfold fM2; omega), pz j (by omega) h2]⟩
              by_cases z : j = w
              · subst z
                exact ⟨v, ⟨u4, u5⟩, fun z => by omega, by rw [rII, if_neg (by omega), rII, if_pos ⟨rfl, rfl⟩], by rw [rII, if_neg (by omega), rII, if_pos ⟨rfl, rfl⟩]⟩
              · obtain ⟨v', g1, g2, g3, g4⟩ := pj j (by omega)
                exact ⟨v', g1, g2, by rw [rII, if_neg (by omega), rII, if_neg (by omega), a3.1 _ j (by unfold fC2; omega), g3], by rw [rII, if_neg (by omega), rII, if_neg (by omega), a4.1 4 _ (by unfold fM2; omega), g4]⟩
            obtain ⟨r', C2, M2, d1, d2, d3, d4⟩ := ih (c + 1) k1 (w + 1) _ _ (by omega) (by omega) (rdS_c6 (rdS_4 u2 fA4) fC6) hP1
            refine ⟨r', C2, M2, d1, fr_t (fr_t (fr_w a3 (fun q k z => (Or.inl z : fWc _ q k))) fCw) d2, fr_t FM d3, ?_⟩
            rcases d4 with ⟨t1, ⟨k', t0, t2⟩, t3⟩ | t
            · exact Or.inl ⟨t1, ⟨k', by omega, t2⟩, t3⟩
            · exact Or.inr t
          · subst u
            rw [if_pos rfl]
            obtain ⟨f', rfl⟩ : ∃ f', f = f' + 1 := ⟨f - 1, by omega⟩
            have bb : bad C1 (pI (pI M1 4 (84 + 6 * s + w) (J v)) 4 (78 + s) (J ((w + 1 : Nat) : Int))) := bad_w u2 rfl rfl (fun e => fA4.1 0 e (by omega))
            refine ⟨0, _, _, rfl, fr_w a3 (fun _ _ z => Or.inl z), FM, Or.inr ⟨rfl, bb, Or.inl ?_⟩⟩
            unfold gX12_senseLine_L95
            simp only [J_0, J_1, J_2, J_3, J_4, J_5, J_6, J_7, J_8, J_9, J_10, J_11, J_12, J_14, J_15, J_16, J_19, J_20, J_21, J_22, J_23, J_24, J_25, J_28, J_30, J_31, J_32, J_40, J_44, J_47, J_48, J_49, J_50, J_53, J_54, J_57, J_59, J_74, J_75, J_78, J_84, J_97, J_99, J_100, J_120, J_122, J_126, J_132, J_138, J_144, J_150, J_156, J_162, J_198, J_200, J_202, J_206, J_210, J_214, J_218, J_222, J_226, J_230, J_234, J_238, J_239, J_240, J_241, J_242, J_243, J_255, J_263, J_283, J_303, J_399, J_400, J_401, J_463, J_700, J_701, J_999, J_1000, J_2048, J_4095, J_4096, J_6000, J_9999, J_10000, J_65536, J_65537, J_2147483647, J_neg]
            rw [bb.1, if_neg (by decide)]
      · obtain ⟨C1, q1, q2, q3, q4, q5⟩ := rd_above h y hv
        rw [if_pos (show (9 : Int) < dcW b (tpos b n k) (te b n (tpos b n k) - tpos b n k) by omega), if_neg (show ¬ (0 ≤ dcW b (tpos b n k) (te b n (tpos b n k) - tpos b n k) ∧ dcW b (tpos b n k) (te b n (tpos b n k) - tpos b n k) ≤ 9) by omega), q1, b2s, if_pos rfl, q2, b1s]
        unfold gX12_senseLine_J158
        simp only [J_0, J_1, J_2, J_3, J_4, J_5, J_6, J_7, J_8, J_9, J_10, J_11, J_12, J_14, J_15, J_16, J_19, J_20, J_21, J_22, J_23, J_24, J_25, J_28, J_30, J_31, J_32, J_40, J_44, J_47, J_48, J_49, J_50, J_53, J_54, J_57, J_59, J_74, J_75, J_78, J_84, J_97, J_99, J_100, J_120, J_122, J_126, J_132, J_138, J_144, J_150, J_156, J_162, J_198, J_200, J_202, J_206, J_210, J_214, J_218, J_222, J_226, J_230, J_234, J_238, J_239, J_240, J_241, J_242, J_243, J_255, J_263, J_283, J_303, J_399, J_400, J_401, J_463, J_700, J_701, J_999, J_1000, J_2048, J_4095, J_4096, J_6000, J_9999, J_10000, J_65536, J_65537, J_2147483647, J_neg]
        rw [mbad_13, if_neg (by decide), lml]
        exact ⟨0, _, _, rfl, fr_w q4 (fun _ _ z => Or.inl z), fr_w q5 (fun _ _ z => Or.inl z), Or.inr ⟨rfl, q3, Or.inr rfl⟩⟩
    · rw [if_neg (fun v => y (tN_k.mp v)), if_neg (fun v => y (tN_m.mp v))]
      exact ⟨1, C, M, rfl, fr_r, fr_r, Or.inl ⟨rfl, ⟨k, Nat.le_refl k, h⟩, ⟨w, hP⟩, rfl⟩⟩
end
