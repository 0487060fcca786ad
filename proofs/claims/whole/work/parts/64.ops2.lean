/-! More questions. -/
def cps (S : zM) (w : Int) : zM := pI S 0 12 (J w)
theorem fr_cps {S : zM} {w : Int} : fr E456 S (cps S w) := fr_pI (Or.inr ⟨rfl, rfl⟩)
theorem fcps {S : zM} {w : Int} : fr Eq0 S (cps S w) := fr_w fr_cps (fun _ _ z => Eq0_456 z)
theorem cps_12 {S : zM} {w : Int} : gI (cps S w) 0 12 = J w := by
  unfold cps
  rw [rII, if_pos ⟨rfl, rfl⟩]
theorem cps_o {S : zM} {w : Int} {q k : Nat} (h : ¬ (q = 0 ∧ k = 12)) : gI (cps S w) q k = gI S q k := by
  unfold cps
  rw [rII, if_neg h]
theorem cps_R {S : zM} {w : Int} {q k : Nat} : gR (cps S w) q k = gR S q k := by
  unfold cps
  rw [rRI]
theorem cps_2 {S : zM} {v w : Int} : fr E456 S (cps (cps S v) w) := fr_t fr_cps fr_cps
theorem c_passes0 {S : zM} : gX11_passes S (J 0) = some (J 1, cps S 0) := c_passes (S := S) (w := 0) (by decide)
theorem c_passesN {S : zM} {w : Int} (h : 1 ≤ w ∧ w ≤ 6) : gX11_passes S (J w) = some (J 0, cps S w) := by
  rw [c_passes (by omega), bI_f (by omega)]
  rfl
/-- all its wholes -/
def fK (S : zM) (s : Nat) : Nat := (iI S 3 (78 + s)).toNat
theorem fK_b {S : zM} {s : Nat} (h : mSense S s) : 1 ≤ fK S s ∧ fK S s ≤ 6 ∧ (fK S s : Int) = iI S 3 (78 + s) := by
  have := h.1
  unfold fK
  omega
theorem c_fresh {SC SM : zM} {H s : Nat} (h : rSense SC SM H s) : gX9_fresh SC (H + 7 + 31 * s) = some (H + 7 + 31 * s + 7 + 4 * (fK SM s - 1)) ∧ nzC SC (H + 7 + 31 * s + 7 + 4 * (fK SM s - 1)) (mN SM s (fK SM s)) ∧ nOK (mN SM s (fK SM s)) := by
  have hk := fK_b h.1
  have w := h.2.1
  rw [gI_J SM] at w
  refine ⟨?_, ?_, mN_ok h.1 ⟨hk.1, hk.2.1⟩⟩
  · unfold gX9_fresh
    simp only [J_0, J_1, J_2, J_3, J_4, J_5, J_6, J_7, J_8, J_9, J_10, J_11, J_12, J_14, J_15, J_16, J_19, J_20, J_21, J_22, J_23, J_24, J_25, J_28, J_30, J_31, J_32, J_40, J_44, J_47, J_48, J_49, J_50, J_53, J_54, J_57, J_59, J_74, J_75, J_78, J_84, J_97, J_99, J_100, J_120, J_122, J_126, J_132, J_138, J_144, J_150, J_156, J_162, J_198, J_200, J_202, J_206, J_210, J_214, J_218, J_222, J_226, J_230, J_234, J_238, J_239, J_240, J_241, J_242, J_243, J_255, J_263, J_283, J_303, J_399, J_400, J_401, J_463, J_700, J_701, J_999, J_1000, J_2048, J_4095, J_4096, J_6000, J_9999, J_10000, J_65536, J_65537, J_2147483647, J_neg]
    rw [c_noiseWithout w (by omega), b1s, show (iI SM 3 (78 + s) - 1 - 0).toNat = fK SM s - 1 by omega]
  · have := h.2.2.2 (fK SM s - 1) (by omega)
    rw [show fK SM s - 1 + 1 = fK SM s by omega] at this
    exact this
theorem m_fullOf {S : zM} {s : Nat} (h : mSense S s) (hs : s < 6) : gX12_fullOf S (J s) = some (J (fK S s)) := by
  have hk := fK_b h
  unfold gX12_fullOf
  simp only [J_0, J_1, J_2, J_3, J_4, J_5, J_6, J_7, J_8, J_9, J_10, J_11, J_12, J_14, J_15, J_16, J_19, J_20, J_21, J_22, J_23, J_24, J_25, J_28, J_30, J_31, J_32, J_40, J_44, J_47, J_48, J_49, J_50, J_53, J_54, J_57, J_59, J_74, J_75, J_78, J_84, J_97, J_99, J_100, J_120, J_122, J_126, J_132, J_138, J_144, J_150, J_156, J_162, J_198, J_200, J_202, J_206, J_210, J_214, J_218, J_222, J_226, J_230, J_234, J_238, J_239, J_240, J_241, J_242, J_243, J_255, J_263, J_283, J_303, J_399, J_400, J_401, J_463, J_700, J_701, J_999, J_1000, J_2048, J_4095, J_4096, J_6000, J_9999, J_10000, J_65536, J_65537, J_2147483647, J_neg, J_neg, J_add, J_sub, J_mul]
  rw [ixb_J (by omega) (by omega) (by decide), ckt, ix_J (by omega) (by omega), show (78 + (s : Int)).toNat = 78 + s by omega, gI_J, hk.2.2]
section
variable {SC SM : zM} {t : Nat}
theorem st_noise (h : Inv SC SM t) (x y : Int32) : stp (vS (gX11_noise SC x y) SC) (gX12_noise SM x y) t := by
  have hI := Inv_th h
  obtain ⟨⟨H, hh⟩, -⟩ := h
  have hh' := rHall_q hh fr_r (fmth (S := SM))
  obtain ⟨s, rfl, s1, s2⟩ := J_of x
  obtain ⟨v, rfl, v1, v2⟩ := J_of y
  obtain ⟨⟨hH, hr, -⟩, ⟨n0, -⟩, ⟨c0, -⟩, hse, -⟩ := hh'
  have a1 := c_isSense s1 s2 hH hr c0 n0
  have a2 : gX12_isSense (mth SM) (J s) = some (bI (0 ≤ s ∧ s < cnt (mth SM) 0)) := m_isSense s1 s2 n0
  unfold gX11_noise gX12_noise vS
  simp only [J_0, J_1, J_2, J_3, J_4, J_5, J_6, J_7, J_8, J_9, J_10, J_11, J_12, J_14, J_15, J_16, J_19, J_20, J_21, J_22, J_23, J_24, J_25, J_28, J_30, J_31, J_32, J_40, J_44, J_47, J_48, J_49, J_50, J_53, J_54, J_57, J_59, J_74, J_75, J_78, J_84, J_97, J_99, J_100, J_120, J_122, J_126, J_132, J_138, J_144, J_150, J_156, J_162, J_198, J_200, J_202, J_206, J_210, J_214, J_218, J_222, J_226, J_230, J_234, J_238, J_239, J_240, J_241, J_242, J_243, J_255, J_263, J_283, J_303, J_399, J_400, J_401, J_463, J_700, J_701, J_999, J_1000, J_2048, J_4095, J_4096, J_6000, J_9999, J_10000, J_65536, J_65537, J_2147483647, J_neg, J_neg, J_add, J_sub, J_mul, mth_e, a1, a2, ckt, b1s, b2s, lts, un2s, un3s, un4s, un5s, lmr, lml, lgr, lgl, hr, zb3 hH]
  rw [iB0, iB0]
  by_cases e : 0 ≤ s ∧ s < cnt (mth SM) 0
  · obtain ⟨i, rfl⟩ : ∃ i : Nat, s = i := ⟨s.toNat, by omega⟩
    have g := hse i e.2
    have hk := fK_b g.1
    obtain ⟨f1, f2, f3⟩ := c_fresh g
    have x3 : ixb (J (78 + (i : Int))) 463 = true := ixb_J (by omega) (by omega) (by decide)
    have x4 : ix (J (78 + (i : Int))) = 78 + i := by rw [ix_J (by omega) (by omega)]; omega
    have x5 : gI (mth SM) 3 (78 + i) = J (fK (mth SM) i) := by rw [gI_J, hk.2.2]
    rw [if_pos e, if_pos e, ixb_J (by omega) (by omega) (by decide), ckt, ix_J (by omega) (by omega), Int.toNat_natCast, f1, b1s, c_oftenAt f2 v1 v2, b1s, b1s, m_within v1 v2 (by decide) (by decide) (by decide) (by decide), b1s, iB0, x3, ckt, x4, x5]
    unfold nAt
    by_cases z : -5 ≤ v ∧ v ≤ 5
    · rw [if_pos z, if_pos z, m_often (by omega) (by omega) z.1 z.2, b1s]
      exact ⟨_, _, _, rfl, rfl, hI⟩
    · rw [if_neg z, if_neg z]
      exact ⟨_, _, _, rfl, rfl, hI⟩
  · rw [if_neg e, if_neg e]
    exact ⟨_, _, _, rfl, rfl, hI⟩
theorem st_sayer (h : Inv SC SM t) (ht : t < 512) (x y : Int32) : stp (vS (gX11_sayer SC x y) SC) (gX12_sayer SM x y) t := by
  have hI := Inv_th h
  have hT := rTot_q h.2.1 (fmth (S := SM))
  obtain ⟨⟨H, hh⟩, -⟩ := h
  have hh' := rHall_q hh fr_r (fmth (S := SM))
  obtain ⟨p, rfl, p1, p2⟩ := J_of x
  obtain ⟨v, rfl, v1, v2⟩ := J_of y
  have hh2 := hh'
  obtain ⟨⟨hH, hr, -⟩, ⟨-, n1, -⟩, ⟨-, c1, -⟩, -⟩ := hh'
  have a1 := c_isSayer p1 p2 hH hr c1 n1
  have a2 : gX12_isSayer (mth SM) (J p) = some (bI (0 ≤ p ∧ p < cnt (mth SM) 1)) := m_isSayer p1 p2 n1
  unfold gX11_sayer gX12_sayer vS
  simp only [J_0, J_1, J_2, J_3, J_4, J_5, J_6, J_7, J_8, J_9, J_10, J_11, J_12, J_14, J_15, J_16, J_19, J_20, J_21, J_22, J_23, J_24, J_25, J_28, J_30, J_31, J_32, J_40, J_44, J_47, J_48, J_49, J_50, J_53, J_54, J_57, J_59, J_74, J_75, J_78, J_84, J_97, J_99, J_100, J_120, J_122, J_126, J_132, J_138, J_144, J_150, J_156, J_162, J_198, J_200, J_202, J_206, J_210, J_214, J_218, J_222, J_226, J_230, J_234, J_238, J_239, J_240, J_241, J_242, J_243, J_255, J_263, J_283, J_303, J_399, J_400, J_401, J_463, J_700, J_701, J_999, J_1000, J_2048, J_4095, J_4096, J_6000, J_9999, J_10000, J_65536, J_65537, J_2147483647, J_neg, J_neg, J_add, J_sub, J_mul, mth_e, a1, a2, ckt, b1s, b2s, lts, un2s, un3s, un4s, un5s, lmr, lml, lgr, lgl, hr, zb3 hH]
  rw [iB0, iB0]
  by_cases e : 0 ≤ p ∧ p < cnt (mth SM) 1
  · obtain ⟨P, rfl⟩ : ∃ P : Nat, p = P := ⟨p.toNat, by omega⟩
    have ok := okP_of hh2 e.2 (show t ≤ 512 by omega) hT
    have hp := ok.2.1.1
    have hs := mS_b ok
    have hk := mK_b ok
    obtain ⟨nz1, nz2⟩ := nzP ok
    have x1 : ixb (J (P : Int)) 6 = true := ixb_J (by omega) (by omega) (by decide)
    have x2 : ix (J (P : Int)) = P := by rw [ix_J (by omega) (by omega)]; omega
    have i1 : ixb (J (120 + (P : Int))) 463 = true := ixb_J (by omega) (by omega) (by decide)
    have j1 : ix (J (120 + (P : Int))) = 120 + P := by rw [ix_J (by omega) (by omega)]; omega
    have i2 : ixb (J (126 + (P : Int))) 463 = true := ixb_J (by omega) (by omega) (by decide)
    have j2 : ix (J (126 + (P : Int))) = 126 + P := by rw [ix_J (by omega) (by omega)]; omega
    have i3 : ixb (J (132 + (P : Int))) 463 = true := ixb_J (by omega) (by omega) (by decide)
    have j3 : ix (J (132 + (P : Int))) = 132 + P := by rw [ix_J (by omega) (by omega)]; omega
    have i4 : ixb (J (150 + (P : Int))) 463 = true := ixb_J (by omega) (by omega) (by decide)
    have j4 : ix (J (150 + (P : Int))) = 150 + P := by rw [ix_J (by omega) (by omega)]; omega
    have i5 : ixb (J (156 + (P : Int))) 463 = true := ixb_J (by omega) (by omega) (by decide)
    have j5 : ix (J (156 + (P : Int))) = 156 + P := by rw [ix_J (by omega) (by omega)]; omega
    have al : gX12_all (mth SM) (gI (mth SM) 3 (120 + P)) (J (mK (mth SM) P)) = some (J (nAll (mN (mth SM) (mS (mth SM) P) (mK (mth SM) P)))) := by
      rw [gI_J, hs.2.2, m_all hs.1 hk.2.1]
    obtain ⟨hm, r1, r2, r3, r4, r5, r6, r7, r8, r9, r10⟩ := ok.2.2.1
    have hg := hm.2.2.2.2.2.1
    rw [if_pos e, if_pos e]
    simp only [x1, x2, i1, j1, i2, j2, i3, j3, i4, j4, i5, j5, ckt, b1s, b2s, lts, un2s, un3s, un4s, un5s, lmr, lml, lgr, lgl, m_tired ok, m_learned ok, m_wholesNow ok, c_tired ok, c_leftOut ok, c_noiseOf ok, al, r1, r2, r3, r6, r7, r9, r10, nz1.1]
    have w0 : (J v = J 0) = (v = 0) := J_inj v1 v2 (by decide) (by decide)
    have w1 : (J v = J 1) = (v = 1) := J_inj v1 v2 (by decide) (by decide)
    have w2 : (J v = J 2) = (v = 2) := J_inj v1 v2 (by decide) (by decide)
    have w3 : (J v = J 3) = (v = 3) := J_inj v1 v2 (by decide) (by decide)
    have w4 : (J v = J 4) = (v = 4) := J_inj v1 v2 (by decide) (by decide)
    have w5 : (J v = J 5) = (v = 5) := J_inj v1 v2 (by decide) (by decide)
    have w6 : (J v = J 6) = (v = 6) := J_inj v1 v2 (by decide) (by decide)
    have w7 : (J v = J 7) = (v = 7) := J_inj v1 v2 (by decide) (by decide)
    have w8 : (J v = J 8) = (v = 8) := J_inj v1 v2 (by decide) (by decide)
    have w9 : (J v = J 9) = (v = 9) := J_inj v1 v2 (by decide) (by decide)
    simp only [w0, w1, w2, w3, w4, w5, w6, w7, w8, w9]
    have hg8 : (if gI (mth SM) 3 (150 + P) = J 0 then some (J 0) else some (J 1)) = some (gI (mth SM) 3 (150 + P)) := by
      rw [gI_J (mth SM) 3 (150 + P)]
      rcases hg with g | g <;> rw [g] <;> simp (disch := decide) only [J_inj, J_lt, J_le, Int.reduceEq, Int.reduceLT, Int.reduceLE, Int.reduceNeg, ↓reduceIte, true_or, or_true, false_or, or_false, true_and, and_true, false_and, and_false, not_true_eq_false, not_false_eq_true, forall_const, implies_true, true_implies, false_implies]
    rw [hg8]
    by_cases e0 : v = 0
    · simp only [if_pos e0]; exact ⟨_, _, _, rfl, rfl, hI⟩
    simp only [if_neg e0]
    by_cases e1 : v = 1
    · simp only [if_pos e1]; exact ⟨_, _, _, rfl, rfl, hI⟩
    simp only [if_neg e1]
    by_cases e2 : v = 2
    · simp only [if_pos e2]; exact ⟨_, _, _, rfl, rfl, hI⟩
    simp only [if_neg e2]
    by_cases e3 : v = 3
    · simp only [if_pos e3]; exact ⟨_, _, _, rfl, rfl, hI⟩
    simp only [if_neg e3]
    by_cases e4 : v = 4
    · simp only [if_pos e4]; exact ⟨_, _, _, rfl, rfl, hI⟩
    simp only [if_neg e4]
    by_cases e5 : v = 5
    · simp only [if_pos e5]; exact ⟨_, _, _, rfl, rfl, hI⟩
    simp only [if_neg e5]
    by_cases e6 : v = 6
    · simp only [if_pos e6]; exact ⟨_, _, _, rfl, rfl, hI⟩
    simp only [if_neg e6]
    by_cases e7 : v = 7
    · simp only [if_pos e7]; exact ⟨_, _, _, rfl, rfl, hI⟩
    simp only [if_neg e7]
    by_cases e8 : v = 8
    · simp only [if_pos e8]; exact ⟨_, _, _, rfl, rfl, hI⟩
    simp only [if_neg e8]
    by_cases e9 : v = 9
    · simp only [if_pos e9]; exact ⟨_, _, _, rfl, rfl, hI⟩
    simp only [if_neg e9]
    exact ⟨_, _, _, rfl, rfl, hI⟩
  · rw [if_neg e, if_neg e]
    exact ⟨_, _, _, rfl, rfl, hI⟩
theorem st_book (h : Inv SC SM t) (x y : Int32) : stp (vS (gX11_book SC x y) SC) (gX12_book SM x y) t := by
  have hI := Inv_th h
  have hb := rBook_q h.2.2.1 fr_r (fmth (S := SM))
  obtain ⟨i, rfl, i1, i2⟩ := J_of x
  obtain ⟨v, rfl, v1, v2⟩ := J_of y
  obtain ⟨b1', b2', b3⟩ := hb
  have b21 : gI (mth SM) 0 21 = J (iI (mth SM) 0 21) := gI_J _ _ _
  unfold gX11_book gX12_book vS gX1_rowAt
  rw [b21] at b1'
  simp only [J_0, J_1, J_2, J_3, J_4, J_5, J_6, J_7, J_8, J_9, J_10, J_11, J_12, J_14, J_15, J_16, J_19, J_20, J_21, J_22, J_23, J_24, J_25, J_28, J_30, J_31, J_32, J_40, J_44, J_47, J_48, J_49, J_50, J_53, J_54, J_57, J_59, J_74, J_75, J_78, J_84, J_97, J_99, J_100, J_120, J_122, J_126, J_132, J_138, J_144, J_150, J_156, J_162, J_198, J_200, J_202, J_206, J_210, J_214, J_218, J_222, J_226, J_230, J_234, J_238, J_239, J_240, J_241, J_242, J_243, J_255, J_263, J_283, J_303, J_399, J_400, J_401, J_463, J_700, J_701, J_999, J_1000, J_2048, J_4095, J_4096, J_6000, J_9999, J_10000, J_65536, J_65537, J_2147483647, J_neg, J_neg, J_add, J_sub, J_mul, mth_e, ckt, b1s, b2s, lts, un2s, un3s, un4s, un5s, lmr, lml, lgr, lgl, b1', b21]
  rw [m_within i1 i2 (by decide) (by decide) (by omega) (by omega), b1s, iB0, iLT i1 i2 (by decide) (by decide), iLE (by omega) (by omega) i1 i2, iLT v1 v2 (by decide) (by decide), iLT v1 v2 (by decide) (by decide)]
  by_cases e : 0 ≤ i ∧ i ≤ iI (mth SM) 0 21 - 1
  · obtain ⟨I, rfl⟩ : ∃ I : Nat, i = I := ⟨i.toNat, by omega⟩
    obtain ⟨-, g⟩ := b3 I (by unfold bkn; omega)
    have x1 : ixb (J (I : Int)) 1000 = true := ixb_J (by omega) (by omega) (by decide)
    have x2 : ix (J (I : Int)) = I := by rw [ix_J (by omega) (by omega)]; omega
    rw [if_pos e, if_neg (show ¬ (I : Int) < 0 by omega), if_neg (show ¬ iI (mth SM) 0 21 ≤ (I : Int) by omega)]
    simp only [x1, x2, ckt, b1s, b2s, lts, un2s, un3s, un4s, un5s, lmr, lml, lgr, lgl]
    by_cases z : 0 ≤ v ∧ v < 6
    · have x3 : ixb (J ((I : Int) * 6 + v)) 6000 = true := ixb_J (by omega) (by omega) (by decide)
      have x4 : ix (J ((I : Int) * 6 + v)) = 6 * I + v.toNat := by rw [ix_J (by omega) (by omega)]; omega
      rw [if_neg (show ¬ v < 0 by omega), if_pos z.2, x3, ckt, x4, b1s, b1s, g _ (by omega)]
      have hv : v = 0 ∨ v = 1 ∨ v = 2 ∨ v = 3 ∨ v = 4 ∨ v = 5 := by omega
      rcases hv with rfl | rfl | rfl | rfl | rfl | rfl <;> simp (disch := decide) only [J_inj, J_lt, J_le, Int.reduceEq, Int.reduceLT, Int.reduceLE, Int.reduceNeg, ↓reduceIte, true_or, or_true, false_or, or_false, true_and, and_true, false_and, and_false, not_true_eq_false, not_false_eq_true, forall_const, implies_true, true_implies, false_implies] <;> exact ⟨_, _, _, rfl, rfl, hI⟩
    · have ec : (if v < 0 then some (J (-1)) else if v < 6 then ck (ixb (J ((I : Int) * 6 + v)) 6000) (some (gI SC 220 (ix (J ((I : Int) * 6 + v))))) else some (J (-1))) = some (J (-1)) := by
        by_cases z1 : v < 0
        · rw [if_pos z1]
        · rw [if_neg z1, if_neg (show ¬ v < 6 by omega)]
      rw [ec]
      have w : ∀ k : Int, 0 ≤ k → k < 6 → ¬ J v = J k := fun k k1 k2 q => by
        rw [J_inj v1 v2 (by omega) (by omega)] at q
        omega
      rw [if_neg (w 0 (by decide) (by decide)), if_neg (w 1 (by decide) (by decide)), if_neg (w 2 (by decide) (by decide)), if_neg (w 3 (by decide) (by decide)), if_neg (w 4 (by decide) (by decide)), if_neg (w 5 (by decide) (by decide))]
      exact ⟨_, _, _, rfl, rfl, hI⟩
  · rw [if_neg e]
    have ec : ∀ X : Option Int32, (if i < 0 then some (J (-1)) else if iI (mth SM) 0 21 ≤ i then some (J (-1)) else X) = some (J (-1)) := by
      intro X
      by_cases z1 : i < 0
      · rw [if_pos z1]
      · rw [if_neg z1, if_pos (by omega)]
    rw [ec]
    exact ⟨_, _, _, rfl, rfl, hI⟩
end
