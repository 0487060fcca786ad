/-! The calls, one by one: questions that write no more than the trouble. -/
def mth (S : zM) : zM := pI S 0 0 (J 0)
def mgd (S : zM) : zM := pI (pI S 0 0 (J 0)) 0 11 (J 0)
def mno (S : zM) (w : Int) : zM := pI (mgd S) 0 11 (J w)
theorem mth_e {S : zM} : pI S 0 0 (J 0) = mth S := Eq.trans rfl rfl
theorem gI_th {S : zM} {q k : Nat} (h : ¬ (q = 0 ∧ k = 0)) : gI (mth S) q k = gI S q k := by
  unfold mth
  rw [rII, if_neg h]
theorem fr_mth {S : zM} : fr (fun q k => q = 0 ∧ (k = 0 ∨ k = 11)) S (mth S) := fr_pI ⟨rfl, Or.inl rfl⟩
theorem fr_mgd {S : zM} : fr (fun q k => q = 0 ∧ (k = 0 ∨ k = 11)) S (mgd S) := fr_t (fr_pI ⟨rfl, Or.inl rfl⟩) (fr_pI ⟨rfl, Or.inr rfl⟩)
theorem fr_mno {S : zM} {w : Int} : fr (fun q k => q = 0 ∧ (k = 0 ∨ k = 11)) S (mno S w) := fr_t fr_mgd (fr_pI ⟨rfl, Or.inr rfl⟩)
theorem Em0_t {q k : Nat} (h : q = 0 ∧ (k = 0 ∨ k = 11)) : Em0 q k := by unfold Em0; omega
theorem Eq0_456 {q k : Nat} (h : E456 q k) : Eq0 q k := by unfold E456 at h; unfold Eq0; omega
theorem rHall_q {SC SC' SM SM' : zM} {H : Nat} (h : rHall SC SM H) (fC : fr Eq0 SC SC') (fM : fr Em0 SM SM') : rHall SC' SM' H := by
  have hH := h.1.1
  have c : ∀ q k, ¬ Eq0 q k → gI SC' q k = gI SC q k := fC.1
  have m : ∀ q k, ¬ Em0 q k → gI SM' q k = gI SM q k := fM.1
  exact rHall_c h (fun q k a b => c q k (by unfold Eq0; omega)) (fC.2.2 0 8 (by unfold Eq0; omega)) (fC.2.2 2 6 (by unfold Eq0; omega)) (m 0 14 (by unfold Em0; omega)) (fun k => m 3 k (by unfold Em0; omega)) (fun k => m 5 k (by unfold Em0; omega)) (fun k => m 6 k (by unfold Em0; omega)) (fun k => m 7 k (by unfold Em0; omega))
theorem rTot_q {SM SM' : zM} {t : Nat} (h : rTot SM t) (fM : fr Em0 SM SM') : rTot SM' t := by
  intro p hp
  have e6 : iI SM' 6 p = iI SM 6 p := fr_i fM (by unfold Em0; omega)
  have e7 : iI SM' 7 p = iI SM 7 p := fr_i fM (by unfold Em0; omega)
  rw [e6, e7]
  exact h p hp
theorem cnt_q {SM SM' : zM} (fM : fr Em0 SM SM') (i : Nat) : cnt SM' i = cnt SM i := fr_cnt fM (by unfold Em0; omega) (by unfold Em0; omega)
theorem rBook_q {SC SC' SM SM' : zM} (h : rBook SC SM) (fC : fr Eq0 SC SC') (fM : fr Em0 SM SM') : rBook SC' SM' := rBook_c h (fC.1 219 2 (by unfold Eq0; omega)) (fun k => fC.1 220 k (by unfold Eq0; omega)) (fM.1 0 21 (by unfold Em0; omega)) (fun q k a b => fM.1 q k (by unfold Em0; omega))
theorem rCells_q {SC SC' SM SM' : zM} (h : rCells SC SM) (fC : fr Eq0 SC SC') (fM : fr Em0 SM SM') : rCells SC' SM' := rCells_c h (fC.1 221 7 (by unfold Eq0; omega)) (fun q k a b => fC.1 q k (by unfold Eq0; omega)) (fM.1 0 21 (by unfold Em0; omega)) (fun q k a b => fM.1 q k (by unfold Em0; omega))
theorem fmth {S : zM} : fr Em0 S (mth S) := fr_w fr_mth (fun _ _ z => Em0_t z)
theorem fmgd {S : zM} : fr Em0 S (mgd S) := fr_w fr_mgd (fun _ _ z => Em0_t z)
theorem fmno {S : zM} {w : Int} : fr Em0 S (mno S w) := fr_w fr_mno (fun _ _ z => Em0_t z)
theorem Inv_th {SC SM : zM} {t : Nat} (h : Inv SC SM t) : Inv SC (mth SM) (t + 1) := by
  refine Inv_t h fr_r fr_mth ?_ (fun z => ?_)
  · show gI SC 0 12 = gI (pI SM 0 0 (J 0)) 0 11
    rw [rII, if_neg (by omega)]
    exact h.2.2.2.2.2.2.2.1
  · have e : iI (mth SM) 0 11 = iI SM 0 11 := iI_c (by show gI (pI SM 0 0 (J 0)) 0 11 = _; rw [rII, if_neg (by omega)])
    rw [← e]
    exact z
/-- the trouble is w, not 4 -/
theorem Inv_w {SC SC' SM : zM} {t : Nat} {w : Int} (h : Inv SC SM t) (fC : fr E456 SC SC') (hw : 0 ≤ w ∧ w ≤ 6 ∧ w ≠ 4) (hc : gI SC' 0 12 = J w) : Inv SC' (mno SM w) (t + 1) := by
  refine Inv_t h fC fr_mno ?_ (fun z => ?_)
  · show gI SC' 0 12 = gI (pI (mgd SM) 0 11 (J w)) 0 11
    rw [rII, if_pos ⟨rfl, rfl⟩]
    exact hc
  · have e : iI (mno SM w) 0 11 = w := iI_of (by show gI (pI (mgd SM) 0 11 (J w)) 0 11 = _; rw [rII, if_pos ⟨rfl, rfl⟩]) (by omega) (by omega)
    rw [e] at z
    omega
theorem Inv_0 {SC SC' SM : zM} {t : Nat} (h : Inv SC SM t) (fC : fr E456 SC SC') (hc : gI SC' 0 12 = J 0) : Inv SC' (mgd SM) (t + 1) := by
  refine Inv_t h fC fr_mgd ?_ (fun z => ?_)
  · show gI SC' 0 12 = gI (pI (pI SM 0 0 (J 0)) 0 11 (J 0)) 0 11
    rw [rII, if_pos ⟨rfl, rfl⟩]
    exact hc
  · have e : iI (mgd SM) 0 11 = 0 := iI_of (by show gI (pI (pI SM 0 0 (J 0)) 0 11 (J 0)) 0 11 = _; rw [rII, if_pos ⟨rfl, rfl⟩]) (by omega) (by omega)
    rw [e] at z
    omega
theorem m_good {S : zM} : gX12_good S = some (mgd S) := by
  unfold gX12_good mgd
  simp only [J_0, J_1, J_2, J_3, J_4, J_5, J_6, J_7, J_8, J_9, J_10, J_11, J_12, J_14, J_15, J_16, J_19, J_20, J_21, J_22, J_23, J_24, J_25, J_28, J_30, J_31, J_32, J_40, J_44, J_47, J_48, J_49, J_50, J_53, J_54, J_57, J_59, J_74, J_75, J_78, J_84, J_97, J_99, J_100, J_120, J_122, J_126, J_132, J_138, J_144, J_150, J_156, J_162, J_198, J_200, J_202, J_206, J_210, J_214, J_218, J_222, J_226, J_230, J_234, J_238, J_239, J_240, J_241, J_242, J_243, J_255, J_263, J_283, J_303, J_399, J_400, J_401, J_463, J_700, J_701, J_999, J_1000, J_2048, J_4095, J_4096, J_6000, J_9999, J_10000, J_65536, J_65537, J_2147483647, J_neg]
theorem m_no {S : zM} {w : Int} : gX12_no (mgd S) (J w) = some (J (-1), mno S w) := by
  unfold gX12_no mno
  simp only [J_0, J_1, J_2, J_3, J_4, J_5, J_6, J_7, J_8, J_9, J_10, J_11, J_12, J_14, J_15, J_16, J_19, J_20, J_21, J_22, J_23, J_24, J_25, J_28, J_30, J_31, J_32, J_40, J_44, J_47, J_48, J_49, J_50, J_53, J_54, J_57, J_59, J_74, J_75, J_78, J_84, J_97, J_99, J_100, J_120, J_122, J_126, J_132, J_138, J_144, J_150, J_156, J_162, J_198, J_200, J_202, J_206, J_210, J_214, J_218, J_222, J_226, J_230, J_234, J_238, J_239, J_240, J_241, J_242, J_243, J_255, J_263, J_283, J_303, J_399, J_400, J_401, J_463, J_700, J_701, J_999, J_1000, J_2048, J_4095, J_4096, J_6000, J_9999, J_10000, J_65536, J_65537, J_2147483647, J_neg]
theorem m_not {S : zM} {w : Int} : gX12_not (mgd S) (J w) = some (J (-1000), mno S w) := by
  unfold gX12_not mno
  simp only [J_0, J_1, J_2, J_3, J_4, J_5, J_6, J_7, J_8, J_9, J_10, J_11, J_12, J_14, J_15, J_16, J_19, J_20, J_21, J_22, J_23, J_24, J_25, J_28, J_30, J_31, J_32, J_40, J_44, J_47, J_48, J_49, J_50, J_53, J_54, J_57, J_59, J_74, J_75, J_78, J_84, J_97, J_99, J_100, J_120, J_122, J_126, J_132, J_138, J_144, J_150, J_156, J_162, J_198, J_200, J_202, J_206, J_210, J_214, J_218, J_222, J_226, J_230, J_234, J_238, J_239, J_240, J_241, J_242, J_243, J_255, J_263, J_283, J_303, J_399, J_400, J_401, J_463, J_700, J_701, J_999, J_1000, J_2048, J_4095, J_4096, J_6000, J_9999, J_10000, J_65536, J_65537, J_2147483647, J_neg]
theorem m_isNot {S : zM} {w : Int} : gX12_isNot (mgd S) (J w) = some (J 0, mno S w) := by
  unfold gX12_isNot mno
  simp only [J_0, J_1, J_2, J_3, J_4, J_5, J_6, J_7, J_8, J_9, J_10, J_11, J_12, J_14, J_15, J_16, J_19, J_20, J_21, J_22, J_23, J_24, J_25, J_28, J_30, J_31, J_32, J_40, J_44, J_47, J_48, J_49, J_50, J_53, J_54, J_57, J_59, J_74, J_75, J_78, J_84, J_97, J_99, J_100, J_120, J_122, J_126, J_132, J_138, J_144, J_150, J_156, J_162, J_198, J_200, J_202, J_206, J_210, J_214, J_218, J_222, J_226, J_230, J_234, J_238, J_239, J_240, J_241, J_242, J_243, J_255, J_263, J_283, J_303, J_399, J_400, J_401, J_463, J_700, J_701, J_999, J_1000, J_2048, J_4095, J_4096, J_6000, J_9999, J_10000, J_65536, J_65537, J_2147483647, J_neg]
section
variable {SC SM : zM} {t : Nat}
theorem st_trouble (h : Inv SC SM t) : stp (vS (gX11_trouble SC) SC) (gX12_trouble SM) t := by
  refine ⟨_, _, _, rfl, ?_, Inv_th h⟩
  unfold gX12_trouble
  simp only [J_0, J_1, J_2, J_3, J_4, J_5, J_6, J_7, J_8, J_9, J_10, J_11, J_12, J_14, J_15, J_16, J_19, J_20, J_21, J_22, J_23, J_24, J_25, J_28, J_30, J_31, J_32, J_40, J_44, J_47, J_48, J_49, J_50, J_53, J_54, J_57, J_59, J_74, J_75, J_78, J_84, J_97, J_99, J_100, J_120, J_122, J_126, J_132, J_138, J_144, J_150, J_156, J_162, J_198, J_200, J_202, J_206, J_210, J_214, J_218, J_222, J_226, J_230, J_234, J_238, J_239, J_240, J_241, J_242, J_243, J_255, J_263, J_283, J_303, J_399, J_400, J_401, J_463, J_700, J_701, J_999, J_1000, J_2048, J_4095, J_4096, J_6000, J_9999, J_10000, J_65536, J_65537, J_2147483647, J_neg]
  rw [rII, if_neg (by omega), h.2.2.2.2.2.2.2.1]
  rfl
theorem st_fault (h : Inv SC SM t) : stp (vS (gX11_fault SC) SC) (gX12_fault SM) t := by
  refine ⟨_, _, _, rfl, ?_, Inv_th h⟩
  unfold gX12_fault
  simp only [J_0, J_1, J_2, J_3, J_4, J_5, J_6, J_7, J_8, J_9, J_10, J_11, J_12, J_14, J_15, J_16, J_19, J_20, J_21, J_22, J_23, J_24, J_25, J_28, J_30, J_31, J_32, J_40, J_44, J_47, J_48, J_49, J_50, J_53, J_54, J_57, J_59, J_74, J_75, J_78, J_84, J_97, J_99, J_100, J_120, J_122, J_126, J_132, J_138, J_144, J_150, J_156, J_162, J_198, J_200, J_202, J_206, J_210, J_214, J_218, J_222, J_226, J_230, J_234, J_238, J_239, J_240, J_241, J_242, J_243, J_255, J_263, J_283, J_303, J_399, J_400, J_401, J_463, J_700, J_701, J_999, J_1000, J_2048, J_4095, J_4096, J_6000, J_9999, J_10000, J_65536, J_65537, J_2147483647, J_neg]
  rw [rII, if_neg (by omega), h.2.2.2.2.2.2.2.2.1]
  rfl
theorem st_where (h : Inv SC SM t) : stp (vS (gX11_where SC) SC) (gX12_where SM) t := by
  have h4 := h.2.2.2.2.2.2.2.2.2.1
  have ht := h.2.2.2.2.2.2.2.1
  unfold gX11_where gX12_where vS
  simp (disch := omega) only [J_0, J_1, J_2, J_3, J_4, J_5, J_6, J_7, J_8, J_9, J_10, J_11, J_12, J_14, J_15, J_16, J_19, J_20, J_21, J_22, J_23, J_24, J_25, J_28, J_30, J_31, J_32, J_40, J_44, J_47, J_48, J_49, J_50, J_53, J_54, J_57, J_59, J_74, J_75, J_78, J_84, J_97, J_99, J_100, J_120, J_122, J_126, J_132, J_138, J_144, J_150, J_156, J_162, J_198, J_200, J_202, J_206, J_210, J_214, J_218, J_222, J_226, J_230, J_234, J_238, J_239, J_240, J_241, J_242, J_243, J_255, J_263, J_283, J_303, J_399, J_400, J_401, J_463, J_700, J_701, J_999, J_1000, J_2048, J_4095, J_4096, J_6000, J_9999, J_10000, J_65536, J_65537, J_2147483647, J_neg, mth_e, gI_th, ht]
  by_cases e : gI SM 0 11 = J 4
  · rw [if_pos e, if_pos e]
    refine ⟨_, _, _, rfl, ?_, Inv_th h⟩
    rw [h4 (iI_of e (by decide) (by decide))]
  · rw [if_neg e, if_neg e]
    exact ⟨_, _, _, rfl, rfl, Inv_th h⟩
theorem st_size (h : Inv SC SM t) (x : Int32) : stp (vS (gX11_size SC x) SC) (gX12_size SM x) t := by
  have hI := Inv_th h
  obtain ⟨⟨H, hh⟩, -, hb, -, -, htp, hm⟩ := h
  obtain ⟨⟨hH, hr, -⟩, -, ⟨c0, c1, c2, c3⟩, -⟩ := hh
  have fin : ∀ v : Int32, gX12_size SM x = some (v, mth SM) → vS (gX11_size SC x) SC = some (v, SC) → stp (vS (gX11_size SC x) SC) (gX12_size SM x) t := fun v a b => ⟨v, SC, mth SM, b, a, hI⟩
  have room : ∀ i : Nat, (if gI SM 0 14 = J 0 then some (J 0, mth SM) else some (gI SM 3 (238 + i), mth SM)) = some (J (cnt SM i), mth SM) := by
    intro i
    unfold cnt
    by_cases e : gI SM 0 14 = J 0
    · rw [if_pos e, if_pos e]
    · rw [if_neg e, if_neg e, ← gI_J]
  have x0 : ix (J 238) = 238 := by decide
  have x1 : ix (J 239) = 239 := by decide
  have x2 : ix (J 240) = 240 := by decide
  have x3 : ix (J 241) = 241 := by decide
  have y0 : ixb (J 238) 463 = true := by decide
  have y1 : ixb (J 239) 463 = true := by decide
  have y2 : ixb (J 240) 463 = true := by decide
  have y3 : ixb (J 241) 463 = true := by decide
  have r0 := room 0
  have r1 := room 1
  have r2 := room 2
  have r3 := room 3
  unfold gX11_size gX12_size vS at fin ⊢
  simp (disch := omega) only [J_0, J_1, J_2, J_3, J_4, J_5, J_6, J_7, J_8, J_9, J_10, J_11, J_12, J_14, J_15, J_16, J_19, J_20, J_21, J_22, J_23, J_24, J_25, J_28, J_30, J_31, J_32, J_40, J_44, J_47, J_48, J_49, J_50, J_53, J_54, J_57, J_59, J_74, J_75, J_78, J_84, J_97, J_99, J_100, J_120, J_122, J_126, J_132, J_138, J_144, J_150, J_156, J_162, J_198, J_200, J_202, J_206, J_210, J_214, J_218, J_222, J_226, J_230, J_234, J_238, J_239, J_240, J_241, J_242, J_243, J_255, J_263, J_283, J_303, J_399, J_400, J_401, J_463, J_700, J_701, J_999, J_1000, J_2048, J_4095, J_4096, J_6000, J_9999, J_10000, J_65536, J_65537, J_2147483647, J_neg, mth_e, gI_th, hr, zb3 hH, ckt, b1s, b2s, lts, un2s, un3s, un4s, un5s, lmr, lml, lgr, lgl, c0, c1, c2, c3, x0, x1, x2, x3, y0, y1, y2, y3] at fin ⊢
  by_cases e0 : x = J 0
  · simp only [if_pos e0] at fin ⊢
    exact fin _ r0 rfl
  · simp only [if_neg e0] at fin ⊢
    by_cases e1 : x = J 1
    · simp only [if_pos e1] at fin ⊢
      exact fin _ r1 rfl
    · simp only [if_neg e1] at fin ⊢
      by_cases e2 : x = J 2
      · simp only [if_pos e2] at fin ⊢
        exact fin _ r2 rfl
      · simp only [if_neg e2] at fin ⊢
        by_cases e3 : x = J 3
        · simp only [if_pos e3] at fin ⊢
          exact fin _ r3 rfl
        · simp only [if_neg e3] at fin ⊢
          by_cases e4 : x = J 4
          · simp only [if_pos e4] at fin ⊢
            refine fin _ ?_ rfl
            rw [hb.1]
          · simp only [if_neg e4] at fin ⊢
            by_cases e5 : x = J 5
            · simp only [if_pos e5] at fin ⊢
              refine fin _ ?_ rfl
              rw [hm.1.1]
            · simp only [if_neg e5] at fin ⊢
              by_cases e6 : x = J 6
              · simp only [if_pos e6] at fin ⊢
                refine fin _ ?_ rfl
                rw [htp.1]
              · simp only [if_neg e6] at fin ⊢
                exact fin _ rfl rfl
theorem st_level (h : Inv SC SM t) (x y : Int32) : stp (vS (gX11_level SC x y) SC) (gX12_level SM x y) t := by
  have hI := Inv_th h
  obtain ⟨⟨H, hh⟩, -⟩ := h
  have hh' := rHall_q hh fr_r (fmth (S := SM))
  obtain ⟨s, rfl, s1, s2⟩ := J_of x
  obtain ⟨v, rfl, v1, v2⟩ := J_of y
  obtain ⟨⟨hH, hr, -⟩, ⟨n0, -⟩, ⟨c0, -⟩, hse, -⟩ := hh'
  have a1 := c_isSense s1 s2 hH hr c0 n0
  have a2 : gX12_isSense (mth SM) (J s) = some (bI (0 ≤ s ∧ s < cnt (mth SM) 0)) := m_isSense s1 s2 n0
  unfold gX11_level gX12_level vS
  simp (disch := omega) only [J_0, J_1, J_2, J_3, J_4, J_5, J_6, J_7, J_8, J_9, J_10, J_11, J_12, J_14, J_15, J_16, J_19, J_20, J_21, J_22, J_23, J_24, J_25, J_28, J_30, J_31, J_32, J_40, J_44, J_47, J_48, J_49, J_50, J_53, J_54, J_57, J_59, J_74, J_75, J_78, J_84, J_97, J_99, J_100, J_120, J_122, J_126, J_132, J_138, J_144, J_150, J_156, J_162, J_198, J_200, J_202, J_206, J_210, J_214, J_218, J_222, J_226, J_230, J_234, J_238, J_239, J_240, J_241, J_242, J_243, J_255, J_263, J_283, J_303, J_399, J_400, J_401, J_463, J_700, J_701, J_999, J_1000, J_2048, J_4095, J_4096, J_6000, J_9999, J_10000, J_65536, J_65537, J_2147483647, J_neg, J_neg, J_add, J_sub, J_mul, mth_e, gI_th, a1, a2, ckt, b1s, b2s, lts, un2s, un3s, un4s, un5s, lmr, lml, lgr, lgl, hr, zb3 hH]
  rw [m_within v1 v2 (by decide) (by decide) (by decide) (by decide), b1s, iB0, iB0, iB0, iLT v1 v2 (by decide) (by decide), iLE v1 v2 (by decide) (by decide)]
  by_cases e : 0 ≤ s ∧ s < cnt (mth SM) 0
  · rw [if_pos e, if_pos e]
    by_cases z : v < 0
    · rw [if_pos z, if_neg (show ¬ (0 ≤ v ∧ v ≤ 400) by omega)]
      exact ⟨_, _, _, rfl, rfl, hI⟩
    · rw [if_neg z]
      by_cases z2 : v ≤ 400
      · obtain ⟨i, rfl⟩ : ∃ i : Nat, s = i := ⟨s.toNat, by omega⟩
        obtain ⟨-, -, g, -⟩ := hse i e.2
        have x3 : ixb (J (401 * (i : Int) + v)) 2406 = true := ixb_J (by omega) (by omega) (by decide)
        have x4 : ix (J (401 * (i : Int) + v)) = 401 * i + v.toNat := by rw [ix_J (by omega) (by omega)]; omega
        rw [if_pos z2, if_pos (show 0 ≤ v ∧ v ≤ 400 by omega), ixb_J (by omega) (by omega) (by decide), ckt, ix_J (by omega) (by omega), Int.toNat_natCast, c_levelAt (by omega) z2, b1s, x3, ckt, x4]
        refine ⟨_, _, _, rfl, ?_, hI⟩
        rw [g _ (by omega), gI_th (by omega)]
      · rw [if_neg z2, if_neg (show ¬ (0 ≤ v ∧ v ≤ 400) by omega)]
        exact ⟨_, _, _, rfl, rfl, hI⟩
  · rw [if_neg e, if_neg e]
    exact ⟨_, _, _, rfl, rfl, hI⟩
end
