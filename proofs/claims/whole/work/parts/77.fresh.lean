/-! How much more: fresh odds, by both. -/
/-- the level of a sayer's sense, and all of its noise -/
def lvP (S : zM) (p : Nat) (x : Int) : Int := iI S 5 (401 * mS S p + x.toNat)
def nP (S : zM) (p : Nat) : Nat → Int := mN S (mS S p) (fK S (mS S p))
section
variable {SC SM : zM} {H p t : Nat}
theorem lvP_b (h : okP SC SM H p t) {x : Int} (h0 : 0 ≤ x) (h1 : x ≤ 400) : 0 ≤ lvP SM p x ∧ lvP SM p x ≤ 9999 := (okS h).1.2.2.2 _ (by omega)
theorem nP_ok (h : okP SC SM H p t) : nOK (nP SM p) := (c_fresh (okS h)).2.2
theorem c_levelP (h : okP SC SM H p t) {x : Int} (h0 : 0 ≤ x) (h1 : x ≤ 400) : gX9_levelAt SC (H + 7 + 31 * mS SM p) (J x) = some (J (lvP SM p x)) := by
  rw [c_levelAt h0 h1, (okS h).2.2.1 _ (by omega), gI_J]
  rfl
theorem c_freshOnes (h : okP SC SM H p t) {x l : Int} (h0 : 0 ≤ x) (h1 : x ≤ 400) (hl : -1000 ≤ l ∧ l ≤ 1000) : gX11_freshOnes SC (H + 193 + 2 * p) (J x) (J l) = some (J (nAb (nP SM p) (l - lvP SM p x))) := by
  obtain ⟨f1, f2, f3⟩ := c_fresh (okS h)
  have hb := lvP_b h h0 h1
  unfold gX11_freshOnes
  rw [c_senseP h, b1s, f1, b1s, c_levelP h h0 h1, b1s, J_sub, c_above f2 (by omega) (by omega), b1s]
  rfl
theorem m_above_L (h : okP SC SM H p t) {x l : Int} (h0 : 0 ≤ x) (h1 : x ≤ 400) (hl : -1000 ≤ l ∧ l ≤ 1000) : ∀ (n i : Nat) (acc : Int), i ≤ 11 → 12 ≤ n + i → gX12_above_L18 SM (J x) (J l) (J (mS SM p)) n (J acc) (J ((i : Int) - 5)) = some (J (acc + (nAb (nP SM p) (l - lvP SM p x) - sm i (fun i => if l - lvP SM p x < (i : Int) - 5 then nP SM p i else 0)))) := by
  have hs := mS_b h
  have hk := fK_b (okS h).1
  have hb := lvP_b h h0 h1
  intro n
  induction n with
  | zero => intro i acc h1 h2; omega
  | succ n ih =>
    intro i acc h1' h2
    unfold gX12_above_L18
    simp only [J_0, J_1, J_2, J_3, J_4, J_5, J_6, J_7, J_8, J_9, J_10, J_11, J_12, J_14, J_15, J_16, J_19, J_20, J_21, J_22, J_23, J_24, J_25, J_28, J_30, J_31, J_32, J_40, J_44, J_47, J_48, J_49, J_50, J_53, J_54, J_57, J_59, J_74, J_75, J_78, J_84, J_97, J_99, J_100, J_120, J_122, J_126, J_132, J_138, J_144, J_150, J_156, J_162, J_198, J_200, J_202, J_206, J_210, J_214, J_218, J_222, J_226, J_230, J_234, J_238, J_239, J_240, J_241, J_242, J_243, J_255, J_263, J_283, J_303, J_399, J_400, J_401, J_463, J_700, J_701, J_999, J_1000, J_2048, J_4095, J_4096, J_6000, J_9999, J_10000, J_65536, J_65537, J_2147483647, J_neg]
    rw [iLT (by decide) (by decide) (by omega) (by omega)]
    by_cases e : i = 11
    · subst e
      rw [if_pos (by omega)]
      congr 2
      unfold nAb
      omega
    · rw [if_neg (show ¬ 5 < (i : Int) - 5 by omega), m_levelOf hs.1 h0 h1, b1s, J_add, show iI SM 5 (401 * mS SM p + x.toNat) = lvP SM p x from rfl, iLE (by omega) (by omega) (by omega) (by omega), m_fullOf (okS h).1 hs.1, b1s, m_oftenI hs.1 (by omega) (by omega), b1s, J_add, J_add, J_add, i5]
      have i1 := ih (i + 1) (acc + 0) (by omega) (by omega)
      have i2 := ih (i + 1) (acc + mN SM (mS SM p) (fK SM (mS SM p)) i) (by omega) (by omega)
      rw [sm_s (n := i)] at i1 i2
      by_cases z : lvP SM p x + ((i : Int) - 5) ≤ l
      · rw [if_pos z, i1, if_neg (by omega)]
        congr 2
        omega
      · rw [if_neg z, i2, if_pos (by omega)]
        congr 2
        unfold nP
        omega
theorem m_above (h : okP SC SM H p t) {x l : Int} (h0 : 0 ≤ x) (h1 : x ≤ 400) (hl : -1000 ≤ l ∧ l ≤ 1000) : gX12_above SM (J p) (J x) (J l) = some (J (nAb (nP SM p) (l - lvP SM p x))) := by
  have hp := h.2.1.1
  have hs := mS_b h
  have x1 : ixb (J (120 + (p : Int))) 463 = true := ixb_J (by omega) (by omega) (by decide)
  have y1 : ix (J (120 + (p : Int))) = 120 + p := by rw [ix_J (by omega) (by omega)]; omega
  have g : gI SM 3 (120 + p) = J (mS SM p) := by rw [gI_J, hs.2.2]
  unfold gX12_above
  simp only [J_0, J_1, J_2, J_3, J_4, J_5, J_6, J_7, J_8, J_9, J_10, J_11, J_12, J_14, J_15, J_16, J_19, J_20, J_21, J_22, J_23, J_24, J_25, J_28, J_30, J_31, J_32, J_40, J_44, J_47, J_48, J_49, J_50, J_53, J_54, J_57, J_59, J_74, J_75, J_78, J_84, J_97, J_99, J_100, J_120, J_122, J_126, J_132, J_138, J_144, J_150, J_156, J_162, J_198, J_200, J_202, J_206, J_210, J_214, J_218, J_222, J_226, J_230, J_234, J_238, J_239, J_240, J_241, J_242, J_243, J_255, J_263, J_283, J_303, J_399, J_400, J_401, J_463, J_700, J_701, J_999, J_1000, J_2048, J_4095, J_4096, J_6000, J_9999, J_10000, J_65536, J_65537, J_2147483647, J_neg, J_neg, J_add, J_sub, J_mul, x1, y1, ckt, b1s, b2s, lts, un2s, un3s, un4s, un5s, lmr, lml, lgr, lgl, g]
  have := m_above_L h h0 h1 hl FU 0 0 (by omega) (by have := FUs (n := 12) (by omega); omega)
  rw [show (((0 : Nat) : Int) - 5) = -5 from rfl, sm_0] at this
  rw [this]
  congr 2
  omega
/-- what is needed ahead: the model's sense, its wholes, its sum -/
theorem m_pre (h : okP SC SM H p t) : ixb (J (120 + (p : Int))) 463 = true ∧ ix (J (120 + (p : Int))) = 120 + p ∧ gI SM 3 (120 + p) = J (mS SM p) ∧ gX12_fullOf SM (J (mS SM p)) = some (J (fK SM (mS SM p))) ∧ gX12_all SM (J (mS SM p)) (J (fK SM (mS SM p))) = some (J (nAll (nP SM p))) := by
  have hp := h.2.1.1
  have hs := mS_b h
  have hk := fK_b (okS h).1
  exact ⟨ixb_J (by omega) (by omega) (by decide), by rw [ix_J (by omega) (by omega)]; omega, by rw [gI_J, hs.2.2], m_fullOf (okS h).1 hs.1, m_all hs.1 hk.2.1⟩
theorem m_fresh1 (h : okP SC SM H p t) {x : Int} (h0 : 0 ≤ x) (h1 : x ≤ 400) : gX12_freshOdds SM (J p) (J 1) (J x) (J 0) (J 1) = some (J (nAb (nP SM p) (iI SM 3 (126 + p) - lvP SM p x))) := by
  obtain ⟨x1, y1, g, f1, f2⟩ := m_pre h
  have hs := mS_b h
  have hk := fK_b (okS h).1
  have hm := h.2.2.1.1
  have hA : isA SM p 1 0 0 0 (fun f _ _ => if f ≤ iI SM 3 (126 + p) + 0 then 0 else 1) := by
    intro f g' h' hf hg hh
    refine ⟨?_, inI_of b01.1 (Int.le_trans b01.2 (by omega))⟩
    rw [m_ans h.2.1.1 hm (by decide) hf hg hh (by decide) ⟨by decide, by decide⟩, if_neg (by decide), if_pos rfl]
  have hod := m_oddsOf (a := x) (an := 1) h.2.1.1 hs.2.2 hs.1 hk.2.1 (okS h).1 (nP_ok h) (kd := 1) (b := 0) (c := 0) (by unfold okB; rw [if_pos rfl]; exact ⟨h0, h1, fun z => by omega, fun z => by omega, fun z => by omega⟩) (by decide) ⟨by decide, by decide⟩ ⟨by decide, by decide⟩ hA
  unfold gX12_freshOdds
  simp only [J_0, J_1, J_2, J_3, J_4, J_5, J_6, J_7, J_8, J_9, J_10, J_11, J_12, J_14, J_15, J_16, J_19, J_20, J_21, J_22, J_23, J_24, J_25, J_28, J_30, J_31, J_32, J_40, J_44, J_47, J_48, J_49, J_50, J_53, J_54, J_57, J_59, J_74, J_75, J_78, J_84, J_97, J_99, J_100, J_120, J_122, J_126, J_132, J_138, J_144, J_150, J_156, J_162, J_198, J_200, J_202, J_206, J_210, J_214, J_218, J_222, J_226, J_230, J_234, J_238, J_239, J_240, J_241, J_242, J_243, J_255, J_263, J_283, J_303, J_399, J_400, J_401, J_463, J_700, J_701, J_999, J_1000, J_2048, J_4095, J_4096, J_6000, J_9999, J_10000, J_65536, J_65537, J_2147483647, J_neg, J_neg, J_add, J_sub, J_mul, x1, y1, ckt, b1s, b2s, lts, un2s, un3s, un4s, un5s, lmr, lml, lgr, lgl, g, f1]
  rw [hod, b1s]
  congr 2
  unfold odN
  rw [if_neg (by decide), if_neg (by decide)]
  unfold od1 nAb
  refine sm_c (fun i hi => ?_)
  show (if (if lvk SM (mS SM p) 1 x 0 0 0 + ((i : Int) - 5) ≤ iI SM 3 (126 + p) + 0 then (0 : Int) else 1) = 1 then nP SM p i else 0) = _
  have el : lvk SM (mS SM p) 1 x 0 0 0 = lvP SM p x := rfl
  rw [el]
  by_cases z : lvP SM p x + ((i : Int) - 5) ≤ iI SM 3 (126 + p) + 0
  · rw [if_pos z, if_neg (by decide), if_neg (by omega)]
  · rw [if_neg z, if_pos rfl, if_pos (by omega)]
theorem m_fresh0 (h : okP SC SM H p t) {x y : Int} (h0 : 1 ≤ x) (h1 : x ≤ 400) (h2 : 1 ≤ y) (h3 : y ≤ 400) : gX12_freshOdds SM (J p) (J 0) (J x) (J y) (J 1) = some (J (pOd (nP SM p) (lvP SM p y + iI SM 3 (132 + p) - lvP SM p x) (decide (iI SM 3 (150 + p) = 1)) 1)) := by
  obtain ⟨x1, y1, g, f1, f2⟩ := m_pre h
  have hs := mS_b h
  have hk := fK_b (okS h).1
  have hm := h.2.2.1.1
  have hA : isA SM p 0 y 0 0 (fun f g _ => anP (g + iI SM 3 (132 + p) + 0 - f) (iI SM 3 (150 + p))) := by
    intro f g' h' hf hg hh
    have := anP_b (g' + iI SM 3 (132 + p) + 0 - f) (iI SM 3 (150 + p))
    refine ⟨?_, inI_of this.1 (Int.le_trans this.2 (by omega))⟩
    rw [m_ans h.2.1.1 hm (by decide) hf hg hh (by decide) ⟨by decide, by decide⟩, if_pos rfl]
  have hod := m_oddsOf (a := x) (an := 1) h.2.1.1 hs.2.2 hs.1 hk.2.1 (okS h).1 (nP_ok h) (kd := 0) (b := y) (c := 0) (by unfold okB; rw [if_neg (by decide)]; exact ⟨h0, h1, fun z => ⟨h2, h3⟩, fun z => by omega, fun z => by omega⟩) (by decide) ⟨by decide, by decide⟩ ⟨by decide, by decide⟩ hA
  unfold gX12_freshOdds
  simp only [J_0, J_1, J_2, J_3, J_4, J_5, J_6, J_7, J_8, J_9, J_10, J_11, J_12, J_14, J_15, J_16, J_19, J_20, J_21, J_22, J_23, J_24, J_25, J_28, J_30, J_31, J_32, J_40, J_44, J_47, J_48, J_49, J_50, J_53, J_54, J_57, J_59, J_74, J_75, J_78, J_84, J_97, J_99, J_100, J_120, J_122, J_126, J_132, J_138, J_144, J_150, J_156, J_162, J_198, J_200, J_202, J_206, J_210, J_214, J_218, J_222, J_226, J_230, J_234, J_238, J_239, J_240, J_241, J_242, J_243, J_255, J_263, J_283, J_303, J_399, J_400, J_401, J_463, J_700, J_701, J_999, J_1000, J_2048, J_4095, J_4096, J_6000, J_9999, J_10000, J_65536, J_65537, J_2147483647, J_neg, J_neg, J_add, J_sub, J_mul, x1, y1, ckt, b1s, b2s, lts, un2s, un3s, un4s, un5s, lmr, lml, lgr, lgl, g, f1]
  rw [hod, b1s]
  congr 2
  unfold odN
  rw [if_neg (by decide), if_pos (by decide)]
  have el0 : lvk SM (mS SM p) 0 x y 0 0 = lvP SM p x := rfl
  have el1 : lvk SM (mS SM p) 0 x y 0 1 = lvP SM p y := rfl
  unfold od2 pOd
  rw [if_neg (show ¬ (1 : Int) = 0 by decide), if_pos rfl, el0, el1]
  generalize lvP SM p x = a
  generalize lvP SM p y = b
  generalize iI SM 3 (132 + p) = s
  generalize iI SM 3 (150 + p) = q
  have key : ∀ i j : Nat, (anP (b + ((j : Int) - 5) + s + 0 - (a + ((i : Int) - 5))) q = 1) ↔ (if q = 1 then -(b + s - a) - 1 < (j : Int) - i else -(b + s - a) < (j : Int) - i) := by
    intro i j
    unfold anP
    repeat' split
    all_goals omega
  by_cases hq : q = 1
  · rw [if_pos (by simp [hq])]
    unfold nPab
    refine sm_c (fun i hi => sm_c (fun j hj => ?_))
    have := key i j
    rw [if_pos hq] at this
    show (if anP (b + ((j : Int) - 5) + s + 0 - (a + ((i : Int) - 5))) q = 1 then nP SM p i * nP SM p j else 0) = _
    by_cases z : -(b + s - a) - 1 < (j : Int) - i
    · rw [if_pos z, if_pos (this.mpr z)]
    · rw [if_neg z, if_neg (fun w => z (this.mp w))]
  · rw [if_neg (by simp [hq])]
    unfold nPab
    refine sm_c (fun i hi => sm_c (fun j hj => ?_))
    have := key i j
    rw [if_neg hq] at this
    show (if anP (b + ((j : Int) - 5) + s + 0 - (a + ((i : Int) - 5))) q = 1 then nP SM p i * nP SM p j else 0) = _
    by_cases z : -(b + s - a) < (j : Int) - i
    · rw [if_pos z, if_pos (this.mpr z)]
    · rw [if_neg z, if_neg (fun w => z (this.mp w))]
theorem pOd_b {o : Nat → Int} (ho : nOK o) (l : Int) (g : Bool) : 0 ≤ pOd o l g 1 ∧ pOd o l g 1 ≤ 9801 := by
  have h1 := nPab_lo ho (-l - 1)
  have h2 := nPab_hi ho (-l - 1)
  have h3 := nPab_lo ho (-l)
  have h4 := nPab_hi ho (-l)
  have h5 := nSq_hi ho
  unfold pOd
  rw [if_neg (by decide), if_pos rfl]
  split <;> omega
/-- so much more is needed, by both -/
theorem more_L (h : okP SC SM H p t) {x pc : Int} (h0 : 1 ≤ x) (h1 : x ≤ 400) (hpc : 1 ≤ pc ∧ pc ≤ 100) : ∀ (n d : Nat), 1 ≤ d → d ≤ 401 → 402 ≤ n + d → ∃ r : Int, (r = -2 ∨ (1 ≤ r ∧ x + r ≤ 400)) ∧ gX11_needed_L30 SC (H + 193 + 2 * p) (J x) (J pc) (H + 7 + 31 * mS SM p) (H + 7 + 31 * mS SM p + 7 + 4 * (fK SM (mS SM p) - 1)) (J (lvP SM p x - iI SM 3 (132 + p))) n (J d) = some (J r) ∧ gX12_moreOf_L31 SM (J p) (J x) (J pc) (J (nAll (nP SM p))) n (J d) = some (J r) := by
  obtain ⟨f1, f2, f3⟩ := c_fresh (okS h)
  have hm := h.2.2.1.1
  have hg := hm.2.2.2.2.2.1
  have hsec := hm.2.2.1
  have g6 := h.2.2.1.2.2.2.2.2.2.1
  rw [gI_J SM] at g6
  have hx := lvP_b h (x := x) (by omega) h1
  have hW := nSq_hi f3
  have hW0 := nAll_lo f3
  have hWu := nAll_hi f3
  intro n
  induction n with
  | zero => intro d g1 g2; omega
  | succ n ih =>
    intro d g1 g2 g3
    unfold gX11_needed_L30 gX12_moreOf_L31
    simp only [J_0, J_1, J_2, J_3, J_4, J_5, J_6, J_7, J_8, J_9, J_10, J_11, J_12, J_14, J_15, J_16, J_19, J_20, J_21, J_22, J_23, J_24, J_25, J_28, J_30, J_31, J_32, J_40, J_44, J_47, J_48, J_49, J_50, J_53, J_54, J_57, J_59, J_74, J_75, J_78, J_84, J_97, J_99, J_100, J_120, J_122, J_126, J_132, J_138, J_144, J_150, J_156, J_162, J_198, J_200, J_202, J_206, J_210, J_214, J_218, J_222, J_226, J_230, J_234, J_238, J_239, J_240, J_241, J_242, J_243, J_255, J_263, J_283, J_303, J_399, J_400, J_401, J_463, J_700, J_701, J_999, J_1000, J_2048, J_4095, J_4096, J_6000, J_9999, J_10000, J_65536, J_65537, J_2147483647, J_neg, J_neg, J_add, J_sub, J_mul]
    rw [iLT (by decide) (by decide) (by omega) (by omega), iLT (by decide) (by decide) (by omega) (by omega)]
    by_cases e : 400 < x + d
    · rw [if_pos e, if_pos e]
      exact ⟨-2, Or.inl rfl, rfl, rfl⟩
    · have hy := lvP_b h (x := x + d) (by omega) (by omega)
      have hp := c_pairOdds (v := lvP SM p (x + d) - (lvP SM p x - iI SM 3 (132 + p))) (a := 1) f2 (by omega) (by omega) hg (by decide) (by decide)
      rw [if_neg e, if_neg e, c_levelP h (by omega) (by omega), b1s, g6, J_sub, hp, b1s, c_pairs f2, b1s, m_fresh0 h h0 h1 (by omega) (by omega), b1s, show lvP SM p (x + d) - (lvP SM p x - iI SM 3 (132 + p)) = lvP SM p (x + d) + iI SM 3 (132 + p) - lvP SM p x by omega]
      have hb := pOd_b f3 (lvP SM p (x + d) + iI SM 3 (132 + p) - lvP SM p x) (decide (iI SM 3 (150 + p) = 1))
      have hNP : mN SM (mS SM p) (fK SM (mS SM p)) = nP SM p := rfl
      rw [hNP] at hb hW hW0 hWu ⊢
      generalize pOd (nP SM p) (lvP SM p (x + d) + iI SM 3 (132 + p) - lvP SM p x) (decide (iI SM 3 (150 + p) = 1)) 1 = v at hb ⊢
      have hm1 : 0 ≤ pc * (nAll (nP SM p) * nAll (nP SM p)) ∧ pc * (nAll (nP SM p) * nAll (nP SM p)) ≤ 100 * 9801 := ⟨Int.mul_nonneg (by omega) (Int.mul_nonneg (by omega) (by omega)), Int.mul_le_mul hpc.2 hW (Int.mul_nonneg (by omega) (by omega)) (by omega)⟩
      simp only [J_neg, J_add, J_sub, J_mul]
      rw [Int.mul_assoc pc, iLT (by omega) (by omega) (by omega) (by omega), iLT (by omega) (by omega) (by omega) (by omega), show (d : Int) + 1 = ((d + 1 : Nat) : Int) by omega]
      by_cases z : 100 * v < pc * (nAll (nP SM p) * nAll (nP SM p))
      · rw [if_pos z, if_pos z]
        exact ih (d + 1) (by omega) (by omega) (by omega)
      · rw [if_neg z, if_neg z]
        exact ⟨d, Or.inr (by omega), rfl, rfl⟩
theorem more_eq (h : okP SC SM H p t) {x pc : Int} (h0 : 1 ≤ x) (h1 : x ≤ 400) (hpc : 1 ≤ pc ∧ pc ≤ 100) : ∃ r : Int, (r = -2 ∨ (1 ≤ r ∧ x + r ≤ 400)) ∧ gX11_needed SC (H + 193 + 2 * p) (J x) (J pc) = some (J r) ∧ gX12_moreOf SM (J p) (J x) (J pc) = some (J r) := by
  obtain ⟨x1, y1, g, f1, f2⟩ := m_pre h
  obtain ⟨q1, q2, q3⟩ := c_fresh (okS h)
  have g3 := h.2.2.1.2.2.2.1
  rw [gI_J SM] at g3
  obtain ⟨r, r1, r2, r3⟩ := more_L h h0 h1 hpc FU 1 (by omega) (by omega) (by have := FUs (n := 402) (by omega); omega)
  refine ⟨r, r1, ?_, ?_⟩
  · unfold gX11_needed
    simp only [J_0, J_1, J_2, J_3, J_4, J_5, J_6, J_7, J_8, J_9, J_10, J_11, J_12, J_14, J_15, J_16, J_19, J_20, J_21, J_22, J_23, J_24, J_25, J_28, J_30, J_31, J_32, J_40, J_44, J_47, J_48, J_49, J_50, J_53, J_54, J_57, J_59, J_74, J_75, J_78, J_84, J_97, J_99, J_100, J_120, J_122, J_126, J_132, J_138, J_144, J_150, J_156, J_162, J_198, J_200, J_202, J_206, J_210, J_214, J_218, J_222, J_226, J_230, J_234, J_238, J_239, J_240, J_241, J_242, J_243, J_255, J_263, J_283, J_303, J_399, J_400, J_401, J_463, J_700, J_701, J_999, J_1000, J_2048, J_4095, J_4096, J_6000, J_9999, J_10000, J_65536, J_65537, J_2147483647, J_neg]
    rw [c_senseP h, b1s, q1, b1s, c_levelP h (by omega) h1, b1s, g3, J_sub]
    exact r2
  · unfold gX12_moreOf
    simp only [J_0, J_1, J_2, J_3, J_4, J_5, J_6, J_7, J_8, J_9, J_10, J_11, J_12, J_14, J_15, J_16, J_19, J_20, J_21, J_22, J_23, J_24, J_25, J_28, J_30, J_31, J_32, J_40, J_44, J_47, J_48, J_49, J_50, J_53, J_54, J_57, J_59, J_74, J_75, J_78, J_84, J_97, J_99, J_100, J_120, J_122, J_126, J_132, J_138, J_144, J_150, J_156, J_162, J_198, J_200, J_202, J_206, J_210, J_214, J_218, J_222, J_226, J_230, J_234, J_238, J_239, J_240, J_241, J_242, J_243, J_255, J_263, J_283, J_303, J_399, J_400, J_401, J_463, J_700, J_701, J_999, J_1000, J_2048, J_4095, J_4096, J_6000, J_9999, J_10000, J_65536, J_65537, J_2147483647, J_neg, J_neg, J_add, J_sub, J_mul, x1, y1, ckt, b1s, b2s, lts, un2s, un3s, un4s, un5s, lmr, lml, lgr, lgl, g, f1, f2]
    exact r3
end
