/-! more, fails, steps, felt. -/
section
variable {SC SM : zM} {t : Nat}
/-- the frame of a question about a sayer: its state, when nothing bars it -/
theorem okQ {SC' : zM} {H P : Nat} (h : Inv SC SM t) (hh : rHall SC SM H) (ht : t < 512) (f : fr E456 SC SC') (hP : (P : Int) < cnt (mgd SM) 1) : okP SC' (mgd SM) H P t := okP_of (rHall_q hh (fr456q f) fmgd) hP (by omega) (rTot_q h.2.1 fmgd)
theorem st_more (h : Inv SC SM t) (ht : t < 512) (x1 x2 x3 : Int32) : stp (gX11_more SC x1 x2 x3) (gX12_more SM x1 x2 x3) t := by
  have hInv := h
  obtain ⟨⟨H, hh⟩, -⟩ := h
  obtain ⟨p, rfl, p1, p2⟩ := J_of x1
  obtain ⟨x, rfl, v1, v2⟩ := J_of x2
  obtain ⟨pc, rfl, c1, c2⟩ := J_of x3
  have hg := rHall_q hh fr_r (fmgd (S := SM))
  have hg' := hg
  obtain ⟨⟨hH, hr, -⟩, ⟨-, m0, -⟩, ⟨-, c0, -⟩, -⟩ := hg'
  have a1 := c_isSayer p1 p2 hH hr c0 m0
  have b1' := m_isSayer (S := mgd SM) p1 p2 m0
  unfold gX11_more gX12_more gX11_more_J14 gX11_more_J40
  simp only [J_0, J_1, J_2, J_3, J_4, J_5, J_6, J_7, J_8, J_9, J_10, J_11, J_12, J_14, J_15, J_16, J_19, J_20, J_21, J_22, J_23, J_24, J_25, J_28, J_30, J_31, J_32, J_40, J_44, J_47, J_48, J_49, J_50, J_53, J_54, J_57, J_59, J_74, J_75, J_78, J_84, J_97, J_99, J_100, J_120, J_122, J_126, J_132, J_138, J_144, J_150, J_156, J_162, J_198, J_200, J_202, J_206, J_210, J_214, J_218, J_222, J_226, J_230, J_234, J_238, J_239, J_240, J_241, J_242, J_243, J_255, J_263, J_283, J_303, J_399, J_400, J_401, J_463, J_700, J_701, J_999, J_1000, J_2048, J_4095, J_4096, J_6000, J_9999, J_10000, J_65536, J_65537, J_2147483647, J_neg, m_good, ckt, b1s, b2s, lts, un2s, un3s, un4s, un5s, lmr, lml, lgr, lgl, a1, b1', iB0, m_no, c_passes0, c_passesN (w := 1) (by decide), c_passesN (w := 2) (by decide), c_isSize v1 v2, c_isPercent c1 c2]
  rw [m_within v1 v2 (by decide) (by decide) (by decide) (by decide), b1s, iB0, m_within c1 c2 (by decide) (by decide) (by decide) (by decide), b1s, iB0]
  by_cases e1 : 0 ≤ p ∧ p < cnt (mgd SM) 1
  · rw [if_pos e1, if_pos e1, if_neg (show ¬ J 1 = J 0 by decide)]
    have no2 : stp (some (J (-1), cps (cps SC 0) 2)) (some (J (-1), mno SM 2)) t := ⟨_, _, _, rfl, rfl, Inv_w hInv cps_2 (by decide) cps_12⟩
    by_cases e2 : 1 ≤ x ∧ x ≤ 400
    · rw [if_pos e2, if_pos e2]
      by_cases e3 : 1 ≤ pc ∧ pc ≤ 100
      · obtain ⟨P, rfl⟩ : ∃ P : Nat, p = P := ⟨p.toNat, by omega⟩
        have ok := okQ hInv hh ht (cps_2 (S := SC) (v := 0) (w := 0)) e1.2
        obtain ⟨r, -, r2, r3⟩ := more_eq ok e2.1 e2.2 e3
        have x1' : ixb (J (P : Int)) 6 = true := ixb_J (by omega) (by have := ok.2.1.1; omega) (by decide)
        have y1' : ix (J (P : Int)) = P := by rw [ix_J (by omega) (by omega)]; omega
        rw [if_pos e3, if_pos e3, if_neg (show ¬ J 1 = J 0 by decide), ok.2.2.2.2.2.1.1, zb3 hH, ckt, x1', ckt, y1', r2, b1s, r3, b1s]
        exact ⟨_, _, _, rfl, rfl, Inv_0 hInv cps_2 cps_12⟩
      · rw [if_neg e3, if_neg e3, if_pos trivial]
        exact no2
    · rw [if_neg e2, if_neg e2, if_pos trivial]
      exact no2
  · rw [if_neg e1, if_neg e1, if_pos trivial]
    exact ⟨_, _, _, rfl, rfl, Inv_w hInv fr_cps (by decide) cps_12⟩
theorem fails_L {SC SM : zM} {H P : Nat} {pc to' sh : Int} (ok : okP SC SM H P t) (hpc : 1 ≤ pc ∧ pc ≤ 100) (hto : to' ≤ 400) (hsh : 1 ≤ sh ∧ sh ≤ 400) : ∀ (n : Nat) (x : Int), 1 ≤ x → x ≤ 401 → 402 ≤ n + x → x ≤ to' + 1 → ∃ r : Int32, gX11_fails_L85 SC (J P) (J pc) (J to') (J sh) n (J x) = some (r, SC) ∧ gX12_fails_L72 SM (J P) (J pc) (J to') (J sh) n (J x) = some (r, SM) := by
  have hH := ok.1
  have x1' : ixb (J (P : Int)) 6 = true := ixb_J (by omega) (by have := ok.2.1.1; omega) (by decide)
  have y1' : ix (J (P : Int)) = P := by rw [ix_J (by omega) (by have := ok.2.1.1; omega)]; omega
  intro n
  induction n with
  | zero => intro x h1 h2; omega
  | succ n ih =>
    intro x h1 h2 h3 h4
    unfold gX11_fails_L85 gX12_fails_L72 gX11_fails_J111 gX12_fails_J107
    simp only [J_0, J_1, J_2, J_3, J_4, J_5, J_6, J_7, J_8, J_9, J_10, J_11, J_12, J_14, J_15, J_16, J_19, J_20, J_21, J_22, J_23, J_24, J_25, J_28, J_30, J_31, J_32, J_40, J_44, J_47, J_48, J_49, J_50, J_53, J_54, J_57, J_59, J_74, J_75, J_78, J_84, J_97, J_99, J_100, J_120, J_122, J_126, J_132, J_138, J_144, J_150, J_156, J_162, J_198, J_200, J_202, J_206, J_210, J_214, J_218, J_222, J_226, J_230, J_234, J_238, J_239, J_240, J_241, J_242, J_243, J_255, J_263, J_283, J_303, J_399, J_400, J_401, J_463, J_700, J_701, J_999, J_1000, J_2048, J_4095, J_4096, J_6000, J_9999, J_10000, J_65536, J_65537, J_2147483647, J_neg]
    rw [iLT (by omega) (by omega) (by omega) (by omega), iLT (by omega) (by omega) (by omega) (by omega)]
    by_cases e : to' < x
    · rw [if_pos e, if_pos e]
      exact ⟨_, rfl, rfl⟩
    · obtain ⟨r, r1, r2, r3⟩ := more_eq ok h1 (show x ≤ 400 by omega) hpc
      have hd := div_b (a := x) (b := sh) (c := 400) (by omega) (by omega) hsh.1
      rw [if_neg e, if_neg e, iLE (by decide) (by decide) (by omega) (by omega), if_pos hsh.1]
      simp only [dnz (a := sh) (by omega) (by omega) (by omega), ckt]
      rw [J_div (by omega) (by omega) (by omega) (by omega), jmax_J (by decide) (by decide) (by omega) (by omega), ok.2.2.2.2.2.1.1, zb3 hH, ckt, x1', ckt, y1', r2, b1s, r3, b1s, iLE (a := 1) (b := x / sh) (by decide) (by decide) (by omega) (by omega)]
      generalize x / sh = q at hd ⊢
      have key : ∀ due : Int, max 1 q = due → (1 ≤ due ∧ due ≤ 400) → ∃ r' : Int32, (lm (if J r = J (-2) then some (Sum.inl (J x, SC)) else if jabs (J r - J (max 1 q)) ≤ J 1 then some (Sum.inr (J x + J 1)) else some (Sum.inl (J x, SC))) fun v7 => gX11_fails_L85 SC (J P) (J pc) (J to') (J sh) n v7) = some (r', SC) ∧ (lm (if J r < J 0 then some (Sum.inl (J x, SM)) else b1 (gX12_without (J r - J due)) fun r17 => if r17 ≤ J 1 then some (Sum.inr (J x + J 1)) else some (Sum.inl (J x, SM))) fun v6 => gX12_fails_L72 SM (J P) (J pc) (J to') (J sh) n v6) = some (r', SM) := by
        intro due hdue hdb
        rw [hdue, J_sub, jabs_J (by omega) (by omega), m_without (by omega) (by omega), b1s]
        have hi := iab_lo (r - due)
        have hi2 := iab_hi (x := r - due) (b := 1000) (by omega) (by omega)
        rw [iEQ (by omega) (by omega) (by decide) (by decide), iLT (by omega) (by omega) (by decide) (by decide), iLE (by omega) (by omega) (by decide) (by decide), iLE (by omega) (by omega) (by decide) (by decide), J_add]
        by_cases z : r = -2
        · rw [if_pos z, if_pos (show r < 0 by omega), lml, lml]
          exact ⟨_, rfl, rfl⟩
        · rw [if_neg z, if_neg (show ¬ r < 0 by omega)]
          by_cases z2 : iab (r - due) ≤ 1
          · rw [if_pos z2, if_pos z2, lmr, lmr]
            exact ih (x + 1) (by omega) (by omega) (by omega) (by omega)
          · rw [if_neg z2, if_neg z2, lml, lml]
            exact ⟨_, rfl, rfl⟩
      by_cases w : 1 ≤ q
      · rw [if_pos w]
        exact key q (by omega) (by omega)
      · rw [if_neg w]
        exact key 1 (by omega) (by omega)
theorem st_fails (h : Inv SC SM t) (ht : t < 512) (x1 x2 x3 x4 x5 : Int32) : stp (gX11_fails SC x1 x2 x3 x4 x5) (gX12_fails SM x1 x2 x3 x4 x5) t := by
  have hInv := h
  obtain ⟨⟨H, hh⟩, -⟩ := h
  obtain ⟨p, rfl, p1, p2⟩ := J_of x1
  obtain ⟨pc, rfl, c1, c2⟩ := J_of x2
  obtain ⟨f, rfl, f1, f2⟩ := J_of x3
  obtain ⟨u, rfl, u1, u2⟩ := J_of x4
  obtain ⟨s, rfl, s1, s2⟩ := J_of x5
  have hg := rHall_q hh fr_r (fmgd (S := SM))
  have hg' := hg
  obtain ⟨⟨hH, hr, -⟩, ⟨-, m0, -⟩, ⟨-, c0, -⟩, -⟩ := hg'
  have a1 := c_isSayer p1 p2 hH hr c0 m0
  have b1' := m_isSayer (S := mgd SM) p1 p2 m0
  unfold gX11_fails gX12_fails gX11_fails_J41 gX11_fails_J57
  simp only [J_0, J_1, J_2, J_3, J_4, J_5, J_6, J_7, J_8, J_9, J_10, J_11, J_12, J_14, J_15, J_16, J_19, J_20, J_21, J_22, J_23, J_24, J_25, J_28, J_30, J_31, J_32, J_40, J_44, J_47, J_48, J_49, J_50, J_53, J_54, J_57, J_59, J_74, J_75, J_78, J_84, J_97, J_99, J_100, J_120, J_122, J_126, J_132, J_138, J_144, J_150, J_156, J_162, J_198, J_200, J_202, J_206, J_210, J_214, J_218, J_222, J_226, J_230, J_234, J_238, J_239, J_240, J_241, J_242, J_243, J_255, J_263, J_283, J_303, J_399, J_400, J_401, J_463, J_700, J_701, J_999, J_1000, J_2048, J_4095, J_4096, J_6000, J_9999, J_10000, J_65536, J_65537, J_2147483647, J_neg, m_good, ckt, b1s, b2s, lts, un2s, un3s, un4s, un5s, lmr, lml, lgr, lgl, a1, b1', iB0, m_no, c_passes0, c_passesN (w := 1) (by decide), c_passesN (w := 2) (by decide), c_isSize f1 f2, c_isSize u1 u2, c_isSize s1 s2, c_isPercent c1 c2]
  rw [m_within c1 c2 (by decide) (by decide) (by decide) (by decide), b1s, iB0, m_within f1 f2 (by decide) (by decide) (by decide) (by decide), b1s, iB0, m_within u1 u2 f1 f2 (by decide) (by decide), b1s, iB0, m_within s1 s2 (by decide) (by decide) (by decide) (by decide), b1s, iB0, iLT u1 u2 f1 f2]
  by_cases e1 : 0 ≤ p ∧ p < cnt (mgd SM) 1
  · simp only [if_pos e1, if_true, if_neg (show ¬ J 1 = J 0 by decide)]
    have no2 : stp (some (J (-1), cps (cps SC 0) 2)) (some (J (-1), mno SM 2)) t := ⟨_, _, _, rfl, rfl, Inv_w hInv cps_2 (by decide) cps_12⟩
    by_cases e2 : 1 ≤ pc ∧ pc ≤ 100
    · rw [if_pos e2, if_pos e2]
      by_cases e3 : 1 ≤ f ∧ f ≤ 400
      · rw [if_pos e3, if_pos e3]
        by_cases e4 : f ≤ u ∧ u ≤ 400
        · rw [if_pos (show 1 ≤ u ∧ u ≤ 400 by omega), if_pos e4, if_neg (show ¬ u < f by omega)]
          by_cases e5 : 1 ≤ s ∧ s ≤ 400
          · obtain ⟨P, rfl⟩ : ∃ P : Nat, p = P := ⟨p.toNat, by omega⟩
            have ok := okQ hInv hh ht (cps_2 (S := SC) (v := 0) (w := 0)) e1.2
            obtain ⟨r, r2, r3⟩ := fails_L ok e2 e4.2 e5 FU f e3.1 (by omega) (by have := FUs (n := 402) (by omega); omega) (by omega)
            rw [if_pos e5, if_pos e5, r2, r3]
            exact ⟨_, _, _, rfl, rfl, Inv_0 hInv cps_2 cps_12⟩
          · rw [if_neg e5, if_neg e5]
            exact no2
        · rw [if_neg e4]
          by_cases z : 1 ≤ u ∧ u ≤ 400
          · rw [if_pos z, if_pos (show u < f by omega)]
            exact no2
          · rw [if_neg z]
            exact no2
      · rw [if_neg e3, if_neg e3]
        exact no2
    · rw [if_neg e2, if_neg e2]
      exact no2
  · simp only [if_neg e1, if_true]
    refine ⟨J (-1), cps SC 1, _, ?_, rfl, Inv_w hInv fr_cps (by decide) cps_12⟩
    repeat' split
    all_goals rfl
theorem steps_L {SC SM : zM} {H P : Nat} {pc to' : Int} (ok : okP SC SM H P t) (hpc : 1 ≤ pc ∧ pc ≤ 100) (hto : 1 ≤ to' ∧ to' ≤ 400) : ∀ (n k : Nat) (x d : Int), 1 + (k : Int) ≤ x → x ≤ 400 → 402 ≤ n + k → gX12_moreOf SM (J P) (J x) (J pc) = some (J d) → ∃ r : Int32, gX11_steps_L62 SC (J P) (J pc) (J to') n (J x) (J k) = some (r, SC) ∧ gX12_steps_L73 SM (J P) (J pc) (J to') n (J k) (J x) (J d) = some (r, SM) := by
  have hH := ok.1
  have x1' : ixb (J (P : Int)) 6 = true := ixb_J (by omega) (by have := ok.2.1.1; omega) (by decide)
  have y1' : ix (J (P : Int)) = P := by rw [ix_J (by omega) (by have := ok.2.1.1; omega)]; omega
  intro n
  induction n with
  | zero => intro k x d h1 h2; omega
  | succ n ih =>
    intro k x d h1 h2 h3 hd
    obtain ⟨r, r1, r2, r3⟩ := more_eq ok (x := x) (by omega) h2 hpc
    have hdr : J d = J r := by
      rw [r3] at hd
      exact (Option.some.inj hd).symm
    unfold gX11_steps_L62 gX12_steps_L73
    rw [hdr]
    simp only [J_0, J_1, J_2, J_3, J_4, J_5, J_6, J_7, J_8, J_9, J_10, J_11, J_12, J_14, J_15, J_16, J_19, J_20, J_21, J_22, J_23, J_24, J_25, J_28, J_30, J_31, J_32, J_40, J_44, J_47, J_48, J_49, J_50, J_53, J_54, J_57, J_59, J_74, J_75, J_78, J_84, J_97, J_99, J_100, J_120, J_122, J_126, J_132, J_138, J_144, J_150, J_156, J_162, J_198, J_200, J_202, J_206, J_210, J_214, J_218, J_222, J_226, J_230, J_234, J_238, J_239, J_240, J_241, J_242, J_243, J_255, J_263, J_283, J_303, J_399, J_400, J_401, J_463, J_700, J_701, J_999, J_1000, J_2048, J_4095, J_4096, J_6000, J_9999, J_10000, J_65536, J_65537, J_2147483647, J_neg]
    rw [iLE (by decide) (by decide) (by omega) (by omega), if_neg (show ¬ (400 : Int) ≤ k by omega), ok.2.2.2.2.2.1.1, zb3 hH, ckt, x1', ckt, y1', r2, b1s, iEQ (by omega) (by omega) (by decide) (by decide), iLE (by omega) (by omega) (by decide) (by decide)]
    by_cases z : r = -2
    · rw [if_pos z, if_pos (show r ≤ 0 by omega)]
      exact ⟨_, rfl, rfl⟩
    · rw [if_neg z, if_neg (show ¬ r ≤ 0 by omega), J_add, iLE (by omega) (by omega) (by omega) (by omega), iLT (by omega) (by omega) (by omega) (by omega)]
      by_cases w : x + r ≤ to'
      · obtain ⟨d', -, -, d3⟩ := more_eq ok (x := x + r) (by omega) (by omega) hpc
        rw [if_pos w, if_neg (show ¬ to' < x + r by omega), d3, b1s, J_add, show (k : Int) + 1 = ((k + 1 : Nat) : Int) by omega]
        exact ih (k + 1) (x + r) d' (by omega) (by omega) (by omega) d3
      · rw [if_neg w, if_pos (show to' < x + r by omega)]
        exact ⟨_, rfl, rfl⟩
theorem st_steps (h : Inv SC SM t) (ht : t < 512) (x1 x2 x3 x4 : Int32) : stp (gX11_steps SC x1 x2 x3 x4) (gX12_steps SM x1 x2 x3 x4) t := by
  have hInv := h
  obtain ⟨⟨H, hh⟩, -⟩ := h
  obtain ⟨p, rfl, p1, p2⟩ := J_of x1
  obtain ⟨pc, rfl, c1, c2⟩ := J_of x2
  obtain ⟨f, rfl, f1, f2⟩ := J_of x3
  obtain ⟨u, rfl, u1, u2⟩ := J_of x4
  have hg := rHall_q hh fr_r (fmgd (S := SM))
  have hg' := hg
  obtain ⟨⟨hH, hr, -⟩, ⟨-, m0, -⟩, ⟨-, c0, -⟩, -⟩ := hg'
  have a1 := c_isSayer p1 p2 hH hr c0 m0
  have b1' := m_isSayer (S := mgd SM) p1 p2 m0
  unfold gX11_steps gX12_steps gX11_steps_J14
  simp only [J_0, J_1, J_2, J_3, J_4, J_5, J_6, J_7, J_8, J_9, J_10, J_11, J_12, J_14, J_15, J_16, J_19, J_20, J_21, J_22, J_23, J_24, J_25, J_28, J_30, J_31, J_32, J_40, J_44, J_47, J_48, J_49, J_50, J_53, J_54, J_57, J_59, J_74, J_75, J_78, J_84, J_97, J_99, J_100, J_120, J_122, J_126, J_132, J_138, J_144, J_150, J_156, J_162, J_198, J_200, J_202, J_206, J_210, J_214, J_218, J_222, J_226, J_230, J_234, J_238, J_239, J_240, J_241, J_242, J_243, J_255, J_263, J_283, J_303, J_399, J_400, J_401, J_463, J_700, J_701, J_999, J_1000, J_2048, J_4095, J_4096, J_6000, J_9999, J_10000, J_65536, J_65537, J_2147483647, J_neg, m_good, ckt, b1s, b2s, lts, un2s, un3s, un4s, un5s, lmr, lml, lgr, lgl, a1, b1', iB0, m_no, c_passes0, c_passesN (w := 1) (by decide), c_passesN (w := 2) (by decide), c_isSize f1 f2, c_isSize u1 u2, c_isPercent c1 c2]
  rw [m_within c1 c2 (by decide) (by decide) (by decide) (by decide), b1s, iB0, m_within f1 f2 (by decide) (by decide) (by decide) (by decide), b1s, iB0, m_within u1 u2 (by decide) (by decide) (by decide) (by decide), b1s, iB0]
  by_cases e1 : 0 ≤ p ∧ p < cnt (mgd SM) 1
  · simp only [if_pos e1, if_true, if_neg (show ¬ J 1 = J 0 by decide)]
    have no2 : stp (some (J (-1), cps (cps SC 0) 2)) (some (J (-1), mno SM 2)) t := ⟨_, _, _, rfl, rfl, Inv_w hInv cps_2 (by decide) cps_12⟩
    by_cases e2 : 1 ≤ pc ∧ pc ≤ 100
    · rw [if_pos e2, if_pos e2]
      by_cases e3 : 1 ≤ f ∧ f ≤ 400
      · rw [if_pos e3, if_pos e3]
        by_cases e4 : 1 ≤ u ∧ u ≤ 400
        · rw [if_pos e4, if_pos e4]
          obtain ⟨P, rfl⟩ : ∃ P : Nat, p = P := ⟨p.toNat, by omega⟩
          have ok := okQ hInv hh ht (cps_2 (S := SC) (v := 0) (w := 0)) e1.2
          obtain ⟨d, -, -, d3⟩ := more_eq ok e3.1 e3.2 e2
          obtain ⟨r, r2, r3⟩ := steps_L ok e2 e4 FU 0 f d (by omega) (by omega) (by have := FUs (n := 402) (by omega); omega) d3
          rw [show ((0 : Nat) : Int) = 0 from rfl] at r2 r3
          rw [d3, b1s, r2, r3]
          exact ⟨_, _, _, rfl, rfl, Inv_0 hInv cps_2 cps_12⟩
        · rw [if_neg e4, if_neg e4]
          exact no2
      · rw [if_neg e3, if_neg e3]
        exact no2
    · rw [if_neg e2, if_neg e2]
      exact no2
  · simp only [if_neg e1, if_true]
    exact ⟨_, _, _, rfl, rfl, Inv_w hInv fr_cps (by decide) cps_12⟩
theorem felt_L {SC SM : zM} {H P : Nat} {pc v0 : Int} {nq : Nat} (ok : okP SC SM H P t) (hpc : 1 ≤ pc ∧ pc ≤ 100) (hv : 0 ≤ v0 ∧ v0 ≤ 99) (hn : gI SC nq 3 = J (nAll (nP SM P))) : ∀ (n : Nat) (x : Nat), 1 ≤ x → x ≤ 401 → 402 ≤ n + x → ∃ r : Int32, gX11_felt_L76 SC (J pc) (H + 193 + 2 * P) nq (J v0) n (J x) = some (r, SC) ∧ gX12_felt_L75 SM (J P) (J pc) (J (nAll (nP SM P))) (J v0) n (J x) = some (r, SM) := by
  have g2 := ok.2.2.1.2.2.1
  rw [gI_J SM] at g2
  have hl := ok.2.2.1.1.2.1
  have ho := nP_ok ok
  have hlo := nAll_lo ho
  have hhi := nAll_hi ho
  intro n
  induction n with
  | zero => intro x h1 h2; omega
  | succ n ih =>
    intro x h1 h2 h3
    unfold gX11_felt_L76 gX12_felt_L75
    simp only [J_0, J_1, J_2, J_3, J_4, J_5, J_6, J_7, J_8, J_9, J_10, J_11, J_12, J_14, J_15, J_16, J_19, J_20, J_21, J_22, J_23, J_24, J_25, J_28, J_30, J_31, J_32, J_40, J_44, J_47, J_48, J_49, J_50, J_53, J_54, J_57, J_59, J_74, J_75, J_78, J_84, J_97, J_99, J_100, J_120, J_122, J_126, J_132, J_138, J_144, J_150, J_156, J_162, J_198, J_200, J_202, J_206, J_210, J_214, J_218, J_222, J_226, J_230, J_234, J_238, J_239, J_240, J_241, J_242, J_243, J_255, J_263, J_283, J_303, J_399, J_400, J_401, J_463, J_700, J_701, J_999, J_1000, J_2048, J_4095, J_4096, J_6000, J_9999, J_10000, J_65536, J_65537, J_2147483647, J_neg, g2]
    rw [iLT (by decide) (by decide) (by omega) (by omega), iLT (by decide) (by decide) (by omega) (by omega)]
    by_cases e : (400 : Int) < x
    · rw [if_pos e, if_pos e]
      exact ⟨_, rfl, rfl⟩
    · rw [if_neg e, if_neg e, c_freshOnes ok (by omega) (by omega) (by omega), b1s, m_fresh1 ok (by omega) (by omega), b1s, hn]
      have hb1 := nAb_lo ho (iI SM 3 (126 + P) - lvP SM P x)
      have hb2 := nAb_hi ho (iI SM 3 (126 + P) - lvP SM P x)
      generalize nAb (nP SM P) (iI SM 3 (126 + P) - lvP SM P x) = w at hb1 hb2 ⊢
      have hm : 0 ≤ pc * nAll (nP SM P) ∧ pc * nAll (nP SM P) ≤ 100 * 99 := ⟨Int.mul_nonneg (by omega) (by omega), Int.mul_le_mul hpc.2 hhi (by omega) (by omega)⟩
      simp only [J_neg, J_add, J_sub, J_mul]
      rw [iLT (by omega) (by omega) (by omega) (by omega), iLT (by omega) (by omega) (by omega) (by omega), show (x : Int) + 1 = ((x + 1 : Nat) : Int) by omega]
      by_cases z : 100 * (w - v0) < pc * nAll (nP SM P)
      · rw [if_pos z, if_pos z]
        exact ih (x + 1) (by omega) (by omega) (by omega)
      · rw [if_neg z, if_neg z]
        exact ⟨_, rfl, rfl⟩
theorem st_felt (h : Inv SC SM t) (ht : t < 512) (x1 x2 : Int32) : stp (gX11_felt SC x1 x2) (gX12_felt SM x1 x2) t := by
  have hInv := h
  obtain ⟨⟨H, hh⟩, -⟩ := h
  obtain ⟨p, rfl, p1, p2⟩ := J_of x1
  obtain ⟨pc, rfl, c1, c2⟩ := J_of x2
  have hg := rHall_q hh fr_r (fmgd (S := SM))
  have hg' := hg
  obtain ⟨⟨hH, hr, -⟩, ⟨-, m0, -⟩, ⟨-, c0, -⟩, -⟩ := hg'
  have a1 := c_isSayer p1 p2 hH hr c0 m0
  have b1' := m_isSayer (S := mgd SM) p1 p2 m0
  unfold gX11_felt gX12_felt gX11_felt_J14 gX11_felt_J33
  simp only [J_0, J_1, J_2, J_3, J_4, J_5, J_6, J_7, J_8, J_9, J_10, J_11, J_12, J_14, J_15, J_16, J_19, J_20, J_21, J_22, J_23, J_24, J_25, J_28, J_30, J_31, J_32, J_40, J_44, J_47, J_48, J_49, J_50, J_53, J_54, J_57, J_59, J_74, J_75, J_78, J_84, J_97, J_99, J_100, J_120, J_122, J_126, J_132, J_138, J_144, J_150, J_156, J_162, J_198, J_200, J_202, J_206, J_210, J_214, J_218, J_222, J_226, J_230, J_234, J_238, J_239, J_240, J_241, J_242, J_243, J_255, J_263, J_283, J_303, J_399, J_400, J_401, J_463, J_700, J_701, J_999, J_1000, J_2048, J_4095, J_4096, J_6000, J_9999, J_10000, J_65536, J_65537, J_2147483647, J_neg, J_neg, J_add, J_sub, J_mul, m_good, ckt, b1s, b2s, lts, un2s, un3s, un4s, un5s, lmr, lml, lgr, lgl, a1, b1', iB0, m_no, c_passes0, c_passesN (w := 1) (by decide), c_passesN (w := 2) (by decide), c_isPercent c1 c2]
  rw [m_within c1 c2 (by decide) (by decide) (by decide) (by decide), b1s, iB0]
  by_cases e1 : 0 ≤ p ∧ p < cnt (mgd SM) 1
  · simp only [if_pos e1, if_true, if_neg (show ¬ J 1 = J 0 by decide)]
    by_cases e2 : 1 ≤ pc ∧ pc ≤ 100
    · rw [if_pos e2, if_pos e2]
      obtain ⟨P, rfl⟩ : ∃ P : Nat, p = P := ⟨p.toNat, by omega⟩
      have ok := okQ hInv hh ht (cps_2 (S := SC) (v := 0) (w := 0)) e1.2
      have x1' : ixb (J (P : Int)) 6 = true := ixb_J (by omega) (by have := ok.2.1.1; omega) (by decide)
      have y1' : ix (J (P : Int)) = P := by rw [ix_J (by omega) (by omega)]; omega
      obtain ⟨i1, j1, g120, f1, f2⟩ := m_pre ok
      obtain ⟨q1, q2, q3⟩ := c_fresh (okS ok)
      have g2 := ok.2.2.1.2.2.1
      rw [gI_J (mgd SM)] at g2
      have hl := ok.2.2.1.1.2.1
      have ho := nP_ok ok
      have hb1 := nAb_lo ho (iI (mgd SM) 3 (126 + P) - lvP (mgd SM) P 0)
      have hb2 := nAb_hi ho (iI (mgd SM) 3 (126 + P) - lvP (mgd SM) P 0)
      have hhi := nAll_hi ho
      obtain ⟨r, r2, r3⟩ := felt_L ok e2 (v0 := nAb (nP (mgd SM) P) (iI (mgd SM) 3 (126 + P) - lvP (mgd SM) P 0)) (by omega) q2.1 FU 1 (by omega) (by omega) (by have := FUs (n := 402) (by omega); omega)
      rw [show ((1 : Nat) : Int) = 1 from rfl] at r2 r3
      rw [ok.2.2.2.2.2.1.1, zb3 hH, ckt, x1', ckt, y1', c_senseP ok, b1s, q1, b1s, g2, c_freshOnes ok (by decide) (by decide) (by omega), b1s, i1, ckt, ckt, j1, g120, f1, b1s, f2, b1s, m_fresh1 ok (by decide) (by decide), b1s, r2, r3]
      exact ⟨_, _, _, rfl, rfl, Inv_0 hInv cps_2 cps_12⟩
    · rw [if_neg e2, if_neg e2]
      exact ⟨_, _, _, rfl, rfl, Inv_w hInv cps_2 (by decide) cps_12⟩
  · simp only [if_neg e1, if_true]
    exact ⟨_, _, _, rfl, rfl, Inv_w hInv fr_cps (by decide) cps_12⟩
end
