/-! The room's relation holds as long as the places that it speaks of are the same. -/
theorem nzC_c {S S' : zM} {q : Nat} {o : Nat → Int} (h : nzC S q o) (h0 : gI S' q 3 = gI S q 3) (h1 : ∀ k, gI S' (q + 1) k = gI S (q + 1) k) (h2 : ∀ k, gI S' (q + 2) k = gI S (q + 2) k) (h3 : ∀ k, gI S' (q + 3) k = gI S (q + 3) k) : nzC S' q o := ⟨h0.trans h.1, fun i hi => (h1 i).trans (h.2.1 i hi), fun i hi => (h2 i).trans (h.2.2.1 i hi), fun i hi => (h3 i).trans (h.2.2.2 i hi)⟩
theorem cnt_c {S S' : zM} (h : gI S' 0 14 = gI S 0 14) (h3 : ∀ k, gI S' 3 k = gI S 3 k) (i : Nat) : cnt S' i = cnt S i := by
  unfold cnt iI
  rw [h, h3]
theorem mN_c {S S' : zM} (h3 : ∀ k, gI S' 3 k = gI S 3 k) (s k : Nat) : mN S' s k = mN S s k := by
  funext i
  unfold mN iI
  rw [h3, h3]
theorem mSense_c {S S' : zM} {s : Nat} (h : mSense S s) (h3 : ∀ k, gI S' 3 k = gI S 3 k) (h5 : ∀ k, gI S' 5 k = gI S 5 k) : mSense S' s := by
  have e3 : ∀ k, iI S' 3 k = iI S 3 k := fun k => congrArg Int32.toInt (h3 k)
  have e5 : ∀ k, iI S' 5 k = iI S 5 k := fun k => congrArg Int32.toInt (h5 k)
  unfold mSense
  simp only [e3, e5]
  exact h
theorem rHall_c {SC SC' SM SM' : zM} {H : Nat} (h : rHall SC SM H) (hI : ∀ q k, H ≤ q → q ≤ H + 212 → gI SC' q k = gI SC q k) (hR1 : gR SC' 0 8 = gR SC 0 8) (hR2 : gR SC' 2 6 = gR SC 2 6) (m14 : gI SM' 0 14 = gI SM 0 14) (m3 : ∀ k, gI SM' 3 k = gI SM 3 k) (m5 : ∀ k, gI SM' 5 k = gI SM 5 k) (m6 : ∀ k, gI SM' 6 k = gI SM 6 k) (m7 : ∀ k, gI SM' 7 k = gI SM 7 k) : rHall SC' SM' H := by
  have e3 : ∀ k, iI SM' 3 k = iI SM 3 k := fun k => congrArg Int32.toInt (m3 k)
  have ec : ∀ i, cnt SM' i = cnt SM i := cnt_c m14 m3
  obtain ⟨⟨hH, hr1, hr2⟩, hb, ⟨c0, c1, c2, c3⟩, hse, hsa, hpl, hpa⟩ := h
  refine ⟨⟨hH, hR1.trans hr1, hR2.trans hr2⟩, ?_, ⟨?_, ?_, ?_, ?_⟩, ?_, ?_, ?_, ?_⟩
  · simp only [ec]; exact hb
  · rw [hI _ _ (by omega) (by omega), ec]; exact c0
  · rw [hI _ _ (by omega) (by omega), ec]; exact c1
  · rw [hI _ _ (by omega) (by omega), ec]; exact c2
  · rw [hI _ _ (by omega) (by omega), ec]; exact c3
  · intro s hs
    rw [ec] at hs
    obtain ⟨g1, g2, g3, g4⟩ := hse s hs
    refine ⟨mSense_c g1 m3 m5, ?_, fun x hx => ?_, fun j hj => ?_⟩
    · rw [hI _ _ (by omega) (by omega), m3]; exact g2
    · rw [hI _ _ (by omega) (by omega), m5]; exact g3 x hx
    · rw [e3] at hj
      have hb6 := g1.1.2
      rw [mN_c m3]
      exact nzC_c (g4 j hj) (hI _ _ (by omega) (by omega)) (fun k => hI _ _ (by omega) (by omega)) (fun k => hI _ _ (by omega) (by omega)) (fun k => hI _ _ (by omega) (by omega))
  · intro p hp
    rw [ec] at hp
    obtain ⟨g1, g2, g3, g4, g5, g6, g7, g8, g9, g10, g11⟩ := hsa p hp
    refine ⟨?_, ?_, ?_, ?_, ?_, ?_, ?_, ?_, fun j hj => ?_, ?_, ?_⟩
    · unfold mSayer
      simp only [e3, ec]
      exact g1
    · rw [hI _ _ (by omega) (by omega), m3]; exact g2
    · rw [hI _ _ (by omega) (by omega), m3]; exact g3
    · rw [hI _ _ (by omega) (by omega), m3]; exact g4
    · rw [hI _ _ (by omega) (by omega), m3]; exact g5
    · rw [hI _ _ (by omega) (by omega), m3]; exact g6
    · rw [hI _ _ (by omega) (by omega), m3]; exact g7
    · rw [hI _ _ (by omega) (by omega), m3]; exact g8
    · rw [e3] at hj
      rw [hI _ _ (by omega) (by omega), m3]; exact g9 j hj
    · rw [hI _ _ (by omega) (by omega), m6]; exact g10
    · rw [hI _ _ (by omega) (by omega), m7]; exact g11
  · intro n hn
    rw [ec] at hn
    obtain ⟨g1, g2, g3, g4, g5, g6⟩ := hpl n hn
    refine ⟨?_, ?_, ?_, ?_, ?_, ?_⟩
    · simp only [e3]
      exact g1
    · rw [hI _ _ (by omega) (by omega), m3]; exact g2
    · rw [hI _ _ (by omega) (by omega), m3]; exact g3
    · rw [hI _ _ (by omega) (by omega), m3]; exact g4
    · rw [hI _ _ (by omega) (by omega), m3]; exact g5
    · rw [hI _ _ (by omega) (by omega), m3]; exact g6
  · intro n hn
    rw [ec] at hn
    obtain ⟨g1, g2, g3, g4, g5, g6⟩ := hpa n hn
    refine ⟨?_, ?_, ?_, ?_, ?_, ?_⟩
    · simp only [e3]
      exact g1
    · rw [hI _ _ (by omega) (by omega), m3]; exact g2
    · rw [hI _ _ (by omega) (by omega), m3]; exact g3
    · rw [hI _ _ (by omega) (by omega), m3]; exact g4
    · rw [hI _ _ (by omega) (by omega), m3]; exact g5
    · rw [hI _ _ (by omega) (by omega), m3]; exact g6
/-! levels, the nearest -/
theorem m_levelOf {S : zM} {s : Nat} {x : Int} (hs : s < 6) (h0 : 0 ≤ x) (h1 : x ≤ 400) : gX12_levelOf S (J s) (J x) = some (J (iI S 5 (401 * s + x.toNat))) := by
  unfold gX12_levelOf
  simp only [J_0, J_1, J_2, J_3, J_4, J_5, J_6, J_7, J_8, J_9, J_10, J_11, J_12, J_14, J_15, J_16, J_19, J_20, J_21, J_22, J_23, J_24, J_25, J_28, J_30, J_31, J_32, J_40, J_44, J_47, J_48, J_49, J_50, J_53, J_54, J_57, J_59, J_74, J_75, J_78, J_84, J_97, J_99, J_100, J_120, J_122, J_126, J_132, J_138, J_144, J_150, J_156, J_162, J_198, J_200, J_202, J_206, J_210, J_214, J_218, J_222, J_226, J_230, J_234, J_238, J_239, J_240, J_241, J_242, J_243, J_255, J_263, J_283, J_303, J_399, J_400, J_401, J_463, J_700, J_701, J_999, J_1000, J_2048, J_4095, J_4096, J_6000, J_9999, J_10000, J_65536, J_65537, J_2147483647, J_neg, J_mul, J_add]
  rw [ixb_J (by omega) (by omega) (by decide), ckt, ix_J (by omega) (by omega), gI_J]
  congr 3
  omega
theorem c_levelAt {S : zM} {q : Nat} {x : Int} (h0 : 0 ≤ x) (h1 : x ≤ 400) : gX9_levelAt S q (J x) = some (gI S (q + 5) x.toNat) := by
  unfold gX9_levelAt
  simp only [J_0, J_1, J_2, J_3, J_4, J_5, J_6, J_7, J_8, J_9, J_10, J_11, J_12, J_14, J_15, J_16, J_19, J_20, J_21, J_22, J_23, J_24, J_25, J_28, J_30, J_31, J_32, J_40, J_44, J_47, J_48, J_49, J_50, J_53, J_54, J_57, J_59, J_74, J_75, J_78, J_84, J_97, J_99, J_100, J_120, J_122, J_126, J_132, J_138, J_144, J_150, J_156, J_162, J_198, J_200, J_202, J_206, J_210, J_214, J_218, J_222, J_226, J_230, J_234, J_238, J_239, J_240, J_241, J_242, J_243, J_255, J_263, J_283, J_303, J_399, J_400, J_401, J_463, J_700, J_701, J_999, J_1000, J_2048, J_4095, J_4096, J_6000, J_9999, J_10000, J_65536, J_65537, J_2147483647, J_neg]
  rw [iLT (by omega) (by omega) (by decide) (by decide), iLE (by omega) (by omega) (by decide) (by decide), if_neg (by omega), if_pos h1, ixb_J (by omega) (by omega) (by decide), ckt, ix_J (by omega) (by omega)]
theorem m_without {x : Int} (h1 : -2147483647 ≤ x) (h2 : x ≤ 2147483647) : gX12_without (J x) = some (J (iab x)) := by
  unfold gX12_without iab
  simp only [J_0, J_1, J_2, J_3, J_4, J_5, J_6, J_7, J_8, J_9, J_10, J_11, J_12, J_14, J_15, J_16, J_19, J_20, J_21, J_22, J_23, J_24, J_25, J_28, J_30, J_31, J_32, J_40, J_44, J_47, J_48, J_49, J_50, J_53, J_54, J_57, J_59, J_74, J_75, J_78, J_84, J_97, J_99, J_100, J_120, J_122, J_126, J_132, J_138, J_144, J_150, J_156, J_162, J_198, J_200, J_202, J_206, J_210, J_214, J_218, J_222, J_226, J_230, J_234, J_238, J_239, J_240, J_241, J_242, J_243, J_255, J_263, J_283, J_303, J_399, J_400, J_401, J_463, J_700, J_701, J_999, J_1000, J_2048, J_4095, J_4096, J_6000, J_9999, J_10000, J_65536, J_65537, J_2147483647, J_neg]
  rw [iLE (by decide) (by decide) (by omega) (by omega)]
  by_cases h : 0 ≤ x
  · rw [if_pos h, if_pos h]
  · rw [if_neg h, if_neg h]
theorem iab_lo (x : Int) : 0 ≤ iab x := by unfold iab; split <;> omega
theorem iab_hi {x b : Int} (h1 : -b ≤ x) (h2 : x ≤ b) : iab x ≤ b := by unfold iab; split <;> omega
theorem near_L {SC SM : zM} {q s : Nat} {f : Int} (hs : s < 6) (hl : ∀ x : Nat, x < 401 → gI SC (q + 5) x = gI SM 5 (401 * s + x)) (hb : ∀ x : Nat, x < 401 → 0 ≤ iI SM 5 (401 * s + x) ∧ iI SM 5 (401 * s + x) ≤ 9999) (hf : -100000 ≤ f ∧ f ≤ 100000) : ∀ (n i b : Nat), 2 ≤ i ∧ i ≤ 401 → 402 ≤ n + i → 1 ≤ b → b < 401 → ∃ r : Nat, 1 ≤ r ∧ r < 401 ∧ gX9_nearest_L4 SC q (J f) n (J b) (J i) = some (J r) ∧ gX12_matched_L5 SM (J s) (J f) n (J b) (J i) = some (J r) := by
  intro n
  induction n with
  | zero => intro i b h1 h2; omega
  | succ n ih =>
    intro i b h1 h2 h3 h4
    unfold gX9_nearest_L4 gX12_matched_L5
    simp only [J_0, J_1, J_2, J_3, J_4, J_5, J_6, J_7, J_8, J_9, J_10, J_11, J_12, J_14, J_15, J_16, J_19, J_20, J_21, J_22, J_23, J_24, J_25, J_28, J_30, J_31, J_32, J_40, J_44, J_47, J_48, J_49, J_50, J_53, J_54, J_57, J_59, J_74, J_75, J_78, J_84, J_97, J_99, J_100, J_120, J_122, J_126, J_132, J_138, J_144, J_150, J_156, J_162, J_198, J_200, J_202, J_206, J_210, J_214, J_218, J_222, J_226, J_230, J_234, J_238, J_239, J_240, J_241, J_242, J_243, J_255, J_263, J_283, J_303, J_399, J_400, J_401, J_463, J_700, J_701, J_999, J_1000, J_2048, J_4095, J_4096, J_6000, J_9999, J_10000, J_65536, J_65537, J_2147483647, J_neg]
    rw [iLT (by decide) (by decide) (by omega) (by omega), iLE (by decide) (by decide) (by omega) (by omega)]
    by_cases e : i = 401
    · rw [if_pos (show (400 : Int) < i by omega), if_pos (show (401 : Int) ≤ i by omega)]
      exact ⟨b, h3, h4, rfl, rfl⟩
    · have b1' := hb i (by omega)
      have b2' := hb b h4
      have c1 : gI SC (q + 5) i = J (iI SM 5 (401 * s + i)) := (hl i (by omega)).trans (gI_J _ _ _)
      have c2 : gI SC (q + 5) b = J (iI SM 5 (401 * s + b)) := (hl b h4).trans (gI_J _ _ _)
      have a1 := iab_lo (iI SM 5 (401 * s + i) - f)
      have a2 := iab_hi (x := iI SM 5 (401 * s + i) - f) (b := 200000) (by omega) (by omega)
      have a3 := iab_lo (iI SM 5 (401 * s + b) - f)
      have a4 := iab_hi (x := iI SM 5 (401 * s + b) - f) (b := 200000) (by omega) (by omega)
      rw [if_neg (show ¬ (400 : Int) < i by omega), if_neg (show ¬ (401 : Int) ≤ i by omega), ixb_J (by omega) (by omega) (by decide), ixb_J (by omega) (by omega) (by decide), ckt, ckt, ix_J (by omega) (by omega), ix_J (by omega) (by omega), Int.toNat_natCast, Int.toNat_natCast, c1, c2, J_sub, J_sub, jabs_J (by omega) (by omega), jabs_J (by omega) (by omega), m_levelOf hs (by omega) (by omega), b1s, Int.toNat_natCast, J_sub, m_without (by omega) (by omega), b1s, m_levelOf hs (by omega) (by omega), b1s, Int.toNat_natCast, J_sub, m_without (by omega) (by omega), b1s, J_add, iLE (by omega) (by omega) (by omega) (by omega), iLE (by omega) (by omega) (by omega) (by omega)]
      by_cases w : iab (iI SM 5 (401 * s + b) - f) ≤ iab (iI SM 5 (401 * s + i) - f)
      · rw [if_pos w, if_pos w]
        exact ih (i + 1) b (by omega) (by omega) h3 h4
      · rw [if_neg w, if_neg w]
        exact ih (i + 1) i (by omega) (by omega) (by omega) (by omega)
theorem near {SC SM : zM} {q s : Nat} {f : Int} (hs : s < 6) (hl : ∀ x : Nat, x < 401 → gI SC (q + 5) x = gI SM 5 (401 * s + x)) (hb : ∀ x : Nat, x < 401 → 0 ≤ iI SM 5 (401 * s + x) ∧ iI SM 5 (401 * s + x) ≤ 9999) (hf : -100000 ≤ f ∧ f ≤ 100000) : ∃ r : Nat, 1 ≤ r ∧ r < 401 ∧ gX9_nearest SC q (J f) = some (J r) ∧ gX12_matched SM (J s) (J f) = some (J r) := by
  unfold gX9_nearest gX12_matched
  simp only [J_0, J_1, J_2, J_3, J_4, J_5, J_6, J_7, J_8, J_9, J_10, J_11, J_12, J_14, J_15, J_16, J_19, J_20, J_21, J_22, J_23, J_24, J_25, J_28, J_30, J_31, J_32, J_40, J_44, J_47, J_48, J_49, J_50, J_53, J_54, J_57, J_59, J_74, J_75, J_78, J_84, J_97, J_99, J_100, J_120, J_122, J_126, J_132, J_138, J_144, J_150, J_156, J_162, J_198, J_200, J_202, J_206, J_210, J_214, J_218, J_222, J_226, J_230, J_234, J_238, J_239, J_240, J_241, J_242, J_243, J_255, J_263, J_283, J_303, J_399, J_400, J_401, J_463, J_700, J_701, J_999, J_1000, J_2048, J_4095, J_4096, J_6000, J_9999, J_10000, J_65536, J_65537, J_2147483647, J_neg]
  exact near_L hs hl hb hf FU 2 1 (by omega) (by have := FUs (n := 402) (by omega); omega) (by omega) (by omega)
/-! the liked number -/
theorem like_L {SC SM : zM} {y p : Nat} {v m : Int} (hp : p < 6) (hm : gI SM 3 (156 + p) = J m) (hmc : gI SC y 7 = J m) (hm6 : 0 ≤ m ∧ m ≤ 6) (hl : ∀ j : Nat, (j : Int) < m → gI SC (y + 1) j = gI SM 3 (162 + 6 * p + j)) (hb : ∀ j : Nat, j < 6 → 0 ≤ iI SM 3 (162 + 6 * p + j) ∧ iI SM 3 (162 + 6 * p + j) ≤ 999) (hv : 0 ≤ v ∧ v ≤ 100000) : ∀ (n i : Nat) (b : Int), (i : Int) ≤ m → 8 ≤ n + i → 0 ≤ b → b ≤ 100000 → ∃ r : Int, 0 ≤ r ∧ r ≤ 100000 ∧ gX8_inLikedNumbers_L21 SC y (J v) n (J b) (J i) = some (J r) ∧ gX12_named_L47 SM (J p) (J v) (J m) n (J b) (J i) = some (J r) := by
  intro n
  induction n with
  | zero => intro i b h1 h2; omega
  | succ n ih =>
    intro i b h1 h2 h3 h4
    unfold gX8_inLikedNumbers_L21 gX12_named_L47
    simp (disch := omega) only [J_0, J_1, J_2, J_3, J_4, J_5, J_6, J_7, J_8, J_9, J_10, J_11, J_12, J_14, J_15, J_16, J_19, J_20, J_21, J_22, J_23, J_24, J_25, J_28, J_30, J_31, J_32, J_40, J_44, J_47, J_48, J_49, J_50, J_53, J_54, J_57, J_59, J_74, J_75, J_78, J_84, J_97, J_99, J_100, J_120, J_122, J_126, J_132, J_138, J_144, J_150, J_156, J_162, J_198, J_200, J_202, J_206, J_210, J_214, J_218, J_222, J_226, J_230, J_234, J_238, J_239, J_240, J_241, J_242, J_243, J_255, J_263, J_283, J_303, J_399, J_400, J_401, J_463, J_700, J_701, J_999, J_1000, J_2048, J_4095, J_4096, J_6000, J_9999, J_10000, J_65536, J_65537, J_2147483647, J_neg, J_neg, J_add, J_sub, J_mul, hmc, J_lt, J_le, J_inj]
    by_cases e : (i : Int) = m
    · rw [if_pos (show m ≤ (i : Int) by omega), if_pos (show m ≤ (i : Int) by omega)]
      exact ⟨b, h3, h4, rfl, rfl⟩
    · have hb' := hb i (by omega)
      have c1 : gI SC (y + 1) i = J (iI SM 3 (162 + 6 * p + i)) := (hl i (by omega)).trans (gI_J _ _ _)
      have c2 : gI SM 3 (162 + 6 * p + i) = J (iI SM 3 (162 + 6 * p + i)) := gI_J _ _ _
      have a1 := iab_lo (iI SM 3 (162 + 6 * p + i) - v)
      have a2 := iab_hi (x := iI SM 3 (162 + 6 * p + i) - v) (b := 200000) (by omega) (by omega)
      have a3 := iab_lo (b - v)
      have a4 := iab_hi (x := b - v) (b := 200000) (by omega) (by omega)
      have x1 : ixb (J (i : Int)) 6 = true := ixb_J (by omega) (by omega) (by decide)
      have x2 : ix (J (i : Int)) = i := by rw [ix_J (by omega) (by omega)]; omega
      have x3 : ixb (J (162 + 6 * (p : Int) + i)) 463 = true := ixb_J (by omega) (by omega) (by decide)
      have x4 : ix (J (162 + 6 * (p : Int) + i)) = 162 + 6 * p + i := by rw [ix_J (by omega) (by omega)]; omega
      have x5 : jabs (J (iI SM 3 (162 + 6 * p + i) - v)) = J (iab (iI SM 3 (162 + 6 * p + i) - v)) := jabs_J (by omega) (by omega)
      have x6 : jabs (J (b - v)) = J (iab (b - v)) := jabs_J (by omega) (by omega)
      have x7 : gX12_without (J (iI SM 3 (162 + 6 * p + i) - v)) = some (J (iab (iI SM 3 (162 + 6 * p + i) - v))) := m_without (by omega) (by omega)
      have x8 : gX12_without (J (b - v)) = some (J (iab (b - v))) := m_without (by omega) (by omega)
      rw [if_neg (show ¬ m ≤ (i : Int) by omega), if_neg (show ¬ m ≤ (i : Int) by omega), if_neg (show ¬ 6 ≤ (i : Int) by omega)]
      simp only [x1, x2, x3, x4, c1, c2, ckt, b1s, b2s, lts, un2s, un3s, un4s, un5s, lmr, lml, lgr, lgl, J_neg, J_add, J_sub, J_mul, x5, x6, x7, x8]
      simp (disch := omega) only [J_lt, J_le, J_inj]
      by_cases w : iab (iI SM 3 (162 + 6 * p + i) - v) < iab (b - v)
      · rw [if_pos w, if_pos (show iab (iI SM 3 (162 + 6 * p + i) - v) - iab (b - v) < 0 by omega)]
        exact ih (i + 1) _ (by omega) (by omega) (by omega) (by omega)
      · rw [if_neg w, if_neg (show ¬ iab (iI SM 3 (162 + 6 * p + i) - v) - iab (b - v) < 0 by omega)]
        by_cases w2 : iab (iI SM 3 (162 + 6 * p + i) - v) = iab (b - v)
        · rw [if_pos w2, if_pos (show iab (iI SM 3 (162 + 6 * p + i) - v) - iab (b - v) = 0 by omega)]
          by_cases w3 : b ≤ iI SM 3 (162 + 6 * p + i)
          · rw [if_pos w3, if_pos w3]
            exact ih (i + 1) _ (by omega) (by omega) (by omega) (by omega)
          · rw [if_neg w3, if_neg w3]
            exact ih (i + 1) _ (by omega) (by omega) (by omega) (by omega)
        · rw [if_neg w2, if_neg (show ¬ iab (iI SM 3 (162 + 6 * p + i) - v) - iab (b - v) = 0 by omega)]
          exact ih (i + 1) _ (by omega) (by omega) (by omega) (by omega)
theorem like {SC SM : zM} {y p : Nat} {f m : Int} (hp : p < 6) (hm : gI SM 3 (156 + p) = J m) (hmc : gI SC y 7 = J m) (hm6 : 0 ≤ m ∧ m ≤ 6) (hl : ∀ j : Nat, (j : Int) < m → gI SC (y + 1) j = gI SM 3 (162 + 6 * p + j)) (hb : ∀ j : Nat, j < 6 → 0 ≤ iI SM 3 (162 + 6 * p + j) ∧ iI SM 3 (162 + 6 * p + j) ≤ 999) (hv : -100000 ≤ f ∧ f ≤ 100000) : ∃ r : Int, 0 ≤ r ∧ r ≤ 100000 ∧ gX8_inLikedNumbers SC y (jmax (J 0) (J f)) = some (J r) ∧ gX12_named SM (J p) (J f) = some (J r) := by
  have e1 : gX12_named SM (J p) (J f) = gX12_named_J9 SM (J p) (J (max 0 f)) := by
    unfold gX12_named
    simp only [J_0, J_1, J_2, J_3, J_4, J_5, J_6, J_7, J_8, J_9, J_10, J_11, J_12, J_14, J_15, J_16, J_19, J_20, J_21, J_22, J_23, J_24, J_25, J_28, J_30, J_31, J_32, J_40, J_44, J_47, J_48, J_49, J_50, J_53, J_54, J_57, J_59, J_74, J_75, J_78, J_84, J_97, J_99, J_100, J_120, J_122, J_126, J_132, J_138, J_144, J_150, J_156, J_162, J_198, J_200, J_202, J_206, J_210, J_214, J_218, J_222, J_226, J_230, J_234, J_238, J_239, J_240, J_241, J_242, J_243, J_255, J_263, J_283, J_303, J_399, J_400, J_401, J_463, J_700, J_701, J_999, J_1000, J_2048, J_4095, J_4096, J_6000, J_9999, J_10000, J_65536, J_65537, J_2147483647, J_neg]
    rw [iLE (by decide) (by decide) (by omega) (by omega)]
    by_cases h : 0 ≤ f
    · rw [if_pos h, Int.max_eq_right h]
    · rw [if_neg h, Int.max_eq_left (by omega)]
  rw [e1, jmax_J (by decide) (by decide) (by omega) (by omega)]
  generalize hv' : max 0 f = v
  have hv2 : 0 ≤ v ∧ v ≤ 100000 := by omega
  unfold gX8_inLikedNumbers gX12_named_J9
  have x1 : ixb (J (156 + (p : Int))) 463 = true := ixb_J (by omega) (by omega) (by decide)
  have x2 : ix (J (156 + (p : Int))) = 156 + p := by rw [ix_J (by omega) (by omega)]; omega
  have x3 : ixb (J (162 + 6 * (p : Int))) 463 = true := ixb_J (by omega) (by omega) (by decide)
  have x4 : ix (J (162 + 6 * (p : Int))) = 162 + 6 * p := by rw [ix_J (by omega) (by omega)]; omega
  have x5 : ixb (J 0) 6 = true := by decide
  have x6 : ix (J 0) = 0 := by decide
  simp (disch := omega) only [J_0, J_1, J_2, J_3, J_4, J_5, J_6, J_7, J_8, J_9, J_10, J_11, J_12, J_14, J_15, J_16, J_19, J_20, J_21, J_22, J_23, J_24, J_25, J_28, J_30, J_31, J_32, J_40, J_44, J_47, J_48, J_49, J_50, J_53, J_54, J_57, J_59, J_74, J_75, J_78, J_84, J_97, J_99, J_100, J_120, J_122, J_126, J_132, J_138, J_144, J_150, J_156, J_162, J_198, J_200, J_202, J_206, J_210, J_214, J_218, J_222, J_226, J_230, J_234, J_238, J_239, J_240, J_241, J_242, J_243, J_255, J_263, J_283, J_303, J_399, J_400, J_401, J_463, J_700, J_701, J_999, J_1000, J_2048, J_4095, J_4096, J_6000, J_9999, J_10000, J_65536, J_65537, J_2147483647, J_neg, J_neg, J_add, J_sub, J_mul, hmc, hm, x1, x2, x3, x4, x5, x6, ckt, b1s, b2s, lts, un2s, un3s, un4s, un5s, lmr, lml, lgr, lgl, J_lt, J_le, J_inj]
  by_cases h : m = 0
  · subst h
    rw [if_neg (show ¬ (1 : Int) ≤ 0 by decide), if_pos rfl]
    obtain ⟨k, hk⟩ : ∃ k, FU = k + 1 := ⟨1048575, rfl⟩
    refine ⟨v, hv2.1, hv2.2, ?_, rfl⟩
    rw [hk, gX8_inLikedNumbers_L21]
    simp only [J_0, J_1, J_2, J_3, J_4, J_5, J_6, J_7, J_8, J_9, J_10, J_11, J_12, J_14, J_15, J_16, J_19, J_20, J_21, J_22, J_23, J_24, J_25, J_28, J_30, J_31, J_32, J_40, J_44, J_47, J_48, J_49, J_50, J_53, J_54, J_57, J_59, J_74, J_75, J_78, J_84, J_97, J_99, J_100, J_120, J_122, J_126, J_132, J_138, J_144, J_150, J_156, J_162, J_198, J_200, J_202, J_206, J_210, J_214, J_218, J_222, J_226, J_230, J_234, J_238, J_239, J_240, J_241, J_242, J_243, J_255, J_263, J_283, J_303, J_399, J_400, J_401, J_463, J_700, J_701, J_999, J_1000, J_2048, J_4095, J_4096, J_6000, J_9999, J_10000, J_65536, J_65537, J_2147483647, J_neg, hmc]
    rw [if_pos (by decide)]
  · have hb' := hb 0 (by omega)
    have c1 : gI SC (y + 1) 0 = J (iI SM 3 (162 + 6 * p)) := (hl 0 (by omega)).trans (gI_J _ _ _)
    have c2 : gI SM 3 (162 + 6 * p) = J (iI SM 3 (162 + 6 * p)) := gI_J _ _ _
    rw [Nat.add_zero] at hb'
    rw [if_pos (show 1 ≤ m by omega), if_neg h, c1, c2]
    exact like_L hp hm hmc hm6 hl hb hv2 FU 1 _ (by omega) (by have := FUs (n := 8) (by omega); omega) hb'.1 (by omega)
