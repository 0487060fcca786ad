/-! Answers and odds, by both. -/
theorem m_ans {S : zM} {p : Nat} {kd b c f g h tr : Int} (hp : p < 6) (hm : mSayer S p) (hk : 0 ≤ kd ∧ kd ≤ 5) (hf : inF f) (hg : inF g) (hh : inF h) (htr : 0 ≤ tr ∧ tr ≤ 600000) (hc : inI c) : gX12_answered S (J p) (J kd) (J b) (J c) (J f) (J g) (J h) (J tr) = if kd = 0 then some (J (anP (g + iI S 3 (132 + p) + tr - f) (iI S 3 (150 + p)))) else if kd = 1 then some (J (if f ≤ iI S 3 (126 + p) + tr then 0 else 1)) else if kd = 2 then some (J (anO f g h)) else if kd = 3 then gX12_named S (J p) (J f) else if kd = 4 then gX12_matched S (J b) (J f) else some (J (anK (g + iI S 3 (132 + p) + tr - f) c)) := by
  have hO := m_oddOne hf hg hh
  unfold inF at hf hg hh
  unfold inI at hc
  obtain ⟨-, m1, m2, -, -, m3, -⟩ := hm
  have x1 : ixb (J (132 + (p : Int))) 463 = true := ixb_J (by omega) (by omega) (by decide)
  have x2 : ix (J (132 + (p : Int))) = 132 + p := by rw [ix_J (by omega) (by omega)]; omega
  have x3 : ixb (J (150 + (p : Int))) 463 = true := ixb_J (by omega) (by omega) (by decide)
  have x4 : ix (J (150 + (p : Int))) = 150 + p := by rw [ix_J (by omega) (by omega)]; omega
  have x5 : ixb (J (126 + (p : Int))) 463 = true := ixb_J (by omega) (by omega) (by decide)
  have x6 : ix (J (126 + (p : Int))) = 126 + p := by rw [ix_J (by omega) (by omega)]; omega
  unfold gX12_answered gX12_ordered
  simp only [J_0, J_1, J_2, J_3, J_4, J_5, J_6, J_7, J_8, J_9, J_10, J_11, J_12, J_14, J_15, J_16, J_19, J_20, J_21, J_22, J_23, J_24, J_25, J_28, J_30, J_31, J_32, J_40, J_44, J_47, J_48, J_49, J_50, J_53, J_54, J_57, J_59, J_74, J_75, J_78, J_84, J_97, J_99, J_100, J_120, J_122, J_126, J_132, J_138, J_144, J_150, J_156, J_162, J_198, J_200, J_202, J_206, J_210, J_214, J_218, J_222, J_226, J_230, J_234, J_238, J_239, J_240, J_241, J_242, J_243, J_255, J_263, J_283, J_303, J_399, J_400, J_401, J_463, J_700, J_701, J_999, J_1000, J_2048, J_4095, J_4096, J_6000, J_9999, J_10000, J_65536, J_65537, J_2147483647, J_neg, J_neg, J_add, J_sub, J_mul, x1, x2, x3, x4, x5, x6, ckt, b1s, b2s, lts, un2s, un3s, un4s, un5s, lmr, lml, lgr, lgl, gI_J S, hO]
  generalize hd : g + iI S 3 (132 + p) + tr - f = d
  have hd2 : -1000000 ≤ d ∧ d ≤ 1000000 := by omega
  simp (disch := omega) only [J_lt, J_le, J_inj]
  have hk6 : kd = 0 ∨ kd = 1 ∨ kd = 2 ∨ kd = 3 ∨ kd = 4 ∨ kd = 5 := by omega
  rcases hk6 with rfl | rfl | rfl | rfl | rfl | rfl
  · rw [if_pos rfl, if_pos rfl]
    unfold anP
    repeat' split
    all_goals first | rfl | (exfalso; omega)
  · rw [if_neg (show ¬ (1 : Int) = 0 by decide), if_pos rfl, if_neg (show ¬ (1 : Int) = 0 by decide), if_pos rfl]
    repeat' split
    all_goals first | rfl | (exfalso; omega)
  · rfl
  · rw [if_neg (show ¬ (3 : Int) = 0 by decide), if_neg (show ¬ (3 : Int) = 1 by decide), if_neg (show ¬ (3 : Int) = 2 by decide), if_pos rfl, if_neg (show ¬ (3 : Int) = 0 by decide), if_neg (show ¬ (3 : Int) = 1 by decide), if_neg (show ¬ (3 : Int) = 2 by decide), if_pos rfl]
    cases gX12_named S (J p) (J f) <;> rfl
  · rw [if_neg (show ¬ (4 : Int) = 0 by decide), if_neg (show ¬ (4 : Int) = 1 by decide), if_neg (show ¬ (4 : Int) = 2 by decide), if_neg (show ¬ (4 : Int) = 3 by decide), if_pos rfl, if_neg (show ¬ (4 : Int) = 0 by decide), if_neg (show ¬ (4 : Int) = 1 by decide), if_neg (show ¬ (4 : Int) = 2 by decide), if_neg (show ¬ (4 : Int) = 3 by decide), if_pos rfl]
    cases gX12_matched S (J b) (J f) <;> rfl
  · rw [if_neg (show ¬ (5 : Int) = 0 by decide), if_neg (show ¬ (5 : Int) = 1 by decide), if_neg (show ¬ (5 : Int) = 2 by decide), if_neg (show ¬ (5 : Int) = 3 by decide), if_neg (show ¬ (5 : Int) = 4 by decide), if_neg (show ¬ (5 : Int) = 0 by decide), if_neg (show ¬ (5 : Int) = 1 by decide), if_neg (show ¬ (5 : Int) = 2 by decide), if_neg (show ¬ (5 : Int) = 3 by decide), if_neg (show ¬ (5 : Int) = 4 by decide)]
    unfold anK
    repeat' split
    all_goals first | rfl | (exfalso; omega)
theorem anP_b (d g : Int) : 0 ≤ anP d g ∧ anP d g ≤ 2 := by unfold anP; repeat' split <;> omega
theorem anK_b (d c : Int) : 0 ≤ anK d c ∧ anK d c ≤ 1 := by unfold anK; repeat' split <;> omega
theorem anO_b (f g h : Int) : 0 ≤ anO f g h ∧ anO f g h ≤ 2 := by unfold anO; repeat' split <;> omega
theorem inI_of {x : Int} (h : 0 ≤ x) (h2 : x ≤ 100000) : inI x := ⟨by omega, by omega⟩
theorem b01 {q : Prop} [Decidable q] : 0 ≤ (if q then (0 : Int) else 1) ∧ (if q then (0 : Int) else 1) ≤ 1 := by split <;> omega
section
variable {SC SM : zM} {H p t : Nat} {kd a b c : Int}
theorem c_said (h : okP SC SM H p t) (ask : rAsk SC SM H p kd a b c) (hk : 0 ≤ kd ∧ kd ≤ 5) (hc : inI c) (hc5 : kd = 5 → 0 ≤ c ∧ c ≤ 1) : ∀ f g h' : Int, inF f → inF g → inF h' → gX0_said SC (J f) (J g) (J h') = if kd = 0 then some (J (anP (g + iI SM 3 (132 + p) + mT SM p - f) (iI SM 3 (150 + p)))) else if kd = 1 then some (J (if f ≤ iI SM 3 (126 + p) + mT SM p then 0 else 1)) else if kd = 2 then some (J (anO f g h')) else if kd = 3 then gX8_inLikedNumbers SC (H + 193 + 2 * p) (jmax (J 0) (J f)) else if kd = 4 then ck (zobb cW 9 (gR SC 456 2)) (gX9_nearest SC (gR SC 456 2) (J f)) else some (J (anK (g + iI SM 3 (132 + p) + mT SM p - f) c)) := by
  have hT := mT_b h
  have cT := c_tired h
  have hp := h.2.1.1
  obtain ⟨hm, -, e2, e3, -, -, e6, e7, e8, -⟩ := h.2.2.1
  obtain ⟨a0, -, a2, -, a4, -, -, a7⟩ := ask
  rw [Int.toNat_natCast] at a0
  rw [gI_J SM] at e2 e3 e6 e7
  have hz8 := zb8 h.1 hp
  have m1 := hm.2.1
  have m2 := hm.2.2.1
  have m3 := hm.2.2.2.2.2.1
  have hk6 : kd = 0 ∨ kd = 1 ∨ kd = 2 ∨ kd = 3 ∨ kd = 4 ∨ kd = 5 := by omega
  intro f g h' hf hg hh
  have hO := c_oddPlace hf hg hh
  unfold inF at hf hg hh
  unfold inI at hc
  unfold gX0_said gX0_pairSaid gX0_knownSaid gX0_knownSaid_J14
  simp only [J_0, J_1, J_2, J_3, J_4, J_5, J_6, J_7, J_8, J_9, J_10, J_11, J_12, J_14, J_15, J_16, J_19, J_20, J_21, J_22, J_23, J_24, J_25, J_28, J_30, J_31, J_32, J_40, J_44, J_47, J_48, J_49, J_50, J_53, J_54, J_57, J_59, J_74, J_75, J_78, J_84, J_97, J_99, J_100, J_120, J_122, J_126, J_132, J_138, J_144, J_150, J_156, J_162, J_198, J_200, J_202, J_206, J_210, J_214, J_218, J_222, J_226, J_230, J_234, J_238, J_239, J_240, J_241, J_242, J_243, J_255, J_263, J_283, J_303, J_399, J_400, J_401, J_463, J_700, J_701, J_999, J_1000, J_2048, J_4095, J_4096, J_6000, J_9999, J_10000, J_65536, J_65537, J_2147483647, J_neg, J_neg, J_add, J_sub, J_mul, a0, a4, a7, hz8, ckt, b1s, b2s, lts, un2s, un3s, un4s, un5s, lmr, lml, lgr, lgl, cT, e2, e3, e6, hO]
  generalize hd : g + iI SM 3 (132 + p) + mT SM p - f = d
  have hd2 : -1000000 ≤ d ∧ d ≤ 1000000 := by omega
  rcases hk6 with rfl | rfl | rfl | rfl | rfl | rfl <;> simp (disch := omega) only [J_inj, J_lt, J_le, Int.reduceEq, Int.reduceLT, Int.reduceLE, Int.reduceNeg, ↓reduceIte, true_or, or_true, false_or, or_false, true_and, and_true, false_and, and_false, not_true_eq_false, not_false_eq_true, forall_const, implies_true, true_implies, false_implies]
  · unfold anP
    rcases m3 with m3 | m3 <;> rw [m3] <;> repeat' split
    all_goals first | rfl | (exfalso; omega)
  · repeat' split
    all_goals first | rfl | (exfalso; omega)
  · cases gX8_inLikedNumbers SC (H + 193 + 2 * p) (jmax (J 0) (J f)) <;> rfl
  · cases gX9_nearest SC (gR SC 456 2) (J f) <;> rfl
  · have hc2 := hc5 rfl
    have hc3 : c = 0 ∨ c = 1 := by omega
    unfold anK
    rcases hc3 with rfl | rfl <;> simp (disch := omega) only [J_inj, J_lt, J_le, Int.reduceEq, Int.reduceLT, Int.reduceLE, Int.reduceNeg, ↓reduceIte, true_or, or_true, false_or, or_false, true_and, and_true, false_and, and_false, not_true_eq_false, not_false_eq_true, forall_const, implies_true, true_implies, false_implies] <;> repeat' split
    all_goals first | rfl | (exfalso; omega)
/-- what both answer -/
theorem ansEx (h : okP SC SM H p t) (ask : rAsk SC SM H p kd a b c) (hk : 0 ≤ kd ∧ kd ≤ 5) (hb4 : kd = 4 → 0 ≤ b ∧ b < cnt SM 0) (hb : inI b) (hc : inI c) (hc5 : kd = 5 → 0 ≤ c ∧ c ≤ 1) : ∃ A : Int → Int → Int → Int, isA SM p kd b c (mT SM p) A ∧ (∀ f g h, 0 ≤ A f g h ∧ A f g h ≤ 100000) ∧ ∀ f g h : Int, inF f → inF g → inF h → ∀ g' h' : Int, inF g' → inF h' → (kd = 0 ∨ kd = 2 ∨ kd = 5 → g' = g) → (kd = 2 → h' = h) → gX0_said SC (J f) (J g') (J h') = some (J (A f g h)) := by
  have C := fun f g h' hf hg hh => c_said h ask hk hc hc5 f g h' hf hg hh
  have hT := mT_b h
  have cT := c_tired h
  have hp := h.2.1.1
  obtain ⟨hm, -, e2, e3, -, -, e6, e7, e8, -⟩ := h.2.2.1
  obtain ⟨a0, -, a2, -, a4, -, -, a7⟩ := ask
  rw [Int.toNat_natCast] at a0
  rw [gI_J SM] at e2 e3 e6 e7
  have hz8 := zb8 h.1 hp
  have m1 := hm.2.1
  have m2 := hm.2.2.1
  have m3 := hm.2.2.2.2.2.1
  have M := fun f g h' hf hg hh => m_ans (S := SM) (b := b) (f := f) (g := g) (h := h') (tr := mT SM p) hp hm hk hf hg hh ⟨hT.1, by omega⟩ hc
  have hk6 : kd = 0 ∨ kd = 1 ∨ kd = 2 ∨ kd = 3 ∨ kd = 4 ∨ kd = 5 := by omega
  rcases hk6 with rfl | rfl | rfl | rfl | rfl | rfl <;> simp only [Int.reduceEq, ↓reduceIte] at M C
  · refine ⟨fun f g _ => anP (g + iI SM 3 (132 + p) + mT SM p - f) (iI SM 3 (150 + p)), fun f g h' hf hg hh => ⟨M f g h' hf hg hh, ?_⟩, fun f g h' => ?_, fun f g h' hf hg hh g' h2 hg' hh' z1 z2 => ?_⟩
    · have := anP_b (g + iI SM 3 (132 + p) + mT SM p - f) (iI SM 3 (150 + p))
      exact inI_of this.1 (Int.le_trans this.2 (by omega))
    · have := anP_b (g + iI SM 3 (132 + p) + mT SM p - f) (iI SM 3 (150 + p))
      exact ⟨this.1, Int.le_trans this.2 (by omega)⟩
    · rw [z1 (Or.inl rfl)]; exact C f g h2 hf hg hh'
  · refine ⟨fun f _ _ => if f ≤ iI SM 3 (126 + p) + mT SM p then 0 else 1, fun f g h' hf hg hh => ⟨M f g h' hf hg hh, ?_⟩, fun f g h' => ?_, fun f g h' hf hg hh g' h2 hg' hh' z1 z2 => C f g' h2 hf hg' hh'⟩
    · exact inI_of b01.1 (Int.le_trans b01.2 (by omega))
    · exact ⟨b01.1, Int.le_trans b01.2 (by omega)⟩
  · refine ⟨anO, fun f g h' hf hg hh => ⟨M f g h' hf hg hh, ?_⟩, fun f g h' => ?_, fun f g h' hf hg hh g' h2 hg' hh' z1 z2 => ?_⟩
    · have := anO_b f g h'
      exact inI_of this.1 (Int.le_trans this.2 (by omega))
    · have := anO_b f g h'
      exact ⟨this.1, Int.le_trans this.2 (by omega)⟩
    · rw [z1 (Or.inr (Or.inl rfl)), z2 rfl]; exact C f g h' hf hg hh
  · have L : ∀ f, inF f → ∃ r : Int, 0 ≤ r ∧ r ≤ 100000 ∧ gX8_inLikedNumbers SC (H + 193 + 2 * p) (jmax (J 0) (J f)) = some (J r) ∧ gX12_named SM (J p) (J f) = some (J r) := fun f hf => like hp (gI_J _ _ _) e7 hm.2.2.2.2.2.2.1 e8 hm.2.2.2.2.2.2.2 (by unfold inF at hf; omega)
    have Q : ∀ f : Int, ∃ r : Int, (0 ≤ r ∧ r ≤ 100000) ∧ (inF f → gX8_inLikedNumbers SC (H + 193 + 2 * p) (jmax (J 0) (J f)) = some (J r) ∧ gX12_named SM (J p) (J f) = some (J r)) := by
      intro f
      rcases Classical.em (inF f) with z | z
      · obtain ⟨r, g1, g2, g3, g4⟩ := L f z
        exact ⟨r, ⟨g1, g2⟩, fun _ => ⟨g3, g4⟩⟩
      · exact ⟨0, by omega, fun w => absurd w z⟩
    refine ⟨fun f _ _ => (Q f).choose, fun f g h' hf hg hh => ⟨(M f g h' hf hg hh).trans ((Q f).choose_spec.2 hf).2, ?_⟩, fun f g h' => (Q f).choose_spec.1, fun f g h' hf hg hh g' h2 hg' hh' z1 z2 => (C f g' h2 hf hg' hh').trans ((Q f).choose_spec.2 hf).1⟩
    exact inI_of (Q f).choose_spec.1.1 (Q f).choose_spec.1.2
  · have hb' := hb4 rfl
    obtain ⟨B, rfl⟩ : ∃ B : Nat, b = B := ⟨b.toNat, by omega⟩
    have hse := h.2.2.2.1 B hb'.2
    have hn := h.2.2.2.2.1
    have a2' := a2 rfl
    rw [Int.toNat_natCast] at a2'
    have L : ∀ f, inF f → ∃ r : Nat, 1 ≤ r ∧ r < 401 ∧ gX9_nearest SC (H + 7 + 31 * B) (J f) = some (J r) ∧ gX12_matched SM (J B) (J f) = some (J r) := fun f hf => near (by omega) hse.2.2.1 hse.1.2.2.2 (by unfold inF at hf; omega)
    have Q : ∀ f : Int, ∃ r : Int, (0 ≤ r ∧ r ≤ 100000) ∧ (inF f → gX9_nearest SC (H + 7 + 31 * B) (J f) = some (J r) ∧ gX12_matched SM (J B) (J f) = some (J r)) := by
      intro f
      rcases Classical.em (inF f) with z | z
      · obtain ⟨r, g1, g2, g3, g4⟩ := L f z
        exact ⟨r, by omega, fun _ => ⟨g3, g4⟩⟩
      · exact ⟨0, by omega, fun w => absurd w z⟩
    refine ⟨fun f _ _ => (Q f).choose, fun f g h' hf hg hh => ⟨(M f g h' hf hg hh).trans ((Q f).choose_spec.2 hf).2, ?_⟩, fun f g h' => (Q f).choose_spec.1, fun f g h' hf hg hh g' h2 hg' hh' z1 z2 => (C f g' h2 hf hg' hh').trans ?_⟩
    · exact inI_of (Q f).choose_spec.1.1 (Q f).choose_spec.1.2
    · rw [a2', zb9 h.1 (by omega)]
      exact ((Q f).choose_spec.2 hf).1
  · refine ⟨fun f g _ => anK (g + iI SM 3 (132 + p) + mT SM p - f) c, fun f g h' hf hg hh => ⟨M f g h' hf hg hh, ?_⟩, fun f g h' => ?_, fun f g h' hf hg hh g' h2 hg' hh' z1 z2 => ?_⟩
    · have := anK_b (g + iI SM 3 (132 + p) + mT SM p - f) c
      exact inI_of this.1 (Int.le_trans this.2 (by omega))
    · have := anK_b (g + iI SM 3 (132 + p) + mT SM p - f) c
      exact ⟨this.1, Int.le_trans this.2 (by omega)⟩
    · rw [z1 (Or.inr (Or.inr rfl))]; exact C f g h2 hf hg hh'
end
