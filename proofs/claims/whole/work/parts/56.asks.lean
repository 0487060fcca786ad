/-! The class is asked. -/
def E456 (q k : Nat) : Prop := q = 456 ∨ (q = 0 ∧ k = 12)
theorem c_put {S : zM} {p kd a b c : Int} (hk : -2147483648 ≤ kd ∧ kd ≤ 2147483647) : gX0_put S (J p) (J kd) (J a) (J b) (J c) = some (pI (pI (pI (pI (pI S 456 3 (J p)) 456 4 (J kd)) 456 5 (J a)) 456 6 (J (if kd = 1 ∨ kd = 3 then 0 else b))) 456 7 (J (if kd = 2 ∨ kd = 5 then c else 0))) := by
  unfold gX0_put gX0_put_J32
  simp only [J_0, J_1, J_2, J_3, J_4, J_5, J_6, J_7, J_8, J_9, J_10, J_11, J_12, J_14, J_15, J_16, J_19, J_20, J_21, J_22, J_23, J_24, J_25, J_28, J_30, J_31, J_32, J_40, J_44, J_47, J_48, J_49, J_50, J_53, J_54, J_57, J_59, J_74, J_75, J_78, J_84, J_97, J_99, J_100, J_120, J_122, J_126, J_132, J_138, J_144, J_150, J_156, J_162, J_198, J_200, J_202, J_206, J_210, J_214, J_218, J_222, J_226, J_230, J_234, J_238, J_239, J_240, J_241, J_242, J_243, J_255, J_263, J_283, J_303, J_399, J_400, J_401, J_463, J_700, J_701, J_999, J_1000, J_2048, J_4095, J_4096, J_6000, J_9999, J_10000, J_65536, J_65537, J_2147483647, J_neg]
  rw [iEQ hk.1 hk.2 (by decide) (by decide), iEQ hk.1 hk.2 (by decide) (by decide), iEQ hk.1 hk.2 (by decide) (by decide), iEQ hk.1 hk.2 (by decide) (by decide), iEQ hk.1 hk.2 (by decide) (by decide), iEQ hk.1 hk.2 (by decide) (by decide)]
  by_cases e1 : kd = 1
  · rw [if_pos e1, if_neg (by omega), if_neg (by omega), if_pos (Or.inl e1), if_neg (show ¬ (kd = 2 ∨ kd = 5) by omega)]
  · rw [if_neg e1]
    by_cases e3 : kd = 3
    · rw [if_pos e3, if_neg (by omega), if_neg (by omega), if_pos (Or.inr e3), if_neg (show ¬ (kd = 2 ∨ kd = 5) by omega)]
    · rw [if_neg e3, if_neg (show ¬ (kd = 1 ∨ kd = 3) by omega)]
      by_cases e2 : kd = 2
      · rw [if_pos e2, if_pos (Or.inl e2)]
      · rw [if_neg e2]
        by_cases e5 : kd = 5
        · rw [if_pos e5, if_pos (Or.inr e5)]
        · rw [if_neg e5, if_neg (show ¬ (kd = 2 ∨ kd = 5) by omega)]
/-- whether what is asked is in its bounds -/
def okB (kd a b c : Int) : Prop := (if kd = 1 then 0 else 1) ≤ a ∧ a ≤ 400 ∧ (kd = 0 ∨ kd = 2 ∨ kd = 5 → 1 ≤ b ∧ b ≤ 400) ∧ (kd = 2 → 0 ≤ c ∧ c ≤ 2) ∧ (kd = 5 → 0 ≤ c ∧ c ≤ 1)
theorem okB_dec (kd a b c : Int) : okB kd a b c ∨ ¬ okB kd a b c := Classical.em _
theorem c_isInBounds {S : zM} {kd a b c : Int} (hk : 0 ≤ kd ∧ kd ≤ 5) (ha : -2147483648 ≤ a ∧ a ≤ 2147483647) (hb : -2147483648 ≤ b ∧ b ≤ 2147483647) (hc : -2147483648 ≤ c ∧ c ≤ 2147483647) (h4 : gI S 456 4 = J kd) (h5 : gI S 456 5 = J a) (h6 : gI S 456 6 = J (if kd = 1 ∨ kd = 3 then 0 else b)) (h7 : gI S 456 7 = J (if kd = 2 ∨ kd = 5 then c else 0)) : (okB kd a b c → gX0_isInBounds S = some (J 1)) ∧ (¬ okB kd a b c → gX0_isInBounds S = some (J 0)) := by
  unfold gX0_isInBounds gX0_isInBounds_J40 gX0_isInBounds_J79 gX0_isInBounds_J105 okB
  simp only [J_0, J_1, J_2, J_3, J_4, J_5, J_6, J_7, J_8, J_9, J_10, J_11, J_12, J_14, J_15, J_16, J_19, J_20, J_21, J_22, J_23, J_24, J_25, J_28, J_30, J_31, J_32, J_40, J_44, J_47, J_48, J_49, J_50, J_53, J_54, J_57, J_59, J_74, J_75, J_78, J_84, J_97, J_99, J_100, J_120, J_122, J_126, J_132, J_138, J_144, J_150, J_156, J_162, J_198, J_200, J_202, J_206, J_210, J_214, J_218, J_222, J_226, J_230, J_234, J_238, J_239, J_240, J_241, J_242, J_243, J_255, J_263, J_283, J_303, J_399, J_400, J_401, J_463, J_700, J_701, J_999, J_1000, J_2048, J_4095, J_4096, J_6000, J_9999, J_10000, J_65536, J_65537, J_2147483647, J_neg, h4, h5, h6, h7]
  rw [c_isSize ha.1 ha.2]
  have hk6 : kd = 0 ∨ kd = 1 ∨ kd = 2 ∨ kd = 3 ∨ kd = 4 ∨ kd = 5 := by omega
  rcases hk6 with rfl | rfl | rfl | rfl | rfl | rfl <;> simp (disch := decide) only [J_inj, J_lt, J_le, Int.reduceEq, Int.reduceLT, Int.reduceLE, Int.reduceNeg, ↓reduceIte, true_or, or_true, false_or, or_false, true_and, and_true, false_and, and_false, not_true_eq_false, not_false_eq_true, forall_const, implies_true, true_implies, false_implies, b1s]
  · rw [c_isSize hb.1 hb.2, b1s, iB0, iB0]
    constructor
    · intro h
      rw [if_pos (by omega), if_pos (by omega)]
    · intro h
      by_cases h2 : 1 ≤ b ∧ b ≤ 400
      · rw [if_pos h2, if_neg (by omega)]
      · rw [if_neg h2]
        split <;> rfl
  · rw [iLT ha.1 ha.2 (by decide) (by decide), iLT (by decide) (by decide) ha.1 ha.2]
    constructor
    · intro h
      rw [if_neg (by omega), if_neg (by omega)]
    · intro h
      by_cases h2 : a < 0
      · rw [if_pos h2]
      · rw [if_neg h2, if_pos (by omega)]
  · rw [c_isSize hb.1 hb.2, b1s, iB0, iB0, iLT hc.1 hc.2 (by decide) (by decide), iLT (by decide) (by decide) hc.1 hc.2]
    constructor
    · intro h
      rw [if_pos (by omega), if_pos (by omega), if_neg (by omega), if_neg (by omega)]
    · intro h
      by_cases h2 : 1 ≤ b ∧ b ≤ 400
      · rw [if_pos h2]
        by_cases h3 : 1 ≤ a ∧ a ≤ 400
        · rw [if_pos h3]
          by_cases h4 : c < 0
          · rw [if_pos h4]
          · rw [if_neg h4, if_pos (by omega)]
        · rw [if_neg h3]
      · rw [if_neg h2]
        split <;> rfl
  · rw [iB0]
    constructor
    · intro h
      rw [if_pos (by omega)]
    · intro h
      rw [if_neg (by omega)]
  · rw [iB0]
    constructor
    · intro h
      rw [if_pos (by omega)]
    · intro h
      rw [if_neg (by omega)]
  · rw [c_isSize hb.1 hb.2, b1s, iB0, iB0, iLT hc.1 hc.2 (by decide) (by decide), iLT (by decide) (by decide) hc.1 hc.2]
    constructor
    · intro h
      rw [if_pos (by omega), if_pos (by omega), if_neg (by omega), if_neg (by omega)]
    · intro h
      by_cases h2 : 1 ≤ b ∧ b ≤ 400
      · rw [if_pos h2]
        by_cases h3 : 1 ≤ a ∧ a ≤ 400
        · rw [if_pos h3]
          by_cases h4 : c < 0
          · rw [if_pos h4]
          · rw [if_neg h4, if_pos (by omega)]
        · rw [if_neg h3]
      · rw [if_neg h2]
        split <;> rfl
/-- the sayer and its senses are laid in -/
theorem c_askOf {S : zM} {H p : Nat} {n s b : Int} (hH : H = 6 ∨ H = 243) (hr : gR S 0 8 = H) (hc : gI S H 6 = J n) (hn : 0 ≤ n ∧ n ≤ 6) (hp : p < 6) (hs : gI S (H + 193 + 2 * p) 1 = J s) (h1 : 0 ≤ s ∧ s < n) (h6 : gI S 456 6 = J b) (hb : -2147483648 ≤ b ∧ b ≤ 2147483647) : ∃ S', gX11_askOf S (H + 193 + 2 * p) = some S' ∧ fr (fun q k => q = 456) S S' ∧ (∀ q k, gI S' q k = gI S q k) ∧ gR S' 456 0 = H + 193 + 2 * p ∧ gR S' 456 1 = H + 7 + 31 * s.toNat ∧ (0 ≤ b ∧ b < n → gR S' 456 2 = H + 7 + 31 * b.toNat) := by
  have hs0 : gX11_senseOf (pR S 456 0 (H + 193 + 2 * p)) (H + 193 + 2 * p) = some (H + 7 + 31 * s.toNat) := by
    refine c_senseOf (n := n) hH ?_ ?_ hn ?_ h1
    · rw [rRR, if_neg (by omega)]; exact hr
    · rw [rIR]; exact hc
    · rw [rIR]; exact hs
  have hs1 : gX11_isSense (pR (pR S 456 0 (H + 193 + 2 * p)) 456 1 (H + 7 + 31 * s.toNat)) (J b) = some (bI (0 ≤ b ∧ b < n)) := by
    refine c_isSense hb.1 hb.2 hH ?_ ?_ hn
    · rw [rRR, if_neg (by omega), rRR, if_neg (by omega)]; exact hr
    · rw [rIR, rIR]; exact hc
  have e1 : gR (pR (pR S 456 0 (H + 193 + 2 * p)) 456 1 (H + 7 + 31 * s.toNat)) 456 1 = H + 7 + 31 * s.toNat := by rw [rRR, if_pos ⟨rfl, rfl⟩]
  have e2 : gI (pR (pR S 456 0 (H + 193 + 2 * p)) 456 1 (H + 7 + 31 * s.toNat)) 456 6 = J b := by rw [rIR, rIR]; exact h6
  have e3 : gR (pR (pR S 456 0 (H + 193 + 2 * p)) 456 1 (H + 7 + 31 * s.toNat)) 0 8 = H := by rw [rRR, if_neg (by omega), rRR, if_neg (by omega)]; exact hr
  unfold gX11_askOf
  rw [hs0, b1s, e1, e2, e3, hs1, b1s, iBz, zb9 hH (by omega), ckt, zb3 hH, ckt, lts]
  by_cases g : 0 ≤ b ∧ b < n
  · rw [if_pos g, ixb_J (by omega) (by omega) (by decide), ckt, ix_J (by omega) (by omega)]
    refine ⟨_, rfl, ?_, fun q k => ?_, ?_, ?_, fun _ => ?_⟩
    · exact fr_t (fr_t (fr_pR rfl) (fr_pR rfl)) (fr_pR rfl)
    · rw [rIR, rIR, rIR]
    · rw [rRR, if_neg (by omega), rRR, if_neg (by omega), rRR, if_pos ⟨rfl, rfl⟩]
    · rw [rRR, if_neg (by omega), rRR, if_pos ⟨rfl, rfl⟩]
    · rw [rRR, if_pos ⟨rfl, rfl⟩]
  · rw [if_neg g]
    refine ⟨_, rfl, ?_, fun q k => ?_, ?_, ?_, fun z => absurd z g⟩
    · exact fr_t (fr_t (fr_pR rfl) (fr_pR rfl)) (fr_pR rfl)
    · rw [rIR, rIR, rIR]
    · rw [rRR, if_neg (by omega), rRR, if_neg (by omega), rRR, if_pos ⟨rfl, rfl⟩]
    · rw [rRR, if_neg (by omega), rRR, if_pos ⟨rfl, rfl⟩]
theorem c_passes {S : zM} {w : Int} (h : -2147483648 ≤ w ∧ w ≤ 2147483647) : gX11_passes S (J w) = some (bI (w = 0), pI S 0 12 (J w)) := by
  unfold gX11_passes
  simp only [J_0, J_1, J_2, J_3, J_4, J_5, J_6, J_7, J_8, J_9, J_10, J_11, J_12, J_14, J_15, J_16, J_19, J_20, J_21, J_22, J_23, J_24, J_25, J_28, J_30, J_31, J_32, J_40, J_44, J_47, J_48, J_49, J_50, J_53, J_54, J_57, J_59, J_74, J_75, J_78, J_84, J_97, J_99, J_100, J_120, J_122, J_126, J_132, J_138, J_144, J_150, J_156, J_162, J_198, J_200, J_202, J_206, J_210, J_214, J_218, J_222, J_226, J_230, J_234, J_238, J_239, J_240, J_241, J_242, J_243, J_255, J_263, J_283, J_303, J_399, J_400, J_401, J_463, J_700, J_701, J_999, J_1000, J_2048, J_4095, J_4096, J_6000, J_9999, J_10000, J_65536, J_65537, J_2147483647, J_neg]
  rw [iEQ h.1 h.2 (by decide) (by decide)]
  by_cases e : w = 0
  · rw [if_pos e, bI_t e]
  · rw [if_neg e, bI_f e]
theorem brs_0 {S : zM} {p kd a b c : Int} : brs S p kd a b c = 0 ↔ (0 ≤ p ∧ p < cnt S 1 ∧ 0 ≤ kd ∧ kd ≤ 5 ∧ (kd = 4 → 0 ≤ b ∧ b < cnt S 0)) ∧ okB kd a b c := by
  unfold brs okB
  by_cases h1 : 0 ≤ p ∧ p < cnt S 1 ∧ 0 ≤ kd ∧ kd ≤ 5 ∧ (kd = 4 → 0 ≤ b ∧ b < cnt S 0)
  · rw [if_neg (fun z => z h1)]
    by_cases h2 : (if kd = 1 then 0 else 1) ≤ a ∧ a ≤ 400 ∧ (kd = 0 ∨ kd = 2 ∨ kd = 5 → 1 ≤ b ∧ b ≤ 400) ∧ (kd = 2 → 0 ≤ c ∧ c ≤ 2) ∧ (kd = 5 → 0 ≤ c ∧ c ≤ 1)
    · rw [if_pos h2]; exact ⟨fun _ => ⟨h1, h2⟩, fun _ => rfl⟩
    · rw [if_neg h2]; exact ⟨fun z => absurd z (by decide), fun z => absurd z.2 h2⟩
  · rw [if_pos h1]; exact ⟨fun z => absurd z (by decide), fun z => absurd z.1 h1⟩
theorem brs_2 {S : zM} {p kd a b c : Int} (h1 : 0 ≤ p ∧ p < cnt S 1 ∧ 0 ≤ kd ∧ kd ≤ 5 ∧ (kd = 4 → 0 ≤ b ∧ b < cnt S 0)) (h2 : ¬ okB kd a b c) : brs S p kd a b c = 2 := by
  unfold okB at h2
  unfold brs
  rw [if_neg (fun z => z h1), if_neg h2]
theorem brs_1 {S : zM} {p kd a b c : Int} (h1 : ¬ (0 ≤ p ∧ p < cnt S 1 ∧ 0 ≤ kd ∧ kd ≤ 5 ∧ (kd = 4 → 0 ≤ b ∧ b < cnt S 0))) : brs S p kd a b c = 1 := by
  unfold brs
  rw [if_pos h1]
theorem c_asks {SC SM : zM} {H : Nat} {p kd a b c : Int} (hh : rHall SC SM H) (hp : -2147483648 ≤ p ∧ p ≤ 2147483647) (hk : -2147483648 ≤ kd ∧ kd ≤ 2147483647) (ha : -2147483648 ≤ a ∧ a ≤ 2147483647) (hb : -2147483648 ≤ b ∧ b ≤ 2147483647) (hc : -2147483648 ≤ c ∧ c ≤ 2147483647) : ∃ SC', gX11_asks SC (J p) (J kd) (J a) (J b) (J c) = some (bI (brs SM p kd a b c = 0), SC') ∧ fr E456 SC SC' ∧ gI SC' 0 12 = J (brs SM p kd a b c) ∧ (brs SM p kd a b c = 0 → rAsk SC' SM H p kd a b c) := by
  obtain ⟨⟨hH, hr, -⟩, ⟨n0, n1, -, -⟩, ⟨c0, c1, -, -⟩, hse, hsa, -, -⟩ := hh
  have no : ∀ (h : ¬ (0 ≤ p ∧ p < cnt SM 1 ∧ 0 ≤ kd ∧ kd ≤ 5 ∧ (kd = 4 → 0 ≤ b ∧ b < cnt SM 0))), gX11_asks_J36 SC (J p) (J kd) (J a) (J b) (J c) (J 0) = some (bI (brs SM p kd a b c = 0), pI SC 0 12 (J (brs SM p kd a b c))) := by
    intro h
    unfold gX11_asks_J36 gX11_asks_J49
    simp only [J_0, J_1, J_2, J_3, J_4, J_5, J_6, J_7, J_8, J_9, J_10, J_11, J_12, J_14, J_15, J_16, J_19, J_20, J_21, J_22, J_23, J_24, J_25, J_28, J_30, J_31, J_32, J_40, J_44, J_47, J_48, J_49, J_50, J_53, J_54, J_57, J_59, J_74, J_75, J_78, J_84, J_97, J_99, J_100, J_120, J_122, J_126, J_132, J_138, J_144, J_150, J_156, J_162, J_198, J_200, J_202, J_206, J_210, J_214, J_218, J_222, J_226, J_230, J_234, J_238, J_239, J_240, J_241, J_242, J_243, J_255, J_263, J_283, J_303, J_399, J_400, J_401, J_463, J_700, J_701, J_999, J_1000, J_2048, J_4095, J_4096, J_6000, J_9999, J_10000, J_65536, J_65537, J_2147483647, J_neg]
    rw [brs_1 h, if_pos trivial, c_passes (by decide), b2s, iB0, if_neg (by decide), bI_f (by decide)]
  have ok : ∀ (h : 0 ≤ p ∧ p < cnt SM 1 ∧ 0 ≤ kd ∧ kd ≤ 5 ∧ (kd = 4 → 0 ≤ b ∧ b < cnt SM 0)), ∃ SC', gX11_asks_J36 SC (J p) (J kd) (J a) (J b) (J c) (J 1) = some (bI (brs SM p kd a b c = 0), SC') ∧ fr E456 SC SC' ∧ gI SC' 0 12 = J (brs SM p kd a b c) ∧ (brs SM p kd a b c = 0 → rAsk SC' SM H p kd a b c) := by
    intro h
    obtain ⟨P, rfl⟩ : ∃ P : Nat, p = P := ⟨p.toNat, by omega⟩
    obtain ⟨hmS, s1, -⟩ := hsa P h.2.1
    unfold gX11_asks_J36 gX11_asks_J49
    simp only [J_0, J_1, J_2, J_3, J_4, J_5, J_6, J_7, J_8, J_9, J_10, J_11, J_12, J_14, J_15, J_16, J_19, J_20, J_21, J_22, J_23, J_24, J_25, J_28, J_30, J_31, J_32, J_40, J_44, J_47, J_48, J_49, J_50, J_53, J_54, J_57, J_59, J_74, J_75, J_78, J_84, J_97, J_99, J_100, J_120, J_122, J_126, J_132, J_138, J_144, J_150, J_156, J_162, J_198, J_200, J_202, J_206, J_210, J_214, J_218, J_222, J_226, J_230, J_234, J_238, J_239, J_240, J_241, J_242, J_243, J_255, J_263, J_283, J_303, J_399, J_400, J_401, J_463, J_700, J_701, J_999, J_1000, J_2048, J_4095, J_4096, J_6000, J_9999, J_10000, J_65536, J_65537, J_2147483647, J_neg]
    rw [if_neg (by decide), c_passes (by decide), b2s, iB0, if_pos rfl, c_put hk, b1s]
    generalize hS5 : pI (pI (pI (pI (pI (pI SC 0 12 (J 0)) 456 3 (J P)) 456 4 (J kd)) 456 5 (J a)) 456 6 (J (if kd = 1 ∨ kd = 3 then 0 else b))) 456 7 (J (if kd = 2 ∨ kd = 5 then c else 0)) = S5
    have f5 : fr E456 SC S5 := by
      rw [← hS5]
      exact fr_t (fr_t (fr_t (fr_t (fr_t (fr_pI (Or.inr ⟨rfl, rfl⟩)) (fr_pI (Or.inl rfl))) (fr_pI (Or.inl rfl))) (fr_pI (Or.inl rfl))) (fr_pI (Or.inl rfl))) (fr_pI (Or.inl rfl))
    have r5 : gR S5 0 8 = H := (f5.2.2 0 8 (by unfold E456; omega)).trans hr
    have i5 : gI S5 H 6 = J (cnt SM 0) := (f5.1 H 6 (by unfold E456; omega)).trans c0
    have y5 : gI S5 (H + 193 + 2 * P) 1 = J (iI SM 3 (120 + P)) := (f5.1 _ 1 (by unfold E456; omega)).trans (s1.trans (gI_J _ _ _))
    have b5 : gI S5 456 6 = J (if kd = 1 ∨ kd = 3 then 0 else b) := by rw [← hS5, rII, if_neg (by omega), rII, if_pos ⟨rfl, rfl⟩]
    have k3 : gI S5 456 3 = J P := by rw [← hS5]; simp [rII]
    have k4 : gI S5 456 4 = J kd := by rw [← hS5]; simp [rII]
    have k5 : gI S5 456 5 = J a := by rw [← hS5]; simp [rII]
    have k7 : gI S5 456 7 = J (if kd = 2 ∨ kd = 5 then c else 0) := by rw [← hS5]; simp [rII]
    obtain ⟨S9, g1, g2, g3, g4, g5, g6⟩ := c_askOf hH r5 i5 n0 (show P < 6 by omega) y5 hmS.1 b5 (by split <;> omega)
    rw [r5, zb3 hH, ckt, ixb_J (by omega) (by omega) (by decide), ckt, ix_J (by omega) (by omega), Int.toNat_natCast, g1, b1s]
    have hbd := c_isInBounds (S := S9) ⟨h.2.2.1, h.2.2.2.1⟩ ha hb hc ((g3 _ _).trans k4) ((g3 _ _).trans k5) ((g3 _ _).trans b5) ((g3 _ _).trans k7)
    have f9 : fr E456 SC S9 := fr_t f5 (fr_w g2 (fun q k z => Or.inl z))
    rcases okB_dec kd a b c with z | z
    · have hb0 : brs SM P kd a b c = 0 := brs_0.mpr ⟨h, z⟩
      rw [hbd.1 z, b1s, if_neg (by decide), c_passes (by decide), b2s, bI_t rfl, show isB (J 1) = true by decide, ckt, hb0, bI_t rfl]
      refine ⟨_, rfl, fr_t f9 (fr_pI (Or.inr ⟨rfl, rfl⟩)), by rw [rII, if_pos ⟨rfl, rfl⟩], fun _ => ?_⟩
      refine ⟨by rw [rRI]; exact g4, by rw [rRI]; exact g5, fun e4 => ?_, ?_, ?_, ?_, ?_, ?_⟩
      · rw [rRI]
        have := g6 (by rw [if_neg (by omega)]; exact h.2.2.2.2 e4)
        rw [if_neg (by omega)] at this
        exact this
      · rw [rII, if_neg (by omega), g3]; exact k3
      · rw [rII, if_neg (by omega), g3]; exact k4
      · rw [rII, if_neg (by omega), g3]; exact k5
      · rw [rII, if_neg (by omega), g3]; exact b5
      · rw [rII, if_neg (by omega), g3]; exact k7
    · have hb2 : brs SM P kd a b c = 2 := brs_2 h z
      rw [hbd.2 z, b1s, if_pos rfl, c_passes (by decide), b2s, bI_f (by decide), show isB (J 0) = true by decide, ckt, hb2, bI_f (by decide)]
      exact ⟨_, rfl, fr_t f9 (fr_pI (Or.inr ⟨rfl, rfl⟩)), by rw [rII, if_pos ⟨rfl, rfl⟩], fun z => absurd z (by decide)⟩
  have fin : ∀ X, X = some (bI (brs SM p kd a b c = 0), pI SC 0 12 (J (brs SM p kd a b c))) → brs SM p kd a b c = 1 → ∃ SC', X = some (bI (brs SM p kd a b c = 0), SC') ∧ fr E456 SC SC' ∧ gI SC' 0 12 = J (brs SM p kd a b c) ∧ (brs SM p kd a b c = 0 → rAsk SC' SM H p kd a b c) := by
    intro X hX h1
    exact ⟨_, hX, fr_pI (Or.inr ⟨rfl, rfl⟩), by rw [rII, if_pos ⟨rfl, rfl⟩], fun z => absurd (h1.symm.trans z) (by decide)⟩
  unfold gX11_asks
  simp only [J_0, J_1, J_2, J_3, J_4, J_5, J_6, J_7, J_8, J_9, J_10, J_11, J_12, J_14, J_15, J_16, J_19, J_20, J_21, J_22, J_23, J_24, J_25, J_28, J_30, J_31, J_32, J_40, J_44, J_47, J_48, J_49, J_50, J_53, J_54, J_57, J_59, J_74, J_75, J_78, J_84, J_97, J_99, J_100, J_120, J_122, J_126, J_132, J_138, J_144, J_150, J_156, J_162, J_198, J_200, J_202, J_206, J_210, J_214, J_218, J_222, J_226, J_230, J_234, J_238, J_239, J_240, J_241, J_242, J_243, J_255, J_263, J_283, J_303, J_399, J_400, J_401, J_463, J_700, J_701, J_999, J_1000, J_2048, J_4095, J_4096, J_6000, J_9999, J_10000, J_65536, J_65537, J_2147483647, J_neg]
  rw [c_isSayer hp.1 hp.2 hH hr c1 n1, b1s, iB0]
  by_cases g1 : 0 ≤ p ∧ p < cnt SM 1
  · rw [if_pos g1, iLT hk.1 hk.2 (by decide) (by decide)]
    by_cases g2 : kd < 0
    · rw [if_pos g2]
      have hn : ¬ (0 ≤ p ∧ p < cnt SM 1 ∧ 0 ≤ kd ∧ kd ≤ 5 ∧ (kd = 4 → 0 ≤ b ∧ b < cnt SM 0)) := by omega
      exact fin _ (no hn) (brs_1 hn)
    · rw [if_neg g2, iLT (by decide) (by decide) hk.1 hk.2]
      by_cases g3 : 5 < kd
      · rw [if_pos g3]
        have hn : ¬ (0 ≤ p ∧ p < cnt SM 1 ∧ 0 ≤ kd ∧ kd ≤ 5 ∧ (kd = 4 → 0 ≤ b ∧ b < cnt SM 0)) := by omega
        exact fin _ (no hn) (brs_1 hn)
      · rw [if_neg g3, iEQ hk.1 hk.2 (by decide) (by decide)]
        by_cases g4 : kd = 4
        · rw [if_pos g4, c_isSense hb.1 hb.2 hH hr c0 n0, b1s, iB0]
          by_cases g5 : 0 ≤ b ∧ b < cnt SM 0
          · rw [if_pos g5]
            exact ok ⟨g1.1, g1.2, by omega, by omega, fun _ => g5⟩
          · rw [if_neg g5]
            have hn : ¬ (0 ≤ p ∧ p < cnt SM 1 ∧ 0 ≤ kd ∧ kd ≤ 5 ∧ (kd = 4 → 0 ≤ b ∧ b < cnt SM 0)) := by omega
            exact fin _ (no hn) (brs_1 hn)
        · rw [if_neg g4]
          exact ok ⟨g1.1, g1.2, by omega, by omega, fun z => absurd z g4⟩
  · rw [if_neg g1]
    have hn : ¬ (0 ≤ p ∧ p < cnt SM 1 ∧ 0 ≤ kd ∧ kd ≤ 5 ∧ (kd = 4 → 0 ≤ b ∧ b < cnt SM 0)) := by omega
    exact fin _ (no hn) (brs_1 hn)
