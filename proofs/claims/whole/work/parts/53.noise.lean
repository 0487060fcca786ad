/-! Noise: what the class keeps and what the model counts. -/
theorem c_above {S : zM} {q : Nat} {o : Nat → Int} {v : Int} (h : nzC S q o) (h1 : -1000000 ≤ v) (h2 : v ≤ 1000000) : gX4_above S q (J v) = some (J (nAb o v)) := by
  unfold gX4_above
  simp only [J_0, J_1, J_2, J_3, J_4, J_5, J_6, J_7, J_8, J_9, J_10, J_11, J_12, J_14, J_15, J_16, J_19, J_20, J_21, J_22, J_23, J_24, J_25, J_28, J_30, J_31, J_32, J_40, J_44, J_47, J_48, J_49, J_50, J_53, J_54, J_57, J_59, J_74, J_75, J_78, J_84, J_97, J_99, J_100, J_120, J_122, J_126, J_132, J_138, J_144, J_150, J_156, J_162, J_198, J_200, J_202, J_206, J_210, J_214, J_218, J_222, J_226, J_230, J_234, J_238, J_239, J_240, J_241, J_242, J_243, J_255, J_263, J_283, J_303, J_399, J_400, J_401, J_463, J_700, J_701, J_999, J_1000, J_2048, J_4095, J_4096, J_6000, J_9999, J_10000, J_65536, J_65537, J_2147483647, J_neg]
  have e : jmax (J 0) (jmin (J 12 - J 1) (J v + J 5 + J 1)) = J (max 0 (min 11 (v + 6))) := by
    rw [J_sub, J_add, J_add, jmin_J (by omega) (by omega) (by omega) (by omega), jmax_J (by omega) (by omega) (by omega) (by omega)]
    congr 2
    omega
  rw [e, ixb_J (by omega) (by omega) (by decide), ckt, ix_J (by omega) (by omega), h.2.2.1 _ (by omega)]
  congr 2
  by_cases hl : v < -5
  · rw [nAb_far (by omega), nAb_far hl]
  · by_cases hh : 5 ≤ v
    · rw [nAb_none (by omega), nAb_none hh]
    · congr 1
      omega
theorem c_pairsAbove {S : zM} {q : Nat} {o : Nat → Int} {v : Int} (h : nzC S q o) (h1 : -1000000 ≤ v) (h2 : v ≤ 1000000) : gX4_pairsAbove S q (J v) = some (J (nPab o v)) := by
  unfold gX4_pairsAbove
  simp only [J_0, J_1, J_2, J_3, J_4, J_5, J_6, J_7, J_8, J_9, J_10, J_11, J_12, J_14, J_15, J_16, J_19, J_20, J_21, J_22, J_23, J_24, J_25, J_28, J_30, J_31, J_32, J_40, J_44, J_47, J_48, J_49, J_50, J_53, J_54, J_57, J_59, J_74, J_75, J_78, J_84, J_97, J_99, J_100, J_120, J_122, J_126, J_132, J_138, J_144, J_150, J_156, J_162, J_198, J_200, J_202, J_206, J_210, J_214, J_218, J_222, J_226, J_230, J_234, J_238, J_239, J_240, J_241, J_242, J_243, J_255, J_263, J_283, J_303, J_399, J_400, J_401, J_463, J_700, J_701, J_999, J_1000, J_2048, J_4095, J_4096, J_6000, J_9999, J_10000, J_65536, J_65537, J_2147483647, J_neg]
  have e : jmax (J 0) (jmin (J 22 - J 1) (J v + J 10 + J 1)) = J (max 0 (min 21 (v + 11))) := by
    rw [J_sub, J_add, J_add, jmin_J (by omega) (by omega) (by omega) (by omega), jmax_J (by omega) (by omega) (by omega) (by omega)]
    congr 2
    omega
  rw [e, ixb_J (by omega) (by omega) (by decide), ckt, ix_J (by omega) (by omega), h.2.2.2 _ (by omega)]
  congr 2
  by_cases hl : v < -10
  · rw [nPab_far (by omega), nPab_far hl]
  · by_cases hh : 10 ≤ v
    · rw [nPab_none (by omega), nPab_none hh]
    · congr 1
      omega
theorem c_oftenAt {S : zM} {q : Nat} {o : Nat → Int} {v : Int} (h : nzC S q o) (h1 : -2147483648 ≤ v) (h2 : v ≤ 2147483647) : gX4_oftenAt S q (J v) = some (J (nAt o v)) := by
  unfold gX4_oftenAt nAt
  simp only [J_0, J_1, J_2, J_3, J_4, J_5, J_6, J_7, J_8, J_9, J_10, J_11, J_12, J_14, J_15, J_16, J_19, J_20, J_21, J_22, J_23, J_24, J_25, J_28, J_30, J_31, J_32, J_40, J_44, J_47, J_48, J_49, J_50, J_53, J_54, J_57, J_59, J_74, J_75, J_78, J_84, J_97, J_99, J_100, J_120, J_122, J_126, J_132, J_138, J_144, J_150, J_156, J_162, J_198, J_200, J_202, J_206, J_210, J_214, J_218, J_222, J_226, J_230, J_234, J_238, J_239, J_240, J_241, J_242, J_243, J_255, J_263, J_283, J_303, J_399, J_400, J_401, J_463, J_700, J_701, J_999, J_1000, J_2048, J_4095, J_4096, J_6000, J_9999, J_10000, J_65536, J_65537, J_2147483647, J_neg]
  rw [iLT h1 h2 (by decide) (by decide), iLE h1 h2 (by decide) (by decide), J_add]
  by_cases ha : v < -5
  · rw [if_pos ha, if_neg (by omega)]
  · by_cases hb : v ≤ 5
    · rw [if_neg ha, if_pos hb, if_pos (by omega), ixb_J (by omega) (by omega) (by decide), ckt, ix_J (by omega) (by omega), h.2.1 _ (by omega)]
    · rw [if_neg ha, if_neg hb, if_neg (by omega)]
theorem c_pairs {S : zM} {q : Nat} {o : Nat → Int} (h : nzC S q o) : gX4_pairs S q = some (J (nAll o * nAll o)) := by
  unfold gX4_pairs
  rw [h.1, J_mul]
/-- the odds of an answer of a pair, the second feeling ahead by so much but for noise -/
def pOd (o : Nat → Int) (lead : Int) (g : Bool) (ans : Int) : Int :=
  if ans = 0 then nAll o * nAll o - nPab o (-lead - 1) else if ans = 1 then (if g then nPab o (-lead - 1) else nPab o (-lead)) else if ans = 2 then (if g then 0 else nPab o (-lead - 1) - nPab o (-lead)) else 0
theorem c_pairOdds {S : zM} {q : Nat} {o : Nat → Int} {v g a : Int} (h : nzC S q o) (h1 : -900000 ≤ v) (h2 : v ≤ 900000) (hg : g = 0 ∨ g = 1) (ha1 : 0 ≤ a) (ha2 : a ≤ 2) : gX4_pairOdds S q (J v) (J g) (J a) = some (J (pOd o v (decide (g = 1)) a)) := by
  unfold gX4_pairOdds
  simp only [J_0, J_1, J_2, J_3, J_4, J_5, J_6, J_7, J_8, J_9, J_10, J_11, J_12, J_14, J_15, J_16, J_19, J_20, J_21, J_22, J_23, J_24, J_25, J_28, J_30, J_31, J_32, J_40, J_44, J_47, J_48, J_49, J_50, J_53, J_54, J_57, J_59, J_74, J_75, J_78, J_84, J_97, J_99, J_100, J_120, J_122, J_126, J_132, J_138, J_144, J_150, J_156, J_162, J_198, J_200, J_202, J_206, J_210, J_214, J_218, J_222, J_226, J_230, J_234, J_238, J_239, J_240, J_241, J_242, J_243, J_255, J_263, J_283, J_303, J_399, J_400, J_401, J_463, J_700, J_701, J_999, J_1000, J_2048, J_4095, J_4096, J_6000, J_9999, J_10000, J_65536, J_65537, J_2147483647, J_neg]
  rw [J_sub, c_pairsAbove h (by omega) (by omega), b1s, c_pairsAbove h (by omega) (by omega), iEQ (by omega) (by omega) (by decide) (by decide), b1s]
  unfold gX4_pairOdds_J25 pOd
  simp only [J_0, J_1, J_2, J_3, J_4, J_5, J_6, J_7, J_8, J_9, J_10, J_11, J_12, J_14, J_15, J_16, J_19, J_20, J_21, J_22, J_23, J_24, J_25, J_28, J_30, J_31, J_32, J_40, J_44, J_47, J_48, J_49, J_50, J_53, J_54, J_57, J_59, J_74, J_75, J_78, J_84, J_97, J_99, J_100, J_120, J_122, J_126, J_132, J_138, J_144, J_150, J_156, J_162, J_198, J_200, J_202, J_206, J_210, J_214, J_218, J_222, J_226, J_230, J_234, J_238, J_239, J_240, J_241, J_242, J_243, J_255, J_263, J_283, J_303, J_399, J_400, J_401, J_463, J_700, J_701, J_999, J_1000, J_2048, J_4095, J_4096, J_6000, J_9999, J_10000, J_65536, J_65537, J_2147483647, J_neg]
  rw [c_pairs h, b1s, iEQ (by omega) (by omega) (by decide) (by decide), iEQ (by omega) (by omega) (by decide) (by decide), iEQ (by omega) (by omega) (by decide) (by decide), iEQ (by omega) (by omega) (by decide) (by decide), iEQ (by omega) (by omega) (by decide) (by decide), iEQ (by omega) (by omega) (by decide) (by decide)]
  have h3 : a = 0 ∨ a = 1 ∨ a = 2 := by omega
  rcases hg with rfl | rfl <;> rcases h3 with rfl | rfl | rfl <;> simp [J_sub] <;> rfl
theorem c_aloneOdds {S : zM} {q : Nat} {o : Nat → Int} {v a : Int} (h : nzC S q o) (h1 : -1000000 ≤ v) (h2 : v ≤ 1000000) (ha1 : 0 ≤ a) (ha2 : a ≤ 2) : gX4_aloneOdds S q (J v) (J a) = some (J (if a = 1 then nAb o (-v) else nAll o - nAb o (-v))) := by
  unfold gX4_aloneOdds
  simp only [J_0, J_1, J_2, J_3, J_4, J_5, J_6, J_7, J_8, J_9, J_10, J_11, J_12, J_14, J_15, J_16, J_19, J_20, J_21, J_22, J_23, J_24, J_25, J_28, J_30, J_31, J_32, J_40, J_44, J_47, J_48, J_49, J_50, J_53, J_54, J_57, J_59, J_74, J_75, J_78, J_84, J_97, J_99, J_100, J_120, J_122, J_126, J_132, J_138, J_144, J_150, J_156, J_162, J_198, J_200, J_202, J_206, J_210, J_214, J_218, J_222, J_226, J_230, J_234, J_238, J_239, J_240, J_241, J_242, J_243, J_255, J_263, J_283, J_303, J_399, J_400, J_401, J_463, J_700, J_701, J_999, J_1000, J_2048, J_4095, J_4096, J_6000, J_9999, J_10000, J_65536, J_65537, J_2147483647, J_neg]
  rw [c_above h (by omega) (by omega), iEQ (by omega) (by omega) (by decide) (by decide), b1s, b1s, h.1, J_sub]
  by_cases e : a = 1
  · rw [if_pos e, if_pos e]
  · rw [if_neg e, if_neg e]
theorem c_numberOdds {S : zM} {q : Nat} {o : Nat → Int} {v a : Int} (h : nzC S q o) (h1 : -1000000 ≤ v) (h2 : v ≤ 1000000) (ha1 : -1000000 ≤ a) (ha2 : a ≤ 1000000) : gX4_numberOdds S q (J v) (J a) = some (J (if a ≤ 0 then nAll o - nAb o (-v) else nAt o (a - v))) := by
  unfold gX4_numberOdds
  simp only [J_0, J_1, J_2, J_3, J_4, J_5, J_6, J_7, J_8, J_9, J_10, J_11, J_12, J_14, J_15, J_16, J_19, J_20, J_21, J_22, J_23, J_24, J_25, J_28, J_30, J_31, J_32, J_40, J_44, J_47, J_48, J_49, J_50, J_53, J_54, J_57, J_59, J_74, J_75, J_78, J_84, J_97, J_99, J_100, J_120, J_122, J_126, J_132, J_138, J_144, J_150, J_156, J_162, J_198, J_200, J_202, J_206, J_210, J_214, J_218, J_222, J_226, J_230, J_234, J_238, J_239, J_240, J_241, J_242, J_243, J_255, J_263, J_283, J_303, J_399, J_400, J_401, J_463, J_700, J_701, J_999, J_1000, J_2048, J_4095, J_4096, J_6000, J_9999, J_10000, J_65536, J_65537, J_2147483647, J_neg]
  rw [c_above h (by omega) (by omega), iLE (by omega) (by omega) (by decide) (by decide), J_sub, c_oftenAt h (by omega) (by omega), b1s, b1s, h.1, J_sub]
  by_cases e : a ≤ 0
  · rw [if_pos e, if_pos e]
  · rw [if_neg e, if_neg e]
/-! the model's noise -/
theorem mN_ok {S : zM} {s k : Nat} (h : mSense S s) (hk : 1 ≤ k ∧ k ≤ 6) : nOK (mN S s k) := by
  obtain ⟨h0, h1, h2, -⟩ := h
  constructor
  · intro i hi
    unfold mN
    by_cases a : 5 ≤ i
    · rw [if_pos a]
      by_cases b : i < 5 + k
      · rw [if_pos b]; have := h2 (i - 5) (by omega); omega
      · rw [if_neg b]; omega
    · rw [if_neg a]
      by_cases b : 5 < i + k
      · rw [if_pos b]; have := h2 (5 - i) (by omega); omega
      · rw [if_neg b]; omega
  · unfold mN
    rw [if_pos (by omega), if_pos (by omega)]
    exact h1
theorem m_often {S : zM} {s k : Nat} {v : Int} (hs : s < 6) (hk : k ≤ 6) (h1 : -5 ≤ v) (h2 : v ≤ 5) : gX12_often S (J s) (J v) (J k) = some (J (mN S s k (v + 5).toNat)) := by
  unfold gX12_often gX12_often_J10 mN
  simp only [J_0, J_1, J_2, J_3, J_4, J_5, J_6, J_7, J_8, J_9, J_10, J_11, J_12, J_14, J_15, J_16, J_19, J_20, J_21, J_22, J_23, J_24, J_25, J_28, J_30, J_31, J_32, J_40, J_44, J_47, J_48, J_49, J_50, J_53, J_54, J_57, J_59, J_74, J_75, J_78, J_84, J_97, J_99, J_100, J_120, J_122, J_126, J_132, J_138, J_144, J_150, J_156, J_162, J_198, J_200, J_202, J_206, J_210, J_214, J_218, J_222, J_226, J_230, J_234, J_238, J_239, J_240, J_241, J_242, J_243, J_255, J_263, J_283, J_303, J_399, J_400, J_401, J_463, J_700, J_701, J_999, J_1000, J_2048, J_4095, J_4096, J_6000, J_9999, J_10000, J_65536, J_65537, J_2147483647, J_neg, J_mul, J_add]
  rw [iLE (by decide) (by decide) (by omega) (by omega), iLE (by omega) (by omega) (by omega) (by omega), iLE (by omega) (by omega) (by omega) (by omega)]
  by_cases a : 0 ≤ v
  · rw [if_pos a]
    by_cases b : (k : Int) ≤ v
    · rw [if_pos b, if_pos (show 5 ≤ (v + 5).toNat by omega), if_neg (show ¬ (v + 5).toNat < 5 + k by omega)]
    · rw [if_neg b, if_pos (show 5 ≤ (v + 5).toNat by omega), if_pos (show (v + 5).toNat < 5 + k by omega), ixb_J (by omega) (by omega) (by decide), ckt, ix_J (by omega) (by omega), gI_J]
      congr 3
      omega
  · rw [if_neg a]
    by_cases b : (k : Int) ≤ -v
    · rw [if_pos b, if_neg (show ¬ 5 ≤ (v + 5).toNat by omega), if_neg (show ¬ 5 < (v + 5).toNat + k by omega)]
    · rw [if_neg b, if_neg (show ¬ 5 ≤ (v + 5).toNat by omega), if_pos (show 5 < (v + 5).toNat + k by omega), ixb_J (by omega) (by omega) (by decide), ckt, ix_J (by omega) (by omega), gI_J]
      congr 3
      omega
/-- the noise at place i -/
theorem m_oftenI {S : zM} {s k i : Nat} (hs : s < 6) (hk : k ≤ 6) (hi : i < 11) : gX12_often S (J s) (J ((i : Int) - 5)) (J k) = some (J (mN S s k i)) := by
  rw [m_often hs hk (by omega) (by omega)]
  congr 3
  omega
theorem m_all_L {S : zM} {s k : Nat} (hs : s < 6) (hk : k ≤ 6) : ∀ (n i : Nat) (acc : Int), i ≤ 11 → 12 ≤ n + i → gX12_all_L6 S (J s) (J k) n (J acc) (J ((i : Int) - 5)) = some (J (acc + (sm 11 (mN S s k) - sm i (mN S s k)))) := by
  intro n
  induction n with
  | zero => intro i acc h1 h2; omega
  | succ n ih =>
    intro i acc h1 h2
    unfold gX12_all_L6
    simp only [J_0, J_1, J_2, J_3, J_4, J_5, J_6, J_7, J_8, J_9, J_10, J_11, J_12, J_14, J_15, J_16, J_19, J_20, J_21, J_22, J_23, J_24, J_25, J_28, J_30, J_31, J_32, J_40, J_44, J_47, J_48, J_49, J_50, J_53, J_54, J_57, J_59, J_74, J_75, J_78, J_84, J_97, J_99, J_100, J_120, J_122, J_126, J_132, J_138, J_144, J_150, J_156, J_162, J_198, J_200, J_202, J_206, J_210, J_214, J_218, J_222, J_226, J_230, J_234, J_238, J_239, J_240, J_241, J_242, J_243, J_255, J_263, J_283, J_303, J_399, J_400, J_401, J_463, J_700, J_701, J_999, J_1000, J_2048, J_4095, J_4096, J_6000, J_9999, J_10000, J_65536, J_65537, J_2147483647, J_neg]
    rw [iLT (by decide) (by decide) (by omega) (by omega)]
    by_cases e : i = 11
    · subst e
      rw [if_pos (by omega)]
      congr 2
      omega
    · rw [if_neg (by omega), m_oftenI hs hk (by omega), b1s, J_add, J_add]
      have := ih (i + 1) (acc + mN S s k i) (by omega) (by omega)
      rw [show ((i : Int) - 5 + 1) = (((i + 1 : Nat) : Int) - 5) by omega, this, sm_s (n := i)]
      congr 2
      omega
theorem m_all {S : zM} {s k : Nat} (hs : s < 6) (hk : k ≤ 6) : gX12_all S (J s) (J k) = some (J (nAll (mN S s k))) := by
  have := m_all_L (S := S) hs hk FU 0 0 (by omega) (FUs (n := 12) (by omega))
  unfold gX12_all
  simp only [J_0, J_1, J_2, J_3, J_4, J_5, J_6, J_7, J_8, J_9, J_10, J_11, J_12, J_14, J_15, J_16, J_19, J_20, J_21, J_22, J_23, J_24, J_25, J_28, J_30, J_31, J_32, J_40, J_44, J_47, J_48, J_49, J_50, J_53, J_54, J_57, J_59, J_74, J_75, J_78, J_84, J_97, J_99, J_100, J_120, J_122, J_126, J_132, J_138, J_144, J_150, J_156, J_162, J_198, J_200, J_202, J_206, J_210, J_214, J_218, J_222, J_226, J_230, J_234, J_238, J_239, J_240, J_241, J_242, J_243, J_255, J_263, J_283, J_303, J_399, J_400, J_401, J_463, J_700, J_701, J_999, J_1000, J_2048, J_4095, J_4096, J_6000, J_9999, J_10000, J_65536, J_65537, J_2147483647, J_neg]

  rw [show ((0 : Nat) : Int) - 5 = -5 from rfl] at this
  rw [this, sm_0]
  congr 2
  unfold nAll
  omega
/-- both count off alike -/
theorem pick_L {SC SM : zM} {q s k : Nat} (h : nzC SC q (mN SM s k)) (ho : nOK (mN SM s k)) (hs : s < 6) (hk : k ≤ 6) : ∀ (n i : Nat) (r : Int), i ≤ 11 → 12 ≤ n + i → 0 ≤ r → r < 1000 → r < sm 11 (mN SM s k) - sm i (mN SM s k) → ∃ j : Nat, j < 11 ∧ gX4_countedOff_L4 SC q n (J r) (J i) = some (J ((j : Int) - 5)) ∧ gX12_drawnNoise_L15 SM (J s) (J k) n (J r) (J ((i : Int) - 5)) = some (J ((j : Int) - 5), SM) := by
  intro n
  induction n with
  | zero => intro i r h1 h2; omega
  | succ n ih =>
    intro i r h1 h2 h3 h4 h5
    have hi : i < 11 := by
      rcases Nat.lt_or_ge i 11 with z | z
      · exact z
      · have : i = 11 := by omega
        subst this
        omega
    have hb := ho.1 i hi
    unfold gX4_countedOff_L4 gX12_drawnNoise_L15
    simp only [J_0, J_1, J_2, J_3, J_4, J_5, J_6, J_7, J_8, J_9, J_10, J_11, J_12, J_14, J_15, J_16, J_19, J_20, J_21, J_22, J_23, J_24, J_25, J_28, J_30, J_31, J_32, J_40, J_44, J_47, J_48, J_49, J_50, J_53, J_54, J_57, J_59, J_74, J_75, J_78, J_84, J_97, J_99, J_100, J_120, J_122, J_126, J_132, J_138, J_144, J_150, J_156, J_162, J_198, J_200, J_202, J_206, J_210, J_214, J_218, J_222, J_226, J_230, J_234, J_238, J_239, J_240, J_241, J_242, J_243, J_255, J_263, J_283, J_303, J_399, J_400, J_401, J_463, J_700, J_701, J_999, J_1000, J_2048, J_4095, J_4096, J_6000, J_9999, J_10000, J_65536, J_65537, J_2147483647, J_neg]
    rw [m_oftenI hs hk hi, b1s, b1s, iLE (by decide) (by decide) (by omega) (by omega), if_neg (by omega), ixb_J (by omega) (by omega) (by decide), ckt, ckt, ix_J (by omega) (by omega), Int.toNat_natCast, h.2.1 i hi, iLE (by omega) (by omega) (by omega) (by omega), iLT (by omega) (by omega) (by omega) (by omega), lts]
    by_cases e : r < mN SM s k i
    · rw [if_neg (by omega), if_pos e]
      refine ⟨i, hi, ?_, rfl⟩
      rw [J_sub]
    · rw [if_pos (by omega), if_neg e]
      obtain ⟨j, g1, g2, g3⟩ := ih (i + 1) (r - mN SM s k i) (by omega) (by omega) (by omega) (by omega) (by rw [sm_s (n := i)]; omega)
      refine ⟨j, g1, ?_, ?_⟩
      · rw [J_sub, J_add]
        exact g2
      · rw [J_sub, J_add]
        rw [show ((i : Int) - 5 + 1) = (((i + 1 : Nat) : Int) - 5) by omega]
        exact g3
theorem pick {SC SM : zM} {q s k : Nat} {r : Int} (h : nzC SC q (mN SM s k)) (ho : nOK (mN SM s k)) (hs : s < 6) (hk : k ≤ 6) (h3 : 0 ≤ r) (h4 : r < nAll (mN SM s k)) : ∃ j : Nat, j < 11 ∧ gX4_countedOff SC q (J r) = some (J ((j : Int) - 5)) ∧ gX12_drawnNoise_L15 SM (J s) (J k) FU (J r) (-5) = some (J ((j : Int) - 5), SM) := by
  have hh := nAll_hi ho
  obtain ⟨j, g1, g2, g3⟩ := pick_L h ho hs hk FU 0 r (by omega) (FUs (n := 12) (by omega)) h3 (by omega) (by rw [sm_0]; unfold nAll at h4; omega)
  refine ⟨j, g1, ?_, ?_⟩
  · unfold gX4_countedOff
    rw [J_0]
    exact g2
  · simp only [J_0, J_1, J_2, J_3, J_4, J_5, J_6, J_7, J_8, J_9, J_10, J_11, J_12, J_14, J_15, J_16, J_19, J_20, J_21, J_22, J_23, J_24, J_25, J_28, J_30, J_31, J_32, J_40, J_44, J_47, J_48, J_49, J_50, J_53, J_54, J_57, J_59, J_74, J_75, J_78, J_84, J_97, J_99, J_100, J_120, J_122, J_126, J_132, J_138, J_144, J_150, J_156, J_162, J_198, J_200, J_202, J_206, J_210, J_214, J_218, J_222, J_226, J_230, J_234, J_238, J_239, J_240, J_241, J_242, J_243, J_255, J_263, J_283, J_303, J_399, J_400, J_401, J_463, J_700, J_701, J_999, J_1000, J_2048, J_4095, J_4096, J_6000, J_9999, J_10000, J_65536, J_65537, J_2147483647, J_neg]
    exact g3
/-- a draw -/
theorem drawn_eq {SC SM : zM} {d a : Int} (hC : gI SC 0 11 = J d) (hM : gI SM 0 20 = J d) (h1 : 0 ≤ d ∧ d < 65537) (ha : 1 ≤ a ∧ a ≤ 100000) : gX11_drawn SC (J a) = some (J ((75 * d + 74) % 65537 % a), pI SC 0 11 (J ((75 * d + 74) % 65537))) ∧ gX12_drawn SM (J a) = some (J ((75 * d + 74) % 65537 % a), pI SM 0 20 (J ((75 * d + 74) % 65537))) := by
  have e1 : ∀ x : Int32, x = J d → (75 * x + 74) - (75 * x + 74) / 65537 * 65537 = J ((75 * d + 74) % 65537) := by
    intro x hx
    simp only [J_0, J_1, J_2, J_3, J_4, J_5, J_6, J_7, J_8, J_9, J_10, J_11, J_12, J_14, J_15, J_16, J_19, J_20, J_21, J_22, J_23, J_24, J_25, J_28, J_30, J_31, J_32, J_40, J_44, J_47, J_48, J_49, J_50, J_53, J_54, J_57, J_59, J_74, J_75, J_78, J_84, J_97, J_99, J_100, J_120, J_122, J_126, J_132, J_138, J_144, J_150, J_156, J_162, J_198, J_200, J_202, J_206, J_210, J_214, J_218, J_222, J_226, J_230, J_234, J_238, J_239, J_240, J_241, J_242, J_243, J_255, J_263, J_283, J_303, J_399, J_400, J_401, J_463, J_700, J_701, J_999, J_1000, J_2048, J_4095, J_4096, J_6000, J_9999, J_10000, J_65536, J_65537, J_2147483647, J_neg]
    rw [hx, J_mul, J_add, J_div (by omega) (by omega) (by omega) (by omega), J_mul, J_sub]
    congr 1
    omega
  have e2 : J ((75 * d + 74) % 65537) - J ((75 * d + 74) % 65537) / J a * J a = J ((75 * d + 74) % 65537 % a) := by
    rw [J_div (by omega) (by omega) (by omega) (by omega), J_mul, J_sub]
    congr 1
    have := Int.emod_def ((75 * d + 74) % 65537) a
    rw [this, Int.mul_comm a]
  have e3 : (decide (¬ J a = 0)) = true := by
    simp only [J_0, J_1, J_2, J_3, J_4, J_5, J_6, J_7, J_8, J_9, J_10, J_11, J_12, J_14, J_15, J_16, J_19, J_20, J_21, J_22, J_23, J_24, J_25, J_28, J_30, J_31, J_32, J_40, J_44, J_47, J_48, J_49, J_50, J_53, J_54, J_57, J_59, J_74, J_75, J_78, J_84, J_97, J_99, J_100, J_120, J_122, J_126, J_132, J_138, J_144, J_150, J_156, J_162, J_198, J_200, J_202, J_206, J_210, J_214, J_218, J_222, J_226, J_230, J_234, J_238, J_239, J_240, J_241, J_242, J_243, J_255, J_263, J_283, J_303, J_399, J_400, J_401, J_463, J_700, J_701, J_999, J_1000, J_2048, J_4095, J_4096, J_6000, J_9999, J_10000, J_65536, J_65537, J_2147483647, J_neg]
    rw [decide_eq_true_eq, J_inj (by omega) (by omega) (by omega) (by omega)]
    omega
  constructor
  · unfold gX11_drawn
    rw [e1 _ hC, lts, J_1, iLE (by omega) (by omega) (by omega) (by omega), if_pos ha.1, e3, ckt, rII, if_pos ⟨rfl, rfl⟩, e2]
  · unfold gX12_drawn
    rw [e1 _ hM, lts, e3, ckt, rII, if_pos ⟨rfl, rfl⟩, e2]
