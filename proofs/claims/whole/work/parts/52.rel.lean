/-! How the class' memory stands to the model's. -/
/-- how many senses, sayers, plans, pays: 0 without a room -/
def cnt (S : zM) (i : Nat) : Int := if gI S 0 14 = J 0 then 0 else iI S 3 (238 + i)
/-- the model's noise of a sense with k wholes -/
def mN (S : zM) (s k i : Nat) : Int := if 5 ≤ i then (if i < 5 + k then iI S 3 (84 + 6 * s + (i - 5)) else 0) else (if 5 < i + k then iI S 3 (84 + 6 * s + (5 - i)) else 0)
/-- the class' noise at a place -/
def nzC (S : zM) (q : Nat) (o : Nat → Int) : Prop := gI S q 3 = J (nAll o) ∧ (∀ i : Nat, i < 11 → gI S (q + 1) i = J (o i)) ∧ (∀ i : Nat, i < 12 → gI S (q + 2) i = J (nAb o ((i : Int) - 6))) ∧ ∀ i : Nat, i < 22 → gI S (q + 3) i = J (nPab o ((i : Int) - 11))
/-- the model's numbers of a sense are in their bounds -/
def mSense (SM : zM) (s : Nat) : Prop := (1 ≤ iI SM 3 (78 + s) ∧ iI SM 3 (78 + s) ≤ 6) ∧ 1 ≤ iI SM 3 (84 + 6 * s) ∧ (∀ j : Nat, j < 6 → 0 ≤ iI SM 3 (84 + 6 * s + j) ∧ iI SM 3 (84 + 6 * s + j) ≤ 9) ∧ ∀ x : Nat, x < 401 → 0 ≤ iI SM 5 (401 * s + x) ∧ iI SM 5 (401 * s + x) ≤ 9999
def rSense (SC SM : zM) (H s : Nat) : Prop := mSense SM s ∧ gI SC (H + 7 + 31 * s) 7 = gI SM 3 (78 + s) ∧ (∀ x : Nat, x < 401 → gI SC (H + 7 + 31 * s + 5) x = gI SM 5 (401 * s + x)) ∧ ∀ j : Nat, (j : Int) < iI SM 3 (78 + s) → nzC SC (H + 7 + 31 * s + 7 + 4 * j) (mN SM s (j + 1))
def mSayer (SM : zM) (p : Nat) : Prop := (0 ≤ iI SM 3 (120 + p) ∧ iI SM 3 (120 + p) < cnt SM 0) ∧ (-50 ≤ iI SM 3 (126 + p) ∧ iI SM 3 (126 + p) ≤ 50) ∧ (-50 ≤ iI SM 3 (132 + p) ∧ iI SM 3 (132 + p) ≤ 50) ∧ (0 ≤ iI SM 3 (138 + p) ∧ iI SM 3 (138 + p) ≤ 99) ∧ (0 ≤ iI SM 3 (144 + p) ∧ iI SM 3 (144 + p) ≤ 99) ∧ (iI SM 3 (150 + p) = 0 ∨ iI SM 3 (150 + p) = 1) ∧ (0 ≤ iI SM 3 (156 + p) ∧ iI SM 3 (156 + p) ≤ 6) ∧ ∀ j : Nat, j < 6 → 0 ≤ iI SM 3 (162 + 6 * p + j) ∧ iI SM 3 (162 + 6 * p + j) ≤ 999
def rSayer (SC SM : zM) (H p : Nat) : Prop := mSayer SM p ∧ gI SC (H + 193 + 2 * p) 1 = gI SM 3 (120 + p) ∧ gI SC (H + 193 + 2 * p) 2 = gI SM 3 (126 + p) ∧ gI SC (H + 193 + 2 * p) 3 = gI SM 3 (132 + p) ∧ gI SC (H + 193 + 2 * p) 4 = gI SM 3 (138 + p) ∧ gI SC (H + 193 + 2 * p) 5 = gI SM 3 (144 + p) ∧ gI SC (H + 193 + 2 * p) 6 = gI SM 3 (150 + p) ∧ gI SC (H + 193 + 2 * p) 7 = gI SM 3 (156 + p) ∧ (∀ j : Nat, (j : Int) < iI SM 3 (156 + p) → gI SC (H + 193 + 2 * p + 1) j = gI SM 3 (162 + 6 * p + j)) ∧ gI SC (H + 193 + 2 * p) 8 = gI SM 6 p ∧ gI SC (H + 193 + 2 * p) 9 = gI SM 7 p
def rPlan (SC SM : zM) (H n : Nat) : Prop := ((0 ≤ iI SM 3 (198 + n) ∧ iI SM 3 (198 + n) ≤ 2) ∧ (1 ≤ iI SM 3 (202 + n) ∧ iI SM 3 (202 + n) ≤ iI SM 3 (206 + n) ∧ iI SM 3 (206 + n) ≤ 400) ∧ (1 ≤ iI SM 3 (210 + n) ∧ iI SM 3 (210 + n) ≤ 400) ∧ (1 ≤ iI SM 3 (214 + n) ∧ iI SM 3 (214 + n) ≤ 20) ∧ ((iI SM 3 (206 + n) - iI SM 3 (202 + n)) / iI SM 3 (210 + n) + 1) * iI SM 3 (214 + n) ≤ 200) ∧ gI SC (H + 205 + 1 * n) 0 = gI SM 3 (198 + n) ∧ gI SC (H + 205 + 1 * n) 1 = gI SM 3 (202 + n) ∧ gI SC (H + 205 + 1 * n) 2 = gI SM 3 (206 + n) ∧ gI SC (H + 205 + 1 * n) 3 = gI SM 3 (210 + n) ∧ gI SC (H + 205 + 1 * n) 4 = gI SM 3 (214 + n)
def rPay (SC SM : zM) (H n : Nat) : Prop := ((-99 ≤ iI SM 3 (218 + n) ∧ iI SM 3 (218 + n) ≤ 99) ∧ (-99 ≤ iI SM 3 (222 + n) ∧ iI SM 3 (222 + n) ≤ 99) ∧ (-99 ≤ iI SM 3 (226 + n) ∧ iI SM 3 (226 + n) ≤ 99) ∧ (-99 ≤ iI SM 3 (230 + n) ∧ iI SM 3 (230 + n) ≤ 99) ∧ (0 ≤ iI SM 3 (234 + n) ∧ iI SM 3 (234 + n) ≤ 100)) ∧ gI SC (H + 209 + 1 * n) 0 = gI SM 3 (218 + n) ∧ gI SC (H + 209 + 1 * n) 1 = gI SM 3 (222 + n) ∧ gI SC (H + 209 + 1 * n) 2 = gI SM 3 (226 + n) ∧ gI SC (H + 209 + 1 * n) 3 = gI SM 3 (230 + n) ∧ gI SC (H + 209 + 1 * n) 4 = gI SM 3 (234 + n)
/-- the room -/
def rHall (SC SM : zM) (H : Nat) : Prop := ((H = 6 ∨ H = 243) ∧ gR SC 0 8 = H ∧ gR SC 2 6 = 249 - H) ∧ ((0 ≤ cnt SM 0 ∧ cnt SM 0 ≤ 6) ∧ (0 ≤ cnt SM 1 ∧ cnt SM 1 ≤ 6) ∧ (0 ≤ cnt SM 2 ∧ cnt SM 2 ≤ 4) ∧ 0 ≤ cnt SM 3 ∧ cnt SM 3 ≤ 4) ∧ (gI SC H 6 = J (cnt SM 0) ∧ gI SC H 7 = J (cnt SM 1) ∧ gI SC H 8 = J (cnt SM 2) ∧ gI SC H 9 = J (cnt SM 3)) ∧ (∀ s : Nat, (s : Int) < cnt SM 0 → rSense SC SM H s) ∧ (∀ p : Nat, (p : Int) < cnt SM 1 → rSayer SC SM H p) ∧ (∀ n : Nat, (n : Int) < cnt SM 2 → rPlan SC SM H n) ∧ ∀ n : Nat, (n : Int) < cnt SM 3 → rPay SC SM H n
/-- no sum of trials is out of bounds before call t -/
def rTot (SM : zM) (t : Nat) : Prop := ∀ p : Nat, p < 6 → (0 ≤ iI SM 6 p ∧ iI SM 6 p ≤ 4095 + 1000 * t) ∧ 0 ≤ iI SM 7 p ∧ iI SM 7 p ≤ 4095 + 1000 * t
/-! the truths of being there -/
theorem m_within {a b c : Int} (h1 : -2147483648 ≤ a) (h2 : a ≤ 2147483647) (h3 : -2147483648 ≤ b) (h4 : b ≤ 2147483647) (h5 : -2147483648 ≤ c) (h6 : c ≤ 2147483647) : gX12_within (J a) (J b) (J c) = some (bI (b ≤ a ∧ a ≤ c)) := by
  unfold gX12_within bI
  simp only [J_0, J_1, J_2, J_3, J_4, J_5, J_6, J_7, J_8, J_9, J_10, J_11, J_12, J_14, J_15, J_16, J_19, J_20, J_21, J_22, J_23, J_24, J_25, J_28, J_30, J_31, J_32, J_40, J_44, J_47, J_48, J_49, J_50, J_53, J_54, J_57, J_59, J_74, J_75, J_78, J_84, J_97, J_99, J_100, J_120, J_122, J_126, J_132, J_138, J_144, J_150, J_156, J_162, J_198, J_200, J_202, J_206, J_210, J_214, J_218, J_222, J_226, J_230, J_234, J_238, J_239, J_240, J_241, J_242, J_243, J_255, J_263, J_283, J_303, J_399, J_400, J_401, J_463, J_700, J_701, J_999, J_1000, J_2048, J_4095, J_4096, J_6000, J_9999, J_10000, J_65536, J_65537, J_2147483647, J_neg]
  rw [iLT h1 h2 h3 h4, iLT h5 h6 h1 h2]
  by_cases ha : a < b
  · rw [if_pos ha, if_neg (by omega)]
  · by_cases hc : c < a
    · rw [if_neg ha, if_pos hc, if_neg (by omega)]
    · rw [if_neg ha, if_neg hc, if_pos (by omega)]
theorem m_isSense {S : zM} {a : Int} (h1 : -2147483648 ≤ a) (h2 : a ≤ 2147483647) (hb : 0 ≤ cnt S 0 ∧ cnt S 0 ≤ 6) : gX12_isSense S (J a) = some (bI (0 ≤ a ∧ a < cnt S 0)) := by
  unfold gX12_isSense
  simp only [J_0, J_1, J_2, J_3, J_4, J_5, J_6, J_7, J_8, J_9, J_10, J_11, J_12, J_14, J_15, J_16, J_19, J_20, J_21, J_22, J_23, J_24, J_25, J_28, J_30, J_31, J_32, J_40, J_44, J_47, J_48, J_49, J_50, J_53, J_54, J_57, J_59, J_74, J_75, J_78, J_84, J_97, J_99, J_100, J_120, J_122, J_126, J_132, J_138, J_144, J_150, J_156, J_162, J_198, J_200, J_202, J_206, J_210, J_214, J_218, J_222, J_226, J_230, J_234, J_238, J_239, J_240, J_241, J_242, J_243, J_255, J_263, J_283, J_303, J_399, J_400, J_401, J_463, J_700, J_701, J_999, J_1000, J_2048, J_4095, J_4096, J_6000, J_9999, J_10000, J_65536, J_65537, J_2147483647, J_neg]
  by_cases h : gI S 0 14 = J 0
  · have e : cnt S 0 = 0 := if_pos h
    rw [if_pos h, e]
    unfold bI
    rw [if_neg (by omega)]
  · have e : cnt S 0 = iI S 3 238 := if_neg h
    rw [e] at hb ⊢
    rw [if_neg h]
    have e2 : gI S 3 (ix (J 238)) - J 1 = J (iI S 3 238 - 1) := by
      rw [ix_J (by decide) (by decide), gI_J, J_sub]
      rfl
    rw [show ixb (J 238) 463 = true from by decide, ckt, e2, m_within h1 h2 (by decide) (by decide) (by omega) (by omega), b1s, iB0]
    unfold bI
    by_cases hx : 0 ≤ a ∧ a ≤ iI S 3 238 - 1
    · rw [if_pos hx, if_pos (by omega)]
    · rw [if_neg hx, if_neg (by omega)]
theorem m_isSayer {S : zM} {a : Int} (h1 : -2147483648 ≤ a) (h2 : a ≤ 2147483647) (hb : 0 ≤ cnt S 1 ∧ cnt S 1 ≤ 6) : gX12_isSayer S (J a) = some (bI (0 ≤ a ∧ a < cnt S 1)) := by
  unfold gX12_isSayer
  simp only [J_0, J_1, J_2, J_3, J_4, J_5, J_6, J_7, J_8, J_9, J_10, J_11, J_12, J_14, J_15, J_16, J_19, J_20, J_21, J_22, J_23, J_24, J_25, J_28, J_30, J_31, J_32, J_40, J_44, J_47, J_48, J_49, J_50, J_53, J_54, J_57, J_59, J_74, J_75, J_78, J_84, J_97, J_99, J_100, J_120, J_122, J_126, J_132, J_138, J_144, J_150, J_156, J_162, J_198, J_200, J_202, J_206, J_210, J_214, J_218, J_222, J_226, J_230, J_234, J_238, J_239, J_240, J_241, J_242, J_243, J_255, J_263, J_283, J_303, J_399, J_400, J_401, J_463, J_700, J_701, J_999, J_1000, J_2048, J_4095, J_4096, J_6000, J_9999, J_10000, J_65536, J_65537, J_2147483647, J_neg]
  by_cases h : gI S 0 14 = J 0
  · have e : cnt S 1 = 0 := if_pos h
    rw [if_pos h, e]
    unfold bI
    rw [if_neg (by omega)]
  · have e : cnt S 1 = iI S 3 239 := if_neg h
    rw [e] at hb ⊢
    rw [if_neg h]
    have e2 : gI S 3 (ix (J 239)) - J 1 = J (iI S 3 239 - 1) := by
      rw [ix_J (by decide) (by decide), gI_J, J_sub]
      rfl
    rw [show ixb (J 239) 463 = true from by decide, ckt, e2, m_within h1 h2 (by decide) (by decide) (by omega) (by omega), b1s, iB0]
    unfold bI
    by_cases hx : 0 ≤ a ∧ a ≤ iI S 3 239 - 1
    · rw [if_pos hx, if_pos (by omega)]
    · rw [if_neg hx, if_neg (by omega)]
theorem m_isPay {S : zM} {a : Int} (h1 : -2147483648 ≤ a) (h2 : a ≤ 2147483647) (hb : 0 ≤ cnt S 3 ∧ cnt S 3 ≤ 4) : gX12_isPay S (J a) = some (bI (0 ≤ a ∧ a < cnt S 3)) := by
  unfold gX12_isPay
  simp only [J_0, J_1, J_2, J_3, J_4, J_5, J_6, J_7, J_8, J_9, J_10, J_11, J_12, J_14, J_15, J_16, J_19, J_20, J_21, J_22, J_23, J_24, J_25, J_28, J_30, J_31, J_32, J_40, J_44, J_47, J_48, J_49, J_50, J_53, J_54, J_57, J_59, J_74, J_75, J_78, J_84, J_97, J_99, J_100, J_120, J_122, J_126, J_132, J_138, J_144, J_150, J_156, J_162, J_198, J_200, J_202, J_206, J_210, J_214, J_218, J_222, J_226, J_230, J_234, J_238, J_239, J_240, J_241, J_242, J_243, J_255, J_263, J_283, J_303, J_399, J_400, J_401, J_463, J_700, J_701, J_999, J_1000, J_2048, J_4095, J_4096, J_6000, J_9999, J_10000, J_65536, J_65537, J_2147483647, J_neg]
  by_cases h : gI S 0 14 = J 0
  · have e : cnt S 3 = 0 := if_pos h
    rw [if_pos h, e]
    unfold bI
    rw [if_neg (by omega)]
  · have e : cnt S 3 = iI S 3 241 := if_neg h
    rw [e] at hb ⊢
    rw [if_neg h]
    have e2 : gI S 3 (ix (J 241)) - J 1 = J (iI S 3 241 - 1) := by
      rw [ix_J (by decide) (by decide), gI_J, J_sub]
      rfl
    rw [show ixb (J 241) 463 = true from by decide, ckt, e2, m_within h1 h2 (by decide) (by decide) (by omega) (by omega), b1s, iB0]
    unfold bI
    by_cases hx : 0 ≤ a ∧ a ≤ iI S 3 241 - 1
    · rw [if_pos hx, if_pos (by omega)]
    · rw [if_neg hx, if_neg (by omega)]
theorem zb3 {H : Nat} (h : H = 6 ∨ H = 243) : zobb cW 3 H = true := by rcases h with rfl | rfl <;> decide
theorem c_isSense {S : zM} {H : Nat} {a c : Int} (h1 : -2147483648 ≤ a) (h2 : a ≤ 2147483647) (hH : H = 6 ∨ H = 243) (hr : gR S 0 8 = H) (hc : gI S H 6 = J c) (hb : 0 ≤ c ∧ c ≤ 6) : gX11_isSense S (J a) = some (bI (0 ≤ a ∧ a < c)) := by
  unfold gX11_isSense
  simp only [J_0, J_1, J_2, J_3, J_4, J_5, J_6, J_7, J_8, J_9, J_10, J_11, J_12, J_14, J_15, J_16, J_19, J_20, J_21, J_22, J_23, J_24, J_25, J_28, J_30, J_31, J_32, J_40, J_44, J_47, J_48, J_49, J_50, J_53, J_54, J_57, J_59, J_74, J_75, J_78, J_84, J_97, J_99, J_100, J_120, J_122, J_126, J_132, J_138, J_144, J_150, J_156, J_162, J_198, J_200, J_202, J_206, J_210, J_214, J_218, J_222, J_226, J_230, J_234, J_238, J_239, J_240, J_241, J_242, J_243, J_255, J_263, J_283, J_303, J_399, J_400, J_401, J_463, J_700, J_701, J_999, J_1000, J_2048, J_4095, J_4096, J_6000, J_9999, J_10000, J_65536, J_65537, J_2147483647, J_neg]
  rw [hr, zb3 hH, ckt, hc, iLT h1 h2 (by decide) (by decide), iLE (by omega) (by omega) h1 h2]
  unfold bI
  by_cases ha : a < 0
  · rw [if_pos ha, if_neg (by omega)]
  · by_cases hx : c ≤ a
    · rw [if_neg ha, if_pos hx, if_neg (by omega)]
    · rw [if_neg ha, if_neg hx, if_pos (by omega)]
theorem c_isSayer {S : zM} {H : Nat} {a c : Int} (h1 : -2147483648 ≤ a) (h2 : a ≤ 2147483647) (hH : H = 6 ∨ H = 243) (hr : gR S 0 8 = H) (hc : gI S H 7 = J c) (hb : 0 ≤ c ∧ c ≤ 6) : gX11_isSayer S (J a) = some (bI (0 ≤ a ∧ a < c)) := by
  unfold gX11_isSayer
  simp only [J_0, J_1, J_2, J_3, J_4, J_5, J_6, J_7, J_8, J_9, J_10, J_11, J_12, J_14, J_15, J_16, J_19, J_20, J_21, J_22, J_23, J_24, J_25, J_28, J_30, J_31, J_32, J_40, J_44, J_47, J_48, J_49, J_50, J_53, J_54, J_57, J_59, J_74, J_75, J_78, J_84, J_97, J_99, J_100, J_120, J_122, J_126, J_132, J_138, J_144, J_150, J_156, J_162, J_198, J_200, J_202, J_206, J_210, J_214, J_218, J_222, J_226, J_230, J_234, J_238, J_239, J_240, J_241, J_242, J_243, J_255, J_263, J_283, J_303, J_399, J_400, J_401, J_463, J_700, J_701, J_999, J_1000, J_2048, J_4095, J_4096, J_6000, J_9999, J_10000, J_65536, J_65537, J_2147483647, J_neg]
  rw [hr, zb3 hH, ckt, hc, iLT h1 h2 (by decide) (by decide), iLE (by omega) (by omega) h1 h2]
  unfold bI
  by_cases ha : a < 0
  · rw [if_pos ha, if_neg (by omega)]
  · by_cases hx : c ≤ a
    · rw [if_neg ha, if_pos hx, if_neg (by omega)]
    · rw [if_neg ha, if_neg hx, if_pos (by omega)]
theorem c_isPlan {S : zM} {H : Nat} {a c : Int} (h1 : -2147483648 ≤ a) (h2 : a ≤ 2147483647) (hH : H = 6 ∨ H = 243) (hr : gR S 0 8 = H) (hc : gI S H 8 = J c) (hb : 0 ≤ c ∧ c ≤ 4) : gX11_isPlan S (J a) = some (bI (0 ≤ a ∧ a < c)) := by
  unfold gX11_isPlan
  simp only [J_0, J_1, J_2, J_3, J_4, J_5, J_6, J_7, J_8, J_9, J_10, J_11, J_12, J_14, J_15, J_16, J_19, J_20, J_21, J_22, J_23, J_24, J_25, J_28, J_30, J_31, J_32, J_40, J_44, J_47, J_48, J_49, J_50, J_53, J_54, J_57, J_59, J_74, J_75, J_78, J_84, J_97, J_99, J_100, J_120, J_122, J_126, J_132, J_138, J_144, J_150, J_156, J_162, J_198, J_200, J_202, J_206, J_210, J_214, J_218, J_222, J_226, J_230, J_234, J_238, J_239, J_240, J_241, J_242, J_243, J_255, J_263, J_283, J_303, J_399, J_400, J_401, J_463, J_700, J_701, J_999, J_1000, J_2048, J_4095, J_4096, J_6000, J_9999, J_10000, J_65536, J_65537, J_2147483647, J_neg]
  rw [hr, zb3 hH, ckt, hc, iLT h1 h2 (by decide) (by decide), iLE (by omega) (by omega) h1 h2]
  unfold bI
  by_cases ha : a < 0
  · rw [if_pos ha, if_neg (by omega)]
  · by_cases hx : c ≤ a
    · rw [if_neg ha, if_pos hx, if_neg (by omega)]
    · rw [if_neg ha, if_neg hx, if_pos (by omega)]
theorem c_isPay {S : zM} {H : Nat} {a c : Int} (h1 : -2147483648 ≤ a) (h2 : a ≤ 2147483647) (hH : H = 6 ∨ H = 243) (hr : gR S 0 8 = H) (hc : gI S H 9 = J c) (hb : 0 ≤ c ∧ c ≤ 4) : gX11_isPay S (J a) = some (bI (0 ≤ a ∧ a < c)) := by
  unfold gX11_isPay
  simp only [J_0, J_1, J_2, J_3, J_4, J_5, J_6, J_7, J_8, J_9, J_10, J_11, J_12, J_14, J_15, J_16, J_19, J_20, J_21, J_22, J_23, J_24, J_25, J_28, J_30, J_31, J_32, J_40, J_44, J_47, J_48, J_49, J_50, J_53, J_54, J_57, J_59, J_74, J_75, J_78, J_84, J_97, J_99, J_100, J_120, J_122, J_126, J_132, J_138, J_144, J_150, J_156, J_162, J_198, J_200, J_202, J_206, J_210, J_214, J_218, J_222, J_226, J_230, J_234, J_238, J_239, J_240, J_241, J_242, J_243, J_255, J_263, J_283, J_303, J_399, J_400, J_401, J_463, J_700, J_701, J_999, J_1000, J_2048, J_4095, J_4096, J_6000, J_9999, J_10000, J_65536, J_65537, J_2147483647, J_neg]
  rw [hr, zb3 hH, ckt, hc, iLT h1 h2 (by decide) (by decide), iLE (by omega) (by omega) h1 h2]
  unfold bI
  by_cases ha : a < 0
  · rw [if_pos ha, if_neg (by omega)]
  · by_cases hx : c ≤ a
    · rw [if_neg ha, if_pos hx, if_neg (by omega)]
    · rw [if_neg ha, if_neg hx, if_pos (by omega)]
theorem c_isSize {a : Int} (h1 : -2147483648 ≤ a) (h2 : a ≤ 2147483647) : gX11_isSize (J a) = some (bI (1 ≤ a ∧ a ≤ 400)) := by
  unfold gX11_isSize
  simp only [J_0, J_1, J_2, J_3, J_4, J_5, J_6, J_7, J_8, J_9, J_10, J_11, J_12, J_14, J_15, J_16, J_19, J_20, J_21, J_22, J_23, J_24, J_25, J_28, J_30, J_31, J_32, J_40, J_44, J_47, J_48, J_49, J_50, J_53, J_54, J_57, J_59, J_74, J_75, J_78, J_84, J_97, J_99, J_100, J_120, J_122, J_126, J_132, J_138, J_144, J_150, J_156, J_162, J_198, J_200, J_202, J_206, J_210, J_214, J_218, J_222, J_226, J_230, J_234, J_238, J_239, J_240, J_241, J_242, J_243, J_255, J_263, J_283, J_303, J_399, J_400, J_401, J_463, J_700, J_701, J_999, J_1000, J_2048, J_4095, J_4096, J_6000, J_9999, J_10000, J_65536, J_65537, J_2147483647, J_neg]
  rw [iLT h1 h2 (by decide) (by decide), iLT (by decide) (by decide) h1 h2]
  unfold bI
  by_cases ha : a < 1
  · rw [if_pos ha, if_neg (by omega)]
  · by_cases hx : 400 < a
    · rw [if_neg ha, if_pos hx, if_neg (by omega)]
    · rw [if_neg ha, if_neg hx, if_pos (by omega)]
theorem c_isPercent {a : Int} (h1 : -2147483648 ≤ a) (h2 : a ≤ 2147483647) : gX11_isPercent (J a) = some (bI (1 ≤ a ∧ a ≤ 100)) := by
  unfold gX11_isPercent
  simp only [J_0, J_1, J_2, J_3, J_4, J_5, J_6, J_7, J_8, J_9, J_10, J_11, J_12, J_14, J_15, J_16, J_19, J_20, J_21, J_22, J_23, J_24, J_25, J_28, J_30, J_31, J_32, J_40, J_44, J_47, J_48, J_49, J_50, J_53, J_54, J_57, J_59, J_74, J_75, J_78, J_84, J_97, J_99, J_100, J_120, J_122, J_126, J_132, J_138, J_144, J_150, J_156, J_162, J_198, J_200, J_202, J_206, J_210, J_214, J_218, J_222, J_226, J_230, J_234, J_238, J_239, J_240, J_241, J_242, J_243, J_255, J_263, J_283, J_303, J_399, J_400, J_401, J_463, J_700, J_701, J_999, J_1000, J_2048, J_4095, J_4096, J_6000, J_9999, J_10000, J_65536, J_65537, J_2147483647, J_neg]
  rw [iLT h1 h2 (by decide) (by decide), iLT (by decide) (by decide) h1 h2]
  unfold bI
  by_cases ha : a < 1
  · rw [if_pos ha, if_neg (by omega)]
  · by_cases hx : 100 < a
    · rw [if_neg ha, if_pos hx, if_neg (by omega)]
    · rw [if_neg ha, if_neg hx, if_pos (by omega)]
theorem c_isFar {a : Int} (h1 : -2147483648 ≤ a) (h2 : a ≤ 2147483647) : gX11_isFar (J a) = some (bI (-50 ≤ a ∧ a ≤ 50)) := by
  unfold gX11_isFar
  simp only [J_0, J_1, J_2, J_3, J_4, J_5, J_6, J_7, J_8, J_9, J_10, J_11, J_12, J_14, J_15, J_16, J_19, J_20, J_21, J_22, J_23, J_24, J_25, J_28, J_30, J_31, J_32, J_40, J_44, J_47, J_48, J_49, J_50, J_53, J_54, J_57, J_59, J_74, J_75, J_78, J_84, J_97, J_99, J_100, J_120, J_122, J_126, J_132, J_138, J_144, J_150, J_156, J_162, J_198, J_200, J_202, J_206, J_210, J_214, J_218, J_222, J_226, J_230, J_234, J_238, J_239, J_240, J_241, J_242, J_243, J_255, J_263, J_283, J_303, J_399, J_400, J_401, J_463, J_700, J_701, J_999, J_1000, J_2048, J_4095, J_4096, J_6000, J_9999, J_10000, J_65536, J_65537, J_2147483647, J_neg]
  rw [iLT h1 h2 (by decide) (by decide), iLT (by decide) (by decide) h1 h2]
  unfold bI
  by_cases ha : a < -50
  · rw [if_pos ha, if_neg (by omega)]
  · by_cases hx : 50 < a
    · rw [if_neg ha, if_pos hx, if_neg (by omega)]
    · rw [if_neg ha, if_neg hx, if_pos (by omega)]
