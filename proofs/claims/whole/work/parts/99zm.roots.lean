/-! Roots, by both. -/
theorem pwN_s {x : Int} {n : Nat} : pwN x (n + 1) = x * pwN x n := rfl
theorem pwN_0 {x : Int} (hx : 0 ≤ x) (n : Nat) : 0 ≤ pwN x n := by
  induction n with
  | zero => show (0 : Int) ≤ 1; omega
  | succ n ih => exact Int.mul_nonneg hx ih
theorem pwN_m {x y : Int} (hx : 0 ≤ x) (h : x ≤ y) (n : Nat) : pwN x n ≤ pwN y n := by
  induction n with
  | zero => exact Int.le_refl _
  | succ n ih => exact Int.mul_le_mul h ih (pwN_0 hx n) (by omega)
theorem pwN_b {x : Int} (h1 : 0 ≤ x) (h2 : x ≤ 10000) {n : Nat} (hn : n ≤ 3) : 0 ≤ pwN x n ∧ pwN x n ≤ 1000000000000 := by
  refine ⟨pwN_0 h1 n, Int.le_trans (pwN_m h1 h2 n) ?_⟩
  have : n = 0 ∨ n = 1 ∨ n = 2 ∨ n = 3 := by omega
  rcases this with z | z | z | z <;> subst z <;> decide
theorem c_raised_L {x : Int} {a : Nat} (ha : a ≤ 3) : ∀ (f i : Nat) (v : Int), i ≤ a → a < f + i → gX9_raised_L5 (JL x) (J a) f (JL v) (J i) = some (JL (v * pwN x (a - i))) := by
  intro f
  induction f with
  | zero => intro i v h1 h2; omega
  | succ f ih =>
    intro i v h1 h2
    unfold gX9_raised_L5
    simp only [J_0, J_1, J_2, J_3, J_4, J_5, J_6, J_7, J_8, J_9, J_10, J_11, J_12, J_14, J_15, J_16, J_19, J_20, J_21, J_22, J_23, J_24, J_25, J_28, J_30, J_31, J_32, J_40, J_44, J_47, J_48, J_49, J_50, J_53, J_54, J_57, J_59, J_74, J_75, J_78, J_84, J_97, J_99, J_100, J_120, J_122, J_126, J_132, J_138, J_144, J_150, J_156, J_162, J_198, J_200, J_202, J_206, J_210, J_214, J_218, J_222, J_226, J_230, J_234, J_238, J_239, J_240, J_241, J_242, J_243, J_255, J_263, J_283, J_303, J_399, J_400, J_401, J_463, J_700, J_701, J_999, J_1000, J_2048, J_4095, J_4096, J_6000, J_9999, J_10000, J_65536, J_65537, J_2147483647, J_neg]
    rw [iLE (by omega) (by omega) (by omega) (by omega)]
    by_cases e : i = a
    · rw [if_pos (by omega), e, Nat.sub_self]
      show some (JL v) = some (JL (v * 1))
      rw [Int.mul_one]
    · rw [if_neg (by omega), JL_mul, J_add, show (i : Int) + 1 = ((i + 1 : Nat) : Int) by omega, ih (i + 1) _ (by omega) (by omega), show a - i = (a - (i + 1)) + 1 by omega, pwN_s, Int.mul_assoc]
theorem c_raised {x : Int} {a : Nat} (ha : a ≤ 3) : gX9_raised (JL x) (J a) = some (JL (pwN x a)) := by
  unfold gX9_raised
  simp only [J_0, J_1, J_2, J_3, J_4, J_5, J_6, J_7, J_8, J_9, J_10, J_11, J_12, J_14, J_15, J_16, J_19, J_20, J_21, J_22, J_23, J_24, J_25, J_28, J_30, J_31, J_32, J_40, J_44, J_47, J_48, J_49, J_50, J_53, J_54, J_57, J_59, J_74, J_75, J_78, J_84, J_97, J_99, J_100, J_120, J_122, J_126, J_132, J_138, J_144, J_150, J_156, J_162, J_198, J_200, J_202, J_206, J_210, J_214, J_218, J_222, J_226, J_230, J_234, J_238, J_239, J_240, J_241, J_242, J_243, J_255, J_263, J_283, J_303, J_399, J_400, J_401, J_463, J_700, J_701, J_999, J_1000, J_2048, J_4095, J_4096, J_6000, J_9999, J_10000, J_65536, J_65537, J_2147483647, J_neg, JL_0, JL_1, JL_9, JL_10, JL_32, JL_40, JL_48, JL_64, JL_97, JL_100, JL_4095, JL_4096, JL_16384, JL_65537, JL_524287, JL_524288, JL_268435455, JL_1099511627775, JL_neg]
  rw [show J 0 = J ((0 : Nat) : Int) from rfl, c_raised_L ha FU 0 1 (by omega) (by have := FUs (n := 10) (by omega); omega), Int.one_mul]
  rfl
theorem m_power {x : Int} {a : Nat} (ha : 1 ≤ a ∧ a ≤ 3) : gX12_power (JL x) (J a) = some (JL (pwN x a)) := by
  unfold gX12_power
  simp only [J_0, J_1, J_2, J_3, J_4, J_5, J_6, J_7, J_8, J_9, J_10, J_11, J_12, J_14, J_15, J_16, J_19, J_20, J_21, J_22, J_23, J_24, J_25, J_28, J_30, J_31, J_32, J_40, J_44, J_47, J_48, J_49, J_50, J_53, J_54, J_57, J_59, J_74, J_75, J_78, J_84, J_97, J_99, J_100, J_120, J_122, J_126, J_132, J_138, J_144, J_150, J_156, J_162, J_198, J_200, J_202, J_206, J_210, J_214, J_218, J_222, J_226, J_230, J_234, J_238, J_239, J_240, J_241, J_242, J_243, J_255, J_263, J_283, J_303, J_399, J_400, J_401, J_463, J_700, J_701, J_999, J_1000, J_2048, J_4095, J_4096, J_6000, J_9999, J_10000, J_65536, J_65537, J_2147483647, J_neg]
  rw [iEQ (by omega) (by omega) (by decide) (by decide), iEQ (by omega) (by omega) (by decide) (by decide), JL_mul, JL_mul]
  have : a = 1 ∨ a = 2 ∨ a = 3 := by omega
  rcases this with z | z | z
  · subst z
    rw [if_pos (by decide)]
    show some (JL x) = some (JL (x * 1))
    rw [Int.mul_one]
  · subst z
    rw [if_neg (by decide), if_pos (by decide)]
    show some (JL (x * x)) = some (JL (x * (x * 1)))
    rw [Int.mul_one]
  · subst z
    rw [if_neg (by decide), if_neg (by decide)]
    show some (JL (x * x * x)) = some (JL (x * (x * (x * 1))))
    rw [Int.mul_one, Int.mul_assoc]
/-- what the root's search finds -/
theorem rtC_u {c r : Nat} {v : Int} (hr : r ≤ 9999) (h1 : r = 0 ∨ pwN r c ≤ v) (h2 : r = 9999 ∨ v < pwN ((r : Int) + 1) c) : rtC c v = r := by
  refine cTT_u (fun i => pwN_m (by omega) (by omega) c) hr (fun i hi => ?_) (fun h => ?_)
  · have : pwN ((i : Int) + 1) c ≤ pwN (r : Int) c := pwN_m (by omega) (by omega) c
    omega
  · omega
def dD : Nat → Int
  | 0 => 0
  | m + 1 => 2 * dD m + 1
theorem c_root_L {c : Nat} {v : Int} (hc : 1 ≤ c ∧ c ≤ 3) (hv : 0 ≤ v ∧ v ≤ 1000000000000) : ∀ (m f : Nat) (lo hi e : Nat), lo ≤ hi → hi ≤ 9999 → (hi : Int) - lo ≤ dD m → e + m ≤ 31 → m < f → (lo = 0 ∨ pwN lo c ≤ v) → (hi = 9999 ∨ v < pwN ((hi : Int) + 1) c) → gX9_root_L10 (JL v) (J c) f (J lo) (J hi) (J e) = some (J (rtC c v)) := by
  intro m
  induction m with
  | zero =>
    intro f lo hi e h1 h2 h3 h4 h5 h6 h7
    have e0 : dD 0 = 0 := rfl
    obtain ⟨f', rfl⟩ : ∃ f', f = f' + 1 := ⟨f - 1, by omega⟩
    have hh : lo = hi := by omega
    subst hh
    unfold gX9_root_L10
    simp only [J_0, J_1, J_2, J_3, J_4, J_5, J_6, J_7, J_8, J_9, J_10, J_11, J_12, J_14, J_15, J_16, J_19, J_20, J_21, J_22, J_23, J_24, J_25, J_28, J_30, J_31, J_32, J_40, J_44, J_47, J_48, J_49, J_50, J_53, J_54, J_57, J_59, J_74, J_75, J_78, J_84, J_97, J_99, J_100, J_120, J_122, J_126, J_132, J_138, J_144, J_150, J_156, J_162, J_198, J_200, J_202, J_206, J_210, J_214, J_218, J_222, J_226, J_230, J_234, J_238, J_239, J_240, J_241, J_242, J_243, J_255, J_263, J_283, J_303, J_399, J_400, J_401, J_463, J_700, J_701, J_999, J_1000, J_2048, J_4095, J_4096, J_6000, J_9999, J_10000, J_65536, J_65537, J_2147483647, J_neg]
    rw [iLE (by decide) (by decide) (by omega) (by omega), if_neg (by omega), iLE (by omega) (by omega) (by omega) (by omega), if_pos (Int.le_refl _), rtC_u h2 h6 h7]
  | succ m ih =>
    intro f lo hi e h1 h2 h3 h4 h5 h6 h7
    have es : dD (m + 1) = 2 * dD m + 1 := rfl
    obtain ⟨f', rfl⟩ : ∃ f', f = f' + 1 := ⟨f - 1, by omega⟩
    unfold gX9_root_L10
    simp only [J_0, J_1, J_2, J_3, J_4, J_5, J_6, J_7, J_8, J_9, J_10, J_11, J_12, J_14, J_15, J_16, J_19, J_20, J_21, J_22, J_23, J_24, J_25, J_28, J_30, J_31, J_32, J_40, J_44, J_47, J_48, J_49, J_50, J_53, J_54, J_57, J_59, J_74, J_75, J_78, J_84, J_97, J_99, J_100, J_120, J_122, J_126, J_132, J_138, J_144, J_150, J_156, J_162, J_198, J_200, J_202, J_206, J_210, J_214, J_218, J_222, J_226, J_230, J_234, J_238, J_239, J_240, J_241, J_242, J_243, J_255, J_263, J_283, J_303, J_399, J_400, J_401, J_463, J_700, J_701, J_999, J_1000, J_2048, J_4095, J_4096, J_6000, J_9999, J_10000, J_65536, J_65537, J_2147483647, J_neg]
    rw [iLE (by decide) (by decide) (by omega) (by omega), if_neg (by omega), iLE (by omega) (by omega) (by omega) (by omega)]
    by_cases z : lo = hi
    · subst z
      rw [if_pos (Int.le_refl _), rtC_u h2 h6 h7]
    · generalize hx : (lo + hi + 1) / 2 = x
      have a1 : (J (lo : Int) + J (hi : Int) + J 1) / J 2 = J (x : Int) := by
        rw [J_add, J_add, J_div (by omega) (by omega) (by omega) (by omega)]
        congr 1
        omega
      have pb := pwN_b (x := (x : Int)) (by omega) (by omega) (n := c) hc.2
      have a2 : J (e : Int) + J 1 = J ((e + 1 : Nat) : Int) := by rw [J_add]; rfl
      have a3 : J (x : Int) - J 1 = J ((x - 1 : Nat) : Int) := by rw [J_sub]; congr 1; omega
      rw [if_neg (by omega), a1, lts, J_toL (by omega) (by omega), c_raised hc.2, b1s, iLTl (by omega) (by omega) (by omega) (by omega), a2, a3]
      by_cases y : v < pwN (x : Int) c
      · rw [if_pos y]
        exact ih f' lo (x - 1) (e + 1) (by omega) (by omega) (by omega) (by omega) (by omega) h6 (Or.inr (by rw [show ((x - 1 : Nat) : Int) + 1 = (x : Int) by omega]; exact y))
      · rw [if_neg y]
        exact ih f' x hi (e + 1) (by omega) (by omega) (by omega) (by omega) (by omega) (Or.inr (by omega)) h7
theorem c_root {c : Nat} {v : Int} (hc : 1 ≤ c ∧ c ≤ 3) (hv : 0 ≤ v ∧ v ≤ 1000000000000) : gX9_root (JL v) (J c) = some (J (rtC c v)) := by
  have hf := FUs (n := 100) (by omega)
  unfold gX9_root
  simp only [J_0, J_1, J_2, J_3, J_4, J_5, J_6, J_7, J_8, J_9, J_10, J_11, J_12, J_14, J_15, J_16, J_19, J_20, J_21, J_22, J_23, J_24, J_25, J_28, J_30, J_31, J_32, J_40, J_44, J_47, J_48, J_49, J_50, J_53, J_54, J_57, J_59, J_74, J_75, J_78, J_84, J_97, J_99, J_100, J_120, J_122, J_126, J_132, J_138, J_144, J_150, J_156, J_162, J_198, J_200, J_202, J_206, J_210, J_214, J_218, J_222, J_226, J_230, J_234, J_238, J_239, J_240, J_241, J_242, J_243, J_255, J_263, J_283, J_303, J_399, J_400, J_401, J_463, J_700, J_701, J_999, J_1000, J_2048, J_4095, J_4096, J_6000, J_9999, J_10000, J_65536, J_65537, J_2147483647, J_neg]
  exact c_root_L hc hv 14 FU 0 9999 0 (by omega) (by omega) (by decide) (by omega) (by omega) (Or.inl rfl) (Or.inl rfl)
def dE : Nat → Int
  | 0 => 1
  | m + 1 => 2 * dE m
theorem m_root_L {c : Nat} {v : Int} (hc : 1 ≤ c ∧ c ≤ 3) (hv : 0 ≤ v ∧ v ≤ 1000000000000) : ∀ (m f : Nat) (lo hi : Nat), lo < hi → hi ≤ 10000 → (hi : Int) - lo ≤ dE m → m < f → (lo = 0 ∨ pwN lo c ≤ v) → (hi = 10000 ∨ v < pwN (hi : Int) c) → gX12_root_L15 (J c) (JL v) f (J lo) (J hi) = some (J (rtC c v)) := by
  intro m
  induction m with
  | zero =>
    intro f lo hi h1 h2 h3 h5 h6 h7
    have e0 : dE 0 = 1 := rfl
    obtain ⟨f', rfl⟩ : ∃ f', f = f' + 1 := ⟨f - 1, by omega⟩
    have hh : hi = lo + 1 := by omega
    subst hh
    unfold gX12_root_L15
    simp only [J_0, J_1, J_2, J_3, J_4, J_5, J_6, J_7, J_8, J_9, J_10, J_11, J_12, J_14, J_15, J_16, J_19, J_20, J_21, J_22, J_23, J_24, J_25, J_28, J_30, J_31, J_32, J_40, J_44, J_47, J_48, J_49, J_50, J_53, J_54, J_57, J_59, J_74, J_75, J_78, J_84, J_97, J_99, J_100, J_120, J_122, J_126, J_132, J_138, J_144, J_150, J_156, J_162, J_198, J_200, J_202, J_206, J_210, J_214, J_218, J_222, J_226, J_230, J_234, J_238, J_239, J_240, J_241, J_242, J_243, J_255, J_263, J_283, J_303, J_399, J_400, J_401, J_463, J_700, J_701, J_999, J_1000, J_2048, J_4095, J_4096, J_6000, J_9999, J_10000, J_65536, J_65537, J_2147483647, J_neg]
    rw [J_sub, iLE (by omega) (by omega) (by omega) (by omega), if_pos (by omega), rtC_u (by omega) h6 (by
      rcases h7 with z | z
      · exact Or.inl (by omega)
      · exact Or.inr (by rw [show (lo : Int) + 1 = ((lo + 1 : Nat) : Int) by omega]; exact z))]
  | succ m ih =>
    intro f lo hi h1 h2 h3 h5 h6 h7
    have es : dE (m + 1) = 2 * dE m := rfl
    obtain ⟨f', rfl⟩ : ∃ f', f = f' + 1 := ⟨f - 1, by omega⟩
    unfold gX12_root_L15
    simp only [J_0, J_1, J_2, J_3, J_4, J_5, J_6, J_7, J_8, J_9, J_10, J_11, J_12, J_14, J_15, J_16, J_19, J_20, J_21, J_22, J_23, J_24, J_25, J_28, J_30, J_31, J_32, J_40, J_44, J_47, J_48, J_49, J_50, J_53, J_54, J_57, J_59, J_74, J_75, J_78, J_84, J_97, J_99, J_100, J_120, J_122, J_126, J_132, J_138, J_144, J_150, J_156, J_162, J_198, J_200, J_202, J_206, J_210, J_214, J_218, J_222, J_226, J_230, J_234, J_238, J_239, J_240, J_241, J_242, J_243, J_255, J_263, J_283, J_303, J_399, J_400, J_401, J_463, J_700, J_701, J_999, J_1000, J_2048, J_4095, J_4096, J_6000, J_9999, J_10000, J_65536, J_65537, J_2147483647, J_neg]
    rw [J_sub, iLE (by omega) (by omega) (by omega) (by omega)]
    by_cases z : hi = lo + 1
    · subst z
      rw [if_pos (by omega), rtC_u (by omega) h6 (by
        rcases h7 with z | z
        · exact Or.inl (by omega)
        · exact Or.inr (by rw [show (lo : Int) + 1 = ((lo + 1 : Nat) : Int) by omega]; exact z))]
    · generalize hx : (lo + hi) / 2 = x
      have a1 : (J (lo : Int) + J (hi : Int)) / J 2 = J (x : Int) := by
        rw [J_add, J_div (by omega) (by omega) (by omega) (by omega)]
        congr 1
        omega
      have pb := pwN_b (x := (x : Int)) (by omega) (by omega) (n := c) hc.2
      rw [if_neg (by omega), a1, J_toL (by omega) (by omega), m_power hc, b1s, iLTl (by omega) (by omega) (by omega) (by omega)]
      by_cases y : v < pwN (x : Int) c
      · rw [if_pos y]
        exact ih f' lo x (by omega) (by omega) (by omega) (by omega) h6 (Or.inr y)
      · rw [if_neg y]
        exact ih f' x hi (by omega) (by omega) (by omega) (by omega) (Or.inr (by omega)) h7
theorem m_root {a c : Nat} {x : Int} (ha : 1 ≤ a ∧ a ≤ 3) (hc : 1 ≤ c ∧ c ≤ 3) (hx : 0 ≤ x ∧ x ≤ 9999) : gX12_root (J x) (J a) (J c) = some (J (rtC c (pwN x a))) := by
  have hf := FUs (n := 100) (by omega)
  have pb := pwN_b hx.1 (by omega) (n := a) ha.2
  unfold gX12_root
  simp only [J_0, J_1, J_2, J_3, J_4, J_5, J_6, J_7, J_8, J_9, J_10, J_11, J_12, J_14, J_15, J_16, J_19, J_20, J_21, J_22, J_23, J_24, J_25, J_28, J_30, J_31, J_32, J_40, J_44, J_47, J_48, J_49, J_50, J_53, J_54, J_57, J_59, J_74, J_75, J_78, J_84, J_97, J_99, J_100, J_120, J_122, J_126, J_132, J_138, J_144, J_150, J_156, J_162, J_198, J_200, J_202, J_206, J_210, J_214, J_218, J_222, J_226, J_230, J_234, J_238, J_239, J_240, J_241, J_242, J_243, J_255, J_263, J_283, J_303, J_399, J_400, J_401, J_463, J_700, J_701, J_999, J_1000, J_2048, J_4095, J_4096, J_6000, J_9999, J_10000, J_65536, J_65537, J_2147483647, J_neg]
  rw [J_toL (by omega) (by omega), m_power ha, b1s]
  exact m_root_L hc pb 14 FU 0 10000 (by omega) (by omega) (by decide) (by omega) (Or.inl rfl) (Or.inl rfl)
theorem stF_b {kd a c x : Int} (h : stOK kd a c) (hx : 0 ≤ x ∧ x ≤ 9999) : 0 ≤ stF kd a c x ∧ stF kd a c x ≤ 9999 := by
  unfold stF
  by_cases e : kd = 0
  · rw [if_pos e]
    exact cTT_b
  · rw [if_neg e]
    by_cases e1 : kd = 1
    · rw [if_pos e1]
      exact cTT_b
    · rw [if_neg e1]
      by_cases e2 : kd = 2
      · have hc : (1 ≤ a ∧ a ≤ 99) ∧ 1 ≤ c ∧ c ≤ 99 := by unfold stOK at h; omega
        have := Int.ediv_nonneg (a := a * x) (b := c) (Int.mul_nonneg (by omega) hx.1) (by omega)
        rw [if_pos e2]
        omega
      · rw [if_neg e2]
        have hc : 0 ≤ a := by unfold stOK at h; omega
        omega
theorem stF_m {kd a c x y : Int} (h : stOK kd a c) (hx : 0 ≤ x) (hy : x ≤ y) : stF kd a c x ≤ stF kd a c y := by
  unfold stF
  by_cases e : kd = 0
  · rw [if_pos e, if_pos e]
    exact cTT_m hy
  · rw [if_neg e, if_neg e]
    by_cases e1 : kd = 1
    · rw [if_pos e1, if_pos e1]
      exact cTT_m (pwN_m hx hy _)
    · rw [if_neg e1, if_neg e1]
      by_cases e2 : kd = 2
      · have hc : (1 ≤ a ∧ a ≤ 99) ∧ 1 ≤ c ∧ c ≤ 99 := by unfold stOK at h; omega
        have := Int.ediv_le_ediv (c := c) (a := a * x) (b := a * y) (by omega) (Int.mul_le_mul_of_nonneg_left hy (by omega))
        rw [if_pos e2, if_pos e2]
        omega
      · rw [if_neg e2, if_neg e2]
        omega
section
variable {C : zM} {q : Nat} {X : Nat → Int}
theorem c_take13 {kd a c : Int} (hk : stOK kd a c) (h0 : ¬ kd = 0) (hX : ∀ x, x < 401 → 0 ≤ X x ∧ X x ≤ 9999) : ∀ (f v : Nat) (S : zM), v ≤ 401 → 401 < f + v → fr (fun x _ => x = q + 5) C S → (∀ x, x < 401 → gI S (q + 5) x = J (if x < v then stF kd a c (X x) else X x)) → ∃ S', gX9_take_L13 q (J kd) (J a) (J c) f S (J v) = some S' ∧ fr (fun x _ => x = q + 5) C S' ∧ ∀ x, x < 401 → gI S' (q + 5) x = J (stF kd a c (X x)) := by
  intro f
  induction f with
  | zero => intro v S h1 h2; omega
  | succ f ih =>
    intro v S h1 h2 g hS
    unfold gX9_take_L13
    simp only [J_0, J_1, J_2, J_3, J_4, J_5, J_6, J_7, J_8, J_9, J_10, J_11, J_12, J_14, J_15, J_16, J_19, J_20, J_21, J_22, J_23, J_24, J_25, J_28, J_30, J_31, J_32, J_40, J_44, J_47, J_48, J_49, J_50, J_53, J_54, J_57, J_59, J_74, J_75, J_78, J_84, J_97, J_99, J_100, J_120, J_122, J_126, J_132, J_138, J_144, J_150, J_156, J_162, J_198, J_200, J_202, J_206, J_210, J_214, J_218, J_222, J_226, J_230, J_234, J_238, J_239, J_240, J_241, J_242, J_243, J_255, J_263, J_283, J_303, J_399, J_400, J_401, J_463, J_700, J_701, J_999, J_1000, J_2048, J_4095, J_4096, J_6000, J_9999, J_10000, J_65536, J_65537, J_2147483647, J_neg]
    rw [iLT (by decide) (by decide) (by omega) (by omega)]
    by_cases e : v = 401
    · rw [if_pos (by omega)]
      exact ⟨S, rfl, g, fun x hx => by rw [hS x hx, if_pos (by omega)]⟩
    · have hx := hX v (by omega)
      have e1 : gI S (q + 5) v = J (X v) := by rw [hS v (by omega), if_neg (by omega)]
      have x1 : ixb (J (v : Int)) 401 = true := ixb_J (by omega) (by omega) (by decide)
      have y1 : ix (J (v : Int)) = v := by rw [ix_J (by omega) (by omega)]; omega
      have a1 : J (v : Int) + J 1 = J ((v + 1 : Nat) : Int) := by rw [J_add]; rfl
      have nx := ih (v + 1) (pI S (q + 5) v (J (stF kd a c (X v)))) (by omega) (by omega) (fr_t g (fr_pI rfl)) (fun x h3 => by
        rw [rII]
        by_cases z : x = v
        · rw [if_pos ⟨rfl, z⟩, if_pos (by omega), z]
        · rw [if_neg (fun y => z y.2), hS x h3]
          by_cases y : x < v
          · rw [if_pos y, if_pos (by omega)]
          · rw [if_neg y, if_neg (by omega)])
      have hkd : 0 ≤ kd ∧ kd ≤ 3 := by unfold stOK at hk; omega
      rw [if_neg (by omega), x1, ckt, iEQ (by omega) (by omega) (by decide) (by decide), iEQ (by omega) (by omega) (by decide) (by decide), y1, e1, a1]
      by_cases e1' : kd = 1
      · have hac : (1 ≤ a ∧ a ≤ 3) ∧ 1 ≤ c ∧ c ≤ 3 := by unfold stOK at hk; omega
        have ea : J a = J ((a.toNat : Nat) : Int) := by congr 1; omega
        have ec : J c = J ((c.toNat : Nat) : Int) := by congr 1; omega
        have pb := pwN_b hx.1 (by omega) (n := a.toNat) (by omega)
        have es : stF kd a c (X v) = rtC c.toNat (pwN (X v) a.toNat) := by unfold stF; rw [if_neg h0, if_pos e1']
        have r1 : gX9_raised (JL (X v)) (J a) = some (JL (pwN (X v) a.toNat)) := by rw [ea]; exact c_raised (by omega)
        have r2 : gX9_root (JL (pwN (X v) a.toNat)) (J c) = some (J (stF kd a c (X v))) := by rw [ec, es]; exact c_root (by omega) pb
        rw [if_pos e1', J_toL (by omega) (by omega), r1, b1s, r2, b1s, ckt]
        exact nx
      · rw [if_neg e1']
        by_cases e2 : kd = 2
        · have hac : (1 ≤ a ∧ a ≤ 99) ∧ 1 ≤ c ∧ c ≤ 99 := by unfold stOK at hk; omega
          have es : stF kd a c (X v) = min 9999 (a * X v / c) := by unfold stF; rw [if_neg h0, if_neg e1', if_pos e2]
          have m1 : 0 ≤ a * X v := Int.mul_nonneg (by omega) hx.1
          have m2 : a * X v ≤ 99 * 9999 := Int.mul_le_mul hac.1.2 hx.2 hx.1 (by omega)
          have d1 := Int.ediv_nonneg (b := c) m1 (by omega)
          have d2 := Int.ediv_le_self (b := c) m1
          rw [if_pos e2, jmax_J (by omega) (by omega) (by omega) (by omega), show max 1 c = c by omega, show decide (¬ J c = J 0) = true from decide_eq_true (by rw [J_inj (by omega) (by omega) (by omega) (by omega)]; omega), ckt, ckt, J_mul, J_div (by omega) (by omega) (by omega) (by omega), jmin_J (by omega) (by omega) (by omega) (by omega), lts, ← es]
          exact nx
        · have hac : 0 ≤ a ∧ a ≤ 399 := by unfold stOK at hk; omega
          have es : stF kd a c (X v) = max 0 (X v - a) := by unfold stF; rw [if_neg h0, if_neg e1', if_neg e2]
          rw [if_neg e2, ckt, J_sub, jmax_J (by omega) (by omega) (by omega) (by omega), ← es]
          exact nx
theorem c_take {kd a c : Int} (hk : stOK kd a c) (hX : ∀ x, x < 401 → 0 ≤ X x ∧ X x ≤ 9999) (hm : ∀ x y, x ≤ y → y < 401 → X x ≤ X y) (hC : ∀ x, x < 401 → gI C (q + 5) x = J (X x)) : ∃ C', gX9_take C q (J kd) (J a) (J c) = some C' ∧ fr (fun x _ => x = q + 5) C C' ∧ ∀ x, x < 401 → gI C' (q + 5) x = J (stF kd a c (X x)) := by
  have hf := FUs (n := 1000) (by omega)
  have hkd : 0 ≤ kd ∧ kd ≤ 3 := by unfold stOK at hk; omega
  unfold gX9_take
  simp only [J_0, J_1, J_2, J_3, J_4, J_5, J_6, J_7, J_8, J_9, J_10, J_11, J_12, J_14, J_15, J_16, J_19, J_20, J_21, J_22, J_23, J_24, J_25, J_28, J_30, J_31, J_32, J_40, J_44, J_47, J_48, J_49, J_50, J_53, J_54, J_57, J_59, J_74, J_75, J_78, J_84, J_97, J_99, J_100, J_120, J_122, J_126, J_132, J_138, J_144, J_150, J_156, J_162, J_198, J_200, J_202, J_206, J_210, J_214, J_218, J_222, J_226, J_230, J_234, J_238, J_239, J_240, J_241, J_242, J_243, J_255, J_263, J_283, J_303, J_399, J_400, J_401, J_463, J_700, J_701, J_999, J_1000, J_2048, J_4095, J_4096, J_6000, J_9999, J_10000, J_65536, J_65537, J_2147483647, J_neg]
  rw [iEQ (by omega) (by omega) (by decide) (by decide)]
  by_cases e : kd = 0
  · have ha : 2 ≤ a ∧ a ≤ 99 := by unfold stOK at hk; omega
    obtain ⟨S', h1, h2, h3⟩ := c_L7 (C := C) (q := q) ha hX hm FU 0 0 C (by omega) (by omega) fr_r (fun x _ _ i hi => absurd hi (by omega)) (fun x hx => by rw [hC x hx, if_neg (by omega)])
    have e0 : mkT a 0 = 1 := rfl
    rw [e0, show J ((0 : Nat) : Int) = J 0 from rfl] at h1
    unfold gX9_passMarks
    simp only [J_0, J_1, J_2, J_3, J_4, J_5, J_6, J_7, J_8, J_9, J_10, J_11, J_12, J_14, J_15, J_16, J_19, J_20, J_21, J_22, J_23, J_24, J_25, J_28, J_30, J_31, J_32, J_40, J_44, J_47, J_48, J_49, J_50, J_53, J_54, J_57, J_59, J_74, J_75, J_78, J_84, J_97, J_99, J_100, J_120, J_122, J_126, J_132, J_138, J_144, J_150, J_156, J_162, J_198, J_200, J_202, J_206, J_210, J_214, J_218, J_222, J_226, J_230, J_234, J_238, J_239, J_240, J_241, J_242, J_243, J_255, J_263, J_283, J_303, J_399, J_400, J_401, J_463, J_700, J_701, J_999, J_1000, J_2048, J_4095, J_4096, J_6000, J_9999, J_10000, J_65536, J_65537, J_2147483647, J_neg]
    rw [if_pos e, h1, b1s]
    refine ⟨S', rfl, h2, fun x hx => ?_⟩
    rw [h3 x hx]
    unfold stF
    rw [if_pos e]
  · rw [if_neg e]
    exact c_take13 hk e hX FU 0 C (by omega) (by omega) fr_r (fun x hx => by rw [hC x hx, if_neg (by omega)])
end
