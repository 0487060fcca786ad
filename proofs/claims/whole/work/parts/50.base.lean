/-! Int32 and Int64 by whole numbers. -/
def J (x : Int) : Int32 := Int32.ofInt x
def JL (x : Int) : Int64 := Int64.ofInt x
theorem J_0 : (0 : Int32) = J 0 := (Int32.ofInt_eq_ofNat (n := 0)).symm
theorem J_1 : (1 : Int32) = J 1 := (Int32.ofInt_eq_ofNat (n := 1)).symm
theorem J_2 : (2 : Int32) = J 2 := (Int32.ofInt_eq_ofNat (n := 2)).symm
theorem J_3 : (3 : Int32) = J 3 := (Int32.ofInt_eq_ofNat (n := 3)).symm
theorem J_4 : (4 : Int32) = J 4 := (Int32.ofInt_eq_ofNat (n := 4)).symm
theorem J_5 : (5 : Int32) = J 5 := (Int32.ofInt_eq_ofNat (n := 5)).symm
theorem J_6 : (6 : Int32) = J 6 := (Int32.ofInt_eq_ofNat (n := 6)).symm
theorem J_7 : (7 : Int32) = J 7 := (Int32.ofInt_eq_ofNat (n := 7)).symm
theorem J_8 : (8 : Int32) = J 8 := (Int32.ofInt_eq_ofNat (n := 8)).symm
theorem J_9 : (9 : Int32) = J 9 := (Int32.ofInt_eq_ofNat (n := 9)).symm
theorem J_10 : (10 : Int32) = J 10 := (Int32.ofInt_eq_ofNat (n := 10)).symm
theorem J_11 : (11 : Int32) = J 11 := (Int32.ofInt_eq_ofNat (n := 11)).symm
theorem J_12 : (12 : Int32) = J 12 := (Int32.ofInt_eq_ofNat (n := 12)).symm
theorem J_14 : (14 : Int32) = J 14 := (Int32.ofInt_eq_ofNat (n := 14)).symm
theorem J_15 : (15 : Int32) = J 15 := (Int32.ofInt_eq_ofNat (n := 15)).symm
theorem J_16 : (16 : Int32) = J 16 := (Int32.ofInt_eq_ofNat (n := 16)).symm
theorem J_19 : (19 : Int32) = J 19 := (Int32.ofInt_eq_ofNat (n := 19)).symm
theorem J_20 : (20 : Int32) = J 20 := (Int32.ofInt_eq_ofNat (n := 20)).symm
theorem J_21 : (21 : Int32) = J 21 := (Int32.ofInt_eq_ofNat (n := 21)).symm
theorem J_22 : (22 : Int32) = J 22 := (Int32.ofInt_eq_ofNat (n := 22)).symm
theorem J_23 : (23 : Int32) = J 23 := (Int32.ofInt_eq_ofNat (n := 23)).symm
theorem J_24 : (24 : Int32) = J 24 := (Int32.ofInt_eq_ofNat (n := 24)).symm
theorem J_25 : (25 : Int32) = J 25 := (Int32.ofInt_eq_ofNat (n := 25)).symm
theorem J_28 : (28 : Int32) = J 28 := (Int32.ofInt_eq_ofNat (n := 28)).symm
theorem J_30 : (30 : Int32) = J 30 := (Int32.ofInt_eq_ofNat (n := 30)).symm
theorem J_31 : (31 : Int32) = J 31 := (Int32.ofInt_eq_ofNat (n := 31)).symm
theorem J_32 : (32 : Int32) = J 32 := (Int32.ofInt_eq_ofNat (n := 32)).symm
theorem J_40 : (40 : Int32) = J 40 := (Int32.ofInt_eq_ofNat (n := 40)).symm
theorem J_44 : (44 : Int32) = J 44 := (Int32.ofInt_eq_ofNat (n := 44)).symm
theorem J_47 : (47 : Int32) = J 47 := (Int32.ofInt_eq_ofNat (n := 47)).symm
theorem J_48 : (48 : Int32) = J 48 := (Int32.ofInt_eq_ofNat (n := 48)).symm
theorem J_49 : (49 : Int32) = J 49 := (Int32.ofInt_eq_ofNat (n := 49)).symm
theorem J_50 : (50 : Int32) = J 50 := (Int32.ofInt_eq_ofNat (n := 50)).symm
theorem J_53 : (53 : Int32) = J 53 := (Int32.ofInt_eq_ofNat (n := 53)).symm
theorem J_54 : (54 : Int32) = J 54 := (Int32.ofInt_eq_ofNat (n := 54)).symm
theorem J_57 : (57 : Int32) = J 57 := (Int32.ofInt_eq_ofNat (n := 57)).symm
theorem J_59 : (59 : Int32) = J 59 := (Int32.ofInt_eq_ofNat (n := 59)).symm
theorem J_74 : (74 : Int32) = J 74 := (Int32.ofInt_eq_ofNat (n := 74)).symm
theorem J_75 : (75 : Int32) = J 75 := (Int32.ofInt_eq_ofNat (n := 75)).symm
theorem J_78 : (78 : Int32) = J 78 := (Int32.ofInt_eq_ofNat (n := 78)).symm
theorem J_84 : (84 : Int32) = J 84 := (Int32.ofInt_eq_ofNat (n := 84)).symm
theorem J_97 : (97 : Int32) = J 97 := (Int32.ofInt_eq_ofNat (n := 97)).symm
theorem J_99 : (99 : Int32) = J 99 := (Int32.ofInt_eq_ofNat (n := 99)).symm
theorem J_100 : (100 : Int32) = J 100 := (Int32.ofInt_eq_ofNat (n := 100)).symm
theorem J_120 : (120 : Int32) = J 120 := (Int32.ofInt_eq_ofNat (n := 120)).symm
theorem J_122 : (122 : Int32) = J 122 := (Int32.ofInt_eq_ofNat (n := 122)).symm
theorem J_126 : (126 : Int32) = J 126 := (Int32.ofInt_eq_ofNat (n := 126)).symm
theorem J_132 : (132 : Int32) = J 132 := (Int32.ofInt_eq_ofNat (n := 132)).symm
theorem J_138 : (138 : Int32) = J 138 := (Int32.ofInt_eq_ofNat (n := 138)).symm
theorem J_144 : (144 : Int32) = J 144 := (Int32.ofInt_eq_ofNat (n := 144)).symm
theorem J_150 : (150 : Int32) = J 150 := (Int32.ofInt_eq_ofNat (n := 150)).symm
theorem J_156 : (156 : Int32) = J 156 := (Int32.ofInt_eq_ofNat (n := 156)).symm
theorem J_162 : (162 : Int32) = J 162 := (Int32.ofInt_eq_ofNat (n := 162)).symm
theorem J_198 : (198 : Int32) = J 198 := (Int32.ofInt_eq_ofNat (n := 198)).symm
theorem J_200 : (200 : Int32) = J 200 := (Int32.ofInt_eq_ofNat (n := 200)).symm
theorem J_202 : (202 : Int32) = J 202 := (Int32.ofInt_eq_ofNat (n := 202)).symm
theorem J_206 : (206 : Int32) = J 206 := (Int32.ofInt_eq_ofNat (n := 206)).symm
theorem J_210 : (210 : Int32) = J 210 := (Int32.ofInt_eq_ofNat (n := 210)).symm
theorem J_214 : (214 : Int32) = J 214 := (Int32.ofInt_eq_ofNat (n := 214)).symm
theorem J_218 : (218 : Int32) = J 218 := (Int32.ofInt_eq_ofNat (n := 218)).symm
theorem J_222 : (222 : Int32) = J 222 := (Int32.ofInt_eq_ofNat (n := 222)).symm
theorem J_226 : (226 : Int32) = J 226 := (Int32.ofInt_eq_ofNat (n := 226)).symm
theorem J_230 : (230 : Int32) = J 230 := (Int32.ofInt_eq_ofNat (n := 230)).symm
theorem J_234 : (234 : Int32) = J 234 := (Int32.ofInt_eq_ofNat (n := 234)).symm
theorem J_238 : (238 : Int32) = J 238 := (Int32.ofInt_eq_ofNat (n := 238)).symm
theorem J_239 : (239 : Int32) = J 239 := (Int32.ofInt_eq_ofNat (n := 239)).symm
theorem J_240 : (240 : Int32) = J 240 := (Int32.ofInt_eq_ofNat (n := 240)).symm
theorem J_241 : (241 : Int32) = J 241 := (Int32.ofInt_eq_ofNat (n := 241)).symm
theorem J_242 : (242 : Int32) = J 242 := (Int32.ofInt_eq_ofNat (n := 242)).symm
theorem J_243 : (243 : Int32) = J 243 := (Int32.ofInt_eq_ofNat (n := 243)).symm
theorem J_255 : (255 : Int32) = J 255 := (Int32.ofInt_eq_ofNat (n := 255)).symm
theorem J_263 : (263 : Int32) = J 263 := (Int32.ofInt_eq_ofNat (n := 263)).symm
theorem J_283 : (283 : Int32) = J 283 := (Int32.ofInt_eq_ofNat (n := 283)).symm
theorem J_303 : (303 : Int32) = J 303 := (Int32.ofInt_eq_ofNat (n := 303)).symm
theorem J_399 : (399 : Int32) = J 399 := (Int32.ofInt_eq_ofNat (n := 399)).symm
theorem J_400 : (400 : Int32) = J 400 := (Int32.ofInt_eq_ofNat (n := 400)).symm
theorem J_401 : (401 : Int32) = J 401 := (Int32.ofInt_eq_ofNat (n := 401)).symm
theorem J_463 : (463 : Int32) = J 463 := (Int32.ofInt_eq_ofNat (n := 463)).symm
theorem J_700 : (700 : Int32) = J 700 := (Int32.ofInt_eq_ofNat (n := 700)).symm
theorem J_701 : (701 : Int32) = J 701 := (Int32.ofInt_eq_ofNat (n := 701)).symm
theorem J_999 : (999 : Int32) = J 999 := (Int32.ofInt_eq_ofNat (n := 999)).symm
theorem J_1000 : (1000 : Int32) = J 1000 := (Int32.ofInt_eq_ofNat (n := 1000)).symm
theorem J_2048 : (2048 : Int32) = J 2048 := (Int32.ofInt_eq_ofNat (n := 2048)).symm
theorem J_4095 : (4095 : Int32) = J 4095 := (Int32.ofInt_eq_ofNat (n := 4095)).symm
theorem J_4096 : (4096 : Int32) = J 4096 := (Int32.ofInt_eq_ofNat (n := 4096)).symm
theorem J_6000 : (6000 : Int32) = J 6000 := (Int32.ofInt_eq_ofNat (n := 6000)).symm
theorem J_9999 : (9999 : Int32) = J 9999 := (Int32.ofInt_eq_ofNat (n := 9999)).symm
theorem J_10000 : (10000 : Int32) = J 10000 := (Int32.ofInt_eq_ofNat (n := 10000)).symm
theorem J_65536 : (65536 : Int32) = J 65536 := (Int32.ofInt_eq_ofNat (n := 65536)).symm
theorem J_65537 : (65537 : Int32) = J 65537 := (Int32.ofInt_eq_ofNat (n := 65537)).symm
theorem J_2147483647 : (2147483647 : Int32) = J 2147483647 := (Int32.ofInt_eq_ofNat (n := 2147483647)).symm
theorem JL_0 : (0 : Int64) = JL 0 := (Int64.ofInt_eq_ofNat (n := 0)).symm
theorem JL_1 : (1 : Int64) = JL 1 := (Int64.ofInt_eq_ofNat (n := 1)).symm
theorem JL_9 : (9 : Int64) = JL 9 := (Int64.ofInt_eq_ofNat (n := 9)).symm
theorem JL_10 : (10 : Int64) = JL 10 := (Int64.ofInt_eq_ofNat (n := 10)).symm
theorem JL_32 : (32 : Int64) = JL 32 := (Int64.ofInt_eq_ofNat (n := 32)).symm
theorem JL_40 : (40 : Int64) = JL 40 := (Int64.ofInt_eq_ofNat (n := 40)).symm
theorem JL_48 : (48 : Int64) = JL 48 := (Int64.ofInt_eq_ofNat (n := 48)).symm
theorem JL_64 : (64 : Int64) = JL 64 := (Int64.ofInt_eq_ofNat (n := 64)).symm
theorem JL_97 : (97 : Int64) = JL 97 := (Int64.ofInt_eq_ofNat (n := 97)).symm
theorem JL_100 : (100 : Int64) = JL 100 := (Int64.ofInt_eq_ofNat (n := 100)).symm
theorem JL_4095 : (4095 : Int64) = JL 4095 := (Int64.ofInt_eq_ofNat (n := 4095)).symm
theorem JL_4096 : (4096 : Int64) = JL 4096 := (Int64.ofInt_eq_ofNat (n := 4096)).symm
theorem JL_16384 : (16384 : Int64) = JL 16384 := (Int64.ofInt_eq_ofNat (n := 16384)).symm
theorem JL_65537 : (65537 : Int64) = JL 65537 := (Int64.ofInt_eq_ofNat (n := 65537)).symm
theorem JL_524287 : (524287 : Int64) = JL 524287 := (Int64.ofInt_eq_ofNat (n := 524287)).symm
theorem JL_524288 : (524288 : Int64) = JL 524288 := (Int64.ofInt_eq_ofNat (n := 524288)).symm
theorem JL_268435455 : (268435455 : Int64) = JL 268435455 := (Int64.ofInt_eq_ofNat (n := 268435455)).symm
theorem JL_1099511627775 : (1099511627775 : Int64) = JL 1099511627775 := (Int64.ofInt_eq_ofNat (n := 1099511627775)).symm
theorem J_add (a b : Int) : J a + J b = J (a + b) := (Int32.ofInt_add a b).symm
theorem J_sub (a b : Int) : J a - J b = J (a - b) := (Int32.ofInt_sub a b).symm
theorem J_mul (a b : Int) : J a * J b = J (a * b) := (Int32.ofInt_mul a b).symm
theorem J_neg (a : Int) : - J a = J (-a) := (Int32.ofInt_neg a).symm
theorem JL_add (a b : Int) : JL a + JL b = JL (a + b) := (Int64.ofInt_add a b).symm
theorem JL_sub (a b : Int) : JL a - JL b = JL (a - b) := (Int64.ofInt_sub a b).symm
theorem JL_mul (a b : Int) : JL a * JL b = JL (a * b) := (Int64.ofInt_mul a b).symm
theorem JL_neg (a : Int) : - JL a = JL (-a) := (Int64.ofInt_neg a).symm
theorem J_self (x : Int32) : x = J x.toInt := (Int32.ofInt_toInt x).symm
theorem JL_self (x : Int64) : x = JL x.toInt := (Int64.ofInt_toInt x).symm
theorem toInt_J {a : Int} (h1 : -2147483648 ≤ a) (h2 : a ≤ 2147483647) : (J a).toInt = a := Int32.toInt_ofInt_of_le (by omega) (by omega)
theorem toInt_JL {a : Int} (h1 : -9223372036854775808 ≤ a) (h2 : a ≤ 9223372036854775807) : (JL a).toInt = a := Int64.toInt_ofInt_of_le (by omega) (by omega)
theorem J_of (x : Int32) : ∃ a : Int, x = J a ∧ -2147483648 ≤ a ∧ a ≤ 2147483647 := ⟨x.toInt, J_self x, by have := x.le_toInt; omega, by have := x.toInt_lt; omega⟩
theorem JL_of (x : Int64) : ∃ a : Int, x = JL a ∧ -9223372036854775808 ≤ a ∧ a ≤ 9223372036854775807 := ⟨x.toInt, JL_self x, by have := x.le_toInt; omega, by have := x.toInt_lt; omega⟩
theorem J_inj {a b : Int} (h1 : -2147483648 ≤ a) (h2 : a ≤ 2147483647) (h3 : -2147483648 ≤ b) (h4 : b ≤ 2147483647) : (J a = J b) = (a = b) := by
  apply propext
  constructor
  · intro h
    have := congrArg Int32.toInt h
    rwa [toInt_J h1 h2, toInt_J h3 h4] at this
  · intro h; rw [h]
theorem JL_inj {a b : Int} (h1 : -9223372036854775808 ≤ a) (h2 : a ≤ 9223372036854775807) (h3 : -9223372036854775808 ≤ b) (h4 : b ≤ 9223372036854775807) : (JL a = JL b) = (a = b) := by
  apply propext
  constructor
  · intro h
    have := congrArg Int64.toInt h
    rwa [toInt_JL h1 h2, toInt_JL h3 h4] at this
  · intro h; rw [h]
theorem J_lt {a b : Int} (h1 : -2147483648 ≤ a) (h2 : a ≤ 2147483647) (h3 : -2147483648 ≤ b) (h4 : b ≤ 2147483647) : (J a < J b) = (a < b) := by
  apply propext
  rw [Int32.lt_iff_toInt_lt, toInt_J h1 h2, toInt_J h3 h4]
theorem J_le {a b : Int} (h1 : -2147483648 ≤ a) (h2 : a ≤ 2147483647) (h3 : -2147483648 ≤ b) (h4 : b ≤ 2147483647) : (J a ≤ J b) = (a ≤ b) := by
  apply propext
  rw [Int32.le_iff_toInt_le, toInt_J h1 h2, toInt_J h3 h4]
theorem JL_lt {a b : Int} (h1 : -9223372036854775808 ≤ a) (h2 : a ≤ 9223372036854775807) (h3 : -9223372036854775808 ≤ b) (h4 : b ≤ 9223372036854775807) : (JL a < JL b) = (a < b) := by
  apply propext
  rw [Int64.lt_iff_toInt_lt, toInt_JL h1 h2, toInt_JL h3 h4]
theorem JL_le {a b : Int} (h1 : -9223372036854775808 ≤ a) (h2 : a ≤ 9223372036854775807) (h3 : -9223372036854775808 ≤ b) (h4 : b ≤ 9223372036854775807) : (JL a ≤ JL b) = (a ≤ b) := by
  apply propext
  rw [Int64.le_iff_toInt_le, toInt_JL h1 h2, toInt_JL h3 h4]
theorem iLT {α : Type} {a b : Int} {x y : α} (h1 : -2147483648 ≤ a) (h2 : a ≤ 2147483647) (h3 : -2147483648 ≤ b) (h4 : b ≤ 2147483647) : (if J a < J b then x else y) = if a < b then x else y := by simp only [J_lt h1 h2 h3 h4]
theorem iLE {α : Type} {a b : Int} {x y : α} (h1 : -2147483648 ≤ a) (h2 : a ≤ 2147483647) (h3 : -2147483648 ≤ b) (h4 : b ≤ 2147483647) : (if J a ≤ J b then x else y) = if a ≤ b then x else y := by simp only [J_le h1 h2 h3 h4]
theorem iEQ {α : Type} {a b : Int} {x y : α} (h1 : -2147483648 ≤ a) (h2 : a ≤ 2147483647) (h3 : -2147483648 ≤ b) (h4 : b ≤ 2147483647) : (if J a = J b then x else y) = if a = b then x else y := by simp only [J_inj h1 h2 h3 h4]
theorem iLTl {α : Type} {a b : Int} {x y : α} (h1 : -9223372036854775808 ≤ a) (h2 : a ≤ 9223372036854775807) (h3 : -9223372036854775808 ≤ b) (h4 : b ≤ 9223372036854775807) : (if JL a < JL b then x else y) = if a < b then x else y := by simp only [JL_lt h1 h2 h3 h4]
theorem iLEl {α : Type} {a b : Int} {x y : α} (h1 : -9223372036854775808 ≤ a) (h2 : a ≤ 9223372036854775807) (h3 : -9223372036854775808 ≤ b) (h4 : b ≤ 9223372036854775807) : (if JL a ≤ JL b then x else y) = if a ≤ b then x else y := by simp only [JL_le h1 h2 h3 h4]
theorem iEQl {α : Type} {a b : Int} {x y : α} (h1 : -9223372036854775808 ≤ a) (h2 : a ≤ 9223372036854775807) (h3 : -9223372036854775808 ≤ b) (h4 : b ≤ 9223372036854775807) : (if JL a = JL b then x else y) = if a = b then x else y := by simp only [JL_inj h1 h2 h3 h4]
theorem J_div {a b : Int} (h1 : 0 ≤ a) (h2 : a ≤ 2147483647) (h3 : 0 < b) (h4 : b ≤ 2147483647) : J a / J b = J (a / b) := by
  have e : (J a / J b).toInt = a / b := by
    have hb : (J b) ≠ -1 := by
      rw [J_1, J_neg]
      intro h
      rw [J_inj (by omega) (by omega) (by decide) (by decide)] at h
      omega
    rw [Int32.toInt_div_of_ne_right _ _ hb, toInt_J (by omega) (by omega), toInt_J (by omega) (by omega), Int.tdiv_eq_ediv_of_nonneg h1]
  rw [J_self (J a / J b), e]
theorem JL_div {a b : Int} (h1 : 0 ≤ a) (h2 : a ≤ 9223372036854775807) (h3 : 0 < b) (h4 : b ≤ 9223372036854775807) : JL a / JL b = JL (a / b) := by
  have e : (JL a / JL b).toInt = a / b := by
    have hb : (JL b) ≠ -1 := by
      rw [JL_1, JL_neg]
      intro h
      rw [JL_inj (by omega) (by omega) (by decide) (by decide)] at h
      omega
    rw [Int64.toInt_div_of_ne_right _ _ hb, toInt_JL (by omega) (by omega), toInt_JL (by omega) (by omega), Int.tdiv_eq_ediv_of_nonneg h1]
  rw [JL_self (JL a / JL b), e]
theorem J_toL {a : Int} (h1 : -2147483648 ≤ a) (h2 : a ≤ 2147483647) : (J a).toInt64 = JL a := Int32.toInt64_ofInt (by exact h1) (by exact h2)
theorem JL_toI (a : Int) : (JL a).toInt32 = J a := Int64.toInt32_ofInt
theorem ix_J {a : Int} (h1 : 0 ≤ a) (h2 : a ≤ 2147483647) : ix (J a) = a.toNat := Int32.toNatClampNeg_ofInt_of_le (by omega) (by omega)
theorem ixb_J {a : Int} {n : Nat} (h1 : 0 ≤ a) (h2 : a < n) (h3 : n ≤ 1000000) : ixb (J a) n = true := by
  unfold ixb
  have e : (J a).toNatClampNeg = a.toNat := ix_J h1 (by omega)
  rw [e, J_0]
  simp only [J_lt (a := a) (b := 0) (by omega) (by omega) (by decide) (by decide)]
  simp
  omega
theorem jmax_J {a b : Int} (h1 : -2147483648 ≤ a) (h2 : a ≤ 2147483647) (h3 : -2147483648 ≤ b) (h4 : b ≤ 2147483647) : jmax (J a) (J b) = J (max a b) := by
  unfold jmax
  rw [iLT h1 h2 h3 h4]
  by_cases h : a < b
  · rw [if_pos h, Int.max_eq_right (by omega)]
  · rw [if_neg h, Int.max_eq_left (by omega)]
theorem jmin_J {a b : Int} (h1 : -2147483648 ≤ a) (h2 : a ≤ 2147483647) (h3 : -2147483648 ≤ b) (h4 : b ≤ 2147483647) : jmin (J a) (J b) = J (min a b) := by
  unfold jmin
  rw [iLT h3 h4 h1 h2]
  by_cases h : b < a
  · rw [if_pos h, Int.min_eq_right (by omega)]
  · rw [if_neg h, Int.min_eq_left (by omega)]
/-- without sign -/
def iab (x : Int) : Int := if 0 ≤ x then x else -x
theorem jabs_J {a : Int} (h1 : -2147483648 ≤ a) (h2 : a ≤ 2147483647) : jabs (J a) = J (iab a) := by
  unfold jabs iab
  rw [J_0, iLE (by decide) (by decide) h1 h2, J_sub]
  by_cases h : 0 ≤ a
  · rw [if_pos h, if_pos h]
  · rw [if_neg h, if_neg h, Int.zero_sub]
/-! what is printed around values -/
theorem ckt {α : Type} {k : Option α} : ck true k = k := Eq.trans rfl rfl
theorem b1s {α β : Type} {a : α} {f : α → Option β} : b1 (some a) f = f a := Eq.trans rfl rfl
theorem b2s {α β γ : Type} {a : α} {b : β} {f : α → β → Option γ} : b2 (some (a, b)) f = f a b := Eq.trans rfl rfl
theorem lts {α β : Type} {a : α} {f : α → β} : lt a f = f a := Eq.trans rfl rfl
theorem un2s {α β γ : Type} {f : α → β → γ} {a : α} {b : β} : un2 f (a, b) = f a b := Eq.trans rfl rfl
theorem un3s {α β γ δ : Type} {f : α → β → γ → δ} {a : α} {b : β} {c : γ} : un3 f (a, b, c) = f a b c := Eq.trans rfl rfl
theorem un4s {α β γ δ ε : Type} {f : α → β → γ → δ → ε} {a : α} {b : β} {c : γ} {d : δ} : un4 f (a, b, c, d) = f a b c d := Eq.trans rfl rfl
theorem un5s {α β γ δ ε ζ : Type} {f : α → β → γ → δ → ε → ζ} {a : α} {b : β} {c : γ} {d : δ} {e : ε} : un5 f (a, b, c, d, e) = f a b c d e := Eq.trans rfl rfl
theorem lmr {ρ τ : Type} {t : τ} {f : τ → Option ρ} : lm (some (.inr t)) f = f t := Eq.trans rfl rfl
theorem lml {ρ τ : Type} {r : ρ} {f : τ → Option ρ} : lm (some (.inl r)) f = some r := Eq.trans rfl rfl
theorem lgr {ρ τ σ : Type} {t : τ} {g : ρ → σ} {f : τ → Option σ} : lg (some (.inr t)) g f = f t := Eq.trans rfl rfl
theorem lgl {ρ τ σ : Type} {r : ρ} {g : ρ → σ} {f : τ → Option σ} : lg (some (.inl r)) g f = some (g r) := Eq.trans rfl rfl
/-- a truth as a number -/
def bI (p : Prop) [Decidable p] : Int32 := if p then J 1 else J 0
theorem bI_0 (p : Prop) [Decidable p] : (bI p = J 0) = ¬ p := by
  unfold bI
  by_cases h : p
  · rw [if_pos h, J_inj (by decide) (by decide) (by decide) (by decide)]; simp [h]
  · rw [if_neg h]; simp [h]
theorem bI_z (p : Prop) [Decidable p] : (bI p = 0) = ¬ p := bI_0 p
theorem bI_1 (p : Prop) [Decidable p] : (bI p = J 1) = p := by
  unfold bI
  by_cases h : p
  · rw [if_pos h]; simp [h]
  · rw [if_neg h, J_inj (by decide) (by decide) (by decide) (by decide)]; simp [h]
theorem iB0 {α : Type} {p : Prop} [Decidable p] {x y : α} : (if bI p = J 0 then x else y) = if p then y else x := by
  simp only [bI_0]
  by_cases h : p
  · rw [if_neg (fun z => z h), if_pos h]
  · rw [if_pos h, if_neg h]
theorem iBz {α : Type} {p : Prop} [Decidable p] {x y : α} : (if bI p = 0 then x else y) = if p then y else x := iB0
theorem bI_t {p : Prop} [Decidable p] (h : p) : bI p = J 1 := if_pos h
theorem bI_f {p : Prop} [Decidable p] (h : ¬ p) : bI p = J 0 := if_neg h
theorem bI_c {p q : Prop} [Decidable p] [Decidable q] (h : p ↔ q) : bI p = bI q := by
  unfold bI
  by_cases hp : p
  · rw [if_pos hp, if_pos (h.mp hp)]
  · rw [if_neg hp, if_neg (fun z => hp (h.mpr z))]
/-! reading behind writing -/
theorem rII {S : zM} {q k a b : Nat} {v : Int32} : gI (pI S q k v) a b = if a = q ∧ b = k then v else gI S a b := Eq.trans rfl rfl
theorem rIL {S : zM} {q k a b : Nat} {v : Int64} : gI (pL S q k v) a b = gI S a b := Eq.trans rfl rfl
theorem rIR {S : zM} {q k a b : Nat} {v : Nat} : gI (pR S q k v) a b = gI S a b := Eq.trans rfl rfl
theorem rLI {S : zM} {q k a b : Nat} {v : Int32} : gL (pI S q k v) a b = gL S a b := Eq.trans rfl rfl
theorem rLL {S : zM} {q k a b : Nat} {v : Int64} : gL (pL S q k v) a b = if a = q ∧ b = k then v else gL S a b := Eq.trans rfl rfl
theorem rLR {S : zM} {q k a b : Nat} {v : Nat} : gL (pR S q k v) a b = gL S a b := Eq.trans rfl rfl
theorem rRI {S : zM} {q k a b : Nat} {v : Int32} : gR (pI S q k v) a b = gR S a b := Eq.trans rfl rfl
theorem rRL {S : zM} {q k a b : Nat} {v : Int64} : gR (pL S q k v) a b = gR S a b := Eq.trans rfl rfl
theorem rRR {S : zM} {q k a b : Nat} {v : Nat} : gR (pR S q k v) a b = if a = q ∧ b = k then v else gR S a b := Eq.trans rfl rfl
theorem rIf {S : zM} {q a b : Nat} {v : Int32} : gI (fI S q v) a b = if a = q then v else gI S a b := Eq.trans rfl rfl
theorem rLf {S : zM} {q a b : Nat} {v : Int32} : gL (fI S q v) a b = gL S a b := Eq.trans rfl rfl
theorem rRf {S : zM} {q a b : Nat} {v : Int32} : gR (fI S q v) a b = gR S a b := Eq.trans rfl rfl
theorem rIg {S : zM} {q a b : Nat} {v : Int64} : gI (fL S q v) a b = gI S a b := Eq.trans rfl rfl
theorem rLg {S : zM} {q a b : Nat} {v : Int64} : gL (fL S q v) a b = if a = q then v else gL S a b := Eq.trans rfl rfl
theorem rRg {S : zM} {q a b : Nat} {v : Int64} : gR (fL S q v) a b = gR S a b := Eq.trans rfl rfl
theorem rIc {S : zM} {q r n a b : Nat} : gI (cqL S q r n) a b = gI S a b := Eq.trans rfl rfl
theorem rRc {S : zM} {q r n a b : Nat} : gR (cqL S q r n) a b = gR S a b := Eq.trans rfl rfl
theorem rLc {S : zM} {q r n a b : Nat} : gL (cqL S q r n) a b = if a = r then (if b < n then gL S q b else gL S r b) else gL S a b := by
  show (if a = r then va_cpy (S.2.1 q) (S.2.1 r) 0 0 n else S.2.1 a) b = _
  by_cases h : a = r
  · rw [if_pos h, if_pos h]
    unfold va_cpy
    by_cases h2 : b < n
    · rw [if_pos (by omega), if_pos h2, Nat.zero_add, Nat.sub_zero]
      rfl
    · rw [if_neg (by omega), if_neg h2]
      rfl
  · rw [if_neg h, if_neg h]
    rfl
/-- the whole number that stands there -/
def iI (S : zM) (q k : Nat) : Int := (gI S q k).toInt
def iL (S : zM) (q k : Nat) : Int := (gL S q k).toInt
theorem gI_J (S : zM) (q k : Nat) : gI S q k = J (iI S q k) := J_self _
theorem gL_J (S : zM) (q k : Nat) : gL S q k = JL (iL S q k) := JL_self _
theorem iI_lo (S : zM) (q k : Nat) : -2147483648 ≤ iI S q k := by have := (gI S q k).le_toInt; unfold iI; omega
theorem iI_hi (S : zM) (q k : Nat) : iI S q k ≤ 2147483647 := by have := (gI S q k).toInt_lt; unfold iI; omega
theorem iL_lo (S : zM) (q k : Nat) : -9223372036854775808 ≤ iL S q k := by have := (gL S q k).le_toInt; unfold iL; omega
theorem iL_hi (S : zM) (q k : Nat) : iL S q k ≤ 9223372036854775807 := by have := (gL S q k).toInt_lt; unfold iL; omega
theorem iI_of {S : zM} {q k : Nat} {a : Int} (h : gI S q k = J a) (h1 : -2147483648 ≤ a) (h2 : a ≤ 2147483647) : iI S q k = a := by unfold iI; rw [h, toInt_J h1 h2]
theorem iL_of {S : zM} {q k : Nat} {a : Int} (h : gL S q k = JL a) (h1 : -9223372036854775808 ≤ a) (h2 : a ≤ 9223372036854775807) : iL S q k = a := by unfold iL; rw [h, toInt_JL h1 h2]
theorem iI_c {S S' : zM} {q k q' k' : Nat} (h : gI S q k = gI S' q' k') : iI S q k = iI S' q' k' := congrArg Int32.toInt h
theorem FUs {n : Nat} (h : n ≤ 1000000) : n ≤ FU := by unfold FU; omega
theorem some_inj' {α : Type} {a b : α} (h : a = b) : (some a : Option α) = some b := by rw [h]
