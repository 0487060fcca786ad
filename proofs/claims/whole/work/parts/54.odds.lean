/-! The model's odds. -/
def od1 (o : Nat → Int) (A : Int → Int → Int → Int) (l0 an : Int) : Int := sm 11 (fun i => if A (l0 + ((i : Int) - 5)) 0 0 = an then o i else 0)
def od2 (o : Nat → Int) (A : Int → Int → Int → Int) (l0 l1 an : Int) : Int := sm 11 (fun i => sm 11 (fun j => if A (l0 + ((i : Int) - 5)) (l1 + ((j : Int) - 5)) 0 = an then o i * o j else 0))
def od3 (o : Nat → Int) (A : Int → Int → Int → Int) (l0 l1 l2 an : Int) : Int := sm 11 (fun i => sm 11 (fun j => sm 11 (fun k => if A (l0 + ((i : Int) - 5)) (l1 + ((j : Int) - 5)) (l2 + ((k : Int) - 5)) = an then o i * o j * o k else 0)))
def inI (x : Int) : Prop := -2147483648 ≤ x ∧ x ≤ 2147483647
def inF (x : Int) : Prop := -20000 ≤ x ∧ x ≤ 20000
/-- what is answered to feelings -/
def isA (S : zM) (p kd b c tr : Int) (A : Int → Int → Int → Int) : Prop := ∀ f g h : Int, inF f → inF g → inF h → gX12_answered S (J p) (J kd) (J b) (J c) (J f) (J g) (J h) (J tr) = some (J (A f g h)) ∧ inI (A f g h)
section
variable {S : zM} {p kd a b c an tr : Int} {s k : Nat} {A : Int → Int → Int → Int} {l0 l1 l2 f g two : Int} {v12 v13 v15 : Int32}
theorem m_od_L3 (hs : s < 6) (hk : k ≤ 6) (ho : nOK (mN S s k)) (hA : isA S p kd b c tr A) (han : inI an) (hl : gX12_levelAt S (J s) (J kd) (J a) (J b) (J c) (J 2) = some (J l2)) (hl2 : 0 ≤ l2 ∧ l2 ≤ 9999) (hf : inF f) (hg : inF g) (h2 : 0 ≤ two ∧ two ≤ 9801) : ∀ (n i : Nat) (acc : Int), i ≤ 11 → 12 ≤ n + i → gX12_oddsOf_L164 S (J p) (J kd) (J a) (J b) (J c) (J an) (J tr) (J k) (J s) (J 3) v12 v13 (J f) v15 (J two) (J g) n (J acc) (J ((i : Int) - 5)) = some (J (acc + (sm 11 (fun k' => if A f g (l2 + ((k' : Int) - 5)) = an then two * mN S s k k' else 0) - sm i (fun k' => if A f g (l2 + ((k' : Int) - 5)) = an then two * mN S s k k' else 0)))) := by
  intro n
  induction n with
  | zero => intro i acc h1 h2; omega
  | succ n ih =>
    intro i acc h1 hn
    unfold gX12_oddsOf_L164
    simp only [J_0, J_1, J_2, J_3, J_4, J_5, J_6, J_7, J_8, J_9, J_10, J_11, J_12, J_14, J_15, J_16, J_19, J_20, J_21, J_22, J_23, J_24, J_25, J_28, J_30, J_31, J_32, J_40, J_44, J_47, J_48, J_49, J_50, J_53, J_54, J_57, J_59, J_74, J_75, J_78, J_84, J_97, J_99, J_100, J_120, J_122, J_126, J_132, J_138, J_144, J_150, J_156, J_162, J_198, J_200, J_202, J_206, J_210, J_214, J_218, J_222, J_226, J_230, J_234, J_238, J_239, J_240, J_241, J_242, J_243, J_255, J_263, J_283, J_303, J_399, J_400, J_401, J_463, J_700, J_701, J_999, J_1000, J_2048, J_4095, J_4096, J_6000, J_9999, J_10000, J_65536, J_65537, J_2147483647, J_neg]
    rw [iLT (by decide) (by decide) (by omega) (by omega)]
    by_cases e : i = 11
    · subst e
      rw [if_pos (by omega)]
      congr 2
      omega
    · have hb := ho.1 i (by omega)
      have ht : 0 ≤ two * mN S s k i ∧ two * mN S s k i ≤ 9801 * 9 := ⟨Int.mul_nonneg h2.1 hb.1, Int.mul_le_mul h2.2 hb.2 hb.1 (by omega)⟩
      rw [if_neg (by omega), if_neg (by decide), m_oftenI hs hk (by omega), b1s, J_mul]
      unfold gX12_oddsOf_J194
      simp only [J_0, J_1, J_2, J_3, J_4, J_5, J_6, J_7, J_8, J_9, J_10, J_11, J_12, J_14, J_15, J_16, J_19, J_20, J_21, J_22, J_23, J_24, J_25, J_28, J_30, J_31, J_32, J_40, J_44, J_47, J_48, J_49, J_50, J_53, J_54, J_57, J_59, J_74, J_75, J_78, J_84, J_97, J_99, J_100, J_120, J_122, J_126, J_132, J_138, J_144, J_150, J_156, J_162, J_198, J_200, J_202, J_206, J_210, J_214, J_218, J_222, J_226, J_230, J_234, J_238, J_239, J_240, J_241, J_242, J_243, J_255, J_263, J_283, J_303, J_399, J_400, J_401, J_463, J_700, J_701, J_999, J_1000, J_2048, J_4095, J_4096, J_6000, J_9999, J_10000, J_65536, J_65537, J_2147483647, J_neg]
      rw [iEQ (by omega) (by omega) (by omega) (by omega)]
      have step : ∀ acc', gX12_oddsOf_L164 S (J p) (J kd) (J a) (J b) (J c) (J an) (J tr) (J k) (J s) (J 3) v12 v13 (J f) v15 (J two) (J g) n (J acc') (J ((i : Int) - 5 + 1)) = some (J (acc' + (sm 11 (fun k' => if A f g (l2 + ((k' : Int) - 5)) = an then two * mN S s k k' else 0) - sm (i + 1) (fun k' => if A f g (l2 + ((k' : Int) - 5)) = an then two * mN S s k k' else 0)))) := by
        intro acc'
        have := ih (i + 1) acc' (by omega) (by omega)
        rw [show ((i : Int) - 5 + 1) = (((i + 1 : Nat) : Int) - 5) by omega]
        exact this
      by_cases z : two * mN S s k i = 0
      · rw [if_pos z, lmr, un2s, J_add, step, sm_s (n := i)]
        congr 2
        rw [z]
        simp
      · have hh := hA f g (l2 + ((i : Int) - 5)) hf hg ⟨by omega, by omega⟩
        rw [if_neg z, if_neg (by decide), hl, b1s]
        unfold gX12_oddsOf_J230
        simp only [J_0, J_1, J_2, J_3, J_4, J_5, J_6, J_7, J_8, J_9, J_10, J_11, J_12, J_14, J_15, J_16, J_19, J_20, J_21, J_22, J_23, J_24, J_25, J_28, J_30, J_31, J_32, J_40, J_44, J_47, J_48, J_49, J_50, J_53, J_54, J_57, J_59, J_74, J_75, J_78, J_84, J_97, J_99, J_100, J_120, J_122, J_126, J_132, J_138, J_144, J_150, J_156, J_162, J_198, J_200, J_202, J_206, J_210, J_214, J_218, J_222, J_226, J_230, J_234, J_238, J_239, J_240, J_241, J_242, J_243, J_255, J_263, J_283, J_303, J_399, J_400, J_401, J_463, J_700, J_701, J_999, J_1000, J_2048, J_4095, J_4096, J_6000, J_9999, J_10000, J_65536, J_65537, J_2147483647, J_neg]
        rw [J_add, hh.1, b1s, iEQ hh.2.1 hh.2.2 han.1 han.2]
        by_cases y : A f g (l2 + ((i : Int) - 5)) = an
        · rw [if_pos y, lmr, un2s, J_add, J_add, step, sm_s (n := i), if_pos y]
          congr 2
          omega
        · rw [if_neg y, lmr, un2s, J_add, J_add, step, sm_s (n := i), if_neg y]
          congr 2
          omega
theorem m_od_L2 {n3 : Int32} (hn : n3 = J 1 ∨ n3 = J 2) (hA : isA S p kd b c tr A) (han : inI an) (hf : inF f) (hg : inF g) (h2 : 0 < two ∧ two ≤ 9801) (acc : Int) : gX12_oddsOf_L164 S (J p) (J kd) (J a) (J b) (J c) (J an) (J tr) (J k) (J s) n3 v12 v13 (J f) v15 (J two) (J g) FU (J acc) (J 5) = some (J (acc + if A f g 0 = an then two else 0)) := by
  have hn2 : n3 ≤ J 2 := by rcases hn with rfl | rfl <;> decide
  obtain ⟨m, hm⟩ : ∃ m, FU = m + 1 + 1 := ⟨1048574, rfl⟩
  have hh := hA f g 0 hf hg ⟨by decide, by decide⟩
  rw [hm]
  unfold gX12_oddsOf_L164
  simp only [J_0, J_1, J_2, J_3, J_4, J_5, J_6, J_7, J_8, J_9, J_10, J_11, J_12, J_14, J_15, J_16, J_19, J_20, J_21, J_22, J_23, J_24, J_25, J_28, J_30, J_31, J_32, J_40, J_44, J_47, J_48, J_49, J_50, J_53, J_54, J_57, J_59, J_74, J_75, J_78, J_84, J_97, J_99, J_100, J_120, J_122, J_126, J_132, J_138, J_144, J_150, J_156, J_162, J_198, J_200, J_202, J_206, J_210, J_214, J_218, J_222, J_226, J_230, J_234, J_238, J_239, J_240, J_241, J_242, J_243, J_255, J_263, J_283, J_303, J_399, J_400, J_401, J_463, J_700, J_701, J_999, J_1000, J_2048, J_4095, J_4096, J_6000, J_9999, J_10000, J_65536, J_65537, J_2147483647, J_neg]
  rw [if_neg (by decide), if_pos hn2]
  unfold gX12_oddsOf_J194
  simp only [J_0, J_1, J_2, J_3, J_4, J_5, J_6, J_7, J_8, J_9, J_10, J_11, J_12, J_14, J_15, J_16, J_19, J_20, J_21, J_22, J_23, J_24, J_25, J_28, J_30, J_31, J_32, J_40, J_44, J_47, J_48, J_49, J_50, J_53, J_54, J_57, J_59, J_74, J_75, J_78, J_84, J_97, J_99, J_100, J_120, J_122, J_126, J_132, J_138, J_144, J_150, J_156, J_162, J_198, J_200, J_202, J_206, J_210, J_214, J_218, J_222, J_226, J_230, J_234, J_238, J_239, J_240, J_241, J_242, J_243, J_255, J_263, J_283, J_303, J_399, J_400, J_401, J_463, J_700, J_701, J_999, J_1000, J_2048, J_4095, J_4096, J_6000, J_9999, J_10000, J_65536, J_65537, J_2147483647, J_neg]
  rw [iEQ (by omega) (by omega) (by omega) (by omega), if_neg (by omega), if_pos hn2]
  unfold gX12_oddsOf_J230
  simp only [J_0, J_1, J_2, J_3, J_4, J_5, J_6, J_7, J_8, J_9, J_10, J_11, J_12, J_14, J_15, J_16, J_19, J_20, J_21, J_22, J_23, J_24, J_25, J_28, J_30, J_31, J_32, J_40, J_44, J_47, J_48, J_49, J_50, J_53, J_54, J_57, J_59, J_74, J_75, J_78, J_84, J_97, J_99, J_100, J_120, J_122, J_126, J_132, J_138, J_144, J_150, J_156, J_162, J_198, J_200, J_202, J_206, J_210, J_214, J_218, J_222, J_226, J_230, J_234, J_238, J_239, J_240, J_241, J_242, J_243, J_255, J_263, J_283, J_303, J_399, J_400, J_401, J_463, J_700, J_701, J_999, J_1000, J_2048, J_4095, J_4096, J_6000, J_9999, J_10000, J_65536, J_65537, J_2147483647, J_neg]
  rw [hh.1, b1s, iEQ hh.2.1 hh.2.2 han.1 han.2]
  by_cases y : A f g 0 = an
  · rw [if_pos y, if_pos y, lmr, un2s, J_add]
    unfold gX12_oddsOf_L164
    simp only [J_0, J_1, J_2, J_3, J_4, J_5, J_6, J_7, J_8, J_9, J_10, J_11, J_12, J_14, J_15, J_16, J_19, J_20, J_21, J_22, J_23, J_24, J_25, J_28, J_30, J_31, J_32, J_40, J_44, J_47, J_48, J_49, J_50, J_53, J_54, J_57, J_59, J_74, J_75, J_78, J_84, J_97, J_99, J_100, J_120, J_122, J_126, J_132, J_138, J_144, J_150, J_156, J_162, J_198, J_200, J_202, J_206, J_210, J_214, J_218, J_222, J_226, J_230, J_234, J_238, J_239, J_240, J_241, J_242, J_243, J_255, J_263, J_283, J_303, J_399, J_400, J_401, J_463, J_700, J_701, J_999, J_1000, J_2048, J_4095, J_4096, J_6000, J_9999, J_10000, J_65536, J_65537, J_2147483647, J_neg]
    rw [if_pos (by decide)]
  · rw [if_neg y, if_neg y, lmr, un2s, J_add]
    unfold gX12_oddsOf_L164
    simp only [J_0, J_1, J_2, J_3, J_4, J_5, J_6, J_7, J_8, J_9, J_10, J_11, J_12, J_14, J_15, J_16, J_19, J_20, J_21, J_22, J_23, J_24, J_25, J_28, J_30, J_31, J_32, J_40, J_44, J_47, J_48, J_49, J_50, J_53, J_54, J_57, J_59, J_74, J_75, J_78, J_84, J_97, J_99, J_100, J_120, J_122, J_126, J_132, J_138, J_144, J_150, J_156, J_162, J_198, J_200, J_202, J_206, J_210, J_214, J_218, J_222, J_226, J_230, J_234, J_238, J_239, J_240, J_241, J_242, J_243, J_255, J_263, J_283, J_303, J_399, J_400, J_401, J_463, J_700, J_701, J_999, J_1000, J_2048, J_4095, J_4096, J_6000, J_9999, J_10000, J_65536, J_65537, J_2147483647, J_neg]
    rw [if_pos (by decide)]
/-- the second loop, of two or three feelings -/
theorem m_od_M2 {one : Int} (hs : s < 6) (hk : k ≤ 6) (ho : nOK (mN S s k)) (hA : isA S p kd b c tr A) (han : inI an) (hl : gX12_levelAt S (J s) (J kd) (J a) (J b) (J c) (J 1) = some (J l1)) (hl1 : 0 ≤ l1 ∧ l1 ≤ 9999) (hf : inF f) (h1 : 0 < one ∧ one ≤ 99) : ∀ (n i : Nat) (acc : Int), i ≤ 11 → 12 ≤ n + i → gX12_oddsOf_L82 S (J p) (J kd) (J a) (J b) (J c) (J an) (J tr) (J k) (J s) (J 2) v12 (J one) (J f) n (J acc) (J ((i : Int) - 5)) = some (J (acc + (sm 11 (fun j => if A f (l1 + ((j : Int) - 5)) 0 = an then one * mN S s k j else 0) - sm i (fun j => if A f (l1 + ((j : Int) - 5)) 0 = an then one * mN S s k j else 0)))) := by
  intro n
  induction n with
  | zero => intro i acc h1 h2; omega
  | succ n ih =>
    intro i acc h1' hn
    unfold gX12_oddsOf_L82
    simp only [J_0, J_1, J_2, J_3, J_4, J_5, J_6, J_7, J_8, J_9, J_10, J_11, J_12, J_14, J_15, J_16, J_19, J_20, J_21, J_22, J_23, J_24, J_25, J_28, J_30, J_31, J_32, J_40, J_44, J_47, J_48, J_49, J_50, J_53, J_54, J_57, J_59, J_74, J_75, J_78, J_84, J_97, J_99, J_100, J_120, J_122, J_126, J_132, J_138, J_144, J_150, J_156, J_162, J_198, J_200, J_202, J_206, J_210, J_214, J_218, J_222, J_226, J_230, J_234, J_238, J_239, J_240, J_241, J_242, J_243, J_255, J_263, J_283, J_303, J_399, J_400, J_401, J_463, J_700, J_701, J_999, J_1000, J_2048, J_4095, J_4096, J_6000, J_9999, J_10000, J_65536, J_65537, J_2147483647, J_neg]
    rw [iLT (by decide) (by decide) (by omega) (by omega)]
    by_cases e : i = 11
    · subst e
      rw [if_pos (by omega)]
      congr 2
      omega
    · have hb := ho.1 i (by omega)
      have ht : 0 ≤ one * mN S s k i ∧ one * mN S s k i ≤ 99 * 9 := ⟨Int.mul_nonneg (by omega) hb.1, Int.mul_le_mul h1.2 hb.2 hb.1 (by omega)⟩
      rw [if_neg (by omega), if_neg (by decide), m_oftenI hs hk (by omega), b1s, J_mul]
      unfold gX12_oddsOf_J112
      simp only [J_0, J_1, J_2, J_3, J_4, J_5, J_6, J_7, J_8, J_9, J_10, J_11, J_12, J_14, J_15, J_16, J_19, J_20, J_21, J_22, J_23, J_24, J_25, J_28, J_30, J_31, J_32, J_40, J_44, J_47, J_48, J_49, J_50, J_53, J_54, J_57, J_59, J_74, J_75, J_78, J_84, J_97, J_99, J_100, J_120, J_122, J_126, J_132, J_138, J_144, J_150, J_156, J_162, J_198, J_200, J_202, J_206, J_210, J_214, J_218, J_222, J_226, J_230, J_234, J_238, J_239, J_240, J_241, J_242, J_243, J_255, J_263, J_283, J_303, J_399, J_400, J_401, J_463, J_700, J_701, J_999, J_1000, J_2048, J_4095, J_4096, J_6000, J_9999, J_10000, J_65536, J_65537, J_2147483647, J_neg]
      rw [iEQ (by omega) (by omega) (by omega) (by omega)]
      have step : ∀ acc', gX12_oddsOf_L82 S (J p) (J kd) (J a) (J b) (J c) (J an) (J tr) (J k) (J s) (J 2) v12 (J one) (J f) n (J acc') (J ((i : Int) - 5 + 1)) = some (J (acc' + (sm 11 (fun j => if A f (l1 + ((j : Int) - 5)) 0 = an then one * mN S s k j else 0) - sm (i + 1) (fun j => if A f (l1 + ((j : Int) - 5)) 0 = an then one * mN S s k j else 0)))) := by
        intro acc'
        have := ih (i + 1) acc' (by omega) (by omega)
        rw [show ((i : Int) - 5 + 1) = (((i + 1 : Nat) : Int) - 5) by omega]
        exact this
      by_cases z : one * mN S s k i = 0
      · rw [if_pos z, lmr, un2s, J_add, step, sm_s (n := i)]
        congr 2
        rw [z]
        simp
      · rw [if_neg z, if_neg (by decide), hl, b1s, if_pos (by decide), J_add, m_od_L2 (Or.inr rfl) hA han hf ⟨by omega, by omega⟩ ⟨by omega, by omega⟩, b1s, lmr, un2s, J_add, step, sm_s (n := i)]
        congr 2
        omega
theorem m_od_M3 {one : Int} (hs : s < 6) (hk : k ≤ 6) (ho : nOK (mN S s k)) (hA : isA S p kd b c tr A) (han : inI an) (hl : gX12_levelAt S (J s) (J kd) (J a) (J b) (J c) (J 1) = some (J l1)) (hl1 : 0 ≤ l1 ∧ l1 ≤ 9999) (hL : gX12_levelAt S (J s) (J kd) (J a) (J b) (J c) (J 2) = some (J l2)) (hl2 : 0 ≤ l2 ∧ l2 ≤ 9999) (hf : inF f) (h1 : 0 < one ∧ one ≤ 99) : ∀ (n i : Nat) (acc : Int), i ≤ 11 → 12 ≤ n + i → gX12_oddsOf_L82 S (J p) (J kd) (J a) (J b) (J c) (J an) (J tr) (J k) (J s) (J 3) v12 (J one) (J f) n (J acc) (J ((i : Int) - 5)) = some (J (acc + (sm 11 (fun j => sm 11 (fun k' => if A f (l1 + ((j : Int) - 5)) (l2 + ((k' : Int) - 5)) = an then one * mN S s k j * mN S s k k' else 0)) - sm i (fun j => sm 11 (fun k' => if A f (l1 + ((j : Int) - 5)) (l2 + ((k' : Int) - 5)) = an then one * mN S s k j * mN S s k k' else 0))))) := by
  intro n
  induction n with
  | zero => intro i acc h1 h2; omega
  | succ n ih =>
    intro i acc h1' hn
    unfold gX12_oddsOf_L82
    simp only [J_0, J_1, J_2, J_3, J_4, J_5, J_6, J_7, J_8, J_9, J_10, J_11, J_12, J_14, J_15, J_16, J_19, J_20, J_21, J_22, J_23, J_24, J_25, J_28, J_30, J_31, J_32, J_40, J_44, J_47, J_48, J_49, J_50, J_53, J_54, J_57, J_59, J_74, J_75, J_78, J_84, J_97, J_99, J_100, J_120, J_122, J_126, J_132, J_138, J_144, J_150, J_156, J_162, J_198, J_200, J_202, J_206, J_210, J_214, J_218, J_222, J_226, J_230, J_234, J_238, J_239, J_240, J_241, J_242, J_243, J_255, J_263, J_283, J_303, J_399, J_400, J_401, J_463, J_700, J_701, J_999, J_1000, J_2048, J_4095, J_4096, J_6000, J_9999, J_10000, J_65536, J_65537, J_2147483647, J_neg]
    rw [iLT (by decide) (by decide) (by omega) (by omega)]
    by_cases e : i = 11
    · subst e
      rw [if_pos (by omega)]
      congr 2
      omega
    · have hb := ho.1 i (by omega)
      have ht : 0 ≤ one * mN S s k i ∧ one * mN S s k i ≤ 99 * 9 := ⟨Int.mul_nonneg (by omega) hb.1, Int.mul_le_mul h1.2 hb.2 hb.1 (by omega)⟩
      rw [if_neg (by omega), if_neg (by decide), m_oftenI hs hk (by omega), b1s, J_mul]
      unfold gX12_oddsOf_J112
      simp only [J_0, J_1, J_2, J_3, J_4, J_5, J_6, J_7, J_8, J_9, J_10, J_11, J_12, J_14, J_15, J_16, J_19, J_20, J_21, J_22, J_23, J_24, J_25, J_28, J_30, J_31, J_32, J_40, J_44, J_47, J_48, J_49, J_50, J_53, J_54, J_57, J_59, J_74, J_75, J_78, J_84, J_97, J_99, J_100, J_120, J_122, J_126, J_132, J_138, J_144, J_150, J_156, J_162, J_198, J_200, J_202, J_206, J_210, J_214, J_218, J_222, J_226, J_230, J_234, J_238, J_239, J_240, J_241, J_242, J_243, J_255, J_263, J_283, J_303, J_399, J_400, J_401, J_463, J_700, J_701, J_999, J_1000, J_2048, J_4095, J_4096, J_6000, J_9999, J_10000, J_65536, J_65537, J_2147483647, J_neg]
      rw [iEQ (by omega) (by omega) (by omega) (by omega)]
      have step : ∀ acc', gX12_oddsOf_L82 S (J p) (J kd) (J a) (J b) (J c) (J an) (J tr) (J k) (J s) (J 3) v12 (J one) (J f) n (J acc') (J ((i : Int) - 5 + 1)) = some (J (acc' + (sm 11 (fun j => sm 11 (fun k' => if A f (l1 + ((j : Int) - 5)) (l2 + ((k' : Int) - 5)) = an then one * mN S s k j * mN S s k k' else 0)) - sm (i + 1) (fun j => sm 11 (fun k' => if A f (l1 + ((j : Int) - 5)) (l2 + ((k' : Int) - 5)) = an then one * mN S s k j * mN S s k k' else 0))))) := by
        intro acc'
        have := ih (i + 1) acc' (by omega) (by omega)
        rw [show ((i : Int) - 5 + 1) = (((i + 1 : Nat) : Int) - 5) by omega]
        exact this
      by_cases z : one * mN S s k i = 0
      · rw [if_pos z, lmr, un2s, J_add, step, sm_s (n := i), z]
        congr 2
        have e0 : sm 11 (fun k' => if A f (l1 + ((i : Int) - 5)) (l2 + ((k' : Int) - 5)) = an then 0 * mN S s k k' else 0) = 0 := sm_zero (fun k' _ => by rw [Int.zero_mul]; split <;> rfl)
        rw [e0]
        omega
      · rw [if_neg z, if_neg (by decide), hl, b1s, if_neg (by decide), J_add]
        have h3 := m_od_L3 (v12 := v12) (v13 := J one) (v15 := J ((i : Int) - 5)) hs hk ho hA han hL hl2 hf (g := l1 + ((i : Int) - 5)) ⟨by omega, by omega⟩ (two := one * mN S s k i) ⟨by omega, by omega⟩ FU 0 acc (by omega) (FUs (n := 12) (by omega))
        rw [show (((0 : Nat) : Int) - 5) = -5 from rfl] at h3
        rw [h3, b1s, lmr, un2s, J_add, step, sm_s (n := i), sm_0]
        congr 2
        omega
theorem m_od_M1 {one : Int} (hA : isA S p kd b c tr A) (han : inI an) (hf : inF f) (h1 : 0 < one ∧ one ≤ 99) (acc : Int) : gX12_oddsOf_L82 S (J p) (J kd) (J a) (J b) (J c) (J an) (J tr) (J k) (J s) (J 1) v12 (J one) (J f) FU (J acc) (J 5) = some (J (acc + if A f 0 0 = an then one else 0)) := by
  have hx := @m_od_L2 S p kd a b c an tr s k A f 0 one v12 (J one) (J 5) (J 1) (Or.inl rfl) hA han hf ⟨by decide, by decide⟩ ⟨h1.1, by omega⟩ acc
  obtain ⟨m, hm⟩ : ∃ m, FU = m + 1 + 1 := ⟨1048574, rfl⟩
  rw [hm] at hx ⊢
  rw [gX12_oddsOf_L82, if_neg (by decide), if_pos (by decide)]
  unfold gX12_oddsOf_J112
  simp only [J_0, J_1, J_2, J_3, J_4, J_5, J_6, J_7, J_8, J_9, J_10, J_11, J_12, J_14, J_15, J_16, J_19, J_20, J_21, J_22, J_23, J_24, J_25, J_28, J_30, J_31, J_32, J_40, J_44, J_47, J_48, J_49, J_50, J_53, J_54, J_57, J_59, J_74, J_75, J_78, J_84, J_97, J_99, J_100, J_120, J_122, J_126, J_132, J_138, J_144, J_150, J_156, J_162, J_198, J_200, J_202, J_206, J_210, J_214, J_218, J_222, J_226, J_230, J_234, J_238, J_239, J_240, J_241, J_242, J_243, J_255, J_263, J_283, J_303, J_399, J_400, J_401, J_463, J_700, J_701, J_999, J_1000, J_2048, J_4095, J_4096, J_6000, J_9999, J_10000, J_65536, J_65537, J_2147483647, J_neg]
  rw [iEQ (by omega) (by omega) (by omega) (by omega), if_neg (by omega), if_pos (by decide), if_pos (by decide), hm, hx, b1s, lmr, un2s, gX12_oddsOf_L82, if_pos (by decide)]
/-- the first loop -/
theorem m_od_N {n3 : Int32} {F : Nat → Int} (hn3 : n3 = J 1 ∨ n3 = J 2 ∨ n3 = J 3) (hs : s < 6) (hk : k ≤ 6) (ho : nOK (mN S s k)) (hl : gX12_levelAt S (J s) (J kd) (J a) (J b) (J c) (J 0) = some (J l0)) (hl0 : 0 ≤ l0 ∧ l0 ≤ 9999) (hF0 : ∀ i, i < 11 → mN S s k i = 0 → F i = 0)
    (hF : ∀ (i : Nat) (acc : Int), i < 11 → 0 < mN S s k i → gX12_oddsOf_L82 S (J p) (J kd) (J a) (J b) (J c) (J an) (J tr) (J k) (J s) n3 (J ((i : Int) - 5)) (J (mN S s k i)) (J (l0 + ((i : Int) - 5))) FU (J acc) (if n3 ≤ J 1 then J 5 else J (-5)) = some (J (acc + F i))) : ∀ (n i : Nat) (acc : Int), i ≤ 11 → 12 ≤ n + i → gX12_oddsOf_L24 S (J p) (J kd) (J a) (J b) (J c) (J an) (J tr) (J k) (J s) n3 n (J acc) (J ((i : Int) - 5)) = some (J (acc + (sm 11 F - sm i F))) := by
  intro n
  induction n with
  | zero => intro i acc h1 h2; omega
  | succ n ih =>
    intro i acc h1' hn
    unfold gX12_oddsOf_L24
    simp only [J_0, J_1, J_2, J_3, J_4, J_5, J_6, J_7, J_8, J_9, J_10, J_11, J_12, J_14, J_15, J_16, J_19, J_20, J_21, J_22, J_23, J_24, J_25, J_28, J_30, J_31, J_32, J_40, J_44, J_47, J_48, J_49, J_50, J_53, J_54, J_57, J_59, J_74, J_75, J_78, J_84, J_97, J_99, J_100, J_120, J_122, J_126, J_132, J_138, J_144, J_150, J_156, J_162, J_198, J_200, J_202, J_206, J_210, J_214, J_218, J_222, J_226, J_230, J_234, J_238, J_239, J_240, J_241, J_242, J_243, J_255, J_263, J_283, J_303, J_399, J_400, J_401, J_463, J_700, J_701, J_999, J_1000, J_2048, J_4095, J_4096, J_6000, J_9999, J_10000, J_65536, J_65537, J_2147483647, J_neg]
    have hc : (J 5 < J ((i : Int) - 5)) = (i = 11) := by
      rw [J_lt (by decide) (by decide) (by omega) (by omega)]
      apply propext
      omega
    by_cases e : i = 11
    · rw [if_pos (hc.mpr e), e]
      congr 2
      omega
    · have hb := ho.1 i (by omega)
      have hz : (J (mN S s k i) = J 0) = (mN S s k i = 0) := by
        rw [J_inj (by omega) (by omega) (by omega) (by omega)]
      have hp1 : J ((i : Int) - 5) + J 1 = J (((i + 1 : Nat) : Int) - 5) := by
        rw [J_add]
        congr 1
        omega
      rw [if_neg (fun z => e (hc.mp z)), m_oftenI hs hk (by omega), b1s]
      by_cases z : mN S s k i = 0
      · rw [if_pos (hz.mpr z), hp1, ih (i + 1) acc (by omega) (by omega), sm_s (n := i), hF0 i (by omega) z]
        congr 2
        omega
      · have h3 := hF i acc (by omega) (by omega)
        rw [if_neg (fun w => z (hz.mp w)), hl, b1s, J_add]
        by_cases w : n3 ≤ J 1
        · rw [if_pos w] at h3 ⊢
          rw [h3, b1s, hp1, ih (i + 1) _ (by omega) (by omega), sm_s (n := i)]
          congr 2
          omega
        · rw [if_neg w] at h3 ⊢
          rw [h3, b1s, hp1, ih (i + 1) _ (by omega) (by omega), sm_s (n := i)]
          congr 2
          omega
end
