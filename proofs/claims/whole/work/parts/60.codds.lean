/-! The class' odds. -/
section
variable {S : zM} {q : Nat} {an f g l0 l1 l2 : Int} {w0 w1 w2 B R F : Nat → Int}
theorem i5 (i : Nat) : ((i : Int) - 5 + 1) = (((i + 1 : Nat) : Int) - 5) := by omega
theorem c_last_L (hO : ∀ k : Nat, k < 11 → gX0_oftenAt S q (J 2) (J ((k : Int) - 5)) = some (J (w2 k))) (hw : ∀ k : Nat, k < 11 → 0 ≤ w2 k ∧ w2 k ≤ 9) (hL : gX0_levelOf S (J 2) = some (J l2)) (han : inI an) (hS : ∀ k : Nat, k < 11 → gX0_said S (J f) (J g) (J (l2 + ((k : Int) - 5))) = some (J (B k)) ∧ inI (B k)) : ∀ (n i : Nat) (acc : Int), i ≤ 11 → 12 ≤ n + i → gX0_lastOdds_L7 S q (J an) (J f) (J g) n (J acc) (J ((i : Int) - 5)) = some (J (acc + (sm 11 (fun k => if B k = an then w2 k else 0) - sm i (fun k => if B k = an then w2 k else 0)))) := by
  intro n
  induction n with
  | zero => intro i acc h1 h2; omega
  | succ n ih =>
    intro i acc h1 h2
    unfold gX0_lastOdds_L7
    simp only [J_0, J_1, J_2, J_3, J_4, J_5, J_6, J_7, J_8, J_9, J_10, J_11, J_12, J_14, J_15, J_16, J_19, J_20, J_21, J_22, J_23, J_24, J_25, J_28, J_30, J_31, J_32, J_40, J_44, J_47, J_48, J_49, J_50, J_53, J_54, J_57, J_59, J_74, J_75, J_78, J_84, J_97, J_99, J_100, J_120, J_122, J_126, J_132, J_138, J_144, J_150, J_156, J_162, J_198, J_200, J_202, J_206, J_210, J_214, J_218, J_222, J_226, J_230, J_234, J_238, J_239, J_240, J_241, J_242, J_243, J_255, J_263, J_283, J_303, J_399, J_400, J_401, J_463, J_700, J_701, J_999, J_1000, J_2048, J_4095, J_4096, J_6000, J_9999, J_10000, J_65536, J_65537, J_2147483647, J_neg]
    rw [iLT (by decide) (by decide) (by omega) (by omega)]
    by_cases e : i = 11
    · subst e
      rw [if_pos (by omega)]
      congr 2
      omega
    · have hb := hw i (by omega)
      obtain ⟨s1, s2⟩ := hS i (by omega)
      unfold inI at s2 han
      rw [if_neg (show ¬ 5 < (i : Int) - 5 by omega), hO i (by omega), b1s, hL, b1s, J_add, J_add, s1, b1s, J_add, i5]
      simp (disch := omega) only [J_lt, J_le, J_inj]
      by_cases z : w2 i ≤ 0
      · rw [if_pos z, ih (i + 1) acc (by omega) (by omega), sm_s (n := i), show w2 i = 0 by omega]
        congr 2
        split <;> omega
      · rw [if_neg z]
        by_cases y : B i = an
        · rw [if_pos y, ih (i + 1) _ (by omega) (by omega), sm_s (n := i), if_pos y]
          congr 2
          omega
        · rw [if_neg y, ih (i + 1) _ (by omega) (by omega), sm_s (n := i), if_neg y]
          congr 2
          omega
theorem c_last (hO : ∀ k : Nat, k < 11 → gX0_oftenAt S q (J 2) (J ((k : Int) - 5)) = some (J (w2 k))) (hw : ∀ k : Nat, k < 11 → 0 ≤ w2 k ∧ w2 k ≤ 9) (hL : gX0_levelOf S (J 2) = some (J l2)) (han : inI an) (hS : ∀ k : Nat, k < 11 → gX0_said S (J f) (J g) (J (l2 + ((k : Int) - 5))) = some (J (B k)) ∧ inI (B k)) : gX0_lastOdds S q (J an) (J f) (J g) = some (J (sm 11 (fun k => if B k = an then w2 k else 0))) := by
  unfold gX0_lastOdds
  simp only [J_0, J_1, J_2, J_3, J_4, J_5, J_6, J_7, J_8, J_9, J_10, J_11, J_12, J_14, J_15, J_16, J_19, J_20, J_21, J_22, J_23, J_24, J_25, J_28, J_30, J_31, J_32, J_40, J_44, J_47, J_48, J_49, J_50, J_53, J_54, J_57, J_59, J_74, J_75, J_78, J_84, J_97, J_99, J_100, J_120, J_122, J_126, J_132, J_138, J_144, J_150, J_156, J_162, J_198, J_200, J_202, J_206, J_210, J_214, J_218, J_222, J_226, J_230, J_234, J_238, J_239, J_240, J_241, J_242, J_243, J_255, J_263, J_283, J_303, J_399, J_400, J_401, J_463, J_700, J_701, J_999, J_1000, J_2048, J_4095, J_4096, J_6000, J_9999, J_10000, J_65536, J_65537, J_2147483647, J_neg]
  have := c_last_L hO hw hL han hS FU 0 0 (by omega) (FUs (n := 12) (by omega))
  rw [show (((0 : Nat) : Int) - 5) = -5 from rfl] at this
  rw [this, sm_0]
  congr 2
  omega
theorem c_mid_L {one v : Int} (hO : ∀ k : Nat, k < 11 → gX0_oftenAt S q (J 1) (J ((k : Int) - 5)) = some (J (w1 k))) (hw : ∀ k : Nat, k < 11 → 0 ≤ w1 k ∧ w1 k ≤ 9) (hL0 : gX0_levelOf S (J 0) = some (J l0)) (hL1 : gX0_levelOf S (J 1) = some (J l1)) (h1 : 0 ≤ one ∧ one ≤ 9) (hS : ∀ k : Nat, k < 11 → gX0_lastOdds S q (J an) (J (l0 + v)) (J (l1 + ((k : Int) - 5))) = some (J (R k))) : ∀ (n i : Nat) (acc : Int), i ≤ 11 → 12 ≤ n + i → gX0_oddsOf_L26 S q (J an) (J v) (J one) n (J acc) (J ((i : Int) - 5)) = some (J (acc + (sm 11 (fun k => one * w1 k * R k) - sm i (fun k => one * w1 k * R k)))) := by
  intro n
  induction n with
  | zero => intro i acc h1 h2; omega
  | succ n ih =>
    intro i acc h1' h2
    unfold gX0_oddsOf_L26
    simp only [J_0, J_1, J_2, J_3, J_4, J_5, J_6, J_7, J_8, J_9, J_10, J_11, J_12, J_14, J_15, J_16, J_19, J_20, J_21, J_22, J_23, J_24, J_25, J_28, J_30, J_31, J_32, J_40, J_44, J_47, J_48, J_49, J_50, J_53, J_54, J_57, J_59, J_74, J_75, J_78, J_84, J_97, J_99, J_100, J_120, J_122, J_126, J_132, J_138, J_144, J_150, J_156, J_162, J_198, J_200, J_202, J_206, J_210, J_214, J_218, J_222, J_226, J_230, J_234, J_238, J_239, J_240, J_241, J_242, J_243, J_255, J_263, J_283, J_303, J_399, J_400, J_401, J_463, J_700, J_701, J_999, J_1000, J_2048, J_4095, J_4096, J_6000, J_9999, J_10000, J_65536, J_65537, J_2147483647, J_neg]
    rw [iLE (a := one) (b := 0) (by omega) (by omega) (by decide) (by decide), iLT (by decide) (by decide) (by omega) (by omega)]
    by_cases z1 : one ≤ 0
    · rw [if_pos z1, show one = 0 by omega]
      congr 2
      rw [sm_zero (fun k _ => by rw [Int.zero_mul, Int.zero_mul]), sm_zero (fun k _ => by rw [Int.zero_mul, Int.zero_mul])]
      omega
    · rw [if_neg z1]
      by_cases e : i = 11
      · subst e
        rw [if_pos (by omega)]
        congr 2
        omega
      · have hb := hw i (by omega)
        have ht : 0 ≤ one * w1 i ∧ one * w1 i ≤ 9 * 9 := ⟨Int.mul_nonneg h1.1 hb.1, Int.mul_le_mul h1.2 hb.2 hb.1 (by omega)⟩
        rw [if_neg (show ¬ 5 < (i : Int) - 5 by omega), hO i (by omega), b1s, J_mul, hL0, b1s, hL1, b1s, J_add, J_add, J_add, hS i (by omega), b1s, J_mul, J_add, i5]
        simp (disch := omega) only [J_lt, J_le, J_inj]
        by_cases z : one * w1 i ≤ 0
        · rw [if_pos z, ih (i + 1) acc (by omega) (by omega), sm_s (n := i), show one * w1 i = 0 by omega, Int.zero_mul]
          congr 2
          omega
        · rw [if_neg z, ih (i + 1) _ (by omega) (by omega), sm_s (n := i)]
          congr 2
          omega
theorem c_mid {one v : Int} (hO : ∀ k : Nat, k < 11 → gX0_oftenAt S q (J 1) (J ((k : Int) - 5)) = some (J (w1 k))) (hw : ∀ k : Nat, k < 11 → 0 ≤ w1 k ∧ w1 k ≤ 9) (hL0 : gX0_levelOf S (J 0) = some (J l0)) (hL1 : gX0_levelOf S (J 1) = some (J l1)) (h1 : 0 ≤ one ∧ one ≤ 9) (hS : ∀ k : Nat, k < 11 → gX0_lastOdds S q (J an) (J (l0 + v)) (J (l1 + ((k : Int) - 5))) = some (J (R k))) (acc : Int) : gX0_oddsOf_L26 S q (J an) (J v) (J one) FU (J acc) (J (-5)) = some (J (acc + sm 11 (fun k => one * w1 k * R k))) := by
  have := c_mid_L hO hw hL0 hL1 h1 hS FU 0 acc (by omega) (FUs (n := 12) (by omega))
  rw [show (((0 : Nat) : Int) - 5) = -5 from rfl] at this
  rw [this, sm_0]
  congr 2
  omega
theorem c_top_L (hO : ∀ k : Nat, k < 11 → gX0_oftenAt S q (J 0) (J ((k : Int) - 5)) = some (J (w0 k))) (hF : ∀ (k : Nat) (acc : Int), k < 11 → gX0_oddsOf_L26 S q (J an) (J ((k : Int) - 5)) (J (w0 k)) FU (J acc) (J (-5)) = some (J (acc + F k))) : ∀ (n i : Nat) (acc : Int), i ≤ 11 → 12 ≤ n + i → gX0_oddsOf_L6 S q (J an) n (J acc) (J ((i : Int) - 5)) = some (J (acc + (sm 11 F - sm i F))) := by
  intro n
  induction n with
  | zero => intro i acc h1 h2; omega
  | succ n ih =>
    intro i acc h1 h2
    unfold gX0_oddsOf_L6
    simp only [J_0, J_1, J_2, J_3, J_4, J_5, J_6, J_7, J_8, J_9, J_10, J_11, J_12, J_14, J_15, J_16, J_19, J_20, J_21, J_22, J_23, J_24, J_25, J_28, J_30, J_31, J_32, J_40, J_44, J_47, J_48, J_49, J_50, J_53, J_54, J_57, J_59, J_74, J_75, J_78, J_84, J_97, J_99, J_100, J_120, J_122, J_126, J_132, J_138, J_144, J_150, J_156, J_162, J_198, J_200, J_202, J_206, J_210, J_214, J_218, J_222, J_226, J_230, J_234, J_238, J_239, J_240, J_241, J_242, J_243, J_255, J_263, J_283, J_303, J_399, J_400, J_401, J_463, J_700, J_701, J_999, J_1000, J_2048, J_4095, J_4096, J_6000, J_9999, J_10000, J_65536, J_65537, J_2147483647, J_neg]
    rw [iLT (by decide) (by decide) (by omega) (by omega)]
    by_cases e : i = 11
    · subst e
      rw [if_pos (by omega)]
      congr 2
      omega
    · rw [if_neg (show ¬ 5 < (i : Int) - 5 by omega), hO i (by omega), b1s, hF i acc (by omega), b1s, J_add, i5, ih (i + 1) _ (by omega) (by omega), sm_s (n := i)]
      congr 2
      omega
theorem c_top (hO : ∀ k : Nat, k < 11 → gX0_oftenAt S q (J 0) (J ((k : Int) - 5)) = some (J (w0 k))) (hF : ∀ (k : Nat) (acc : Int), k < 11 → gX0_oddsOf_L26 S q (J an) (J ((k : Int) - 5)) (J (w0 k)) FU (J acc) (J (-5)) = some (J (acc + F k))) : gX0_oddsOf S q (J an) = some (J (sm 11 F)) := by
  unfold gX0_oddsOf
  simp only [J_0, J_1, J_2, J_3, J_4, J_5, J_6, J_7, J_8, J_9, J_10, J_11, J_12, J_14, J_15, J_16, J_19, J_20, J_21, J_22, J_23, J_24, J_25, J_28, J_30, J_31, J_32, J_40, J_44, J_47, J_48, J_49, J_50, J_53, J_54, J_57, J_59, J_74, J_75, J_78, J_84, J_97, J_99, J_100, J_120, J_122, J_126, J_132, J_138, J_144, J_150, J_156, J_162, J_198, J_200, J_202, J_206, J_210, J_214, J_218, J_222, J_226, J_230, J_234, J_238, J_239, J_240, J_241, J_242, J_243, J_255, J_263, J_283, J_303, J_399, J_400, J_401, J_463, J_700, J_701, J_999, J_1000, J_2048, J_4095, J_4096, J_6000, J_9999, J_10000, J_65536, J_65537, J_2147483647, J_neg]
  have := c_top_L hO hF FU 0 0 (by omega) (FUs (n := 12) (by omega))
  rw [show (((0 : Nat) : Int) - 5) = -5 from rfl] at this
  rw [this, sm_0]
  congr 2
  omega
end
theorem nAt_i {o : Nat → Int} {k : Nat} (h : k < 11) : nAt o ((k : Int) - 5) = o k := by
  unfold nAt
  rw [if_pos (by omega)]
  congr 1
  omega
/-- how many feelings -/
def fe (kd : Int) : Int := if kd = 2 then 3 else if kd = 0 ∨ kd = 5 then 2 else 1
theorem fe_b (kd : Int) : 1 ≤ fe kd ∧ fe kd ≤ 3 := by unfold fe; repeat' split <;> omega
theorem m_feelings {kd : Int} (hk : 0 ≤ kd ∧ kd ≤ 5) : gX12_feelings (J kd) = some (J (fe kd)) := by
  unfold gX12_feelings fe
  simp (disch := omega) only [J_0, J_1, J_2, J_3, J_4, J_5, J_6, J_7, J_8, J_9, J_10, J_11, J_12, J_14, J_15, J_16, J_19, J_20, J_21, J_22, J_23, J_24, J_25, J_28, J_30, J_31, J_32, J_40, J_44, J_47, J_48, J_49, J_50, J_53, J_54, J_57, J_59, J_74, J_75, J_78, J_84, J_97, J_99, J_100, J_120, J_122, J_126, J_132, J_138, J_144, J_150, J_156, J_162, J_198, J_200, J_202, J_206, J_210, J_214, J_218, J_222, J_226, J_230, J_234, J_238, J_239, J_240, J_241, J_242, J_243, J_255, J_263, J_283, J_303, J_399, J_400, J_401, J_463, J_700, J_701, J_999, J_1000, J_2048, J_4095, J_4096, J_6000, J_9999, J_10000, J_65536, J_65537, J_2147483647, J_neg, J_lt, J_le, J_inj]
  repeat' split
  all_goals first | rfl | (exfalso; omega)
theorem c_feelings {S : zM} {kd : Int} (h : gI S 456 4 = J kd) (hk : 0 ≤ kd ∧ kd ≤ 5) : gX0_feelings S = some (J (fe kd)) := by
  unfold gX0_feelings fe
  simp (disch := omega) only [J_0, J_1, J_2, J_3, J_4, J_5, J_6, J_7, J_8, J_9, J_10, J_11, J_12, J_14, J_15, J_16, J_19, J_20, J_21, J_22, J_23, J_24, J_25, J_28, J_30, J_31, J_32, J_40, J_44, J_47, J_48, J_49, J_50, J_53, J_54, J_57, J_59, J_74, J_75, J_78, J_84, J_97, J_99, J_100, J_120, J_122, J_126, J_132, J_138, J_144, J_150, J_156, J_162, J_198, J_200, J_202, J_206, J_210, J_214, J_218, J_222, J_226, J_230, J_234, J_238, J_239, J_240, J_241, J_242, J_243, J_255, J_263, J_283, J_303, J_399, J_400, J_401, J_463, J_700, J_701, J_999, J_1000, J_2048, J_4095, J_4096, J_6000, J_9999, J_10000, J_65536, J_65537, J_2147483647, J_neg, h, J_lt, J_le, J_inj]
  repeat' split
  all_goals first | rfl | (exfalso; omega)
/-- the size at a place of what is asked -/
def szk (kd a b c k : Int) : Int := if kd = 2 then (if k = c then b else a) else if k = 0 then a else b
section
variable {SC SM : zM} {H p t : Nat} {kd a b c : Int}
def lvk (SM : zM) (s : Nat) (kd a b c k : Int) : Int := iI SM 5 (401 * s + (szk kd a b c k).toNat)
theorem szk_b {k : Int} (hok : okB kd a b c) (hk : 0 ≤ kd ∧ kd ≤ 5) (h0 : 0 ≤ k) (h1 : k < fe kd) : 0 ≤ szk kd a b c k ∧ szk kd a b c k ≤ 400 := by
  unfold okB at hok
  unfold fe at h1
  unfold szk
  repeat' split <;> omega
theorem m_levelAt {k : Int} {s : Nat} (hs : s < 6) (hok : okB kd a b c) (hk : 0 ≤ kd ∧ kd ≤ 5) (hc : inI c) (h0 : 0 ≤ k) (h1 : k < fe kd) : gX12_levelAt SM (J s) (J kd) (J a) (J b) (J c) (J k) = some (J (lvk SM s kd a b c k)) := by
  have hz := szk_b hok hk h0 h1
  have hf := fe_b kd
  unfold lvk
  unfold szk at hz ⊢
  unfold inI at hc
  unfold gX12_levelAt gX12_levelAt_J32
  simp (disch := omega) only [J_0, J_1, J_2, J_3, J_4, J_5, J_6, J_7, J_8, J_9, J_10, J_11, J_12, J_14, J_15, J_16, J_19, J_20, J_21, J_22, J_23, J_24, J_25, J_28, J_30, J_31, J_32, J_40, J_44, J_47, J_48, J_49, J_50, J_53, J_54, J_57, J_59, J_74, J_75, J_78, J_84, J_97, J_99, J_100, J_120, J_122, J_126, J_132, J_138, J_144, J_150, J_156, J_162, J_198, J_200, J_202, J_206, J_210, J_214, J_218, J_222, J_226, J_230, J_234, J_238, J_239, J_240, J_241, J_242, J_243, J_255, J_263, J_283, J_303, J_399, J_400, J_401, J_463, J_700, J_701, J_999, J_1000, J_2048, J_4095, J_4096, J_6000, J_9999, J_10000, J_65536, J_65537, J_2147483647, J_neg, J_lt, J_le, J_inj]
  by_cases e2 : kd = 2
  · rw [if_pos e2] at hz ⊢
    rw [if_pos e2]
    by_cases e : k = c
    · rw [if_pos e] at hz ⊢
      rw [if_pos e, m_levelOf hs hz.1 hz.2, b1s]
    · rw [if_neg e] at hz ⊢
      rw [if_neg e, m_levelOf hs hz.1 hz.2, b1s]
  · rw [if_neg e2] at hz ⊢
    rw [if_neg e2]
    by_cases e : k = 0
    · rw [if_pos e] at hz ⊢
      rw [if_pos e, m_levelOf hs hz.1 hz.2, b1s]
    · rw [if_neg e] at hz ⊢
      rw [if_neg e, m_levelOf hs hz.1 hz.2, b1s]
theorem lvk_b {k : Int} {s : Nat} (hl : mSense SM s) (hok : okB kd a b c) (hk : 0 ≤ kd ∧ kd ≤ 5) (h0 : 0 ≤ k) (h1 : k < fe kd) : 0 ≤ lvk SM s kd a b c k ∧ lvk SM s kd a b c k ≤ 9999 := by
  have hz := szk_b hok hk h0 h1
  exact hl.2.2.2 _ (by omega)
/-- the class finds some level at each place, and the model's where there is a feeling -/
theorem c_levelOf {k : Int} (h : okP SC SM H p t) (ask : rAsk SC SM H p kd a b c) (hok : okB kd a b c) (hk : 0 ≤ kd ∧ kd ≤ 5) (hb4 : kd = 4 → 0 ≤ b ∧ b < cnt SM 0) (h0 : 0 ≤ k ∧ k ≤ 2) : ∃ l : Int, (0 ≤ l ∧ l ≤ 9999) ∧ gX0_levelOf SC (J k) = some (J l) ∧ (k < fe kd → l = lvk SM (mS SM p) kd a b c k) := by
  obtain ⟨-, a1, -, -, a4, a5, a6, a7⟩ := ask
  rw [Int.toNat_natCast] at a1
  have hs := mS_b h
  have hse := okS h
  have hn := h.2.2.2.2.1
  have hl5 := hse.1.2.2.2
  have e1 : gR SC 456 1 = H + 7 + 31 * mS SM p := a1
  have hz9 := zb9 h.1 hs.1
  have lev : ∀ x : Int, 0 ≤ x → x ≤ 400 → gX9_levelAt SC (H + 7 + 31 * mS SM p) (J x) = some (J (iI SM 5 (401 * mS SM p + x.toNat))) := by
    intro x h1 h2
    rw [c_levelAt h1 h2, hse.2.2.1 _ (by omega), gI_J]
  have fin : ∀ x : Int, 0 ≤ x → x ≤ 400 → (k < fe kd → x = szk kd a b c k) → ∃ l : Int, (0 ≤ l ∧ l ≤ 9999) ∧ (b1 (gX9_levelAt SC (H + 7 + 31 * mS SM p) (J x)) fun r => some r) = some (J l) ∧ (k < fe kd → l = lvk SM (mS SM p) kd a b c k) := by
    intro x h1 h2 h3
    refine ⟨_, hl5 x.toNat (by omega), by rw [lev x h1 h2, b1s], fun z => ?_⟩
    unfold lvk
    rw [h3 z]
  unfold okB at hok
  unfold gX0_levelOf gX0_levelOf_J34
  simp only [J_0, J_1, J_2, J_3, J_4, J_5, J_6, J_7, J_8, J_9, J_10, J_11, J_12, J_14, J_15, J_16, J_19, J_20, J_21, J_22, J_23, J_24, J_25, J_28, J_30, J_31, J_32, J_40, J_44, J_47, J_48, J_49, J_50, J_53, J_54, J_57, J_59, J_74, J_75, J_78, J_84, J_97, J_99, J_100, J_120, J_122, J_126, J_132, J_138, J_144, J_150, J_156, J_162, J_198, J_200, J_202, J_206, J_210, J_214, J_218, J_222, J_226, J_230, J_234, J_238, J_239, J_240, J_241, J_242, J_243, J_255, J_263, J_283, J_303, J_399, J_400, J_401, J_463, J_700, J_701, J_999, J_1000, J_2048, J_4095, J_4096, J_6000, J_9999, J_10000, J_65536, J_65537, J_2147483647, J_neg, a4, a5, a6, a7, e1, hz9, ckt, b1s, b2s, lts, un2s, un3s, un4s, un5s, lmr, lml, lgr, lgl]
  unfold fe szk at fin
  unfold fe
  have hk6 : kd = 0 ∨ kd = 1 ∨ kd = 2 ∨ kd = 3 ∨ kd = 4 ∨ kd = 5 := by omega
  have hk3 : k = 0 ∨ k = 1 ∨ k = 2 := by omega
  rcases hk6 with rfl | rfl | rfl | rfl | rfl | rfl
  · rcases hk3 with rfl | rfl | rfl
    · exact fin a (by omega) (by omega) (fun _ => rfl)
    · exact fin b (by omega) (by omega) (fun _ => rfl)
    · exact fin a (by omega) (by omega) (fun z => absurd z (by decide))
  · rcases hk3 with rfl | rfl | rfl
    · exact fin a (by omega) (by omega) (fun _ => rfl)
    · exact fin 0 (by omega) (by omega) (fun z => absurd z (by decide))
    · exact fin a (by omega) (by omega) (fun z => absurd z (by decide))
  · have hc := hok.2.2.2.1 rfl
    have hc3 : c = 0 ∨ c = 1 ∨ c = 2 := by omega
    rcases hk3 with rfl | rfl | rfl <;> rcases hc3 with rfl | rfl | rfl
    · exact fin b (by omega) (by omega) (fun _ => rfl)
    · exact fin a (by omega) (by omega) (fun _ => rfl)
    · exact fin a (by omega) (by omega) (fun _ => rfl)
    · exact fin a (by omega) (by omega) (fun _ => rfl)
    · exact fin b (by omega) (by omega) (fun _ => rfl)
    · exact fin a (by omega) (by omega) (fun _ => rfl)
    · exact fin a (by omega) (by omega) (fun _ => rfl)
    · exact fin a (by omega) (by omega) (fun _ => rfl)
    · exact fin b (by omega) (by omega) (fun _ => rfl)
  · rcases hk3 with rfl | rfl | rfl
    · exact fin a (by omega) (by omega) (fun _ => rfl)
    · exact fin 0 (by omega) (by omega) (fun z => absurd z (by decide))
    · exact fin a (by omega) (by omega) (fun z => absurd z (by decide))
  · have hb' := hb4 rfl
    rcases hk3 with rfl | rfl | rfl
    · exact fin a (by omega) (by omega) (fun _ => rfl)
    · exact fin b (by omega) (by omega) (fun z => absurd z (by decide))
    · exact fin a (by omega) (by omega) (fun z => absurd z (by decide))
  · rcases hk3 with rfl | rfl | rfl
    · exact fin a (by omega) (by omega) (fun _ => rfl)
    · exact fin b (by omega) (by omega) (fun _ => rfl)
    · exact fin a (by omega) (by omega) (fun z => absurd z (by decide))
end
