/-! What is asked. -/
/-- the two memories are the same but where E says -/
def fr (E : Nat → Nat → Prop) (S S' : zM) : Prop := (∀ q k, ¬ E q k → gI S' q k = gI S q k) ∧ (∀ q k, ¬ E q k → gL S' q k = gL S q k) ∧ ∀ q k, ¬ E q k → gR S' q k = gR S q k
theorem fr_r {E : Nat → Nat → Prop} {S : zM} : fr E S S := ⟨fun _ _ _ => rfl, fun _ _ _ => rfl, fun _ _ _ => rfl⟩
theorem fr_t {E : Nat → Nat → Prop} {S S' S'' : zM} (h : fr E S S') (h2 : fr E S' S'') : fr E S S'' := ⟨fun q k z => (h2.1 q k z).trans (h.1 q k z), fun q k z => (h2.2.1 q k z).trans (h.2.1 q k z), fun q k z => (h2.2.2 q k z).trans (h.2.2 q k z)⟩
theorem fr_w {E E' : Nat → Nat → Prop} {S S' : zM} (h : fr E S S') (hE : ∀ q k, E q k → E' q k) : fr E' S S' := ⟨fun q k z => h.1 q k (fun w => z (hE q k w)), fun q k z => h.2.1 q k (fun w => z (hE q k w)), fun q k z => h.2.2 q k (fun w => z (hE q k w))⟩
theorem fr_pI {E : Nat → Nat → Prop} {S : zM} {q k : Nat} {v : Int32} (h : E q k) : fr E S (pI S q k v) := ⟨fun a b z => by rw [rII, if_neg (fun w => z (by rw [w.1, w.2]; exact h))], fun _ _ _ => rfl, fun _ _ _ => rfl⟩
theorem fr_pL {E : Nat → Nat → Prop} {S : zM} {q k : Nat} {v : Int64} (h : E q k) : fr E S (pL S q k v) := ⟨fun _ _ _ => rfl, fun a b z => by rw [rLL, if_neg (fun w => z (by rw [w.1, w.2]; exact h))], fun _ _ _ => rfl⟩
theorem fr_pR {E : Nat → Nat → Prop} {S : zM} {q k : Nat} {v : Nat} (h : E q k) : fr E S (pR S q k v) := ⟨fun _ _ _ => rfl, fun _ _ _ => rfl, fun a b z => by rw [rRR, if_neg (fun w => z (by rw [w.1, w.2]; exact h))]⟩
theorem fr_i {E : Nat → Nat → Prop} {S S' : zM} (h : fr E S S') {q k : Nat} (z : ¬ E q k) : iI S' q k = iI S q k := congrArg Int32.toInt (h.1 q k z)
theorem fr_cnt {E : Nat → Nat → Prop} {S S' : zM} (h : fr E S S') (h0 : ¬ E 0 14) {i : Nat} (h1 : ¬ E 3 (238 + i)) : cnt S' i = cnt S i := by
  unfold cnt
  rw [h.1 0 14 h0, fr_i h h1]
/-- which trouble a question brings: 0, 1, 2 -/
def brs (S : zM) (p kd a b c : Int) : Int :=
  if ¬ (0 ≤ p ∧ p < cnt S 1 ∧ 0 ≤ kd ∧ kd ≤ 5 ∧ (kd = 4 → 0 ≤ b ∧ b < cnt S 0)) then 1
  else if (if kd = 1 then 0 else 1) ≤ a ∧ a ≤ 400 ∧ (kd = 0 ∨ kd = 2 ∨ kd = 5 → 1 ≤ b ∧ b ≤ 400) ∧ (kd = 2 → 0 ≤ c ∧ c ≤ 2) ∧ (kd = 5 → 0 ≤ c ∧ c ≤ 1) then 0 else 2
theorem m_bars44 {S : zM} {kd a b c lo : Int} (hk : 0 ≤ kd ∧ kd ≤ 5) (hlo : 0 ≤ lo ∧ lo ≤ 1) (ha : -2147483648 ≤ a ∧ a ≤ 2147483647) (hb : -2147483648 ≤ b ∧ b ≤ 2147483647) (hc : -2147483648 ≤ c ∧ c ≤ 2147483647) : gX12_bars_J44 S (J kd) (J b) (J c) (J lo) (J a) = some (J (if lo ≤ a ∧ a ≤ 400 ∧ (kd = 0 ∨ kd = 2 ∨ kd = 5 → 1 ≤ b ∧ b ≤ 400) ∧ (kd = 2 → 0 ≤ c ∧ c ≤ 2) ∧ (kd = 5 → 0 ≤ c ∧ c ≤ 1) then 0 else 2)) := by
  unfold gX12_bars_J44
  simp only [J_0, J_1, J_2, J_3, J_4, J_5, J_6, J_7, J_8, J_9, J_10, J_11, J_12, J_14, J_15, J_16, J_19, J_20, J_21, J_22, J_23, J_24, J_25, J_28, J_30, J_31, J_32, J_40, J_44, J_47, J_48, J_49, J_50, J_53, J_54, J_57, J_59, J_74, J_75, J_78, J_84, J_97, J_99, J_100, J_120, J_122, J_126, J_132, J_138, J_144, J_150, J_156, J_162, J_198, J_200, J_202, J_206, J_210, J_214, J_218, J_222, J_226, J_230, J_234, J_238, J_239, J_240, J_241, J_242, J_243, J_255, J_263, J_283, J_303, J_399, J_400, J_401, J_463, J_700, J_701, J_999, J_1000, J_2048, J_4095, J_4096, J_6000, J_9999, J_10000, J_65536, J_65537, J_2147483647, J_neg]
  rw [m_within ha.1 ha.2 (by omega) (by omega) (by decide) (by decide), b1s, iB0]
  by_cases h : lo ≤ a ∧ a ≤ 400
  · rw [if_pos h]
    have hk6 : kd = 0 ∨ kd = 1 ∨ kd = 2 ∨ kd = 3 ∨ kd = 4 ∨ kd = 5 := by omega
    rcases hk6 with rfl | rfl | rfl | rfl | rfl | rfl <;> simp (disch := decide) only [J_inj, J_lt, J_le, Int.reduceEq, Int.reduceLT, Int.reduceLE, Int.reduceNeg, ↓reduceIte, true_or, or_true, false_or, or_false, true_and, and_true, false_and, and_false, not_true_eq_false, not_false_eq_true, forall_const, implies_true, true_implies, false_implies]
    · rw [m_within hb.1 hb.2 (by decide) (by decide) (by decide) (by decide), b1s, iB0]
      by_cases h2 : 1 ≤ b ∧ b ≤ 400
      · rw [if_pos h2, if_pos (by omega)]
      · rw [if_neg h2, if_neg (by omega)]
    · rw [if_pos (by omega)]
    · rw [m_within hb.1 hb.2 (by decide) (by decide) (by decide) (by decide), b1s, iB0, m_within hc.1 hc.2 (by decide) (by decide) (by decide) (by decide), b1s, iB0]
      by_cases h2 : 1 ≤ b ∧ b ≤ 400
      · rw [if_pos h2]
        by_cases h3 : 0 ≤ c ∧ c ≤ 2
        · rw [if_pos h3, if_pos (by omega)]
        · rw [if_neg h3, if_neg (by omega)]
      · rw [if_neg h2, if_neg (by omega)]
    · rw [if_pos (by omega)]
    · rw [if_pos (by omega)]
    · rw [m_within hb.1 hb.2 (by decide) (by decide) (by decide) (by decide), b1s, iB0, m_within hc.1 hc.2 (by decide) (by decide) (by decide) (by decide), b1s, iB0]
      by_cases h2 : 1 ≤ b ∧ b ≤ 400
      · rw [if_pos h2]
        by_cases h3 : 0 ≤ c ∧ c ≤ 1
        · rw [if_pos h3, if_pos (by omega)]
        · rw [if_neg h3, if_neg (by omega)]
      · rw [if_neg h2, if_neg (by omega)]
  · rw [if_neg h, if_neg (by omega)]
theorem m_bars {S : zM} {p kd a b c : Int} (hp : -2147483648 ≤ p ∧ p ≤ 2147483647) (hk : -2147483648 ≤ kd ∧ kd ≤ 2147483647) (ha : -2147483648 ≤ a ∧ a ≤ 2147483647) (hb : -2147483648 ≤ b ∧ b ≤ 2147483647) (hc : -2147483648 ≤ c ∧ c ≤ 2147483647) (h0 : 0 ≤ cnt S 0 ∧ cnt S 0 ≤ 6) (h1 : 0 ≤ cnt S 1 ∧ cnt S 1 ≤ 6) : gX12_bars S (J p) (J kd) (J a) (J b) (J c) = some (J (brs S p kd a b c)) := by
  unfold gX12_bars brs
  simp only [J_0, J_1, J_2, J_3, J_4, J_5, J_6, J_7, J_8, J_9, J_10, J_11, J_12, J_14, J_15, J_16, J_19, J_20, J_21, J_22, J_23, J_24, J_25, J_28, J_30, J_31, J_32, J_40, J_44, J_47, J_48, J_49, J_50, J_53, J_54, J_57, J_59, J_74, J_75, J_78, J_84, J_97, J_99, J_100, J_120, J_122, J_126, J_132, J_138, J_144, J_150, J_156, J_162, J_198, J_200, J_202, J_206, J_210, J_214, J_218, J_222, J_226, J_230, J_234, J_238, J_239, J_240, J_241, J_242, J_243, J_255, J_263, J_283, J_303, J_399, J_400, J_401, J_463, J_700, J_701, J_999, J_1000, J_2048, J_4095, J_4096, J_6000, J_9999, J_10000, J_65536, J_65537, J_2147483647, J_neg]
  rw [m_isSayer hp.1 hp.2 h1, b1s, iB0]
  by_cases g1 : 0 ≤ p ∧ p < cnt S 1
  · rw [if_pos g1, m_within hk.1 hk.2 (by decide) (by decide) (by decide) (by decide), b1s, iB0]
    by_cases g2 : 0 ≤ kd ∧ kd ≤ 5
    · rw [if_pos g2, iEQ hk.1 hk.2 (by decide) (by decide)]
      have hlo : (if J kd = J 1 then gX12_bars_J44 S (J kd) (J b) (J c) (J 0) (J a) else gX12_bars_J44 S (J kd) (J b) (J c) (J 1) (J a)) = some (J (if (if kd = 1 then 0 else 1) ≤ a ∧ a ≤ 400 ∧ (kd = 0 ∨ kd = 2 ∨ kd = 5 → 1 ≤ b ∧ b ≤ 400) ∧ (kd = 2 → 0 ≤ c ∧ c ≤ 2) ∧ (kd = 5 → 0 ≤ c ∧ c ≤ 1) then 0 else 2)) := by
        rw [iEQ hk.1 hk.2 (by decide) (by decide), m_bars44 g2 (by decide) ha hb hc, m_bars44 g2 (by decide) ha hb hc]
        by_cases e : kd = 1
        · simp only [if_pos e]
        · simp only [if_neg e]
      rw [hlo]
      by_cases e4 : kd = 4
      · rw [if_pos e4, m_isSense hb.1 hb.2 h0, b1s, iB0]
        by_cases g3 : 0 ≤ b ∧ b < cnt S 0
        · rw [if_pos g3, if_neg (show ¬ ¬ (0 ≤ p ∧ p < cnt S 1 ∧ 0 ≤ kd ∧ kd ≤ 5 ∧ (kd = 4 → 0 ≤ b ∧ b < cnt S 0)) by omega)]
        · rw [if_neg g3, if_pos (show ¬ (0 ≤ p ∧ p < cnt S 1 ∧ 0 ≤ kd ∧ kd ≤ 5 ∧ (kd = 4 → 0 ≤ b ∧ b < cnt S 0)) by omega)]
      · rw [if_neg e4, if_neg (show ¬ ¬ (0 ≤ p ∧ p < cnt S 1 ∧ 0 ≤ kd ∧ kd ≤ 5 ∧ (kd = 4 → 0 ≤ b ∧ b < cnt S 0)) by omega)]
    · rw [if_neg g2, if_pos (show ¬ (0 ≤ p ∧ p < cnt S 1 ∧ 0 ≤ kd ∧ kd ≤ 5 ∧ (kd = 4 → 0 ≤ b ∧ b < cnt S 0)) by omega)]
  · rw [if_neg g1, if_pos (show ¬ (0 ≤ p ∧ p < cnt S 1 ∧ 0 ≤ kd ∧ kd ≤ 5 ∧ (kd = 4 → 0 ≤ b ∧ b < cnt S 0)) by omega)]
/-- the asked one of the class -/
def rAsk (S SM : zM) (H : Nat) (p kd a b c : Int) : Prop := gR S 456 0 = H + 193 + 2 * p.toNat ∧ gR S 456 1 = H + 7 + 31 * (iI SM 3 (120 + p.toNat)).toNat ∧ (kd = 4 → gR S 456 2 = H + 7 + 31 * b.toNat) ∧ gI S 456 3 = J p ∧ gI S 456 4 = J kd ∧ gI S 456 5 = J a ∧ gI S 456 6 = J (if kd = 1 ∨ kd = 3 then 0 else b) ∧ gI S 456 7 = J (if kd = 2 ∨ kd = 5 then c else 0)
theorem zb8 {H : Nat} {p : Nat} (h : H = 6 ∨ H = 243) (hp : p < 6) : zobb cW 8 (H + 193 + 2 * p) = true := by
  have : p = 0 ∨ p = 1 ∨ p = 2 ∨ p = 3 ∨ p = 4 ∨ p = 5 := by omega
  rcases h with rfl | rfl <;> rcases this with rfl | rfl | rfl | rfl | rfl | rfl <;> decide +kernel
theorem zb9 {H : Nat} {p : Nat} (h : H = 6 ∨ H = 243) (hp : p < 6) : zobb cW 9 (H + 7 + 31 * p) = true := by
  have : p = 0 ∨ p = 1 ∨ p = 2 ∨ p = 3 ∨ p = 4 ∨ p = 5 := by omega
  rcases h with rfl | rfl <;> rcases this with rfl | rfl | rfl | rfl | rfl | rfl <;> decide +kernel
theorem zb6 {H : Nat} {p : Nat} (h : H = 6 ∨ H = 243) (hp : p < 4) : zobb cW 6 (H + 205 + 1 * p) = true := by
  have : p = 0 ∨ p = 1 ∨ p = 2 ∨ p = 3 := by omega
  rcases h with rfl | rfl <;> rcases this with rfl | rfl | rfl | rfl <;> decide +kernel
theorem zb5 {H : Nat} {p : Nat} (h : H = 6 ∨ H = 243) (hp : p < 4) : zobb cW 5 (H + 209 + 1 * p) = true := by
  have : p = 0 ∨ p = 1 ∨ p = 2 ∨ p = 3 := by omega
  rcases h with rfl | rfl <;> rcases this with rfl | rfl | rfl | rfl <;> decide +kernel
/-- the room, as the class' functions need it: hall, count, sense of a sayer -/
theorem c_senseOf {S : zM} {H p : Nat} {n s : Int} (hH : H = 6 ∨ H = 243) (hr : gR S 0 8 = H) (hc : gI S H 6 = J n) (hn : 0 ≤ n ∧ n ≤ 6) (hs : gI S p 1 = J s) (h1 : 0 ≤ s ∧ s < n) : gX11_senseOf S p = some (H + 7 + 31 * s.toNat) := by
  unfold gX11_senseOf
  simp only [J_0, J_1, J_2, J_3, J_4, J_5, J_6, J_7, J_8, J_9, J_10, J_11, J_12, J_14, J_15, J_16, J_19, J_20, J_21, J_22, J_23, J_24, J_25, J_28, J_30, J_31, J_32, J_40, J_44, J_47, J_48, J_49, J_50, J_53, J_54, J_57, J_59, J_74, J_75, J_78, J_84, J_97, J_99, J_100, J_120, J_122, J_126, J_132, J_138, J_144, J_150, J_156, J_162, J_198, J_200, J_202, J_206, J_210, J_214, J_218, J_222, J_226, J_230, J_234, J_238, J_239, J_240, J_241, J_242, J_243, J_255, J_263, J_283, J_303, J_399, J_400, J_401, J_463, J_700, J_701, J_999, J_1000, J_2048, J_4095, J_4096, J_6000, J_9999, J_10000, J_65536, J_65537, J_2147483647, J_neg]
  rw [hs, c_isSense (by omega) (by omega) hH hr hc hn, b1s, iB0, if_pos h1, hr, zb3 hH, ckt, ixb_J (by omega) (by omega) (by decide), ckt, ix_J (by omega) (by omega)]
