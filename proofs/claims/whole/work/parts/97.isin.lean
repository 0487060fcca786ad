/-! The model's spans. -/
theorem pw_add {a : Int} (j : Nat) : ∀ m : Nat, a ^ (j + m) = a ^ j * a ^ m := by
  intro m
  induction m with
  | zero => rw [Int.pow_zero, Int.mul_one]; rfl
  | succ m ih => rw [show j + (m + 1) = j + m + 1 by omega, Int.pow_succ, Int.pow_succ, ih, Int.mul_assoc]
theorem capM_n : (10000 : Nat) ^ 40 * 1000000000000 < 268435456 ^ 24 := by decide +kernel
theorem capM {n : Nat} (h : n ≤ 40) {y : Int} (hy : 1 ≤ y ∧ y ≤ 10000) : y ^ n * 1000000000000 < gW ^ 24 := by
  have h1 := capM_n
  have h2 := (pw_le (show 0 ≤ y by omega) hy.2 n).2
  have h3 := pw_up (show (1 : Int) ≤ 10000 by decide) h
  have h4 : ((10000 ^ 40 * 1000000000000 : Nat) : Int) < ((268435456 ^ 24 : Nat) : Int) := by omega
  rw [Int.natCast_mul, Int.natCast_pow, Int.natCast_pow] at h4
  have e1 : ((10000 : Nat) : Int) = 10000 := rfl
  have e2 : ((268435456 : Nat) : Int) = 268435456 := rfl
  have e3 : ((1000000000000 : Nat) : Int) = 1000000000000 := rfl
  rw [e1, e2, e3] at h4
  unfold gW
  have h7 : y ^ n * 1000000000000 ≤ 10000 ^ 40 * 1000000000000 := Int.mul_le_mul_of_nonneg_right (Int.le_trans h2 h3) (by omega)
  exact Int.lt_of_le_of_lt h7 h4
theorem ch_b {n k : Nat} (h : n ≤ 40) (hk : k ≤ n) : 0 ≤ bT 1 1 n k ∧ bT 1 1 n k ≤ 1099511627776 := by
  refine ⟨bT_nn (by decide) (by decide) n k, ?_⟩
  have h1 : bT 1 1 n k ≤ bTail 1 1 n 0 := by
    have hst := bTail_step (x := 1) (z := 1) hk
    have h2 := bTail_anti (x := 1) (z := 1) (by decide) (by decide) (n := n) (Nat.zero_le k)
    have h3 : 0 ≤ bTail 1 1 n (k + 1) := sm_nn (fun j hj => by
      have := bT_nn (x := 1) (z := 1) (by decide) (by decide) n j
      split <;> omega)
    omega
  rw [bTail_0] at h1
  have h2 := pw_up (show (1 : Int) ≤ 2 by decide) h
  have h3 : (2 : Int) ^ 40 = 1099511627776 := by decide
  have h4 : (1 : Int) + 1 = 2 := rfl
  rw [h4] at h1
  omega
theorem m_ways_L {n k : Nat} (hn : n ≤ 40) (hk : k ≤ n) : ∀ (f i : Nat), 1 ≤ i → i ≤ k + 1 → k + 1 < f + i → gX12_ways_L5 (J n) (J k) f (JL (bT 1 1 (n - k + (i - 1)) (i - 1))) (J i) = some (JL (bT 1 1 n k)) := by
  intro f
  induction f with
  | zero => intro i g1 g2; omega
  | succ f ih =>
    intro i g1 g2 g3
    unfold gX12_ways_L5
    simp only [J_0, J_1, J_2, J_3, J_4, J_5, J_6, J_7, J_8, J_9, J_10, J_11, J_12, J_14, J_15, J_16, J_19, J_20, J_21, J_22, J_23, J_24, J_25, J_28, J_30, J_31, J_32, J_40, J_44, J_47, J_48, J_49, J_50, J_53, J_54, J_57, J_59, J_74, J_75, J_78, J_84, J_97, J_99, J_100, J_120, J_122, J_126, J_132, J_138, J_144, J_150, J_156, J_162, J_198, J_200, J_202, J_206, J_210, J_214, J_218, J_222, J_226, J_230, J_234, J_238, J_239, J_240, J_241, J_242, J_243, J_255, J_263, J_283, J_303, J_399, J_400, J_401, J_463, J_700, J_701, J_999, J_1000, J_2048, J_4095, J_4096, J_6000, J_9999, J_10000, J_65536, J_65537, J_2147483647, J_neg]
    rw [iLT (by omega) (by omega) (by omega) (by omega)]
    by_cases e : (k : Int) < i
    · have : i = k + 1 := by omega
      subst this
      rw [if_pos e, show n - k + (k + 1 - 1) = n by omega, show k + 1 - 1 = k by omega]
    · obtain ⟨j, rfl⟩ : ∃ j, i = j + 1 := ⟨i - 1, by omega⟩
      rw [if_neg e, show j + 1 - 1 = j by omega]
      have cb := ch_b (n := n - k + j) (k := j) (by omega) (by omega)
      have cb2 := ch_b (n := n - k + j + 1) (k := j + 1) (by omega) (by omega)
      have up := bT_up (x := 1) (z := 1) (n - k + j) j
      rw [Int.one_mul] at up
      have d1 : (J ((j + 1 : Nat) : Int)).toInt64 = JL ((j + 1 : Nat) : Int) := J_toL (by omega) (by omega)
      have d2 : (J n - J k + J ((j + 1 : Nat) : Int)).toInt64 = JL ((n : Int) - k + ((j + 1 : Nat) : Int)) := by
        rw [J_sub, J_add]
        exact J_toL (by omega) (by omega)
      have dn : decide (¬ JL ((j + 1 : Nat) : Int) = JL 0) = true := by
        rw [decide_eq_true_eq, JL_inj (by omega) (by omega) (by decide) (by decide)]
        omega
      have e1 : bT 1 1 (n - k + j) j * ((n : Int) - k + ((j + 1 : Nat) : Int)) = ((j + 1 : Nat) : Int) * bT 1 1 (n - k + j + 1) (j + 1) := by
        rw [Int.mul_comm, show (n : Int) - k + ((j + 1 : Nat) : Int) = ((n - k + j : Nat) : Int) + 1 by omega, ← up]
        congr 1
      have mb : 0 ≤ ((j + 1 : Nat) : Int) * bT 1 1 (n - k + j + 1) (j + 1) ∧ ((j + 1 : Nat) : Int) * bT 1 1 (n - k + j + 1) (j + 1) ≤ 41 * 1099511627776 := ⟨Int.mul_nonneg (by omega) cb2.1, Int.mul_le_mul (by omega) cb2.2 cb2.1 (by omega)⟩
      simp only [JL_0, JL_1, JL_9, JL_10, JL_32, JL_40, JL_48, JL_64, JL_97, JL_100, JL_4095, JL_4096, JL_16384, JL_65537, JL_524287, JL_524288, JL_268435455, JL_1099511627775, JL_neg, d1, d2, dn, ckt, b1s, b2s, lts, un2s, un3s, un4s, un5s, lmr, lml, lgr, lgl, JL_mul]
      rw [e1, JL_div mb.1 (by omega) (by omega) (by omega), Int.mul_ediv_cancel_left _ (by omega), J_add, show ((j + 1 : Nat) : Int) + 1 = ((j + 1 + 1 : Nat) : Int) by omega]
      have := ih (j + 1 + 1) (by omega) (by omega) (by omega)
      rw [show j + 1 + 1 - 1 = j + 1 by omega, show n - k + (j + 1) = n - k + j + 1 by omega] at this
      exact this
theorem m_ways {n k : Nat} (hn : n ≤ 40) (hk : k ≤ n) : gX12_ways (J n) (J k) = some (JL (bT 1 1 n k)) := by
  have := m_ways_L hn hk FU 1 (Nat.le_refl 1) (by omega) (by have := FUs (n := 60) (by omega); omega)
  have e : bT 1 1 (n - k + (1 - 1)) (1 - 1) = 1 := by
    show bT 1 1 (n - k) 0 = 1
    have : ∀ m : Nat, bT 1 1 m 0 = 1 := by
      intro m
      induction m with
      | zero => rfl
      | succ m ih => rw [bT_0, ih]; rfl
    exact this _
  rw [e] at this
  unfold gX12_ways
  simp only [J_0, J_1, J_2, J_3, J_4, J_5, J_6, J_7, J_8, J_9, J_10, J_11, J_12, J_14, J_15, J_16, J_19, J_20, J_21, J_22, J_23, J_24, J_25, J_28, J_30, J_31, J_32, J_40, J_44, J_47, J_48, J_49, J_50, J_53, J_54, J_57, J_59, J_74, J_75, J_78, J_84, J_97, J_99, J_100, J_120, J_122, J_126, J_132, J_138, J_144, J_150, J_156, J_162, J_198, J_200, J_202, J_206, J_210, J_214, J_218, J_222, J_226, J_230, J_234, J_238, J_239, J_240, J_241, J_242, J_243, J_255, J_263, J_283, J_303, J_399, J_400, J_401, J_463, J_700, J_701, J_999, J_1000, J_2048, J_4095, J_4096, J_6000, J_9999, J_10000, J_65536, J_65537, J_2147483647, J_neg, JL_0, JL_1, JL_9, JL_10, JL_32, JL_40, JL_48, JL_64, JL_97, JL_100, JL_4095, JL_4096, JL_16384, JL_65537, JL_524287, JL_524288, JL_268435455, JL_1099511627775, JL_neg]
  exact this
def fM (q _k : Nat) : Prop := 15 ≤ q ∧ q ≤ 19
theorem f1M {q : Nat} {S S' : zM} (h : 15 ≤ q ∧ q ≤ 19) (f : fr (fun a _ => a = q) S S') : fr fM S S' := fr_w f (fun a k z => by unfold fM; omega)
section
variable {S : zM}
theorem m_fort {q : Nat} (hq : ¬ q = 19) (h : okM S q) (h7 : okM S 17) (hb : mV S q * 40 < gW ^ 24) : ∃ S', gX12_isFortieth S (q) = some (bI (mV S 17 ≤ 40 * mV S q), S') ∧ fr (fun a _ => a = 19) S S' := by
  obtain ⟨S1, a1, a2, a3, a4⟩ := m_copy (q := q) (r := 19) hq h
  obtain ⟨S2, b1', b2', b3', b4'⟩ := m_times (q := 19) (v := 40) (by decide) a3 (by rw [a4]; exact hb)
  have o1 := okM_o a2 (r := 17) (by decide)
  have o2 := okM_o b2' (r := 17) (by decide)
  obtain ⟨c, c1, c2, c3⟩ := m_compare_L b3' (o2.1 (o1.1 h7)) FU 24 (by omega) (by have := FUs (n := 60) (by omega); omega)
  have e : c < 0 ↔ mV S2 19 < mV S2 17 := c3
  rw [b4', a4, o2.2, o1.2] at e
  refine ⟨S2, ?_, fr_t a2 b2'⟩
  unfold gX12_isFortieth gX12_compare
  simp only [J_0, J_1, J_2, J_3, J_4, J_5, J_6, J_7, J_8, J_9, J_10, J_11, J_12, J_14, J_15, J_16, J_19, J_20, J_21, J_22, J_23, J_24, J_25, J_28, J_30, J_31, J_32, J_40, J_44, J_47, J_48, J_49, J_50, J_53, J_54, J_57, J_59, J_74, J_75, J_78, J_84, J_97, J_99, J_100, J_120, J_122, J_126, J_132, J_138, J_144, J_150, J_156, J_162, J_198, J_200, J_202, J_206, J_210, J_214, J_218, J_222, J_226, J_230, J_234, J_238, J_239, J_240, J_241, J_242, J_243, J_255, J_263, J_283, J_303, J_399, J_400, J_401, J_463, J_700, J_701, J_999, J_1000, J_2048, J_4095, J_4096, J_6000, J_9999, J_10000, J_65536, J_65537, J_2147483647, J_neg, JL_0, JL_1, JL_9, JL_10, JL_32, JL_40, JL_48, JL_64, JL_97, JL_100, JL_4095, JL_4096, JL_16384, JL_65537, JL_524287, JL_524288, JL_268435455, JL_1099511627775, JL_neg]
  rw [show (J ((24 : Nat) - 1 : Int)) = J 23 from rfl] at c1
  rw [a1, b1s, b1', b1s, c1, b1s, iLT (by omega) (by omega) (by decide) (by decide)]
  by_cases z : c < 0
  · have := e.mp z
    rw [if_pos z, bI_f (by omega)]
  · have : ¬ mV S q * 40 < mV S 17 := fun w => z (e.mpr w)
    rw [if_neg z, bI_t (by omega)]
theorem m_grows {n k : Nat} (hn : n ≤ 40) (hk : k ≤ n) (h5 : okM S 15) (h6 : okM S 16) (p5 : mV S 15 * 1000000 < gW ^ 24) (p6 : mV S 16 + mV S 15 * bT 1 1 n k < gW ^ 24) : ∃ S', gX12_grows S (J n) (J k) = some S' ∧ fr (fun a _ => a = 16 ∨ a = 19) S S' ∧ okM S' 16 ∧ mV S' 16 = mV S 16 + mV S 15 * bT 1 1 n k := by
  have cb := ch_b hn hk
  have hw := m_ways hn hk
  generalize bT 1 1 n k = C at cb p6 hw ⊢
  obtain ⟨a, ha⟩ : ∃ a, a = C % 524288 := ⟨_, rfl⟩
  obtain ⟨b, hb⟩ : ∃ b, b = C / 524288 := ⟨_, rfl⟩
  have eC : C = b * 524288 + a := by omega
  have ab : 0 ≤ a ∧ a < 524288 ∧ 0 ≤ b ∧ b ≤ 4000000 := by omega
  have v5 := lbL_nn gW1 h5
  have v6 := lbL_nn gW1 h6
  rw [show lbL gW (iI S 15) 24 = mV S 15 from rfl] at v5
  rw [show lbL gW (iI S 16) 24 = mV S 16 from rfl] at v6
  have q1 : mV S 15 * C = mV S 15 * 524288 * b + mV S 15 * a := by
    rw [eC, Int.mul_add, Int.mul_comm b, Int.mul_assoc]
  have q2 : 0 ≤ mV S 15 * 524288 * b := Int.mul_nonneg (by omega) ab.2.2.1
  have q3 : 0 ≤ mV S 15 * a := Int.mul_nonneg v5 ab.1
  obtain ⟨S1, a1, a2, a3, a4⟩ := m_add (q := 16) (r := 15) (v := a) (by omega) (by decide) h6 h5 (by omega) (by omega)
  have o1 := okM_o a2 (r := 15) (by decide)
  obtain ⟨S2, b1', b2', b3', b4'⟩ := m_copy (q := 15) (r := 19) (by decide) (o1.1 h5)
  have o2 := okM_o b2' (r := 16) (by decide)
  obtain ⟨S3, c1, c2, c3, c4⟩ := m_times (q := 19) (v := 524288) (by decide) b3' (by rw [b4', o1.2]; omega)
  have o3 := okM_o c2 (r := 16) (by decide)
  have e19 : mV S3 19 = mV S 15 * 524288 := by rw [c4, b4', o1.2]
  have e16 : mV S3 16 = mV S 16 + mV S 15 * a := by rw [o3.2, o2.2, a4]
  obtain ⟨S4, d1, d2, d3, d4⟩ := m_add (q := 16) (r := 19) (v := b) (by omega) (by decide) (o3.1 (o2.1 a3)) c3 (by rw [e19, e16]; omega) (by rw [e19, e16]; omega)
  refine ⟨S4, ?_, fr_t (fr_t (fr_t (fr_w a2 (fun q k z => Or.inl z)) (fr_w b2' (fun q k z => Or.inr z))) (fr_w c2 (fun q k z => Or.inr z))) (fr_w d2 (fun q k z => Or.inl z)), d3, ?_⟩
  · unfold gX12_grows
    simp only [J_0, J_1, J_2, J_3, J_4, J_5, J_6, J_7, J_8, J_9, J_10, J_11, J_12, J_14, J_15, J_16, J_19, J_20, J_21, J_22, J_23, J_24, J_25, J_28, J_30, J_31, J_32, J_40, J_44, J_47, J_48, J_49, J_50, J_53, J_54, J_57, J_59, J_74, J_75, J_78, J_84, J_97, J_99, J_100, J_120, J_122, J_126, J_132, J_138, J_144, J_150, J_156, J_162, J_198, J_200, J_202, J_206, J_210, J_214, J_218, J_222, J_226, J_230, J_234, J_238, J_239, J_240, J_241, J_242, J_243, J_255, J_263, J_283, J_303, J_399, J_400, J_401, J_463, J_700, J_701, J_999, J_1000, J_2048, J_4095, J_4096, J_6000, J_9999, J_10000, J_65536, J_65537, J_2147483647, J_neg, JL_0, JL_1, JL_9, JL_10, JL_32, JL_40, JL_48, JL_64, JL_97, JL_100, JL_4095, JL_4096, JL_16384, JL_65537, JL_524287, JL_524288, JL_268435455, JL_1099511627775, JL_neg]
    rw [hw, b1s, JL_and19, ← ha, a1, b1s, b1', b1s, c1, b1s, JL_shr19 (by omega) (by omega), ← hb, d1, b1s]
  · rw [d4, e19, e16, q1]
    omega
/-- the powers -/
theorem m_in_1 {n : Nat} {x y : Int} (k : Int) (hn : n ≤ 40) (hx : 0 ≤ x) (hxy : x ≤ y) (hy : 1 ≤ y ∧ y ≤ 10000) : ∀ (f i : Nat) (S : zM), i ≤ n → n < f + i → okM S 15 → okM S 17 → mV S 15 = (y - x) ^ i → mV S 17 = y ^ i → ∃ S', gX12_isIn_L49 (J n) (J x) (J y) (J k) (J (y - x)) f S (J i) = some S' ∧ fr (fun a _ => a = 15 ∨ a = 17) S S' ∧ okM S' 15 ∧ okM S' 17 ∧ mV S' 15 = (y - x) ^ n ∧ mV S' 17 = y ^ n := by
  have hc := capM hn hy
  have hyn := wp_pos hy.1 n
  intro f
  induction f with
  | zero => intro i S g1 g2; omega
  | succ f ih =>
    intro i S g1 g2 h5 h7 e5 e7
    unfold gX12_isIn_L49
    simp only [J_0, J_1, J_2, J_3, J_4, J_5, J_6, J_7, J_8, J_9, J_10, J_11, J_12, J_14, J_15, J_16, J_19, J_20, J_21, J_22, J_23, J_24, J_25, J_28, J_30, J_31, J_32, J_40, J_44, J_47, J_48, J_49, J_50, J_53, J_54, J_57, J_59, J_74, J_75, J_78, J_84, J_97, J_99, J_100, J_120, J_122, J_126, J_132, J_138, J_144, J_150, J_156, J_162, J_198, J_200, J_202, J_206, J_210, J_214, J_218, J_222, J_226, J_230, J_234, J_238, J_239, J_240, J_241, J_242, J_243, J_255, J_263, J_283, J_303, J_399, J_400, J_401, J_463, J_700, J_701, J_999, J_1000, J_2048, J_4095, J_4096, J_6000, J_9999, J_10000, J_65536, J_65537, J_2147483647, J_neg]
    rw [iLE (by omega) (by omega) (by omega) (by omega)]
    by_cases e : i = n
    · rw [if_pos (by omega)]
      exact ⟨S, rfl, fr_r, h5, h7, e ▸ e5, e ▸ e7⟩
    · have u1 := pw_up hy.1 (show i + 1 ≤ n by omega)
      have u3 := (pw_le (show 0 ≤ y - x by omega) (show y - x ≤ y by omega) (i + 1)).2
      rw [Int.pow_succ, Int.pow_succ] at u3
      rw [Int.pow_succ] at u1
      rw [if_neg (by omega), J_toL (by omega) (by omega), J_toL (by omega) (by omega)]
      obtain ⟨S1, a1, a2, a3, a4⟩ := m_times (q := 17) (v := y) (by omega) h7 (by rw [e7]; omega)
      have o1 := okM_o a2 (r := 15) (by decide)
      obtain ⟨S2, b1', b2', b3', b4'⟩ := m_times (q := 15) (v := y - x) (by omega) (o1.1 h5) (by rw [o1.2, e5]; omega)
      have o2 := okM_o b2' (r := 17) (by decide)
      rw [a1, b1s, b1', b1s, J_add, show (i : Int) + 1 = ((i + 1 : Nat) : Int) by omega]
      obtain ⟨S', r1, r2, r3⟩ := ih (i + 1) S2 (by omega) (by omega) b3' (o2.1 a3) (by rw [b4', o1.2, e5, Int.pow_succ]) (by rw [o2.2, a4, e7, Int.pow_succ])
      exact ⟨S', r1, fr_t (fr_t (fr_w a2 (fun q k z => Or.inr z)) (fr_w b2' (fun q k z => Or.inl z))) r2, r3⟩
end
