/-! Is a count within its span, by the model. -/
theorem okM_e {E : Nat → Nat → Prop} {S S' : zM} (f : fr E S S') {r : Nat} (h : ∀ k, ¬ E r k) : (okM S r → okM S' r) ∧ mV S' r = mV S r := by
  have e : ∀ k, iI S' r k = iI S r k := fun k => congrArg Int32.toInt (f.1 r k (h k))
  refine ⟨fun hd j hj => ?_, lbL_c (fun j hj => e j)⟩
  rw [e j]
  exact hd j hj
section
variable {n k : Nat} {x y : Int}
theorem tl_nn (hx : 0 ≤ x) (hxy : x ≤ y) (j : Nat) : 0 ≤ bTail x (y - x) n j := sm_nn (fun i hi => by
  have := bT_nn hx (show 0 ≤ y - x by omega) n i
  split <;> omega)
theorem tl_0 : bTail x (y - x) n 0 = y ^ n := by rw [bTail_0, show x + (y - x) = y by omega]
theorem m_in_end (hn : n ≤ 40) (hk : k ≤ n) (hx : 0 ≤ x) (hxy : x < y) (hy : 1 ≤ y ∧ y ≤ 10000) {f : Nat} {S : zM} (h6 : okM S 16) (h7 : okM S 17) (e6 : mV S 16 = bTail x (y - x) n 0 - bTail x (y - x) n (k + 1)) (e7 : mV S 17 = y ^ n) : ∃ S', gX12_isIn_L86 (J n) (J x) (J k) (J (y - x)) (f + 1) S (bI (y ^ n ≤ 40 * bTail x (y - x) n k)) (J ((k + 1 : Nat) : Int)) = some (bI (n - spH n (y - x) x ≤ k ∧ k ≤ spH n x (y - x)), S') ∧ fr fM S S' := by
  have hc := capM hn hy
  have hyn := wp_pos hy.1 n
  have t0 := tl_0 (n := n) (x := x) (y := y)
  have t1 := tl_nn (n := n) hx (Int.le_of_lt hxy) (k + 1)
  have w1 := spH_iff (x := x) (z := y - x) hx (by omega) hk
  have w2 := spH_few (x := x) (z := y - x) hx (by omega) hk
  rw [t0] at w1 w2 e6
  unfold gX12_isIn_L86
  simp only [J_0, J_1, J_2, J_3, J_4, J_5, J_6, J_7, J_8, J_9, J_10, J_11, J_12, J_14, J_15, J_16, J_19, J_20, J_21, J_22, J_23, J_24, J_25, J_28, J_30, J_31, J_32, J_40, J_44, J_47, J_48, J_49, J_50, J_53, J_54, J_57, J_59, J_74, J_75, J_78, J_84, J_97, J_99, J_100, J_120, J_122, J_126, J_132, J_138, J_144, J_150, J_156, J_162, J_198, J_200, J_202, J_206, J_210, J_214, J_218, J_222, J_226, J_230, J_234, J_238, J_239, J_240, J_241, J_242, J_243, J_255, J_263, J_283, J_303, J_399, J_400, J_401, J_463, J_700, J_701, J_999, J_1000, J_2048, J_4095, J_4096, J_6000, J_9999, J_10000, J_65536, J_65537, J_2147483647, J_neg]
  rw [iLT (by omega) (by omega) (by omega) (by omega), if_pos (by omega), iB0]
  by_cases z : y ^ n ≤ 40 * bTail x (y - x) n k
  · obtain ⟨S', r1, r2⟩ := m_fort (q := 16) (by decide) h6 h7 (by rw [e6]; omega)
    rw [e6, e7] at r1
    rw [if_pos z, r1, b2s, iB0]
    have := w1.mp z
    by_cases u : y ^ n ≤ 40 * (y ^ n - bTail x (y - x) n (k + 1))
    · have := w2.mp u
      rw [if_pos u]
      exact ⟨S', by rw [bI_t (by omega)], f1M (by decide) r2⟩
    · have : ¬ n - k ≤ spH n (y - x) x := fun v => u (w2.mpr v)
      rw [if_neg u]
      exact ⟨S', by rw [bI_f (by omega)], f1M (by decide) r2⟩
  · have : ¬ k ≤ spH n x (y - x) := fun v => z (w1.mpr v)
    rw [if_neg z]
    exact ⟨S, by rw [bI_f (by omega)], fr_r⟩
theorem m_in_2 (hn : n ≤ 40) (hk : k ≤ n) (hx : 0 ≤ x) (hxy : x < y) (hy : 1 ≤ y ∧ y ≤ 10000) : ∀ (f j : Nat) (S : zM) (g : Int32), j ≤ k → k + 2 ≤ f + j → okM S 15 → okM S 16 → okM S 17 → mV S 15 = x ^ j * (y - x) ^ (n - j) → mV S 16 = bTail x (y - x) n 0 - bTail x (y - x) n j → mV S 17 = y ^ n → ∃ S', gX12_isIn_L86 (J n) (J x) (J k) (J (y - x)) f S g (J j) = some (bI (n - spH n (y - x) x ≤ k ∧ k ≤ spH n x (y - x)), S') ∧ fr fM S S' := by
  have hc := capM hn hy
  have hyn := wp_pos hy.1 n
  have t0 := tl_0 (n := n) (x := x) (y := y)
  intro f
  induction f with
  | zero => intro j S g g1 g2; omega
  | succ f ih =>
    intro j S g g1 g2 h5 h6 h7 e5 e6 e7
    have tj := tl_nn (n := n) hx (Int.le_of_lt hxy) j
    have tj1 := tl_nn (n := n) hx (Int.le_of_lt hxy) (j + 1)
    have ta := bTail_anti hx (show 0 ≤ y - x by omega) (n := n) (Nat.zero_le j)
    have ts := bTail_step (x := x) (z := y - x) (n := n) (k := j) (by omega)
    have tp := bT_pow (x := x) (z := y - x) n j (by omega)
    have px := pw_le hx (Int.le_of_lt hxy) j
    have pz := pw_le (show 0 ≤ y - x by omega) (show y - x ≤ y by omega) (n - j)
    have pp : 0 ≤ x ^ j * (y - x) ^ (n - j) ∧ x ^ j * (y - x) ^ (n - j) ≤ y ^ n := by
      refine ⟨Int.mul_nonneg px.1 pz.1, ?_⟩
      have h1 : x ^ j * (y - x) ^ (n - j) ≤ y ^ j * y ^ (n - j) := Int.mul_le_mul px.2 pz.2 pz.1 (by have := wp_pos hy.1 j; omega)
      rw [← pw_add, show j + (n - j) = n by omega] at h1
      exact h1
    have eg : mV S 16 + mV S 15 * bT 1 1 n j = bTail x (y - x) n 0 - bTail x (y - x) n (j + 1) := by
      rw [e6, e5, Int.mul_comm _ (bT 1 1 n j), ← tp]
      omega
    unfold gX12_isIn_L86 gX12_isIn_J135
    simp only [J_0, J_1, J_2, J_3, J_4, J_5, J_6, J_7, J_8, J_9, J_10, J_11, J_12, J_14, J_15, J_16, J_19, J_20, J_21, J_22, J_23, J_24, J_25, J_28, J_30, J_31, J_32, J_40, J_44, J_47, J_48, J_49, J_50, J_53, J_54, J_57, J_59, J_74, J_75, J_78, J_84, J_97, J_99, J_100, J_120, J_122, J_126, J_132, J_138, J_144, J_150, J_156, J_162, J_198, J_200, J_202, J_206, J_210, J_214, J_218, J_222, J_226, J_230, J_234, J_238, J_239, J_240, J_241, J_242, J_243, J_255, J_263, J_283, J_303, J_399, J_400, J_401, J_463, J_700, J_701, J_999, J_1000, J_2048, J_4095, J_4096, J_6000, J_9999, J_10000, J_65536, J_65537, J_2147483647, J_neg]
    rw [iLT (by omega) (by omega) (by omega) (by omega), if_neg (by omega), iEQ (by omega) (by omega) (by omega) (by omega)]
    by_cases e : j = k
    · subst e
      obtain ⟨S1, a1, a2, a3, a4⟩ := m_copy (q := 17) (r := 18) (by decide) h7
      have o1 := okM_o a2 (r := 16) (by decide)
      have o2 := okM_o a2 (r := 17) (by decide)
      have o3 := okM_o a2 (r := 15) (by decide)
      obtain ⟨S2, b1', b2', b3', b4'⟩ := m_add (q := 18) (r := 16) (v := -1) (by decide) (by decide) a3 (o1.1 h6) (by rw [a4, o1.2, e7, e6]; omega) (by rw [a4, o1.2, e7, e6]; omega)
      have p1 := okM_o b2' (r := 16) (by decide)
      have p2 := okM_o b2' (r := 17) (by decide)
      have p3 := okM_o b2' (r := 15) (by decide)
      have e18 : mV S2 18 = bTail x (y - x) n j := by rw [b4', a4, o1.2, e7, e6]; omega
      obtain ⟨S3, c1, c2⟩ := m_fort (q := 18) (by decide) b3' (p2.1 (o2.1 h7)) (by rw [e18]; omega)
      rw [e18, p2.2, o2.2, e7] at c1
      have q1 := okM_o c2 (r := 16) (by decide)
      have q2 := okM_o c2 (r := 17) (by decide)
      have q3 := okM_o c2 (r := 15) (by decide)
      have e5' : mV S3 15 = mV S 15 := by rw [q3.2, p3.2, o3.2]
      have e6' : mV S3 16 = mV S 16 := by rw [q1.2, p1.2, o1.2]
      obtain ⟨S4, d1, d2, d3, d4⟩ := m_grows hn (show j ≤ n by omega) (q3.1 (p3.1 (o3.1 h5))) (q1.1 (p1.1 (o1.1 h6))) (by rw [e5', e5]; omega) (by rw [e5', e6', eg]; omega)
      have r1 := okM_e d2 (r := 17) (fun k => by omega)
      have F : fr fM S S4 := fr_t (fr_t (fr_t (f1M (by decide) a2) (f1M (by decide) b2')) (f1M (by decide) c2)) (fr_w d2 (fun q k z => by unfold fM; omega))
      rw [if_pos rfl, a1, b1s]
      simp only [JL_0, JL_1, JL_9, JL_10, JL_32, JL_40, JL_48, JL_64, JL_97, JL_100, JL_4095, JL_4096, JL_16384, JL_65537, JL_524287, JL_524288, JL_268435455, JL_1099511627775, JL_neg]
      rw [b1', b1s, c1, b2s, d1, b1s, if_pos (show J (j : Int) ≤ J j from Int32.le_refl _), lmr, J_add, show (j : Int) + 1 = ((j + 1 : Nat) : Int) by omega]
      obtain ⟨m, hm⟩ : ∃ m, f = m + 1 := ⟨f - 1, by omega⟩
      obtain ⟨S', w1, w2⟩ := m_in_end (f := m) hn hk hx hxy hy d3 (r1.1 (q2.1 (p2.1 (o2.1 h7)))) (by rw [d4, e5', e6', eg]) (by rw [r1.2, q2.2, p2.2, o2.2, e7])
      rw [hm]
      exact ⟨S', w1, fr_t F w2⟩
    · obtain ⟨S1, d1, d2, d3, d4⟩ := m_grows hn (show j ≤ n by omega) h5 h6 (by rw [e5]; omega) (by rw [eg]; omega)
      have o1 := okM_e d2 (r := 15) (fun k => by omega)
      have o2 := okM_e d2 (r := 17) (fun k => by omega)
      have xz : x ^ j * (y - x) ^ (n - j) * x ≤ y ^ n * 10000 := Int.mul_le_mul pp.2 (by omega) hx (by omega)
      obtain ⟨S2, a1, a2, a3, a4⟩ := m_times (q := 15) (v := x) (by omega) (o1.1 h5) (by rw [o1.2, e5]; omega)
      have ek : mV S2 15 = x ^ (j + 1) * (y - x) ^ (n - (j + 1)) * (y - x) := by
        rw [a4, o1.2, e5, show n - j = n - (j + 1) + 1 by omega, Int.pow_succ x, Int.pow_succ (y - x), ← Int.mul_assoc, Int.mul_right_comm (x ^ j * _) (y - x) x, Int.mul_right_comm (x ^ j)]
      obtain ⟨S3, b1', b2', b3', b4'⟩ := m_over (q := 15) (v := y - x) (by omega) a3 ek
      have p1 := okM_o a2 (r := 16) (by decide)
      have p2 := okM_o a2 (r := 17) (by decide)
      have q1 := okM_o b2' (r := 16) (by decide)
      have q2 := okM_o b2' (r := 17) (by decide)
      have F : fr fM S S3 := fr_t (fr_t (fr_w d2 (fun q k z => by unfold fM; omega)) (f1M (by decide) a2)) (f1M (by decide) b2')
      rw [if_neg (by omega), d1, b1s, iLE (by omega) (by omega) (by omega) (by omega), if_neg (by omega), J_toL (by omega) (by omega), a1, b1s, b1', b1s, J_add, show (j : Int) + 1 = ((j + 1 : Nat) : Int) by omega]
      obtain ⟨S', w1, w2⟩ := ih (j + 1) S3 g (by omega) (by omega) b3' (q1.1 (p1.1 d3)) (q2.1 (p2.1 (o2.1 h7))) b4' (by rw [q1.2, p1.2, d4, eg]) (by rw [q2.2, p2.2, o2.2, e7])
      exact ⟨S', w1, fr_t F w2⟩
theorem m_isIn {S : zM} (hn : 1 ≤ n ∧ n ≤ 40) (hk : k ≤ n) (hx : 0 ≤ x) (hxy : x ≤ y) (hy : 1 ≤ y ∧ y ≤ 10000) : ∃ S', gX12_isIn S (J n) (J x) (J y) (J k) = some (bI (n - spH n (y - x) x ≤ k ∧ k ≤ spH n x (y - x)), S') ∧ fr fM S S' := by
  unfold gX12_isIn
  simp only [J_0, J_1, J_2, J_3, J_4, J_5, J_6, J_7, J_8, J_9, J_10, J_11, J_12, J_14, J_15, J_16, J_19, J_20, J_21, J_22, J_23, J_24, J_25, J_28, J_30, J_31, J_32, J_40, J_44, J_47, J_48, J_49, J_50, J_53, J_54, J_57, J_59, J_74, J_75, J_78, J_84, J_97, J_99, J_100, J_120, J_122, J_126, J_132, J_138, J_144, J_150, J_156, J_162, J_198, J_200, J_202, J_206, J_210, J_214, J_218, J_222, J_226, J_230, J_234, J_238, J_239, J_240, J_241, J_242, J_243, J_255, J_263, J_283, J_303, J_399, J_400, J_401, J_463, J_700, J_701, J_999, J_1000, J_2048, J_4095, J_4096, J_6000, J_9999, J_10000, J_65536, J_65537, J_2147483647, J_neg, J_sub]
  rw [iEQ (by omega) (by omega) (by decide) (by decide)]
  by_cases e : y - x = 0
  · have : y = x := by omega
    subst this
    rw [if_pos e, e, spH_0 hy.1, spH_n hy.1, iEQ (by omega) (by omega) (by omega) (by omega)]
    by_cases z : (k : Int) = n
    · rw [if_pos z]
      exact ⟨S, by rw [bI_t (by omega)], fr_r⟩
    · rw [if_neg z]
      exact ⟨S, by rw [bI_f (by omega)], fr_r⟩
  · obtain ⟨S1, a1, a2, a3, a4⟩ := m_become (q := 17) (v := 1) (S := S) (by decide)
    obtain ⟨S2, b1', b2', b3', b4'⟩ := m_become (q := 15) (v := 1) (S := S1) (by decide)
    obtain ⟨S3, c1, c2, c3, c4⟩ := m_become (q := 16) (v := 0) (S := S2) (by decide)
    have o1 := okM_o b2' (r := 17) (by decide)
    have o2 := okM_o c2 (r := 17) (by decide)
    have o3 := okM_o c2 (r := 15) (by decide)
    have hf := FUs (n := 60) (by omega)
    obtain ⟨S4, d1, d2, d3, d4, d5, d6⟩ := m_in_1 (k := k) hn.2 hx hxy hy FU 0 S3 (by omega) (by omega) (o3.1 b3') (o2.1 (o1.1 a3)) (by rw [o3.2, b4', Int.pow_zero]) (by rw [o2.2, o1.2, a4, Int.pow_zero])
    have o4 := okM_e d2 (r := 16) (fun k => by omega)
    obtain ⟨S5, w1, w2⟩ := m_in_2 hn.2 hk hx (show x < y by omega) hy FU 0 S4 (J 0) (Nat.zero_le k) (by omega) d3 (o4.1 c3) d4 (by rw [d5, Int.pow_zero, Int.one_mul, Nat.sub_zero]) (by rw [o4.2, c4]; omega) d6
    rw [show J ((0 : Nat) : Int) = J 0 from rfl] at d1 w1
    rw [if_neg e, a1, b1s, b1', b1s, c1, b1s, d1, b1s, w1]
    exact ⟨S5, rfl, fr_t (fr_t (fr_t (fr_t (f1M (by decide) a2) (f1M (by decide) b2')) (f1M (by decide) c2)) (fr_w d2 (fun q k z => by unfold fM; omega))) w2⟩
/-- the least, the greatest of a span, by the model -/
theorem m_sp_L (hn : 1 ≤ n ∧ n ≤ 40) (hx : 0 ≤ x) (hxy : x ≤ y) (hy : 1 ≤ y ∧ y ≤ 10000) {w : Int32} : ∀ (f i : Nat) (S : zM), i ≤ n + 1 → n + 2 ≤ f + i → ∃ S', gX12_spanOf_L6 (J n) (J x) (J y) w f S (J (if i ≤ n - spH n (y - x) x then -1 else if w = J 0 then ((n - spH n (y - x) x : Nat) : Int) else ((min (i - 1) (spH n x (y - x)) : Nat) : Int))) (J i) = some (J (if w = J 0 then ((n - spH n (y - x) x : Nat) : Int) else (spH n x (y - x) : Int)), S') ∧ fr fM S S' := by
  have hm := spH_meet hx (show 0 ≤ y - x by omega) (n := n)
  have hl := spH_le (n := n) (x := x) (z := y - x)
  have hl2 := spH_le (n := n) (x := y - x) (z := x)
  intro f
  induction f with
  | zero => intro i S g1 g2; omega
  | succ f ih =>
    intro i S g1 g2
    unfold gX12_spanOf_L6
    simp only [J_0, J_1, J_2, J_3, J_4, J_5, J_6, J_7, J_8, J_9, J_10, J_11, J_12, J_14, J_15, J_16, J_19, J_20, J_21, J_22, J_23, J_24, J_25, J_28, J_30, J_31, J_32, J_40, J_44, J_47, J_48, J_49, J_50, J_53, J_54, J_57, J_59, J_74, J_75, J_78, J_84, J_97, J_99, J_100, J_120, J_122, J_126, J_132, J_138, J_144, J_150, J_156, J_162, J_198, J_200, J_202, J_206, J_210, J_214, J_218, J_222, J_226, J_230, J_234, J_238, J_239, J_240, J_241, J_242, J_243, J_255, J_263, J_283, J_303, J_399, J_400, J_401, J_463, J_700, J_701, J_999, J_1000, J_2048, J_4095, J_4096, J_6000, J_9999, J_10000, J_65536, J_65537, J_2147483647, J_neg]
    rw [iLT (by omega) (by omega) (by omega) (by omega)]
    by_cases e : (n : Int) < i
    · rw [if_pos e, if_neg (by omega)]
      refine ⟨S, ?_, fr_r⟩
      by_cases z : w = J 0
      · rw [if_pos z, if_pos z]
      · rw [if_neg z, if_neg z, show min (i - 1) (spH n x (y - x)) = spH n x (y - x) by omega]
    · obtain ⟨S1, r1, r2⟩ := m_isIn (k := i) (S := S) hn (by omega) hx hxy hy
      rw [if_neg e, J_add, show (i : Int) + 1 = ((i + 1 : Nat) : Int) by omega]
      by_cases z : w = J 0
      · simp only [if_pos z]
        have i1 := ih (i + 1) S (by omega) (by omega)
        have i2 := ih (i + 1) S1 (by omega) (by omega)
        simp only [if_pos z] at i1 i2
        by_cases u : i ≤ n - spH n (y - x) x
        · rw [if_pos u, iLE (by decide) (by decide) (by decide) (by decide), if_neg (by decide), r1, b2s, iB0]
          obtain ⟨S', w1, w2⟩ := i2
          refine ⟨S', ?_, fr_t r2 w2⟩
          by_cases v : i = n - spH n (y - x) x
          · rw [if_pos (by omega)]
            rw [if_neg (by omega)] at w1
            rw [← v] at w1 ⊢
            exact w1
          · rw [if_neg (by omega)]
            rw [if_pos (by omega)] at w1
            exact w1
        · rw [if_neg u, iLE (by decide) (by decide) (by omega) (by omega), if_pos (by omega)]
          rw [if_neg (by omega)] at i1
          exact i1
      · simp only [if_neg z]
        rw [r1, b2s, iB0]
        have i2 := ih (i + 1) S1 (by omega) (by omega)
        simp only [if_neg z] at i2
        obtain ⟨S', w1, w2⟩ := i2
        refine ⟨S', ?_, fr_t r2 w2⟩
        by_cases u : n - spH n (y - x) x ≤ i ∧ i ≤ spH n x (y - x)
        · rw [if_pos u]
          rw [if_neg (by omega), show min (i + 1 - 1) (spH n x (y - x)) = i by omega] at w1
          exact w1
        · rw [if_neg u]
          by_cases v : i ≤ n - spH n (y - x) x
          · rw [if_pos v]
            rw [if_pos (by omega)] at w1
            exact w1
          · rw [if_neg v]
            rw [if_neg (by omega), show min (i + 1 - 1) (spH n x (y - x)) = min (i - 1) (spH n x (y - x)) by omega] at w1
            exact w1
theorem m_spanOf {S : zM} (hn : 1 ≤ n ∧ n ≤ 40) (hx : 0 ≤ x) (hxy : x ≤ y) (hy : 1 ≤ y ∧ y ≤ 10000) (w : Int32) : ∃ S', gX12_spanOf S (J n) (J x) (J y) w = some (J (if w = J 0 then ((n - spH n (y - x) x : Nat) : Int) else (spH n x (y - x) : Int)), S') ∧ fr fM S S' := by
  obtain ⟨S', r1, r2⟩ := m_sp_L hn hx hxy hy (w := w) FU 0 S (by omega) (by have := FUs (n := 60) (by omega); omega)
  rw [if_pos (Nat.zero_le _), show J ((0 : Nat) : Int) = J 0 from rfl] at r1
  refine ⟨S', ?_, r2⟩
  unfold gX12_spanOf
  simp only [J_0, J_1, J_2, J_3, J_4, J_5, J_6, J_7, J_8, J_9, J_10, J_11, J_12, J_14, J_15, J_16, J_19, J_20, J_21, J_22, J_23, J_24, J_25, J_28, J_30, J_31, J_32, J_40, J_44, J_47, J_48, J_49, J_50, J_53, J_54, J_57, J_59, J_74, J_75, J_78, J_84, J_97, J_99, J_100, J_120, J_122, J_126, J_132, J_138, J_144, J_150, J_156, J_162, J_198, J_200, J_202, J_206, J_210, J_214, J_218, J_222, J_226, J_230, J_234, J_238, J_239, J_240, J_241, J_242, J_243, J_255, J_263, J_283, J_303, J_399, J_400, J_401, J_463, J_700, J_701, J_999, J_1000, J_2048, J_4095, J_4096, J_6000, J_9999, J_10000, J_65536, J_65537, J_2147483647, J_neg]
  exact r1
end
