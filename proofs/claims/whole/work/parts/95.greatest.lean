/-! The class' spans. -/
theorem bT_x0 {z : Int} : ∀ n k : Nat, bT 0 z n (k + 1) = 0 := by
  intro n
  induction n with
  | zero => intro k; rfl
  | succ n ih => intro k; rw [bT_s, Int.zero_mul, ih k, Int.mul_zero, Int.add_zero]
theorem spH_0 {z : Int} (hz : 1 ≤ z) {n : Nat} : spH n 0 z = 0 := by
  by_cases e : spH n 0 z = 0
  · exact e
  · exfalso
    have h1 := (spH_iff (x := 0) (z := z) (by omega) (by omega) (spH_le (n := n))).mpr (Nat.le_refl (spH n 0 z))
    have h2 : bTail 0 z n (spH n 0 z) = 0 := sm_zero (fun k hk => by
      by_cases w : spH n 0 z ≤ k
      · rw [if_pos w]
        obtain ⟨j, hj⟩ : ∃ j, k = j + 1 := ⟨k - 1, by omega⟩
        rw [hj, bT_x0]
      · rw [if_neg w])
    have h3 := wp_pos (w := 0 + z) (by omega) n
    rw [← bTail_0] at h3
    omega
theorem spH_n {x : Int} (hx : 1 ≤ x) {n : Nat} : spH n x 0 = n := by
  have h1 := spH_le (n := n) (x := x) (z := 0)
  have h2 : bTail x 0 n n = x ^ n := by rw [bTail_step (Nat.le_refl n), bTail_far, bT_top, Int.add_zero]
  have h3 := wp_pos hx n
  have h4 := (spH_iff (x := x) (z := 0) (by omega) (by omega) (Nat.le_refl n)).mp (by rw [h2, bTail_0, Int.add_zero]; omega)
  omega
def fC (q _k : Nat) : Prop := 233 ≤ q ∧ q ≤ 238
section
variable {S : zM} {n : Nat} {x y : Int}
theorem c_greatest (hs : rSpans S) (hn : 1 ≤ n ∧ n ≤ 40) (hx : 0 ≤ x) (hxy : x ≤ y) (hy : 1 ≤ y ∧ y ≤ 10000) : ∃ S', gX10_greatest S (J n) (J x) (J y) = some (J (spH n x (y - x)), S') ∧ fr fC S S' ∧ rSpans S' := by
  unfold gX10_greatest
  simp only [J_0, J_1, J_2, J_3, J_4, J_5, J_6, J_7, J_8, J_9, J_10, J_11, J_12, J_14, J_15, J_16, J_19, J_20, J_21, J_22, J_23, J_24, J_25, J_28, J_30, J_31, J_32, J_40, J_44, J_47, J_48, J_49, J_50, J_53, J_54, J_57, J_59, J_74, J_75, J_78, J_84, J_97, J_99, J_100, J_120, J_122, J_126, J_132, J_138, J_144, J_150, J_156, J_162, J_198, J_200, J_202, J_206, J_210, J_214, J_218, J_222, J_226, J_230, J_234, J_238, J_239, J_240, J_241, J_242, J_243, J_255, J_263, J_283, J_303, J_399, J_400, J_401, J_463, J_700, J_701, J_999, J_1000, J_2048, J_4095, J_4096, J_6000, J_9999, J_10000, J_65536, J_65537, J_2147483647, J_neg]
  rw [iLT (by decide) (by decide) (by omega) (by omega), iLT (by omega) (by omega) (by omega) (by omega)]
  by_cases e0 : 0 < x
  · rw [if_pos e0]
    by_cases e1 : x < y
    · rw [if_pos e1]
      simp only [JL_0, JL_1, JL_9, JL_10, JL_32, JL_40, JL_48, JL_64, JL_97, JL_100, JL_4095, JL_4096, JL_16384, JL_65537, JL_524287, JL_524288, JL_268435455, JL_1099511627775, JL_neg]
      rw [J_toL (by omega) (by omega), J_toL (by omega) (by omega), J_toL (by omega) (by omega)]
      simp only [JL_neg, JL_add, JL_sub, JL_mul, ckt, b1s, b2s, lts, un2s, un3s, un4s, un5s, lmr, lml, lgr, lgl]
      obtain ⟨K, hK⟩ : ∃ K, K = (y * 16384 + x) * 64 + n := ⟨_, rfl⟩
      rw [← hK]
      obtain ⟨i, i1, i2⟩ := JL_hash (JL K * -7046029254386353131)
      have x1 : ixb (J (i : Int)) 2048 = true := ixb_J (by omega) (by omega) (by decide)
      have y1 : ix (J (i : Int)) = i := by rw [ix_J (by omega) (by omega)]; omega
      rw [i2, x1, ckt, ckt, y1, gL_J, iEQl (iL_lo S 237 i) (iL_hi S 237 i) (by omega) (by omega)]
      by_cases e2 : iL S 237 i = K
      · rw [if_pos e2]
        rcases hs i i1 with w | ⟨n', x', y', w1, w2, w3, w4⟩
        · omega
        · have en : n' = n := by omega
          have ex : (x' : Int) = x := by omega
          have ey : (y' : Int) = y := by omega
          rw [ex, ey, en] at w4
          rw [w4]
          exact ⟨S, rfl, fr_r, hs⟩
      · obtain ⟨S6, r1, r2⟩ := c_worked (S := S) hn (show 1 ≤ x by omega) e1 hy.2
        rw [if_neg e2, r1, b2s, ckt, ckt, ckt, rIL, rII, if_pos ⟨rfl, rfl⟩]
        refine ⟨_, rfl, fr_t (fr_t (fr_w r2 (fun q k z => by unfold fB at z; unfold fC; omega)) (fr_pI (by unfold fC; omega))) (fr_pL (by unfold fC; omega)), fun s hs2 => ?_⟩
        by_cases z : s = i
        · subst z
          obtain ⟨X, rfl⟩ : ∃ X : Nat, x = X := ⟨x.toNat, by omega⟩
          obtain ⟨Y, rfl⟩ : ∃ Y : Nat, y = Y := ⟨y.toNat, by omega⟩
          refine Or.inr ⟨n, X, Y, hn, ⟨by omega, by omega, by omega⟩, ?_, ?_⟩
          · exact iL_of (by rw [rLL, if_pos ⟨rfl, rfl⟩, hK]) (by omega) (by omega)
          · rw [rIL, rII, if_pos ⟨rfl, rfl⟩]
        · have k1 : iL (pL (pI S6 238 i (J (spG x (y - x) n n))) 237 i (JL K)) 237 s = iL S 237 s := congrArg Int64.toInt (by rw [rLL, if_neg (fun w => z w.2), rLI, r2.2.1 237 s (by unfold fB; omega)])
          have k2 : gI (pL (pI S6 238 i (J (spG x (y - x) n n))) 237 i (JL K)) 238 s = gI S 238 s := by rw [rIL, rII, if_neg (fun w => z w.2), r2.1 238 s (by unfold fB; omega)]
          rw [k1, k2]
          exact hs s hs2
    · have : x = y := by omega
      subst this
      rw [if_neg e1, Int.sub_self, spH_n (by omega)]
      exact ⟨S, rfl, fr_r, hs⟩
  · have : x = 0 := by omega
    subst this
    rw [if_neg e0, spH_0 (by omega)]
    exact ⟨S, rfl, fr_r, hs⟩
theorem c_least (hs : rSpans S) (hn : 1 ≤ n ∧ n ≤ 40) (hx : 0 ≤ x) (hxy : x ≤ y) (hy : 1 ≤ y ∧ y ≤ 10000) : ∃ S', gX10_least S (J n) (J x) (J y) = some (J ((n - spH n (y - x) x : Nat) : Int), S') ∧ fr fC S S' ∧ rSpans S' := by
  obtain ⟨S', r1, r2, r3⟩ := c_greatest (x := y - x) hs hn (by omega) (by omega) hy
  rw [show y - (y - x) = x by omega] at r1
  refine ⟨S', ?_, r2, r3⟩
  have := spH_le (n := n) (x := y - x) (z := x)
  unfold gX10_least
  rw [J_sub, r1, b2s, J_sub, show (n : Int) - (spH n (y - x) x : Int) = ((n - spH n (y - x) x : Nat) : Int) by omega]
/-- is it within the span, by the class -/
theorem c_spHolds (hs : rSpans S) (hn : 1 ≤ n ∧ n ≤ 40) (hx : 0 ≤ x) (hxy : x ≤ y) (hy : 1 ≤ y ∧ y ≤ 10000) {k : Nat} (hk : k ≤ n) : ∃ S', gX10_holds S (J n) (J x) (J y) (J k) = some (bI (n - spH n (y - x) x ≤ k ∧ k ≤ spH n x (y - x)), S') ∧ fr fC S S' ∧ rSpans S' := by
  obtain ⟨S1, r1, r2, r3⟩ := c_greatest (x := x) hs hn hx hxy hy
  obtain ⟨S2, q1, q2, q3⟩ := c_greatest (x := y - x) r3 hn (by omega) (by omega) hy
  rw [show y - (y - x) = x by omega] at q1
  have h1 := spH_le (n := n) (x := y - x) (z := x)
  have h2 := spH_le (n := n) (x := x) (z := y - x)
  unfold gX10_holds
  simp only [J_0, J_1, J_2, J_3, J_4, J_5, J_6, J_7, J_8, J_9, J_10, J_11, J_12, J_14, J_15, J_16, J_19, J_20, J_21, J_22, J_23, J_24, J_25, J_28, J_30, J_31, J_32, J_40, J_44, J_47, J_48, J_49, J_50, J_53, J_54, J_57, J_59, J_74, J_75, J_78, J_84, J_97, J_99, J_100, J_120, J_122, J_126, J_132, J_138, J_144, J_150, J_156, J_162, J_198, J_200, J_202, J_206, J_210, J_214, J_218, J_222, J_226, J_230, J_234, J_238, J_239, J_240, J_241, J_242, J_243, J_255, J_263, J_283, J_303, J_399, J_400, J_401, J_463, J_700, J_701, J_999, J_1000, J_2048, J_4095, J_4096, J_6000, J_9999, J_10000, J_65536, J_65537, J_2147483647, J_neg]
  rw [r1, b2s, iLT (by omega) (by omega) (by omega) (by omega)]
  by_cases e : (spH n x (y - x) : Int) < k
  · rw [if_pos e]
    exact ⟨S1, by rw [bI_f (by omega)], r2, r3⟩
  · rw [if_neg e, J_sub, q1, b2s, J_sub, iLT (by omega) (by omega) (by omega) (by omega)]
    by_cases z : (spH n (y - x) x : Int) < (n : Int) - k
    · rw [if_pos z]
      exact ⟨S2, by rw [bI_f (by omega)], fr_t r2 q2, q3⟩
    · rw [if_neg z]
      exact ⟨S2, by rw [bI_t (by omega)], fr_t r2 q2, q3⟩
end
