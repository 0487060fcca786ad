/-! The class works a span out. -/
theorem bT_top {x z : Int} : ∀ n : Nat, bT x z n n = x ^ n := by
  intro n
  induction n with
  | zero => rw [Int.pow_zero]; rfl
  | succ n ih => rw [bT_s, ih, bT_far n (n + 1) (by omega), Int.pow_succ, Int.mul_zero, Int.add_zero, Int.mul_comm]
theorem cap_n : ∀ n : Nat, n < 41 → 10000 ^ n * 16000000 < 1099511627776 ^ ((14 * n + 25) / 40 + 1) := by decide +kernel
theorem pw_le {a b : Int} (ha : 0 ≤ a) (hab : a ≤ b) : ∀ n : Nat, 0 ≤ a ^ n ∧ a ^ n ≤ b ^ n := by
  intro n
  induction n with
  | zero => rw [Int.pow_zero, Int.pow_zero]; omega
  | succ n ih =>
    rw [Int.pow_succ, Int.pow_succ]
    exact ⟨Int.mul_nonneg ih.1 ha, Int.mul_le_mul ih.2 hab ha (by omega)⟩
theorem pw_up {a : Int} (ha : 1 ≤ a) {i n : Nat} (h : i ≤ n) : a ^ i ≤ a ^ n := by
  induction n with
  | zero => rw [show i = 0 by omega]; exact Int.le_refl _
  | succ n ih =>
    by_cases e : i = n + 1
    · rw [e]; exact Int.le_refl _
    · have h1 := ih (by omega)
      have h2 := wp_pos ha n
      have h3 : a ^ n * 1 ≤ a ^ n * a := Int.mul_le_mul_of_nonneg_left ha (by omega)
      rw [Int.pow_succ]
      omega
/-- how many limbs -/
def lmN (n : Nat) : Nat := (14 * n + 25) / 40 + 1
theorem lmN_b {n : Nat} (h : n ≤ 40) : 1 ≤ lmN n ∧ lmN n ≤ 15 := by unfold lmN; omega
theorem cap {n : Nat} (h : n ≤ 40) {y : Int} (hy : 1 ≤ y ∧ y ≤ 10000) : y ^ n * 16000000 < kW ^ lmN n := by
  have h1 := cap_n n (by omega)
  have h2 := (pw_le (show 0 ≤ y by omega) hy.2 n).2
  have h3 : ((10000 ^ n * 16000000 : Nat) : Int) < ((1099511627776 ^ ((14 * n + 25) / 40 + 1) : Nat) : Int) := by omega
  rw [Int.natCast_mul, Int.natCast_pow, Int.natCast_pow] at h3
  unfold lmN kW
  have h4 : ((10000 : Nat) : Int) = 10000 := rfl
  have h5 : ((1099511627776 : Nat) : Int) = 1099511627776 := rfl
  have h6 : ((16000000 : Nat) : Int) = 16000000 := rfl
  rw [h4, h5, h6] at h3
  have h7 : y ^ n * 16000000 ≤ 10000 ^ n * 16000000 := Int.mul_le_mul_of_nonneg_right h2 (by omega)
  exact Int.lt_of_le_of_lt h7 h3
def fB (q _k : Nat) : Prop := 233 ≤ q ∧ q ≤ 236
theorem okL_o {S S' : zM} {q : Nat} (f : fr (fun a _ => a = q) S S') {r m : Nat} (h : ¬ r = q) : (okL S r m → okL S' r m) ∧ cV S' r m = cV S r m := by
  refine ⟨fun hd j hj => ?_, lbL_c (fun j hj => iL_o f h j)⟩
  rw [iL_o f h j]
  exact hd j hj
section
variable {n : Nat} {x y : Int}
theorem work_1 (hn : 1 ≤ n ∧ n ≤ 40) (hx : 1 ≤ x) (hxy : x < y) (hy : y ≤ 10000) : ∀ (f i : Nat) (S : zM), i ≤ n → n < f + i → gI S 233 3 = J (lmN n) → okL S 234 (lmN n) → okL S 235 (lmN n) → cV S 234 (lmN n) = y ^ i → cV S 235 (lmN n) = 40 * x ^ i → ∃ S', gX10_worked_L48 (J n) (J x) (J y) f S (J i) = some S' ∧ fr fB S S' ∧ gI S' 233 3 = J (lmN n) ∧ okL S' 234 (lmN n) ∧ okL S' 235 (lmN n) ∧ cV S' 234 (lmN n) = y ^ n ∧ cV S' 235 (lmN n) = 40 * x ^ n := by
  have hc := cap hn.2 ⟨show 1 ≤ y by omega, hy⟩
  have hm := lmN_b hn.2
  have hyn := wp_pos (show 1 ≤ y by omega) n
  intro f
  induction f with
  | zero => intro i S g1 g2; omega
  | succ f ih =>
    intro i S g1 g2 hf h4 h5 e4 e5
    unfold gX10_worked_L48
    simp only [J_0, J_1, J_2, J_3, J_4, J_5, J_6, J_7, J_8, J_9, J_10, J_11, J_12, J_14, J_15, J_16, J_19, J_20, J_21, J_22, J_23, J_24, J_25, J_28, J_30, J_31, J_32, J_40, J_44, J_47, J_48, J_49, J_50, J_53, J_54, J_57, J_59, J_74, J_75, J_78, J_84, J_97, J_99, J_100, J_120, J_122, J_126, J_132, J_138, J_144, J_150, J_156, J_162, J_198, J_200, J_202, J_206, J_210, J_214, J_218, J_222, J_226, J_230, J_234, J_238, J_239, J_240, J_241, J_242, J_243, J_255, J_263, J_283, J_303, J_399, J_400, J_401, J_463, J_700, J_701, J_999, J_1000, J_2048, J_4095, J_4096, J_6000, J_9999, J_10000, J_65536, J_65537, J_2147483647, J_neg]
    rw [iLE (by omega) (by omega) (by omega) (by omega)]
    by_cases e : i = n
    · rw [if_pos (by omega)]
      exact ⟨S, rfl, fr_r, hf, h4, h5, e ▸ e4, e ▸ e5⟩
    · have u1 := pw_up (show 1 ≤ y by omega) (show i + 1 ≤ n by omega)
      have u2 := pw_up (show 1 ≤ x by omega) (show i + 1 ≤ n by omega)
      have u3 := (pw_le (show 0 ≤ x by omega) (show x ≤ y by omega) n).2
      rw [Int.pow_succ] at u1 u2
      rw [if_neg (by omega), J_toL (by omega) (by omega), J_toL (by omega) (by omega)]
      obtain ⟨S1, a1, a2, a3, a4⟩ := c_multiply (q := 234) (v := y) (by omega) hm.2 (by decide) hf h4 (by rw [e4]; omega)
      have f1 : gI S1 233 3 = J (lmN n) := (a2.1 233 3 (by decide)).trans hf
      have o1 := okL_o a2 (r := 235) (m := lmN n) (by decide)
      have e5' : cV S1 235 (lmN n) * x = 40 * (x ^ i * x) := by rw [o1.2, e5, Int.mul_assoc]
      obtain ⟨S2, b1', b2', b3', b4'⟩ := c_multiply (q := 235) (v := x) (by omega) hm.2 (by decide) f1 (o1.1 h5) (by rw [e5']; omega)
      have o2 := okL_o b2' (r := 234) (m := lmN n) (by decide)
      rw [a1, b1s, b1', b1s, J_add, show (i : Int) + 1 = ((i + 1 : Nat) : Int) by omega]
      have F : fr fB S S2 := fr_t (fr_w a2 (fun q k z => by unfold fB; omega)) (fr_w b2' (fun q k z => by unfold fB; omega))
      obtain ⟨S', r1, r2, r3⟩ := ih (i + 1) S2 (by omega) (by omega) ((b2'.1 233 3 (by decide)).trans f1) (o2.1 a3) b3' (by rw [o2.2, a4, e4, Int.pow_succ]) (by rw [b4', e5', Int.pow_succ])
      exact ⟨S', r1, fr_t F r2, r3⟩
theorem work_2 (hn : 1 ≤ n ∧ n ≤ 40) (hx : 1 ≤ x) (hxy : x < y) (hy : y ≤ 10000) : ∀ (f k : Nat) (S : zM), k ≤ n → k < f → gI S 233 3 = J (lmN n) → okL S 234 (lmN n) → okL S 235 (lmN n) → okL S 236 (lmN n) → cV S 234 (lmN n) = y ^ n → cV S 235 (lmN n) = 40 * bT x (y - x) n k → cV S 236 (lmN n) = 40 * bTail x (y - x) n k → ∃ S', gX10_worked_L107 (J n) (J x) (J y) f S (J k) (J ((n : Int) - k)) = some (J (spG x (y - x) n k), S') ∧ fr fB S S' := by
  have hc := cap hn.2 ⟨show 1 ≤ y by omega, hy⟩
  have hm := lmN_b hn.2
  have hyn := wp_pos (show 1 ≤ y by omega) n
  have T0 : bTail x (y - x) n 0 = y ^ n := by rw [bTail_0, show x + (y - x) = y by omega]
  intro f
  induction f with
  | zero => intro k S g1 g2; omega
  | succ f ih =>
    intro k S g1 g2 hf h4 h5 h6 e4 e5 e6
    unfold gX10_worked_L107
    simp only [J_0, J_1, J_2, J_3, J_4, J_5, J_6, J_7, J_8, J_9, J_10, J_11, J_12, J_14, J_15, J_16, J_19, J_20, J_21, J_22, J_23, J_24, J_25, J_28, J_30, J_31, J_32, J_40, J_44, J_47, J_48, J_49, J_50, J_53, J_54, J_57, J_59, J_74, J_75, J_78, J_84, J_97, J_99, J_100, J_120, J_122, J_126, J_132, J_138, J_144, J_150, J_156, J_162, J_198, J_200, J_202, J_206, J_210, J_214, J_218, J_222, J_226, J_230, J_234, J_238, J_239, J_240, J_241, J_242, J_243, J_255, J_263, J_283, J_303, J_399, J_400, J_401, J_463, J_700, J_701, J_999, J_1000, J_2048, J_4095, J_4096, J_6000, J_9999, J_10000, J_65536, J_65537, J_2147483647, J_neg]
    rw [iLE (by omega) (by omega) (by omega) (by omega), c_isLess hm hf h6 h4, b1s, e4, e6]
    match k, g1, g2, e5, e6 with
    | 0, g1, g2, e5, e6 =>
      rw [if_pos (by omega)]
      exact ⟨S, rfl, fr_r⟩
    | k + 1, g1, g2, e5, e6 =>
      rw [if_neg (by omega)]
      by_cases z : 40 * bTail x (y - x) n (k + 1) < y ^ n
      · rw [if_pos z, if_neg (show ¬ J 1 = J 0 by decide)]
        have sp : spG x (y - x) n (k + 1) = spG x (y - x) n k := by
          show (if bTail x (y - x) n 0 ≤ 40 * bTail x (y - x) n (k + 1) then k + 1 else spG x (y - x) n k) = _
          rw [if_neg (by omega)]
        have hz : 1 ≤ y - x := by omega
        have bn := bT_nn (show 0 ≤ x by omega) (show 0 ≤ y - x by omega) n
        have ts := bTail_step (x := x) (z := y - x) (n := n) (k := k) (by omega)
        have t0 := bTail_anti (show 0 ≤ x by omega) (show 0 ≤ y - x by omega) (n := n) (i := 0) (j := k) (by omega)
        have st := bT_step (x := x) (z := y - x) n k
        have kz : 1 ≤ ((k + 1 : Nat) : Int) * (y - x) ∧ ((k + 1 : Nat) : Int) * (y - x) ≤ 40 * 10000 := ⟨by have : 1 * 1 ≤ ((k + 1 : Nat) : Int) * (y - x) := Int.mul_le_mul (by omega) hz (by omega) (by omega); omega, Int.mul_le_mul (by omega) (by omega) (by omega) (by omega)⟩
        have nx : 1 ≤ ((n : Int) - ((k + 1 : Nat) : Int) + 1) * x ∧ ((n : Int) - ((k + 1 : Nat) : Int) + 1) * x ≤ 40 * 10000 := ⟨by have : 1 * 1 ≤ ((n : Int) - ((k + 1 : Nat) : Int) + 1) * x := Int.mul_le_mul (by omega) hx (by omega) (by omega); omega, Int.mul_le_mul (by omega) (by omega) (by omega) (by omega)⟩
        have tk := bn (k + 1)
        have ts' : bT x (y - x) n (k + 1) ≤ bTail x (y - x) n (k + 1) := by
          have := bTail_step (x := x) (z := y - x) (n := n) (k := k + 1) g1
          have h2 : 0 ≤ bTail x (y - x) n (k + 1 + 1) := sm_nn (fun j hj => by
            have := bn j
            split <;> omega)
          omega
        have m1 : 40 * bT x (y - x) n (k + 1) * (((k + 1 : Nat) : Int) * (y - x)) < kW ^ lmN n := by
          have : 40 * bT x (y - x) n (k + 1) * (((k + 1 : Nat) : Int) * (y - x)) ≤ y ^ n * 400000 := Int.mul_le_mul (by omega) kz.2 (by omega) (by omega)
          omega
        rw [J_sub, J_sub, J_add, J_toL (by omega) (by omega), J_toL (by omega) (by omega), J_toL (by omega) (by omega), J_toL (by omega) (by omega), JL_mul, JL_mul]
        obtain ⟨S1, a1, a2, a3, a4⟩ := c_multiply (q := 235) (v := ((k + 1 : Nat) : Int) * (y - x)) ⟨kz.1, kz.2⟩ hm.2 (by decide) hf h5 (by rw [e5]; exact m1)
        have f1 : gI S1 233 3 = J (lmN n) := (a2.1 233 3 (by decide)).trans hf
        have eK : cV S1 235 (lmN n) = 40 * bT x (y - x) n k * (((n : Int) - ((k + 1 : Nat) : Int) + 1) * x) := by
          rw [a4, e5, show ((n : Int) - ((k + 1 : Nat) : Int) + 1) = (n : Int) - k by omega, show ((k + 1 : Nat) : Int) = (k : Int) + 1 by omega]
          generalize bT x (y - x) n (k + 1) = A at st
          generalize bT x (y - x) n k = B at st
          generalize y - x = w at st
          rw [Int.mul_assoc, Int.mul_assoc 40 B]
          congr 1
          have p1 : A * (((k : Int) + 1) * w) = ((k : Int) + 1) * (w * A) := by rw [Int.mul_comm A, Int.mul_assoc]
          have p2 : B * (((n : Int) - k) * x) = ((n : Int) - k) * (x * B) := by rw [Int.mul_comm B, Int.mul_assoc]
          rw [p1, p2, st]
        obtain ⟨S2, b1', b2', b3', b4'⟩ := c_divide (q := 235) ⟨nx.1, nx.2⟩ hm f1 a3 eK
        have f2 : gI S2 233 3 = J (lmN n) := (b2'.1 233 3 (by decide)).trans f1
        have o1 := okL_o a2 (r := 236) (m := lmN n) (by decide)
        have o2 := okL_o b2' (r := 236) (m := lmN n) (by decide)
        have p1 := okL_o a2 (r := 234) (m := lmN n) (by decide)
        have p2 := okL_o b2' (r := 234) (m := lmN n) (by decide)
        have e6' : cV S2 236 (lmN n) = 40 * bTail x (y - x) n (k + 1) := by rw [o2.2, o1.2, e6]
        obtain ⟨S3, c1, c2, c3, c4⟩ := c_add (q := 236) (r := 235) hm.2 (by decide) (by decide) f2 (o2.1 (o1.1 h6)) b3' (by rw [e6', b4']; omega)
        have p3 := okL_o c2 (r := 234) (m := lmN n) (by decide)
        have p4 := okL_o c2 (r := 235) (m := lmN n) (by decide)
        have F : fr fB S S3 := fr_t (fr_t (fr_w a2 (fun q k z => by unfold fB; omega)) (fr_w b2' (fun q k z => by unfold fB; omega))) (fr_w c2 (fun q k z => by unfold fB; omega))
        rw [a1, b1s, b1', b1s, c1, b1s, J_add, sp, show ((k + 1 : Nat) : Int) + -1 = (k : Int) by omega, show (n : Int) - ((k + 1 : Nat) : Int) + 1 = (n : Int) - k by omega]
        obtain ⟨S', r1, r2⟩ := ih k S3 (by omega) (by omega) ((c2.1 233 3 (by decide)).trans f2) (p3.1 (p2.1 (p1.1 h4))) (p4.1 b3') c3 (by rw [p3.2, p2.2, p1.2, e4]) (by rw [p4.2, b4']) (by rw [c4, e6', b4']; omega)
        exact ⟨S', r1, fr_t F r2⟩
      · rw [if_neg z, if_pos rfl]
        have sp : spG x (y - x) n (k + 1) = k + 1 := by
          show (if bTail x (y - x) n 0 ≤ 40 * bTail x (y - x) n (k + 1) then k + 1 else spG x (y - x) n k) = _
          rw [if_pos (by omega)]
        rw [sp]
        exact ⟨S, rfl, fr_r⟩
theorem c_worked {S : zM} (hn : 1 ≤ n ∧ n ≤ 40) (hx : 1 ≤ x) (hxy : x < y) (hy : y ≤ 10000) : ∃ S', gX10_worked S (J n) (J x) (J y) = some (J (spG x (y - x) n n), S') ∧ fr fB S S' := by
  have hm := lmN_b hn.2
  have hc := cap hn.2 ⟨show 1 ≤ y by omega, hy⟩
  have hyn := wp_pos (show 1 ≤ y by omega) n
  have hxn := pw_le (show 0 ≤ x by omega) (show x ≤ y by omega) n
  have hfu := FUs (n := 60) (by omega)
  have e0 : jmax (J 1) (jmin (J 15) (((J n * J 14 + J 25) / J 40) + J 1)) = J (lmN n) := by
    simp only [J_neg, J_add, J_sub, J_mul]
    rw [J_div (by omega) (by omega) (by decide) (by decide), J_add, jmin_J (by decide) (by decide) (by omega) (by omega), jmax_J (by decide) (by decide) (by omega) (by omega)]
    congr 1
    unfold lmN
    omega
  obtain ⟨S1, hS1⟩ : ∃ S1, S1 = pI S 233 3 (J (lmN n)) := ⟨_, rfl⟩
  have F1 : fr fB S S1 := by rw [hS1]; exact fr_pI (by unfold fB; omega)
  have g1 : gI S1 233 3 = J (lmN n) := by rw [hS1, rII, if_pos ⟨rfl, rfl⟩]
  obtain ⟨S2, a1, a2, a3, a4⟩ := c_setTo (q := 234) (v := 1) (by decide) hm (by decide) g1
  have g2 := (a2.1 233 3 (by decide)).trans g1
  obtain ⟨S3, b1', b2', b3', b4'⟩ := c_setTo (q := 235) (v := 40) (by decide) hm (by decide) g2
  have g3 := (b2'.1 233 3 (by decide)).trans g2
  have o1 := okL_o b2' (r := 234) (m := lmN n) (by decide)
  obtain ⟨S4, d1, d2, d3, d4, d5, d6, d7⟩ := work_1 hn hx hxy hy FU 0 S3 (by omega) (by omega) g3 (o1.1 a3) b3' (by rw [o1.2, a4, Int.pow_zero]) (by rw [b4', Int.pow_zero]; rfl)
  obtain ⟨S5, k1, k2, k3, k4⟩ := c_setTo (q := 236) (v := 0) (by decide) hm (by decide) d3
  have g5 := (k2.1 233 3 (by decide)).trans d3
  have o2 := okL_o k2 (r := 235) (m := lmN n) (by decide)
  have o3 := okL_o k2 (r := 234) (m := lmN n) (by decide)
  obtain ⟨S6, l1, l2, l3, l4⟩ := c_add (q := 236) (r := 235) hm.2 (by decide) (by decide) g5 k3 (o2.1 d5) (by rw [k4, o2.2, d7]; omega)
  have g6 := (l2.1 233 3 (by decide)).trans g5
  have o4 := okL_o l2 (r := 235) (m := lmN n) (by decide)
  have o5 := okL_o l2 (r := 234) (m := lmN n) (by decide)
  have tt : bTail x (y - x) n n = x ^ n := by rw [bTail_step (Nat.le_refl n), bTail_far, bT_top, Int.add_zero]
  obtain ⟨S7, w1, w2⟩ := work_2 hn hx hxy hy FU n S6 (Nat.le_refl n) (by omega) g6 (o5.1 (o3.1 d4)) (o4.1 (o2.1 d5)) l3 (by rw [o5.2, o3.2, d6]) (by rw [o4.2, o2.2, d7, bT_top]) (by rw [l4, k4, o2.2, d7, tt, Int.zero_add])
  rw [show (n : Int) - n = 0 by omega] at w1
  rw [show J ((0 : Nat) : Int) = J 0 from rfl] at d1
  refine ⟨S7, ?_, ?_⟩
  · unfold gX10_worked
    simp only [J_0, J_1, J_2, J_3, J_4, J_5, J_6, J_7, J_8, J_9, J_10, J_11, J_12, J_14, J_15, J_16, J_19, J_20, J_21, J_22, J_23, J_24, J_25, J_28, J_30, J_31, J_32, J_40, J_44, J_47, J_48, J_49, J_50, J_53, J_54, J_57, J_59, J_74, J_75, J_78, J_84, J_97, J_99, J_100, J_120, J_122, J_126, J_132, J_138, J_144, J_150, J_156, J_162, J_198, J_200, J_202, J_206, J_210, J_214, J_218, J_222, J_226, J_230, J_234, J_238, J_239, J_240, J_241, J_242, J_243, J_255, J_263, J_283, J_303, J_399, J_400, J_401, J_463, J_700, J_701, J_999, J_1000, J_2048, J_4095, J_4096, J_6000, J_9999, J_10000, J_65536, J_65537, J_2147483647, J_neg, JL_0, JL_1, JL_9, JL_10, JL_32, JL_40, JL_48, JL_64, JL_97, JL_100, JL_4095, JL_4096, JL_16384, JL_65537, JL_524287, JL_524288, JL_268435455, JL_1099511627775, JL_neg, e0, ckt, b1s, b2s, lts, un2s, un3s, un4s, un5s, lmr, lml, lgr, lgl]
    rw [← hS1, a1, b1s, b1', b1s, d1, b1s, k1, b1s, l1, b1s, w1]
  · refine fr_t (fr_t (fr_t (fr_t (fr_t (fr_t F1 (fr_w a2 (fun q k z => by unfold fB; omega))) (fr_w b2' (fun q k z => by unfold fB; omega))) d2) (fr_w k2 (fun q k z => by unfold fB; omega))) (fr_w l2 (fun q k z => by unfold fB; omega))) w2
end
