/-! The class' limbs: multiply, add, compare, divide, set. -/
section
variable {q r m : Nat} {S : zM}
theorem cV_nn (h : okL S q m) : 0 ≤ cV S q m := lbL_nn kW1 h
theorem c_multiply {v : Int} (hv : 1 ≤ v ∧ v ≤ 400000) (hm : m ≤ 15) (hq : ¬ q = 233) (hf : gI S 233 3 = J m) (hd : okL S q m) (hb : cV S q m * v < kW ^ m) : ∃ S', gX10_multiply S q (JL v) = some S' ∧ fr (fun a _ => a = q) S S' ∧ okL S' q m ∧ cV S' q m = cV S q m * v := by
  obtain ⟨S', c', r1, r2, r3, -, r5, r6⟩ := c_mul_L (q := q) hv hm hq FU 0 S 0 (Nat.zero_le m) (by have := FUs (n := 20) (by omega); omega) hf hd (by omega) (by omega)
  rw [lbU_0, lbU_0, Int.zero_mul, Int.add_zero] at r6
  refine ⟨S', ?_, r2, r3, no_carry kW1 (lbL_nn kW1 r3) r5 r6 hb⟩
  unfold gX10_multiply
  simp only [J_0, J_1, J_2, J_3, J_4, J_5, J_6, J_7, J_8, J_9, J_10, J_11, J_12, J_14, J_15, J_16, J_19, J_20, J_21, J_22, J_23, J_24, J_25, J_28, J_30, J_31, J_32, J_40, J_44, J_47, J_48, J_49, J_50, J_53, J_54, J_57, J_59, J_74, J_75, J_78, J_84, J_97, J_99, J_100, J_120, J_122, J_126, J_132, J_138, J_144, J_150, J_156, J_162, J_198, J_200, J_202, J_206, J_210, J_214, J_218, J_222, J_226, J_230, J_234, J_238, J_239, J_240, J_241, J_242, J_243, J_255, J_263, J_283, J_303, J_399, J_400, J_401, J_463, J_700, J_701, J_999, J_1000, J_2048, J_4095, J_4096, J_6000, J_9999, J_10000, J_65536, J_65537, J_2147483647, J_neg, JL_0, JL_1, JL_9, JL_10, JL_32, JL_40, JL_48, JL_64, JL_97, JL_100, JL_4095, JL_4096, JL_16384, JL_65537, JL_524287, JL_524288, JL_268435455, JL_1099511627775, JL_neg]
  exact r1
theorem c_add_L (hm : m ≤ 15) (hq : ¬ q = 233) (hr : ¬ r = q) : ∀ (n i : Nat) (S : zM) (c : Int), i ≤ m → m < n + i → gI S 233 3 = J m → okL S q m → okL S r m → 0 ≤ c → c ≤ 1 → ∃ S' c', gX10_add_L5 q r n S (JL c) (J i) = some S' ∧ fr (fun a _ => a = q) S S' ∧ okL S' q m ∧ (∀ j, j < i → iL S' q j = iL S q j) ∧ 0 ≤ c' ∧ lbU kW (iL S' q) m i + c' * kW ^ m = lbU kW (iL S q) m i + lbU kW (iL S r) m i + c * kW ^ i := by
  intro n
  induction n with
  | zero => intro i S c g1 g2; omega
  | succ n ih =>
    intro i S c g1 g2 hf hd hd' c1 c2
    unfold gX10_add_L5
    simp only [J_0, J_1, J_2, J_3, J_4, J_5, J_6, J_7, J_8, J_9, J_10, J_11, J_12, J_14, J_15, J_16, J_19, J_20, J_21, J_22, J_23, J_24, J_25, J_28, J_30, J_31, J_32, J_40, J_44, J_47, J_48, J_49, J_50, J_53, J_54, J_57, J_59, J_74, J_75, J_78, J_84, J_97, J_99, J_100, J_120, J_122, J_126, J_132, J_138, J_144, J_150, J_156, J_162, J_198, J_200, J_202, J_206, J_210, J_214, J_218, J_222, J_226, J_230, J_234, J_238, J_239, J_240, J_241, J_242, J_243, J_255, J_263, J_283, J_303, J_399, J_400, J_401, J_463, J_700, J_701, J_999, J_1000, J_2048, J_4095, J_4096, J_6000, J_9999, J_10000, J_65536, J_65537, J_2147483647, J_neg]
    rw [hf, iLE (by omega) (by omega) (by omega) (by omega)]
    by_cases e : i = m
    · subst e
      rw [if_pos (Int.le_refl _)]
      refine ⟨S, c, rfl, fr_r, hd, fun j hj => rfl, c1, ?_⟩
      rw [lbU_end, lbU_end]
      omega
    · have hdi := hd i (by omega)
      have hdi' := hd' i (by omega)
      unfold kW at hdi hdi'
      have x1 : ixb (J (i : Int)) 15 = true := ixb_J (by omega) (by omega) (by decide)
      have y1 : ix (J (i : Int)) = i := by rw [ix_J (by omega) (by omega)]; omega
      generalize hdd : iL S q i = d at hdi
      generalize hdd' : iL S r i = d' at hdi'
      rw [if_neg (by omega), x1, ckt, ckt, lts, ckt, y1, gL_J, gL_J, hdd, hdd', JL_add, JL_add, JL_ush40 (by omega) (by omega), lts]
      simp only [JL_0, JL_1, JL_9, JL_10, JL_32, JL_40, JL_48, JL_64, JL_97, JL_100, JL_4095, JL_4096, JL_16384, JL_65537, JL_524287, JL_524288, JL_268435455, JL_1099511627775, JL_neg, JL_and40, J_neg, J_add, J_sub, J_mul]
      rw [show (i : Int) + 1 = ((i + 1 : Nat) : Int) by omega]
      obtain ⟨a, ha⟩ : ∃ a, a = (c + (d + d')) % 1099511627776 := ⟨_, rfl⟩
      obtain ⟨k, hk⟩ : ∃ k, k = (c + (d + d')) / 1099511627776 := ⟨_, rfl⟩
      rw [← ha, ← hk]
      have ed : c + (d + d') = kW * k + a := by unfold kW; omega
      have ab : 0 ≤ a ∧ a < 1099511627776 := by omega
      have kb : 0 ≤ k ∧ k ≤ 1 := by omega
      have f1 : fr (fun a _ => a = q) S (pL S q i (JL a)) := fr_pL rfl
      have dig : ∀ j, iL (pL S q i (JL a)) q j = if j = i then a else iL S q j := fun j => iL_w ⟨ab.1, by omega⟩
      have dig' : ∀ j, iL (pL S q i (JL a)) r j = iL S r j := fun j => iL_o f1 hr j
      obtain ⟨S', c', r1, r2, r3, r4, r5, r6⟩ := ih (i + 1) _ k (by omega) (by omega) ((f1.1 233 3 (by omega)).trans hf) (fun j hj => by
        rw [dig]
        by_cases z : j = i
        · rw [if_pos z]; exact ab
        · rw [if_neg z]; exact hd j hj) (fun j hj => by rw [dig']; exact hd' j hj) kb.1 kb.2
      refine ⟨S', c', r1, fr_t f1 r2, r3, fun j hj => ?_, r5, ?_⟩
      · rw [r4 j (by omega), dig, if_neg (by omega)]
      · have e1 : iL S' q i = a := by rw [r4 i (by omega), dig, if_pos rfl]
        have e2 : lbU kW (iL (pL S q i (JL a)) q) m (i + 1) = lbU kW (iL S q) m (i + 1) := lbU_c (fun j j1 j2 => by rw [dig, if_neg (by omega)])
        have e3 : lbU kW (iL (pL S q i (JL a)) r) m (i + 1) = lbU kW (iL S r) m (i + 1) := lbU_c (fun j j1 j2 => dig' j)
        rw [lbU_step (f := iL S' q) (by omega), lbU_step (f := iL S q) (i := i) (by omega), lbU_step (f := iL S r) (i := i) (by omega), e1, hdd, hdd', Int.add_assoc, r6, e2, e3, Int.pow_succ]
        have := st_add (P := kW ^ i) (R := lbU kW (iL S q) m (i + 1)) (R' := lbU kW (iL S r) m (i + 1)) ed
        rw [this, Int.add_mul]
        omega
theorem c_add (hm : m ≤ 15) (hq : ¬ q = 233) (hr : ¬ r = q) (hf : gI S 233 3 = J m) (hd : okL S q m) (hd' : okL S r m) (hb : cV S q m + cV S r m < kW ^ m) : ∃ S', gX10_add S q r = some S' ∧ fr (fun a _ => a = q) S S' ∧ okL S' q m ∧ cV S' q m = cV S q m + cV S r m := by
  obtain ⟨S', c', r1, r2, r3, -, r5, r6⟩ := c_add_L (q := q) (r := r) hm hq hr FU 0 S 0 (Nat.zero_le m) (by have := FUs (n := 20) (by omega); omega) hf hd hd' (by omega) (by omega)
  rw [lbU_0, lbU_0, lbU_0, Int.zero_mul, Int.add_zero] at r6
  refine ⟨S', ?_, r2, r3, no_carry kW1 (lbL_nn kW1 r3) r5 r6 hb⟩
  unfold gX10_add
  simp only [J_0, J_1, J_2, J_3, J_4, J_5, J_6, J_7, J_8, J_9, J_10, J_11, J_12, J_14, J_15, J_16, J_19, J_20, J_21, J_22, J_23, J_24, J_25, J_28, J_30, J_31, J_32, J_40, J_44, J_47, J_48, J_49, J_50, J_53, J_54, J_57, J_59, J_74, J_75, J_78, J_84, J_97, J_99, J_100, J_120, J_122, J_126, J_132, J_138, J_144, J_150, J_156, J_162, J_198, J_200, J_202, J_206, J_210, J_214, J_218, J_222, J_226, J_230, J_234, J_238, J_239, J_240, J_241, J_242, J_243, J_255, J_263, J_283, J_303, J_399, J_400, J_401, J_463, J_700, J_701, J_999, J_1000, J_2048, J_4095, J_4096, J_6000, J_9999, J_10000, J_65536, J_65537, J_2147483647, J_neg, JL_0, JL_1, JL_9, JL_10, JL_32, JL_40, JL_48, JL_64, JL_97, JL_100, JL_4095, JL_4096, JL_16384, JL_65537, JL_524287, JL_524288, JL_268435455, JL_1099511627775, JL_neg]
  exact r1
theorem c_less_L (hm : m ≤ 15) (hd : okL S q m) (hd' : okL S r m) : ∀ (n i : Nat), i ≤ m → i < n → gX10_isLess_L7 S q r n (J ((i : Int) - 1)) = some (J (if lbL kW (iL S q) i < lbL kW (iL S r) i then 1 else 0)) := by
  intro n
  induction n with
  | zero => intro i g1 g2; omega
  | succ n ih =>
    intro i g1 g2
    unfold gX10_isLess_L7
    simp only [J_0, J_1, J_2, J_3, J_4, J_5, J_6, J_7, J_8, J_9, J_10, J_11, J_12, J_14, J_15, J_16, J_19, J_20, J_21, J_22, J_23, J_24, J_25, J_28, J_30, J_31, J_32, J_40, J_44, J_47, J_48, J_49, J_50, J_53, J_54, J_57, J_59, J_74, J_75, J_78, J_84, J_97, J_99, J_100, J_120, J_122, J_126, J_132, J_138, J_144, J_150, J_156, J_162, J_198, J_200, J_202, J_206, J_210, J_214, J_218, J_222, J_226, J_230, J_234, J_238, J_239, J_240, J_241, J_242, J_243, J_255, J_263, J_283, J_303, J_399, J_400, J_401, J_463, J_700, J_701, J_999, J_1000, J_2048, J_4095, J_4096, J_6000, J_9999, J_10000, J_65536, J_65537, J_2147483647, J_neg]
    rw [iLT (by omega) (by omega) (by decide) (by decide)]
    match i, g1, g2 with
    | 0, _, _ =>
      rw [if_pos (by decide), lbL_0, lbL_0, if_neg (by decide)]
    | i + 1, g1, g2 =>
      have hq' := hd i (by omega)
      have hr' := hd' i (by omega)
      rw [show ((i + 1 : Nat) : Int) - 1 = i by omega, if_neg (by omega)]
      have x1 : ixb (J (i : Int)) 15 = true := ixb_J (by omega) (by omega) (by decide)
      have y1 : ix (J (i : Int)) = i := by rw [ix_J (by omega) (by omega)]; omega
      have o1 : dg kW (iL S q) (i + 1) := fun j hj => hd j (by omega)
      have o2 : dg kW (iL S r) (i + 1) := fun j hj => hd' j (by omega)
      rw [x1, ckt, ckt, ckt, ckt, y1, gL_J, gL_J]
      have hq2 := hq'
      have hr2 := hr'
      unfold kW at hq2 hr2
      rw [iEQl (by omega) (by omega) (by omega) (by omega), iLEl (by omega) (by omega) (by omega) (by omega), J_add, show (i : Int) + -1 = (i : Int) - 1 by omega]
      by_cases e : iL S q i = iL S r i
      · rw [if_pos e, ih i (by omega) (by omega), lbL_s, lbL_s, e]
        congr 2
        by_cases z : lbL kW (iL S q) i < lbL kW (iL S r) i
        · rw [if_pos z, if_pos (by omega)]
        · rw [if_neg z, if_neg (by omega)]
      · rw [if_neg e]
        by_cases z : iL S r i ≤ iL S q i
        · have := lbL_cmp kW1 o2 o1 (by omega)
          rw [if_pos z, if_neg (by omega)]
        · have := lbL_cmp kW1 o1 o2 (by omega)
          rw [if_neg z, if_pos this]
theorem c_isLess (hm : 1 ≤ m ∧ m ≤ 15) (hf : gI S 233 3 = J m) (hd : okL S q m) (hd' : okL S r m) : gX10_isLess S q r = some (J (if cV S q m < cV S r m then 1 else 0)) := by
  have := c_less_L hm.2 hd hd' FU m (Nat.le_refl m) (by have := FUs (n := 20) (by omega); omega)
  unfold gX10_isLess
  simp only [J_0, J_1, J_2, J_3, J_4, J_5, J_6, J_7, J_8, J_9, J_10, J_11, J_12, J_14, J_15, J_16, J_19, J_20, J_21, J_22, J_23, J_24, J_25, J_28, J_30, J_31, J_32, J_40, J_44, J_47, J_48, J_49, J_50, J_53, J_54, J_57, J_59, J_74, J_75, J_78, J_84, J_97, J_99, J_100, J_120, J_122, J_126, J_132, J_138, J_144, J_150, J_156, J_162, J_198, J_200, J_202, J_206, J_210, J_214, J_218, J_222, J_226, J_230, J_234, J_238, J_239, J_240, J_241, J_242, J_243, J_255, J_263, J_283, J_303, J_399, J_400, J_401, J_463, J_700, J_701, J_999, J_1000, J_2048, J_4095, J_4096, J_6000, J_9999, J_10000, J_65536, J_65537, J_2147483647, J_neg]
  rw [hf, J_sub]
  exact this
theorem c_div_L {v : Int} (hv : 1 ≤ v ∧ v ≤ 400000) (hm : m ≤ 15) : ∀ (n i : Nat) (S : zM) (c : Int), i ≤ m → i < n → okL S q m → 0 ≤ c → c < v → ∃ S' c', gX10_divide_L18 q (JL v) n S (JL c) (J ((i : Int) - 1)) = some S' ∧ fr (fun a _ => a = q) S S' ∧ okL S' q m ∧ (∀ j, i ≤ j → iL S' q j = iL S q j) ∧ (0 ≤ c' ∧ c' < v) ∧ lbL kW (iL S' q) i * v + c' = c * kW ^ i + lbL kW (iL S q) i := by
  have dn : decide (¬ JL v = JL 0) = true := by
    rw [decide_eq_true_eq, JL_inj (by omega) (by omega) (by decide) (by decide)]
    omega
  intro n
  induction n with
  | zero => intro i S c g1 g2; omega
  | succ n ih =>
    intro i S c g1 g2 hd c1 c2
    unfold gX10_divide_L18
    simp only [J_0, J_1, J_2, J_3, J_4, J_5, J_6, J_7, J_8, J_9, J_10, J_11, J_12, J_14, J_15, J_16, J_19, J_20, J_21, J_22, J_23, J_24, J_25, J_28, J_30, J_31, J_32, J_40, J_44, J_47, J_48, J_49, J_50, J_53, J_54, J_57, J_59, J_74, J_75, J_78, J_84, J_97, J_99, J_100, J_120, J_122, J_126, J_132, J_138, J_144, J_150, J_156, J_162, J_198, J_200, J_202, J_206, J_210, J_214, J_218, J_222, J_226, J_230, J_234, J_238, J_239, J_240, J_241, J_242, J_243, J_255, J_263, J_283, J_303, J_399, J_400, J_401, J_463, J_700, J_701, J_999, J_1000, J_2048, J_4095, J_4096, J_6000, J_9999, J_10000, J_65536, J_65537, J_2147483647, J_neg]
    rw [iLT (by omega) (by omega) (by decide) (by decide)]
    match i, g1, g2 with
    | 0, _, _ =>
      rw [if_pos (by decide)]
      refine ⟨S, c, rfl, fr_r, hd, fun j hj => rfl, ⟨c1, c2⟩, ?_⟩
      rw [lbL_0, Int.pow_zero]
      omega
    | i + 1, g1, g2 =>
      have hdi := hd i (by omega)
      unfold kW at hdi
      rw [show ((i + 1 : Nat) : Int) - 1 = i by omega, if_neg (by omega)]
      have x1 : ixb (J (i : Int)) 15 = true := ixb_J (by omega) (by omega) (by decide)
      have y1 : ix (J (i : Int)) = i := by rw [ix_J (by omega) (by omega)]; omega
      generalize hdd : iL S q i = d at hdi
      have hX : 0 ≤ c * 1099511627776 + d ∧ c * 1099511627776 + d < v * 1099511627776 := by omega
      simp only [JL_0, JL_1, JL_9, JL_10, JL_32, JL_40, JL_48, JL_64, JL_97, JL_100, JL_4095, JL_4096, JL_16384, JL_65537, JL_524287, JL_524288, JL_268435455, JL_1099511627775, JL_neg, x1, y1, ckt, b1s, b2s, lts, un2s, un3s, un4s, un5s, lmr, lml, lgr, lgl, dn, gL_J S q i, hdd, JL_shl40, JL_add]
      rw [JL_div hX.1 (by omega) (by omega) (by omega), JL_mul, JL_sub, J_add, show (i : Int) + -1 = (i : Int) - 1 by omega]
      obtain ⟨k, hk⟩ : ∃ k, k = (c * 1099511627776 + d) / v := ⟨_, rfl⟩
      rw [← hk]
      have hk2 : k * v ≤ c * 1099511627776 + d ∧ c * 1099511627776 + d < k * v + v := by
        have h1 := Int.mul_ediv_add_emod (c * 1099511627776 + d) v
        have h2 := Int.emod_nonneg (c * 1099511627776 + d) (b := v) (by omega)
        have h3 := Int.emod_lt_of_pos (c * 1099511627776 + d) (b := v) (by omega)
        rw [← hk, Int.mul_comm] at h1
        omega
      have k0 : 0 ≤ k := by rw [hk]; exact Int.ediv_nonneg hX.1 (by omega)
      have k1 : k < 1099511627776 := by
        rw [hk]
        exact Int.ediv_lt_of_lt_mul (by omega) (by omega)
      have f1 : fr (fun a _ => a = q) S (pL S q i (JL k)) := fr_pL rfl
      have dig : ∀ j, iL (pL S q i (JL k)) q j = if j = i then k else iL S q j := fun j => iL_w ⟨k0, by omega⟩
      obtain ⟨S', c', r1, r2, r3, r4, r5, r6⟩ := ih i (pL S q i (JL k)) (c * 1099511627776 + d - k * v) (by omega) (by omega) (fun j hj => by
        rw [dig]
        by_cases z : j = i
        · rw [if_pos z]; exact ⟨k0, k1⟩
        · rw [if_neg z]; exact hd j hj) (by omega) (by omega)
      refine ⟨S', c', r1, fr_t f1 r2, r3, fun j hj => ?_, r5, ?_⟩
      · rw [r4 j (by omega), dig, if_neg (by omega)]
      · have e1 : iL S' q i = k := by rw [r4 i (by omega), dig, if_pos rfl]
        have e2 : lbL kW (iL (pL S q i (JL k)) q) i = lbL kW (iL S q) i := lbL_c (fun j hj => by rw [dig, if_neg (by omega)])
        rw [lbL_s, lbL_s, e1, hdd, Int.pow_succ]
        rw [e2] at r6
        generalize kW ^ i = P at r6 ⊢
        generalize lbL kW (iL S' q) i = A at r6 ⊢
        generalize lbL kW (iL S q) i = B at r6 ⊢
        have e3 : (c * 1099511627776 + d - k * v) * P = c * (P * kW) + d * P - k * P * v := by
          unfold kW
          rw [Int.sub_mul, Int.add_mul, Int.mul_right_comm k v P, Int.mul_assoc c, Int.mul_comm 1099511627776 P]
        rw [e3] at r6
        rw [Int.add_mul]
        omega
theorem c_divide {v K : Int} (hv : 1 ≤ v ∧ v ≤ 400000) (hm : 1 ≤ m ∧ m ≤ 15) (hf : gI S 233 3 = J m) (hd : okL S q m) (hK : cV S q m = K * v) : ∃ S', gX10_divide S q (JL v) = some S' ∧ fr (fun a _ => a = q) S S' ∧ okL S' q m ∧ cV S' q m = K := by
  obtain ⟨S', c', r1, r2, r3, -, r5, r6⟩ := c_div_L (q := q) hv hm.2 FU m S 0 (Nat.le_refl m) (by have := FUs (n := 20) (by omega); omega) hd (by omega) (by omega)
  have e : cV S' q m * v + c' = K * v := by
    rw [← hK]
    unfold cV
    omega
  refine ⟨S', ?_, r2, r3, ?_⟩
  · unfold gX10_divide
    simp only [J_0, J_1, J_2, J_3, J_4, J_5, J_6, J_7, J_8, J_9, J_10, J_11, J_12, J_14, J_15, J_16, J_19, J_20, J_21, J_22, J_23, J_24, J_25, J_28, J_30, J_31, J_32, J_40, J_44, J_47, J_48, J_49, J_50, J_53, J_54, J_57, J_59, J_74, J_75, J_78, J_84, J_97, J_99, J_100, J_120, J_122, J_126, J_132, J_138, J_144, J_150, J_156, J_162, J_198, J_200, J_202, J_206, J_210, J_214, J_218, J_222, J_226, J_230, J_234, J_238, J_239, J_240, J_241, J_242, J_243, J_255, J_263, J_283, J_303, J_399, J_400, J_401, J_463, J_700, J_701, J_999, J_1000, J_2048, J_4095, J_4096, J_6000, J_9999, J_10000, J_65536, J_65537, J_2147483647, J_neg, JL_0, JL_1, JL_9, JL_10, JL_32, JL_40, JL_48, JL_64, JL_97, JL_100, JL_4095, JL_4096, JL_16384, JL_65537, JL_524287, JL_524288, JL_268435455, JL_1099511627775, JL_neg]
    rw [iLEl (by decide) (by decide) (by omega) (by omega), if_pos hv.1, hf, J_sub]
    exact r1
  · generalize cV S' q m = A at e ⊢
    have e2 : (K - A) * v = c' := by rw [Int.sub_mul]; omega
    by_cases z : K - A = 0
    · omega
    · exfalso
      by_cases y : 0 < K - A
      · have : 1 * v ≤ (K - A) * v := Int.mul_le_mul_of_nonneg_right (by omega) (by omega)
        omega
      · have : (K - A) * v ≤ (-1) * v := Int.mul_le_mul_of_nonneg_right (by omega) (by omega)
        omega
theorem c_set_L {v : Int} (hv : 0 ≤ v ∧ v < 1099511627776) (hm : 1 ≤ m ∧ m ≤ 15) (hq : ¬ q = 233) : ∀ (n i : Nat) (S T : zM), 1 ≤ i → i ≤ m → m < n + i → gI S 233 3 = J m → fr (fun a _ => a = q) T S → (∀ j, 1 ≤ j → j < i → iL S q j = 0) → ∃ S', gX10_setTo_L3 q (JL v) n S (J i) = some S' ∧ fr (fun a _ => a = q) T S' ∧ ∀ j, j < m → iL S' q j = if j = 0 then v else 0 := by
  intro n
  induction n with
  | zero => intro i S T g1 g2; omega
  | succ n ih =>
    intro i S T g1 g2 g3 hf fT hj
    unfold gX10_setTo_L3
    simp only [J_0, J_1, J_2, J_3, J_4, J_5, J_6, J_7, J_8, J_9, J_10, J_11, J_12, J_14, J_15, J_16, J_19, J_20, J_21, J_22, J_23, J_24, J_25, J_28, J_30, J_31, J_32, J_40, J_44, J_47, J_48, J_49, J_50, J_53, J_54, J_57, J_59, J_74, J_75, J_78, J_84, J_97, J_99, J_100, J_120, J_122, J_126, J_132, J_138, J_144, J_150, J_156, J_162, J_198, J_200, J_202, J_206, J_210, J_214, J_218, J_222, J_226, J_230, J_234, J_238, J_239, J_240, J_241, J_242, J_243, J_255, J_263, J_283, J_303, J_399, J_400, J_401, J_463, J_700, J_701, J_999, J_1000, J_2048, J_4095, J_4096, J_6000, J_9999, J_10000, J_65536, J_65537, J_2147483647, J_neg, JL_0, JL_1, JL_9, JL_10, JL_32, JL_40, JL_48, JL_64, JL_97, JL_100, JL_4095, JL_4096, JL_16384, JL_65537, JL_524287, JL_524288, JL_268435455, JL_1099511627775, JL_neg]
    rw [hf, iLE (by omega) (by omega) (by omega) (by omega)]
    by_cases e : i = m
    · subst e
      have x0 : ixb (J 0) 15 = true := by decide
      have y0 : ix (J 0) = 0 := by decide
      rw [if_pos (Int.le_refl _), x0, ckt, y0]
      refine ⟨_, rfl, fr_t fT (fr_pL rfl), fun j hj' => ?_⟩
      rw [iL_w ⟨hv.1, by omega⟩]
      by_cases z : j = 0
      · rw [if_pos z, if_pos z]
      · rw [if_neg z, if_neg z, hj j (by omega) hj']
    · rw [if_neg (by omega), ixb_J (by omega) (by omega) (by decide), ckt, ix_J (by omega) (by omega), Int.toNat_natCast, J_add, show (i : Int) + 1 = ((i + 1 : Nat) : Int) by omega]
      have f1 : fr (fun a _ => a = q) S (pL S q i (JL 0)) := fr_pL rfl
      refine ih (i + 1) _ T (by omega) (by omega) (by omega) ((f1.1 233 3 (by omega)).trans hf) (fr_t fT f1) (fun j j1 j2 => ?_)
      rw [iL_w (by decide)]
      by_cases z : j = i
      · rw [if_pos z]
      · rw [if_neg z, hj j j1 (by omega)]
theorem c_setTo {v : Int} (hv : 0 ≤ v ∧ v < 1099511627776) (hm : 1 ≤ m ∧ m ≤ 15) (hq : ¬ q = 233) (hf : gI S 233 3 = J m) : ∃ S', gX10_setTo S q (JL v) = some S' ∧ fr (fun a _ => a = q) S S' ∧ okL S' q m ∧ cV S' q m = v := by
  obtain ⟨S', r1, r2, r3⟩ := c_set_L (q := q) hv hm hq FU 1 S S (Nat.le_refl 1) hm.1 (by have := FUs (n := 20) (by omega); omega) hf fr_r (fun j j1 j2 => by omega)
  refine ⟨S', ?_, r2, fun j hj => ?_, ?_⟩
  · unfold gX10_setTo
    simp only [J_0, J_1, J_2, J_3, J_4, J_5, J_6, J_7, J_8, J_9, J_10, J_11, J_12, J_14, J_15, J_16, J_19, J_20, J_21, J_22, J_23, J_24, J_25, J_28, J_30, J_31, J_32, J_40, J_44, J_47, J_48, J_49, J_50, J_53, J_54, J_57, J_59, J_74, J_75, J_78, J_84, J_97, J_99, J_100, J_120, J_122, J_126, J_132, J_138, J_144, J_150, J_156, J_162, J_198, J_200, J_202, J_206, J_210, J_214, J_218, J_222, J_226, J_230, J_234, J_238, J_239, J_240, J_241, J_242, J_243, J_255, J_263, J_283, J_303, J_399, J_400, J_401, J_463, J_700, J_701, J_999, J_1000, J_2048, J_4095, J_4096, J_6000, J_9999, J_10000, J_65536, J_65537, J_2147483647, J_neg]
    exact r1
  · rw [r3 j hj]
    unfold kW
    split <;> omega
  · unfold cV
    rw [lbL_c r3]
    have : lbL kW (fun j => if j = 0 then v else 0) m = sm m (fun j => if j = 0 then v else 0) := sm_c (fun j hj => by
      show (if j = 0 then v else 0) * kW ^ j = _
      by_cases z : j = 0
      · rw [if_pos z, z, Int.pow_zero, Int.mul_one]
      · rw [if_neg z, Int.zero_mul])
    rw [this]
    exact sm_one (by omega)
end
