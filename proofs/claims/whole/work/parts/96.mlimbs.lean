/-! The model's limbs. -/
def gW : Int := 268435456
def okM (S : zM) (q : Nat) : Prop := dg gW (iI S q) 24
def mV (S : zM) (q : Nat) : Int := lbL gW (iI S q) 24
theorem gW1 : (1 : Int) ≤ gW := by decide
theorem no_carry2 {w : Int} (hw : 1 ≤ w) {m : Nat} {A B c : Int} (hA : 0 ≤ A) (hA2 : A < w ^ m) (h : A + c * w ^ m = B) (h0 : 0 ≤ B) (hB : B < w ^ m) : A = B := by
  have hp := wp_pos hw m
  by_cases e : 0 ≤ c
  · exact no_carry hw hA e h hB
  · exfalso
    have : c * w ^ m ≤ (-1) * w ^ m := Int.mul_le_mul_of_nonneg_right (by omega) (by omega)
    omega
theorem iI_o {S S' : zM} {q : Nat} (f : fr (fun a _ => a = q) S S') {r : Nat} (h : ¬ r = q) (k : Nat) : iI S' r k = iI S r k := congrArg Int32.toInt (f.1 r k h)
theorem iI_w {S : zM} {q k j : Nat} {v : Int} (hv : 0 ≤ v ∧ v ≤ 2147483647) : iI (pI S q k (J v)) q j = if j = k then v else iI S q j := by
  by_cases e : j = k
  · rw [if_pos e]
    exact iI_of (by rw [rII, if_pos ⟨rfl, e⟩]) (by omega) hv.2
  · rw [if_neg e]
    exact congrArg Int32.toInt (by rw [rII, if_neg (fun w => e w.2)])
theorem okM_o {S S' : zM} {q : Nat} (f : fr (fun a _ => a = q) S S') {r : Nat} (h : ¬ r = q) : (okM S r → okM S' r) ∧ mV S' r = mV S r := by
  refine ⟨fun hd j hj => ?_, lbL_c (fun j hj => iI_o f h j)⟩
  rw [iI_o f h j]
  exact hd j hj
section
variable {q r : Nat} {S : zM}
theorem m_times_L {v : Int} (hv : 0 ≤ v ∧ v ≤ 1000000) : ∀ (n i : Nat) (S : zM) (c : Int), i ≤ 24 → 24 < n + i → okM S q → 0 ≤ c → c ≤ v → ∃ S' c', gX12_times_L5 q (JL v) n S (JL c) (J i) = some S' ∧ fr (fun a _ => a = q) S S' ∧ okM S' q ∧ (∀ j, j < i → iI S' q j = iI S q j) ∧ 0 ≤ c' ∧ lbU gW (iI S' q) 24 i + c' * gW ^ 24 = lbU gW (iI S q) 24 i * v + c * gW ^ i := by
  intro n
  induction n with
  | zero => intro i S c g1 g2; omega
  | succ n ih =>
    intro i S c g1 g2 hd c1 c2
    unfold gX12_times_L5
    simp only [J_0, J_1, J_2, J_3, J_4, J_5, J_6, J_7, J_8, J_9, J_10, J_11, J_12, J_14, J_15, J_16, J_19, J_20, J_21, J_22, J_23, J_24, J_25, J_28, J_30, J_31, J_32, J_40, J_44, J_47, J_48, J_49, J_50, J_53, J_54, J_57, J_59, J_74, J_75, J_78, J_84, J_97, J_99, J_100, J_120, J_122, J_126, J_132, J_138, J_144, J_150, J_156, J_162, J_198, J_200, J_202, J_206, J_210, J_214, J_218, J_222, J_226, J_230, J_234, J_238, J_239, J_240, J_241, J_242, J_243, J_255, J_263, J_283, J_303, J_399, J_400, J_401, J_463, J_700, J_701, J_999, J_1000, J_2048, J_4095, J_4096, J_6000, J_9999, J_10000, J_65536, J_65537, J_2147483647, J_neg]
    rw [iLE (by decide) (by decide) (by omega) (by omega)]
    by_cases e : i = 24
    · subst e
      rw [if_pos (by decide)]
      refine ⟨S, c, rfl, fr_r, hd, fun j hj => rfl, c1, ?_⟩
      rw [lbU_end]
      omega
    · have hdi := hd i (by omega)
      unfold gW at hdi
      have x1 : ixb (J (i : Int)) 24 = true := ixb_J (by omega) (by omega) (by decide)
      have y1 : ix (J (i : Int)) = i := by rw [ix_J (by omega) (by omega)]; omega
      generalize hdd : iI S q i = d at hdi
      have hdv : 0 ≤ d * v ∧ d * v ≤ 268435455 * v := ⟨Int.mul_nonneg hdi.1 (by omega), Int.mul_le_mul_of_nonneg_right (by omega) (by omega)⟩
      rw [if_neg (by omega), x1, ckt, lts, ckt, y1, gI_J, hdd, J_toL (by omega) (by omega), JL_mul, JL_add, JL_shr28 (by omega) (by omega), lts]
      simp only [JL_0, JL_1, JL_9, JL_10, JL_32, JL_40, JL_48, JL_64, JL_97, JL_100, JL_4095, JL_4096, JL_16384, JL_65537, JL_524287, JL_524288, JL_268435455, JL_1099511627775, JL_neg, JL_and28, JL_toI, J_neg, J_add, J_sub, J_mul]
      rw [show (i : Int) + 1 = ((i + 1 : Nat) : Int) by omega]
      obtain ⟨a, ha⟩ : ∃ a, a = (c + d * v) % 268435456 := ⟨_, rfl⟩
      obtain ⟨k, hk⟩ : ∃ k, k = (c + d * v) / 268435456 := ⟨_, rfl⟩
      rw [← ha, ← hk]
      have ed : c + d * v = gW * k + a := by unfold gW; omega
      have ab : 0 ≤ a ∧ a < 268435456 := by omega
      have kb : 0 ≤ k ∧ k ≤ v := by omega
      have f1 : fr (fun a _ => a = q) S (pI S q i (J a)) := fr_pI rfl
      have dig : ∀ j, iI (pI S q i (J a)) q j = if j = i then a else iI S q j := fun j => iI_w ⟨ab.1, by omega⟩
      obtain ⟨S', c', r1, r2, r3, r4, r5, r6⟩ := ih (i + 1) _ k (by omega) (by omega) (fun j hj => by
        rw [dig]
        by_cases z : j = i
        · rw [if_pos z]; exact ab
        · rw [if_neg z]; exact hd j hj) kb.1 kb.2
      refine ⟨S', c', r1, fr_t f1 r2, r3, fun j hj => ?_, r5, ?_⟩
      · rw [r4 j (by omega), dig, if_neg (by omega)]
      · have e1 : iI S' q i = a := by rw [r4 i (by omega), dig, if_pos rfl]
        have e2 : lbU gW (iI (pI S q i (J a)) q) 24 (i + 1) = lbU gW (iI S q) 24 (i + 1) := lbU_c (fun j j1 j2 => by rw [dig, if_neg (by omega)])
        rw [lbU_step (f := iI S' q) (by omega), lbU_step (f := iI S q) (i := i) (by omega), e1, hdd, Int.add_assoc, r6, e2, Int.pow_succ]
        exact st_mul ed
theorem m_times {v : Int} (hv : 0 ≤ v ∧ v ≤ 1000000) (hd : okM S q) (hb : mV S q * v < gW ^ 24) : ∃ S', gX12_times S q (JL v) = some S' ∧ fr (fun a _ => a = q) S S' ∧ okM S' q ∧ mV S' q = mV S q * v := by
  obtain ⟨S', c', r1, r2, r3, -, r5, r6⟩ := m_times_L (q := q) hv FU 0 S 0 (by omega) (by have := FUs (n := 30) (by omega); omega) hd (by omega) (by omega)
  rw [lbU_0, lbU_0, Int.zero_mul, Int.add_zero] at r6
  refine ⟨S', ?_, r2, r3, no_carry gW1 (lbL_nn gW1 r3) r5 r6 hb⟩
  unfold gX12_times
  simp only [J_0, J_1, J_2, J_3, J_4, J_5, J_6, J_7, J_8, J_9, J_10, J_11, J_12, J_14, J_15, J_16, J_19, J_20, J_21, J_22, J_23, J_24, J_25, J_28, J_30, J_31, J_32, J_40, J_44, J_47, J_48, J_49, J_50, J_53, J_54, J_57, J_59, J_74, J_75, J_78, J_84, J_97, J_99, J_100, J_120, J_122, J_126, J_132, J_138, J_144, J_150, J_156, J_162, J_198, J_200, J_202, J_206, J_210, J_214, J_218, J_222, J_226, J_230, J_234, J_238, J_239, J_240, J_241, J_242, J_243, J_255, J_263, J_283, J_303, J_399, J_400, J_401, J_463, J_700, J_701, J_999, J_1000, J_2048, J_4095, J_4096, J_6000, J_9999, J_10000, J_65536, J_65537, J_2147483647, J_neg, JL_0, JL_1, JL_9, JL_10, JL_32, JL_40, JL_48, JL_64, JL_97, JL_100, JL_4095, JL_4096, JL_16384, JL_65537, JL_524287, JL_524288, JL_268435455, JL_1099511627775, JL_neg]
  exact r1
theorem m_add_L {v : Int} (hv : -1 ≤ v ∧ v ≤ 4000000) (hr : ¬ r = q) : ∀ (n i : Nat) (S : zM) (c : Int), i ≤ 24 → 24 < n + i → okM S q → okM S r → -2 ≤ c → c ≤ 4000002 → ∃ S' c', gX12_add_L6 q r (JL v) n S (JL c) (J i) = some S' ∧ fr (fun a _ => a = q) S S' ∧ okM S' q ∧ (∀ j, j < i → iI S' q j = iI S q j) ∧ lbU gW (iI S' q) 24 i + c' * gW ^ 24 = lbU gW (iI S q) 24 i + lbU gW (iI S r) 24 i * v + c * gW ^ i := by
  intro n
  induction n with
  | zero => intro i S c g1 g2; omega
  | succ n ih =>
    intro i S c g1 g2 hd hd' c1 c2
    unfold gX12_add_L6
    simp only [J_0, J_1, J_2, J_3, J_4, J_5, J_6, J_7, J_8, J_9, J_10, J_11, J_12, J_14, J_15, J_16, J_19, J_20, J_21, J_22, J_23, J_24, J_25, J_28, J_30, J_31, J_32, J_40, J_44, J_47, J_48, J_49, J_50, J_53, J_54, J_57, J_59, J_74, J_75, J_78, J_84, J_97, J_99, J_100, J_120, J_122, J_126, J_132, J_138, J_144, J_150, J_156, J_162, J_198, J_200, J_202, J_206, J_210, J_214, J_218, J_222, J_226, J_230, J_234, J_238, J_239, J_240, J_241, J_242, J_243, J_255, J_263, J_283, J_303, J_399, J_400, J_401, J_463, J_700, J_701, J_999, J_1000, J_2048, J_4095, J_4096, J_6000, J_9999, J_10000, J_65536, J_65537, J_2147483647, J_neg]
    rw [iLE (by decide) (by decide) (by omega) (by omega)]
    by_cases e : i = 24
    · subst e
      rw [if_pos (by decide)]
      refine ⟨S, c, rfl, fr_r, hd, fun j hj => rfl, ?_⟩
      rw [lbU_end, lbU_end]
      omega
    · have hdi := hd i (by omega)
      have hdi' := hd' i (by omega)
      unfold gW at hdi hdi'
      have x1 : ixb (J (i : Int)) 24 = true := ixb_J (by omega) (by omega) (by decide)
      have y1 : ix (J (i : Int)) = i := by rw [ix_J (by omega) (by omega)]; omega
      generalize hdd : iI S q i = d at hdi
      generalize hdd' : iI S r i = d' at hdi'
      have hdv : -268435455 ≤ d' * v ∧ d' * v ≤ 268435455 * 4000000 := by
        constructor
        · have : d' * (-1) ≤ d' * v := Int.mul_le_mul_of_nonneg_left hv.1 hdi'.1
          omega
        · have : d' * v ≤ d' * 4000000 := Int.mul_le_mul_of_nonneg_left hv.2 hdi'.1
          omega
      rw [if_neg (by omega), x1, ckt, ckt, lts, ckt, y1, gI_J, gI_J, hdd, hdd', J_toL (by omega) (by omega), J_toL (by omega) (by omega), JL_mul, JL_add, JL_add, JL_shr28 (by omega) (by omega), lts]
      simp only [JL_0, JL_1, JL_9, JL_10, JL_32, JL_40, JL_48, JL_64, JL_97, JL_100, JL_4095, JL_4096, JL_16384, JL_65537, JL_524287, JL_524288, JL_268435455, JL_1099511627775, JL_neg, JL_and28, JL_toI, J_neg, J_add, J_sub, J_mul]
      rw [show (i : Int) + 1 = ((i + 1 : Nat) : Int) by omega]
      obtain ⟨a, ha⟩ : ∃ a, a = (c + (d + d' * v)) % 268435456 := ⟨_, rfl⟩
      obtain ⟨k, hk⟩ : ∃ k, k = (c + (d + d' * v)) / 268435456 := ⟨_, rfl⟩
      rw [← ha, ← hk]
      have ed : c + (d + d' * v) = gW * k + a := by unfold gW; omega
      have ab : 0 ≤ a ∧ a < 268435456 := by omega
      have kb : -2 ≤ k ∧ k ≤ 4000002 := by omega
      have f1 : fr (fun a _ => a = q) S (pI S q i (J a)) := fr_pI rfl
      have dig : ∀ j, iI (pI S q i (J a)) q j = if j = i then a else iI S q j := fun j => iI_w ⟨ab.1, by omega⟩
      have dig' : ∀ j, iI (pI S q i (J a)) r j = iI S r j := fun j => iI_o f1 hr j
      obtain ⟨S', c', r1, r2, r3, r4, r6⟩ := ih (i + 1) _ k (by omega) (by omega) (fun j hj => by
        rw [dig]
        by_cases z : j = i
        · rw [if_pos z]; exact ab
        · rw [if_neg z]; exact hd j hj) (fun j hj => by rw [dig']; exact hd' j hj) kb.1 kb.2
      refine ⟨S', c', r1, fr_t f1 r2, r3, fun j hj => ?_, ?_⟩
      · rw [r4 j (by omega), dig, if_neg (by omega)]
      · have e1 : iI S' q i = a := by rw [r4 i (by omega), dig, if_pos rfl]
        have e2 : lbU gW (iI (pI S q i (J a)) q) 24 (i + 1) = lbU gW (iI S q) 24 (i + 1) := lbU_c (fun j j1 j2 => by rw [dig, if_neg (by omega)])
        have e3 : lbU gW (iI (pI S q i (J a)) r) 24 (i + 1) = lbU gW (iI S r) 24 (i + 1) := lbU_c (fun j j1 j2 => dig' j)
        rw [lbU_step (f := iI S' q) (by omega), lbU_step (f := iI S q) (i := i) (by omega), lbU_step (f := iI S r) (i := i) (by omega), e1, hdd, hdd', Int.add_assoc, r6, e2, e3, Int.pow_succ]
        have := st_add (P := gW ^ i) (R := lbU gW (iI S q) 24 (i + 1)) (R' := lbU gW (iI S r) 24 (i + 1) * v) ed
        rw [this, Int.add_mul, Int.add_mul, Int.mul_right_comm d' v]
        omega
theorem m_add {v : Int} (hv : -1 ≤ v ∧ v ≤ 4000000) (hr : ¬ r = q) (hd : okM S q) (hd' : okM S r) (h0 : 0 ≤ mV S q + mV S r * v) (hb : mV S q + mV S r * v < gW ^ 24) : ∃ S', gX12_add S q r (JL v) = some S' ∧ fr (fun a _ => a = q) S S' ∧ okM S' q ∧ mV S' q = mV S q + mV S r * v := by
  obtain ⟨S', c', r1, r2, r3, -, r6⟩ := m_add_L (q := q) (r := r) hv hr FU 0 S 0 (by omega) (by have := FUs (n := 30) (by omega); omega) hd hd' (by omega) (by omega)
  rw [lbU_0, lbU_0, lbU_0, Int.zero_mul, Int.add_zero] at r6
  refine ⟨S', ?_, r2, r3, no_carry2 gW1 (lbL_nn gW1 r3) (lbL_lt gW1 24 r3) r6 h0 hb⟩
  unfold gX12_add
  simp only [J_0, J_1, J_2, J_3, J_4, J_5, J_6, J_7, J_8, J_9, J_10, J_11, J_12, J_14, J_15, J_16, J_19, J_20, J_21, J_22, J_23, J_24, J_25, J_28, J_30, J_31, J_32, J_40, J_44, J_47, J_48, J_49, J_50, J_53, J_54, J_57, J_59, J_74, J_75, J_78, J_84, J_97, J_99, J_100, J_120, J_122, J_126, J_132, J_138, J_144, J_150, J_156, J_162, J_198, J_200, J_202, J_206, J_210, J_214, J_218, J_222, J_226, J_230, J_234, J_238, J_239, J_240, J_241, J_242, J_243, J_255, J_263, J_283, J_303, J_399, J_400, J_401, J_463, J_700, J_701, J_999, J_1000, J_2048, J_4095, J_4096, J_6000, J_9999, J_10000, J_65536, J_65537, J_2147483647, J_neg, JL_0, JL_1, JL_9, JL_10, JL_32, JL_40, JL_48, JL_64, JL_97, JL_100, JL_4095, JL_4096, JL_16384, JL_65537, JL_524287, JL_524288, JL_268435455, JL_1099511627775, JL_neg]
  exact r1
theorem m_over_L {v : Int} (hv : 1 ≤ v ∧ v ≤ 10000) : ∀ (n i : Nat) (S : zM) (c : Int), i ≤ 24 → i < n → okM S q → 0 ≤ c → c < v → ∃ S' c', gX12_over_L6 q (J v) n S (JL c) (J ((i : Int) - 1)) = some S' ∧ fr (fun a _ => a = q) S S' ∧ okM S' q ∧ (∀ j, i ≤ j → iI S' q j = iI S q j) ∧ (0 ≤ c' ∧ c' < v) ∧ lbL gW (iI S' q) i * v + c' = c * gW ^ i + lbL gW (iI S q) i := by
  have dn : decide (¬ JL v = JL 0) = true := by
    rw [decide_eq_true_eq, JL_inj (by omega) (by omega) (by decide) (by decide)]
    omega
  have ev : (J v).toInt64 = JL v := J_toL (by omega) (by omega)
  intro n
  induction n with
  | zero => intro i S c g1 g2; omega
  | succ n ih =>
    intro i S c g1 g2 hd c1 c2
    unfold gX12_over_L6
    simp only [J_0, J_1, J_2, J_3, J_4, J_5, J_6, J_7, J_8, J_9, J_10, J_11, J_12, J_14, J_15, J_16, J_19, J_20, J_21, J_22, J_23, J_24, J_25, J_28, J_30, J_31, J_32, J_40, J_44, J_47, J_48, J_49, J_50, J_53, J_54, J_57, J_59, J_74, J_75, J_78, J_84, J_97, J_99, J_100, J_120, J_122, J_126, J_132, J_138, J_144, J_150, J_156, J_162, J_198, J_200, J_202, J_206, J_210, J_214, J_218, J_222, J_226, J_230, J_234, J_238, J_239, J_240, J_241, J_242, J_243, J_255, J_263, J_283, J_303, J_399, J_400, J_401, J_463, J_700, J_701, J_999, J_1000, J_2048, J_4095, J_4096, J_6000, J_9999, J_10000, J_65536, J_65537, J_2147483647, J_neg]
    rw [iLT (by omega) (by omega) (by decide) (by decide)]
    match i, g1, g2 with
    | 0, _, _ =>
      rw [if_pos (by decide)]
      refine ⟨S, c, rfl, fr_r, hd, fun j hj => rfl, ⟨c1, c2⟩, ?_⟩
      rw [lbL_0, Int.pow_zero]
      omega
    | i + 1, g1, g2 =>
      have hdi := hd i (by omega)
      unfold gW at hdi
      rw [show ((i + 1 : Nat) : Int) - 1 = i by omega, if_neg (by omega)]
      have x1 : ixb (J (i : Int)) 24 = true := ixb_J (by omega) (by omega) (by decide)
      have y1 : ix (J (i : Int)) = i := by rw [ix_J (by omega) (by omega)]; omega
      generalize hdd : iI S q i = d at hdi
      have hX : 0 ≤ c * 268435456 + d ∧ c * 268435456 + d < v * 268435456 := by omega
      have ed : (J d).toInt64 = JL d := J_toL (by omega) (by omega)
      simp only [JL_0, JL_1, JL_9, JL_10, JL_32, JL_40, JL_48, JL_64, JL_97, JL_100, JL_4095, JL_4096, JL_16384, JL_65537, JL_524287, JL_524288, JL_268435455, JL_1099511627775, JL_neg, x1, y1, ckt, b1s, b2s, lts, un2s, un3s, un4s, un5s, lmr, lml, lgr, lgl, ev, dn, gI_J S q i, hdd, ed, JL_shl28, JL_add]
      rw [JL_div hX.1 (by omega) (by omega) (by omega), JL_mul, JL_sub, JL_toI, J_add, show (i : Int) + -1 = (i : Int) - 1 by omega]
      obtain ⟨k, hk⟩ : ∃ k, k = (c * 268435456 + d) / v := ⟨_, rfl⟩
      rw [← hk]
      have hk2 : k * v ≤ c * 268435456 + d ∧ c * 268435456 + d < k * v + v := by
        have h1 := Int.mul_ediv_add_emod (c * 268435456 + d) v
        have h2 := Int.emod_nonneg (c * 268435456 + d) (b := v) (by omega)
        have h3 := Int.emod_lt_of_pos (c * 268435456 + d) (b := v) (by omega)
        rw [← hk, Int.mul_comm] at h1
        omega
      have k0 : 0 ≤ k := by rw [hk]; exact Int.ediv_nonneg hX.1 (by omega)
      have k1 : k < 268435456 := by
        rw [hk]
        exact Int.ediv_lt_of_lt_mul (by omega) (by omega)
      have f1 : fr (fun a _ => a = q) S (pI S q i (J k)) := fr_pI rfl
      have dig : ∀ j, iI (pI S q i (J k)) q j = if j = i then k else iI S q j := fun j => iI_w ⟨k0, by omega⟩
      obtain ⟨S', c', r1, r2, r3, r4, r5, r6⟩ := ih i (pI S q i (J k)) (c * 268435456 + d - k * v) (by omega) (by omega) (fun j hj => by
        rw [dig]
        by_cases z : j = i
        · rw [if_pos z]; exact ⟨k0, k1⟩
        · rw [if_neg z]; exact hd j hj) (by omega) (by omega)
      refine ⟨S', c', r1, fr_t f1 r2, r3, fun j hj => ?_, r5, ?_⟩
      · rw [r4 j (by omega), dig, if_neg (by omega)]
      · have e1 : iI S' q i = k := by rw [r4 i (by omega), dig, if_pos rfl]
        have e2 : lbL gW (iI (pI S q i (J k)) q) i = lbL gW (iI S q) i := lbL_c (fun j hj => by rw [dig, if_neg (by omega)])
        rw [lbL_s, lbL_s, e1, hdd, Int.pow_succ]
        rw [e2] at r6
        generalize gW ^ i = P at r6 ⊢
        generalize lbL gW (iI S' q) i = A at r6 ⊢
        generalize lbL gW (iI S q) i = B at r6 ⊢
        have e3 : (c * 268435456 + d - k * v) * P = c * (P * gW) + d * P - k * P * v := by
          unfold gW
          rw [Int.sub_mul, Int.add_mul, Int.mul_right_comm k v P, Int.mul_assoc c, Int.mul_comm 268435456 P]
        rw [e3] at r6
        rw [Int.add_mul]
        omega
theorem m_over {v K : Int} (hv : 1 ≤ v ∧ v ≤ 10000) (hd : okM S q) (hK : mV S q = K * v) : ∃ S', gX12_over S q (J v) = some S' ∧ fr (fun a _ => a = q) S S' ∧ okM S' q ∧ mV S' q = K := by
  obtain ⟨S', c', r1, r2, r3, -, r5, r6⟩ := m_over_L (q := q) hv FU 24 S 0 (by omega) (by have := FUs (n := 30) (by omega); omega) hd (by omega) (by omega)
  have e : mV S' q * v + c' = K * v := by
    rw [← hK]
    unfold mV
    omega
  refine ⟨S', ?_, r2, r3, ?_⟩
  · unfold gX12_over
    simp only [J_0, J_1, J_2, J_3, J_4, J_5, J_6, J_7, J_8, J_9, J_10, J_11, J_12, J_14, J_15, J_16, J_19, J_20, J_21, J_22, J_23, J_24, J_25, J_28, J_30, J_31, J_32, J_40, J_44, J_47, J_48, J_49, J_50, J_53, J_54, J_57, J_59, J_74, J_75, J_78, J_84, J_97, J_99, J_100, J_120, J_122, J_126, J_132, J_138, J_144, J_150, J_156, J_162, J_198, J_200, J_202, J_206, J_210, J_214, J_218, J_222, J_226, J_230, J_234, J_238, J_239, J_240, J_241, J_242, J_243, J_255, J_263, J_283, J_303, J_399, J_400, J_401, J_463, J_700, J_701, J_999, J_1000, J_2048, J_4095, J_4096, J_6000, J_9999, J_10000, J_65536, J_65537, J_2147483647, J_neg, JL_0, JL_1, JL_9, JL_10, JL_32, JL_40, JL_48, JL_64, JL_97, JL_100, JL_4095, JL_4096, JL_16384, JL_65537, JL_524287, JL_524288, JL_268435455, JL_1099511627775, JL_neg]
    exact r1
  · generalize mV S' q = A at e ⊢
    have e2 : (K - A) * v = c' := by rw [Int.sub_mul]; omega
    by_cases z : K - A = 0
    · omega
    · exfalso
      by_cases y : 0 < K - A
      · have : 1 * v ≤ (K - A) * v := Int.mul_le_mul_of_nonneg_right (by omega) (by omega)
        omega
      · have : (K - A) * v ≤ (-1) * v := Int.mul_le_mul_of_nonneg_right (by omega) (by omega)
        omega
theorem m_copy_L2 (hr : ¬ q = r) : ∀ (n i : Nat) (S T : zM), i ≤ 24 → 24 < n + i → fr (fun a _ => a = r) T S → (∀ j, j < i → iI S r j = iI T q j) → ∃ S', gX12_copy_L2 q r n S (J i) = some S' ∧ fr (fun a _ => a = r) T S' ∧ ∀ j, j < 24 → iI S' r j = iI T q j := by
  intro n
  induction n with
  | zero => intro i S T g1 g2; omega
  | succ n ih =>
    intro i S T g1 g2 f hj
    unfold gX12_copy_L2
    simp only [J_0, J_1, J_2, J_3, J_4, J_5, J_6, J_7, J_8, J_9, J_10, J_11, J_12, J_14, J_15, J_16, J_19, J_20, J_21, J_22, J_23, J_24, J_25, J_28, J_30, J_31, J_32, J_40, J_44, J_47, J_48, J_49, J_50, J_53, J_54, J_57, J_59, J_74, J_75, J_78, J_84, J_97, J_99, J_100, J_120, J_122, J_126, J_132, J_138, J_144, J_150, J_156, J_162, J_198, J_200, J_202, J_206, J_210, J_214, J_218, J_222, J_226, J_230, J_234, J_238, J_239, J_240, J_241, J_242, J_243, J_255, J_263, J_283, J_303, J_399, J_400, J_401, J_463, J_700, J_701, J_999, J_1000, J_2048, J_4095, J_4096, J_6000, J_9999, J_10000, J_65536, J_65537, J_2147483647, J_neg]
    rw [iLE (by decide) (by decide) (by omega) (by omega)]
    by_cases e : i = 24
    · subst e
      rw [if_pos (by decide)]
      exact ⟨S, rfl, f, hj⟩
    · rw [if_neg (by omega), ixb_J (by omega) (by omega) (by decide), ckt, ckt, ix_J (by omega) (by omega), Int.toNat_natCast, J_add, show (i : Int) + 1 = ((i + 1 : Nat) : Int) by omega]
      refine ih (i + 1) _ T (by omega) (by omega) (fr_t f (fr_pI rfl)) (fun j hj' => ?_)
      by_cases z : j = i
      · subst z
        rw [show iI (pI S r j (gI S q j)) r j = iI S q j from iI_c (by rw [rII, if_pos ⟨rfl, rfl⟩])]
        exact iI_o f hr j
      · rw [show iI (pI S r i (gI S q i)) r j = iI S r j from iI_c (by rw [rII, if_neg (fun w => z w.2)])]
        exact hj j (by omega)
theorem m_copy (hr : ¬ q = r) (hd : okM S q) : ∃ S', gX12_copy S q r = some S' ∧ fr (fun a _ => a = r) S S' ∧ okM S' r ∧ mV S' r = mV S q := by
  obtain ⟨S', r1, r2, r3⟩ := m_copy_L2 hr FU 0 S S (by omega) (by have := FUs (n := 30) (by omega); omega) fr_r (fun j hj => by omega)
  refine ⟨S', ?_, r2, fun j hj => ?_, lbL_c r3⟩
  · unfold gX12_copy
    simp only [J_0, J_1, J_2, J_3, J_4, J_5, J_6, J_7, J_8, J_9, J_10, J_11, J_12, J_14, J_15, J_16, J_19, J_20, J_21, J_22, J_23, J_24, J_25, J_28, J_30, J_31, J_32, J_40, J_44, J_47, J_48, J_49, J_50, J_53, J_54, J_57, J_59, J_74, J_75, J_78, J_84, J_97, J_99, J_100, J_120, J_122, J_126, J_132, J_138, J_144, J_150, J_156, J_162, J_198, J_200, J_202, J_206, J_210, J_214, J_218, J_222, J_226, J_230, J_234, J_238, J_239, J_240, J_241, J_242, J_243, J_255, J_263, J_283, J_303, J_399, J_400, J_401, J_463, J_700, J_701, J_999, J_1000, J_2048, J_4095, J_4096, J_6000, J_9999, J_10000, J_65536, J_65537, J_2147483647, J_neg]
    exact r1
  · rw [r3 j hj]
    exact hd j hj
theorem m_compare_L (hd : okM S q) (hd' : okM S r) : ∀ (n i : Nat), i ≤ 24 → i < n → ∃ c : Int, gX12_compare_L3 S q r n (J ((i : Int) - 1)) = some (J c) ∧ (-1 ≤ c ∧ c ≤ 1) ∧ (c < 0 ↔ lbL gW (iI S q) i < lbL gW (iI S r) i) := by
  intro n
  induction n with
  | zero => intro i g1 g2; omega
  | succ n ih =>
    intro i g1 g2
    unfold gX12_compare_L3
    simp only [J_0, J_1, J_2, J_3, J_4, J_5, J_6, J_7, J_8, J_9, J_10, J_11, J_12, J_14, J_15, J_16, J_19, J_20, J_21, J_22, J_23, J_24, J_25, J_28, J_30, J_31, J_32, J_40, J_44, J_47, J_48, J_49, J_50, J_53, J_54, J_57, J_59, J_74, J_75, J_78, J_84, J_97, J_99, J_100, J_120, J_122, J_126, J_132, J_138, J_144, J_150, J_156, J_162, J_198, J_200, J_202, J_206, J_210, J_214, J_218, J_222, J_226, J_230, J_234, J_238, J_239, J_240, J_241, J_242, J_243, J_255, J_263, J_283, J_303, J_399, J_400, J_401, J_463, J_700, J_701, J_999, J_1000, J_2048, J_4095, J_4096, J_6000, J_9999, J_10000, J_65536, J_65537, J_2147483647, J_neg]
    rw [iLT (by omega) (by omega) (by decide) (by decide)]
    match i, g1, g2 with
    | 0, _, _ =>
      rw [if_pos (by decide), lbL_0, lbL_0]
      exact ⟨0, rfl, by decide, by decide⟩
    | i + 1, g1, g2 =>
      have hq' := hd i (by omega)
      have hr' := hd' i (by omega)
      rw [show ((i + 1 : Nat) : Int) - 1 = i by omega, if_neg (by omega)]
      have x1 : ixb (J (i : Int)) 24 = true := ixb_J (by omega) (by omega) (by decide)
      have y1 : ix (J (i : Int)) = i := by rw [ix_J (by omega) (by omega)]; omega
      have o1 : dg gW (iI S q) (i + 1) := fun j hj => hd j (by omega)
      have o2 : dg gW (iI S r) (i + 1) := fun j hj => hd' j (by omega)
      rw [x1, ckt, ckt, ckt, ckt, y1, gI_J, gI_J]
      have hq2 := hq'
      have hr2 := hr'
      unfold gW at hq2 hr2
      rw [iEQ (by omega) (by omega) (by omega) (by omega), iLE (by omega) (by omega) (by omega) (by omega), J_add, show (i : Int) + -1 = (i : Int) - 1 by omega]
      by_cases e : iI S q i = iI S r i
      · rw [if_pos e, lbL_s, lbL_s, e]
        obtain ⟨c, a1, a2, a3⟩ := ih i (by omega) (by omega)
        exact ⟨c, a1, a2, a3.trans ⟨fun w => by omega, fun w => by omega⟩⟩
      · rw [if_neg e]
        by_cases z : iI S r i ≤ iI S q i
        · have := lbL_cmp gW1 o2 o1 (by omega)
          rw [if_pos z]
          exact ⟨1, rfl, by decide, fun w => absurd w (by decide), fun w => by omega⟩
        · have := lbL_cmp gW1 o1 o2 (by omega)
          rw [if_neg z]
          exact ⟨-1, rfl, by decide, fun _ => this, fun _ => by decide⟩
theorem m_become_L {v : Int} (hv : 0 ≤ v ∧ v < 268435456) : ∀ (n i : Nat) (S T : zM), i ≤ 24 → 24 < n + i → fr (fun a _ => a = q) T S → (∀ j, j < i → iI S q j = 0) → ∃ S', gX12_become_L2 q (J v) n S (J i) = some S' ∧ fr (fun a _ => a = q) T S' ∧ ∀ j, j < 24 → iI S' q j = if j = 0 then v else 0 := by
  intro n
  induction n with
  | zero => intro i S T g1 g2; omega
  | succ n ih =>
    intro i S T g1 g2 f hj
    unfold gX12_become_L2
    simp only [J_0, J_1, J_2, J_3, J_4, J_5, J_6, J_7, J_8, J_9, J_10, J_11, J_12, J_14, J_15, J_16, J_19, J_20, J_21, J_22, J_23, J_24, J_25, J_28, J_30, J_31, J_32, J_40, J_44, J_47, J_48, J_49, J_50, J_53, J_54, J_57, J_59, J_74, J_75, J_78, J_84, J_97, J_99, J_100, J_120, J_122, J_126, J_132, J_138, J_144, J_150, J_156, J_162, J_198, J_200, J_202, J_206, J_210, J_214, J_218, J_222, J_226, J_230, J_234, J_238, J_239, J_240, J_241, J_242, J_243, J_255, J_263, J_283, J_303, J_399, J_400, J_401, J_463, J_700, J_701, J_999, J_1000, J_2048, J_4095, J_4096, J_6000, J_9999, J_10000, J_65536, J_65537, J_2147483647, J_neg]
    rw [iLE (by decide) (by decide) (by omega) (by omega)]
    by_cases e : i = 24
    · subst e
      have x0 : ixb (J 0) 24 = true := by decide
      have y0 : ix (J 0) = 0 := by decide
      rw [if_pos (by decide), x0, ckt, y0]
      refine ⟨_, rfl, fr_t f (fr_pI rfl), fun j hj' => ?_⟩
      rw [iI_w ⟨hv.1, by omega⟩]
      by_cases z : j = 0
      · rw [if_pos z, if_pos z]
      · rw [if_neg z, if_neg z, hj j hj']
    · rw [if_neg (by omega), ixb_J (by omega) (by omega) (by decide), ckt, ix_J (by omega) (by omega), Int.toNat_natCast, J_add, show (i : Int) + 1 = ((i + 1 : Nat) : Int) by omega]
      refine ih (i + 1) _ T (by omega) (by omega) (fr_t f (fr_pI rfl)) (fun j hj' => ?_)
      rw [iI_w (by decide)]
      by_cases z : j = i
      · rw [if_pos z]
      · rw [if_neg z, hj j (by omega)]
theorem m_become {v : Int} (hv : 0 ≤ v ∧ v < 268435456) : ∃ S', gX12_become S q (J v) = some S' ∧ fr (fun a _ => a = q) S S' ∧ okM S' q ∧ mV S' q = v := by
  obtain ⟨S', r1, r2, r3⟩ := m_become_L (q := q) hv FU 0 S S (by omega) (by have := FUs (n := 30) (by omega); omega) fr_r (fun j hj => by omega)
  refine ⟨S', ?_, r2, fun j hj => ?_, ?_⟩
  · unfold gX12_become
    simp only [J_0, J_1, J_2, J_3, J_4, J_5, J_6, J_7, J_8, J_9, J_10, J_11, J_12, J_14, J_15, J_16, J_19, J_20, J_21, J_22, J_23, J_24, J_25, J_28, J_30, J_31, J_32, J_40, J_44, J_47, J_48, J_49, J_50, J_53, J_54, J_57, J_59, J_74, J_75, J_78, J_84, J_97, J_99, J_100, J_120, J_122, J_126, J_132, J_138, J_144, J_150, J_156, J_162, J_198, J_200, J_202, J_206, J_210, J_214, J_218, J_222, J_226, J_230, J_234, J_238, J_239, J_240, J_241, J_242, J_243, J_255, J_263, J_283, J_303, J_399, J_400, J_401, J_463, J_700, J_701, J_999, J_1000, J_2048, J_4095, J_4096, J_6000, J_9999, J_10000, J_65536, J_65537, J_2147483647, J_neg]
    exact r1
  · rw [r3 j hj]
    unfold gW
    split <;> omega
  · unfold mV
    rw [lbL_c r3]
    have : lbL gW (fun j => if j = 0 then v else 0) 24 = sm 24 (fun j => if j = 0 then v else 0) := sm_c (fun j hj => by
      show (if j = 0 then v else 0) * gW ^ j = _
      by_cases z : j = 0
      · rw [if_pos z, z, Int.pow_zero, Int.mul_one]
      · rw [if_neg z, Int.zero_mul])
    rw [this]
    exact sm_one (by omega)
end
