/-! Numbers in limbs, in general. -/
def lbL (w : Int) (f : Nat → Int) (m : Nat) : Int := sm m (fun j => f j * w ^ j)
def lbU (w : Int) (f : Nat → Int) (m i : Nat) : Int := sm m (fun j => if i ≤ j then f j * w ^ j else 0)
def dg (w : Int) (f : Nat → Int) (m : Nat) : Prop := ∀ j, j < m → 0 ≤ f j ∧ f j < w
theorem lbL_0 {w : Int} {f : Nat → Int} : lbL w f 0 = 0 := rfl
theorem lbL_s {w : Int} {f : Nat → Int} {m : Nat} : lbL w f (m + 1) = lbL w f m + f m * w ^ m := rfl
theorem lbL_c {w : Int} {f g : Nat → Int} {m : Nat} (h : ∀ j, j < m → f j = g j) : lbL w f m = lbL w g m := sm_c (fun j hj => by rw [h j hj])
theorem lbU_0 {w : Int} {f : Nat → Int} {m : Nat} : lbU w f m 0 = lbL w f m := sm_c (fun j hj => if_pos (Nat.zero_le j))
theorem lbU_end {w : Int} {f : Nat → Int} {m : Nat} : lbU w f m m = 0 := sm_zero (fun j hj => if_neg (by omega))
theorem lbU_c {w : Int} {f g : Nat → Int} {m i : Nat} (h : ∀ j, i ≤ j → j < m → f j = g j) : lbU w f m i = lbU w g m i := sm_c (fun j hj => by
  by_cases e : i ≤ j
  · rw [if_pos e, if_pos e, h j e hj]
  · rw [if_neg e, if_neg e])
theorem lbU_step {w : Int} {f : Nat → Int} {m i : Nat} (hi : i < m) : lbU w f m i = f i * w ^ i + lbU w f m (i + 1) := by
  have : f i * w ^ i = sm m (fun j => if j = i then f i * w ^ i else 0) := (sm_one hi).symm
  rw [this]
  unfold lbU
  rw [← sm_add]
  refine sm_c (fun j hj => ?_)
  by_cases e : j = i
  · subst e
    rw [if_pos (Nat.le_refl j), if_pos rfl, if_neg (by omega)]
    omega
  · rw [if_neg e]
    by_cases z : i ≤ j
    · rw [if_pos z, if_pos (by omega)]; omega
    · rw [if_neg z, if_neg (by omega)]; omega
theorem wp_pos {w : Int} (hw : 1 ≤ w) (i : Nat) : 1 ≤ w ^ i := by
  have := Int.pow_pos (n := w) (m := i) (by omega)
  omega
theorem lbL_nn {w : Int} (hw : 1 ≤ w) {f : Nat → Int} {m : Nat} (h : dg w f m) : 0 ≤ lbL w f m := sm_nn (fun j hj => Int.mul_nonneg (h j hj).1 (by have := wp_pos hw j; omega))
theorem lbL_lt {w : Int} (hw : 1 ≤ w) {f : Nat → Int} : ∀ m : Nat, dg w f m → lbL w f m < w ^ m := by
  intro m
  induction m with
  | zero => intro _; rw [lbL_0, Int.pow_zero]; omega
  | succ m ih =>
    intro h
    have h1 := ih (fun j hj => h j (by omega))
    have h2 := h m (by omega)
    have hp := wp_pos hw m
    have h3 : f m * w ^ m ≤ (w - 1) * w ^ m := Int.mul_le_mul_of_nonneg_right (by omega) (by omega)
    rw [Int.sub_mul, Int.one_mul] at h3
    rw [lbL_s, Int.pow_succ, Int.mul_comm (w ^ m) w]
    omega
theorem st_mul {P w a c' c d v R : Int} (h : c + d * v = w * c' + a) : a * P + (R * v + c' * (P * w)) = (d * P + R) * v + c * P := by
  have e : (c + d * v) * P = (w * c' + a) * P := by rw [h]
  rw [Int.add_mul, Int.add_mul] at e
  rw [Int.add_mul (d * P) R v]
  have e1 : d * v * P = d * P * v := Int.mul_right_comm d v P
  have e2 : w * c' * P = c' * (P * w) := by rw [Int.mul_comm w c', Int.mul_assoc, Int.mul_comm w P]
  omega
theorem st_add {P w a c' c x R R' : Int} (h : c + x = w * c' + a) : a * P + (R + R' + c' * (P * w)) = x * P + R + R' + c * P := by
  have e : (c + x) * P = (w * c' + a) * P := by rw [h]
  rw [Int.add_mul, Int.add_mul] at e
  have e2 : w * c' * P = c' * (P * w) := by rw [Int.mul_comm w c', Int.mul_assoc, Int.mul_comm w P]
  omega
/-- nothing is left over -/
theorem no_carry {w : Int} (hw : 1 ≤ w) {m : Nat} {A B c : Int} (hA : 0 ≤ A) (hc : 0 ≤ c) (h : A + c * w ^ m = B) (hB : B < w ^ m) : A = B := by
  have hp := wp_pos hw m
  by_cases e : c = 0
  · subst e
    rw [Int.zero_mul] at h
    omega
  · have : 1 * w ^ m ≤ c * w ^ m := Int.mul_le_mul_of_nonneg_right (by omega) (by omega)
    rw [Int.one_mul] at this
    omega
/-- comparing from the top -/
theorem lbL_cmp {w : Int} (hw : 1 ≤ w) {f g : Nat → Int} {m : Nat} (hf : dg w f (m + 1)) (hg : dg w g (m + 1)) (h : f m < g m) : lbL w f (m + 1) < lbL w g (m + 1) := by
  have h1 := lbL_lt hw m (f := f) (fun j hj => hf j (by omega))
  have h2 := lbL_nn hw (f := g) (m := m) (fun j hj => hg j (by omega))
  have hp := wp_pos hw m
  have h3 : (f m + 1) * w ^ m ≤ g m * w ^ m := Int.mul_le_mul_of_nonneg_right (by omega) (by omega)
  rw [Int.add_mul, Int.one_mul] at h3
  rw [lbL_s, lbL_s]
  omega
/-! the class' limbs -/
def kW : Int := 1099511627776
def okL (S : zM) (q m : Nat) : Prop := dg kW (iL S q) m
def cV (S : zM) (q m : Nat) : Int := lbL kW (iL S q) m
theorem kW1 : (1 : Int) ≤ kW := by decide
section
variable {q r m : Nat}
theorem iL_o {S S' : zM} {q : Nat} (f : fr (fun a _ => a = q) S S') {r : Nat} (h : ¬ r = q) (k : Nat) : iL S' r k = iL S r k := congrArg Int64.toInt (f.2.1 r k h)
theorem iL_w {S : zM} {q k j : Nat} {v : Int} (hv : 0 ≤ v ∧ v ≤ 9223372036854775807) : iL (pL S q k (JL v)) q j = if j = k then v else iL S q j := by
  by_cases e : j = k
  · rw [if_pos e]
    exact iL_of (by rw [rLL, if_pos ⟨rfl, e⟩]) (by omega) hv.2
  · rw [if_neg e]
    exact congrArg Int64.toInt (by rw [rLL, if_neg (fun w => e w.2)])
theorem c_mul_L {v : Int} (hv : 1 ≤ v ∧ v ≤ 400000) (hm : m ≤ 15) (hq : ¬ q = 233) : ∀ (n i : Nat) (S : zM) (c : Int), i ≤ m → m < n + i → gI S 233 3 = J m → okL S q m → 0 ≤ c → c < v → ∃ S' c', gX10_multiply_L6 q (JL v) n S (JL c) (J i) = some S' ∧ fr (fun a _ => a = q) S S' ∧ okL S' q m ∧ (∀ j, j < i → iL S' q j = iL S q j) ∧ 0 ≤ c' ∧ lbU kW (iL S' q) m i + c' * kW ^ m = lbU kW (iL S q) m i * v + c * kW ^ i := by
  intro n
  induction n with
  | zero => intro i S c g1 g2; omega
  | succ n ih =>
    intro i S c g1 g2 hf hd c1 c2
    unfold gX10_multiply_L6
    simp only [J_0, J_1, J_2, J_3, J_4, J_5, J_6, J_7, J_8, J_9, J_10, J_11, J_12, J_14, J_15, J_16, J_19, J_20, J_21, J_22, J_23, J_24, J_25, J_28, J_30, J_31, J_32, J_40, J_44, J_47, J_48, J_49, J_50, J_53, J_54, J_57, J_59, J_74, J_75, J_78, J_84, J_97, J_99, J_100, J_120, J_122, J_126, J_132, J_138, J_144, J_150, J_156, J_162, J_198, J_200, J_202, J_206, J_210, J_214, J_218, J_222, J_226, J_230, J_234, J_238, J_239, J_240, J_241, J_242, J_243, J_255, J_263, J_283, J_303, J_399, J_400, J_401, J_463, J_700, J_701, J_999, J_1000, J_2048, J_4095, J_4096, J_6000, J_9999, J_10000, J_65536, J_65537, J_2147483647, J_neg]
    rw [hf, iLE (by omega) (by omega) (by omega) (by omega)]
    by_cases e : i = m
    · subst e
      rw [if_pos (Int.le_refl _)]
      refine ⟨S, c, rfl, fr_r, hd, fun j hj => rfl, c1, ?_⟩
      rw [lbU_end]
      omega
    · have hdi := hd i (by omega)
      unfold kW at hdi
      have x1 : ixb (J (i : Int)) 15 = true := ixb_J (by omega) (by omega) (by decide)
      have y1 : ix (J (i : Int)) = i := by rw [ix_J (by omega) (by omega)]; omega
      generalize hdd : iL S q i = d at hdi
      have hdv : 0 ≤ d * v ∧ d * v ≤ 1099511627775 * v := ⟨Int.mul_nonneg hdi.1 (by omega), Int.mul_le_mul_of_nonneg_right (by omega) (by omega)⟩
      rw [if_neg (by omega), x1, ckt, lts, ckt, y1, gL_J, hdd, JL_mul, JL_add, JL_ush40 (by omega) (by omega), lts]
      simp only [JL_0, JL_1, JL_9, JL_10, JL_32, JL_40, JL_48, JL_64, JL_97, JL_100, JL_4095, JL_4096, JL_16384, JL_65537, JL_524287, JL_524288, JL_268435455, JL_1099511627775, JL_neg, JL_and40, J_neg, J_add, J_sub, J_mul]
      rw [show (i : Int) + 1 = ((i + 1 : Nat) : Int) by omega]
      obtain ⟨a, ha⟩ : ∃ a, a = (c + d * v) % 1099511627776 := ⟨_, rfl⟩
      obtain ⟨k, hk⟩ : ∃ k, k = (c + d * v) / 1099511627776 := ⟨_, rfl⟩
      rw [← ha, ← hk]
      have ed : c + d * v = kW * k + a := by unfold kW; omega
      have ab : 0 ≤ a ∧ a < 1099511627776 := by omega
      have kb : 0 ≤ k ∧ k < v := by
        have : 1099511627775 * v + v = 1099511627776 * v := by omega
        omega
      have f1 : fr (fun a _ => a = q) S (pL S q i (JL a)) := fr_pL rfl
      have dig : ∀ j, iL (pL S q i (JL a)) q j = if j = i then a else iL S q j := fun j => iL_w ⟨ab.1, by omega⟩
      obtain ⟨S', c', r1, r2, r3, r4, r5, r6⟩ := ih (i + 1) _ k (by omega) (by omega) ((f1.1 233 3 (by omega)).trans hf) (fun j hj => by
        rw [dig]
        by_cases z : j = i
        · rw [if_pos z]; exact ab
        · rw [if_neg z]; exact hd j hj) kb.1 kb.2
      refine ⟨S', c', r1, fr_t f1 r2, r3, fun j hj => ?_, r5, ?_⟩
      · rw [r4 j (by omega), dig, if_neg (by omega)]
      · have e1 : iL S' q i = a := by rw [r4 i (by omega), dig, if_pos rfl]
        have e2 : lbU kW (iL (pL S q i (JL a)) q) m (i + 1) = lbU kW (iL S q) m (i + 1) := lbU_c (fun j j1 j2 => by rw [dig, if_neg (by omega)])
        rw [lbU_step (f := iL S' q) (by omega), lbU_step (f := iL S q) (i := i) (by omega), e1, hdd, Int.add_assoc, r6, e2, Int.pow_succ]
        exact st_mul ed
end
