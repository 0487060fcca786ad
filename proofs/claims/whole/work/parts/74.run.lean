/-! run. -/
/-- the sizes of a plan, and the k-th of its trials -/
def plS (f to' b : Int) : Int := (to' - f) / b + 1
def plX (how f to' b tm k : Int) : Int := f + b * (if how = 1 then plS f to' b - 1 - k / tm else k / tm)
theorem plS_b {f to' b : Int} (h1 : 1 ≤ f) (h2 : f ≤ to') (h3 : to' ≤ 400) (h4 : 1 ≤ b) : 1 ≤ plS f to' b ∧ plS f to' b ≤ 400 ∧ b * (plS f to' b - 1) ≤ to' - f := by
  unfold plS
  have hd := div_b (a := to' - f) (b := b) (c := 399) (by omega) (by omega) h4
  have hm : b * ((to' - f) / b) ≤ to' - f := Int.mul_ediv_self_le (by omega)
  refine ⟨by omega, by omega, ?_⟩
  rw [Int.add_sub_cancel]
  exact hm
theorem plX_b {how f to' b tm k : Int} (h1 : 1 ≤ f) (h2 : f ≤ to') (h3 : to' ≤ 400) (h4 : 1 ≤ b) (h5 : 1 ≤ tm) (hk : 0 ≤ k) (hk2 : k < plS f to' b * tm) : 1 ≤ plX how f to' b tm k ∧ plX how f to' b tm k ≤ 400 := by
  obtain ⟨s1, s2, s3⟩ := plS_b h1 h2 h3 h4
  have q0 : 0 ≤ k / tm := Int.ediv_nonneg hk (by omega)
  have q1 : k / tm < plS f to' b := Int.ediv_lt_of_lt_mul (by omega) hk2
  have key : ∀ j : Int, 0 ≤ j → j ≤ plS f to' b - 1 → 1 ≤ f + b * j ∧ f + b * j ≤ 400 := by
    intro j j0 j1
    have m0 : 0 ≤ b * j := Int.mul_nonneg (by omega) j0
    have m1 : b * j ≤ b * (plS f to' b - 1) := Int.mul_le_mul_of_nonneg_left j1 (by omega)
    omega
  unfold plX
  split
  · exact key _ (by omega) (by omega)
  · exact key _ q0 (by omega)
section
variable {SC SM : zM} {H p t : Nat}
/-- the plan, as the class has it -/
theorem c_sizes {q : Nat} {f to' b : Int} (c1 : gI SC q 1 = J f) (c2 : gI SC q 2 = J to') (c3 : gI SC q 3 = J b) (h1 : 1 ≤ f) (h2 : f ≤ to') (h3 : to' ≤ 400) (h4 : 1 ≤ b ∧ b ≤ 400) : gX6_sizes SC q = some (J (plS f to' b)) := by
  have e : jmax (J 1) (J b) = J b := by
    rw [jmax_J (by decide) (by decide) (by omega) (by omega), Int.max_eq_right h4.1]
  unfold gX6_sizes plS
  simp only [J_0, J_1, J_2, J_3, J_4, J_5, J_6, J_7, J_8, J_9, J_10, J_11, J_12, J_14, J_15, J_16, J_19, J_20, J_21, J_22, J_23, J_24, J_25, J_28, J_30, J_31, J_32, J_40, J_44, J_47, J_48, J_49, J_50, J_53, J_54, J_57, J_59, J_74, J_75, J_78, J_84, J_97, J_99, J_100, J_120, J_122, J_126, J_132, J_138, J_144, J_150, J_156, J_162, J_198, J_200, J_202, J_206, J_210, J_214, J_218, J_222, J_226, J_230, J_234, J_238, J_239, J_240, J_241, J_242, J_243, J_255, J_263, J_283, J_303, J_399, J_400, J_401, J_463, J_700, J_701, J_999, J_1000, J_2048, J_4095, J_4096, J_6000, J_9999, J_10000, J_65536, J_65537, J_2147483647, J_neg, c1, c2, c3, e, dnz (a := b) (by omega) (by omega) (by omega), ckt, b1s, b2s, lts, un2s, un3s, un4s, un5s, lmr, lml, lgr, lgl, J_neg, J_add, J_sub, J_mul]
  rw [J_div (by omega) (by omega) (by omega) (by omega), J_add]
theorem c_trials {q : Nat} {f to' b tm : Int} (c1 : gI SC q 1 = J f) (c2 : gI SC q 2 = J to') (c3 : gI SC q 3 = J b) (c4 : gI SC q 4 = J tm) (h1 : 1 ≤ f) (h2 : f ≤ to') (h3 : to' ≤ 400) (h4 : 1 ≤ b ∧ b ≤ 400) : gX6_trials SC q = some (J (plS f to' b * tm)) := by
  unfold gX6_trials
  rw [c_sizes c1 c2 c3 h1 h2 h3 h4, b1s, c4, J_mul]
/-- both lay out -/
theorem lay_L {q n : Nat} {how f to' b tm : Int} (hq : q ≠ 239) (hn : n < 4) (c0 : gI SC q 0 = J how) (c1 : gI SC q 1 = J f) (c2 : gI SC q 2 = J to') (c3 : gI SC q 3 = J b) (c4 : gI SC q 4 = J tm) (m1 : gI SM 3 (202 + n) = J f) (m3 : gI SM 3 (210 + n) = J b) (h0 : 0 ≤ how ∧ how ≤ 2) (h1 : 1 ≤ f) (h2 : f ≤ to') (h3 : to' ≤ 400) (h4 : 1 ≤ b ∧ b ≤ 400) (h5 : 1 ≤ tm ∧ tm ≤ 20) (h6 : plS f to' b * tm ≤ 200) : ∀ (m i : Nat) (S T : zM), (i : Int) ≤ plS f to' b * tm → 202 ≤ m + i → fr (fun q _ => q = 239) SC S → fr (fun q _ => q = 14) SM T → (∀ k : Nat, k < i → gI S 239 k = J (plX how f to' b tm k) ∧ gI T 14 k = J (plX how f to' b tm k)) → ∃ S' T' : zM, gX6_layOut_L2 q m S (J i) = some S' ∧ gX12_run_L130 (J n) (J p) (J (plS f to' b)) (J tm) (J (plS f to' b * tm)) (J how) m T (J i) = some T' ∧ fr (fun q _ => q = 239) SC S' ∧ fr (fun q _ => q = 14) SM T' ∧ ∀ k : Nat, (k : Int) < plS f to' b * tm → gI S' 239 k = J (plX how f to' b tm k) ∧ gI T' 14 k = J (plX how f to' b tm k) := by
  obtain ⟨s1, s2, s3⟩ := plS_b h1 h2 h3 h4.1
  intro m
  induction m with
  | zero => intro i S T g1 g2; omega
  | succ m ih =>
    intro i S T g1 g2 fS fT hk
    have o : ∀ k, gI S q k = gI SC q k := fun k => fS.1 q k hq
    have oT : ∀ k, gI T 3 k = gI SM 3 k := fun k => fT.1 3 k (by omega)
    have e4 : jmax (J 1) (J tm) = J tm := by
      rw [jmax_J (by decide) (by decide) (by omega) (by omega), Int.max_eq_right h5.1]
    have x1 : ixb (J (202 + (n : Int))) 463 = true := ixb_J (by omega) (by omega) (by decide)
    have y1 : ix (J (202 + (n : Int))) = 202 + n := by rw [ix_J (by omega) (by omega)]; omega
    have x2 : ixb (J (210 + (n : Int))) 463 = true := ixb_J (by omega) (by omega) (by decide)
    have y2 : ix (J (210 + (n : Int))) = 210 + n := by rw [ix_J (by omega) (by omega)]; omega
    unfold gX6_layOut_L2 gX12_run_L130
    rw [c_trials ((o 1).trans c1) ((o 2).trans c2) ((o 3).trans c3) ((o 4).trans c4) h1 h2 h3 h4, b1s]
    simp only [J_0, J_1, J_2, J_3, J_4, J_5, J_6, J_7, J_8, J_9, J_10, J_11, J_12, J_14, J_15, J_16, J_19, J_20, J_21, J_22, J_23, J_24, J_25, J_28, J_30, J_31, J_32, J_40, J_44, J_47, J_48, J_49, J_50, J_53, J_54, J_57, J_59, J_74, J_75, J_78, J_84, J_97, J_99, J_100, J_120, J_122, J_126, J_132, J_138, J_144, J_150, J_156, J_162, J_198, J_200, J_202, J_206, J_210, J_214, J_218, J_222, J_226, J_230, J_234, J_238, J_239, J_240, J_241, J_242, J_243, J_255, J_263, J_283, J_303, J_399, J_400, J_401, J_463, J_700, J_701, J_999, J_1000, J_2048, J_4095, J_4096, J_6000, J_9999, J_10000, J_65536, J_65537, J_2147483647, J_neg, o, oT, c0, c1, c3, c4, m1, m3, e4, J_neg, J_add, J_sub, J_mul, x1, y1, x2, y2, ckt, b1s, b2s, lts, un2s, un3s, un4s, un5s, lmr, lml, lgr, lgl, dnz (a := tm) (by omega) (by omega) (by omega), c_sizes ((o 1).trans c1) ((o 2).trans c2) ((o 3).trans c3) h1 h2 h3 h4]
    simp (disch := omega) only [J_le]
    by_cases e : (i : Int) = plS f to' b * tm
    · rw [if_pos (show plS f to' b * tm ≤ (i : Int) by omega), if_pos (show plS f to' b * tm ≤ (i : Int) by omega)]
      exact ⟨S, T, rfl, rfl, fS, fT, fun k hk' => hk k (by omega)⟩
    · have x3 : ixb (J (i : Int)) 200 = true := ixb_J (by omega) (by omega) (by decide)
      have y3 : ix (J (i : Int)) = i := by rw [ix_J (by omega) (by omega)]; omega
      rw [if_neg (show ¬ plS f to' b * tm ≤ (i : Int) by omega), if_neg (show ¬ plS f to' b * tm ≤ (i : Int) by omega), if_neg (show ¬ (200 : Int) ≤ (i : Int) by omega), J_div (by omega) (by omega) (by omega) (by omega), iEQ (by omega) (by omega) (by decide) (by decide), iEQ (by omega) (by omega) (by decide) (by decide)]
      simp only [J_neg, J_add, J_sub, J_mul, x3, y3, ckt, b1s, b2s, lts, un2s, un3s, un4s, un5s, lmr, lml, lgr, lgl]
      have go : ∃ S' T' : zM, gX6_layOut_L2 q m (pI S 239 i (J (plX how f to' b tm i))) (J ((i + 1 : Nat) : Int)) = some S' ∧ gX12_run_L130 (J n) (J p) (J (plS f to' b)) (J tm) (J (plS f to' b * tm)) (J how) m (pI T 14 i (J (plX how f to' b tm i))) (J ((i + 1 : Nat) : Int)) = some T' ∧ fr (fun q _ => q = 239) SC S' ∧ fr (fun q _ => q = 14) SM T' ∧ ∀ k : Nat, (k : Int) < plS f to' b * tm → gI S' 239 k = J (plX how f to' b tm k) ∧ gI T' 14 k = J (plX how f to' b tm k) := by
        refine ih (i + 1) _ _ (by omega) (by omega) (fr_t fS (fr_pI rfl)) (fr_t fT (fr_pI rfl)) (fun k hk' => ?_)
        by_cases z : k = i
        · subst z
          exact ⟨by rw [rII, if_pos ⟨rfl, rfl⟩], by rw [rII, if_pos ⟨rfl, rfl⟩]⟩
        · rw [rII, if_neg (by omega), rII, if_neg (by omega)]
          exact hk k (by omega)
      rw [show (i : Int) + 1 = ((i + 1 : Nat) : Int) by omega]
      unfold plX at go
      by_cases z : how = 1
      · rw [if_pos z] at go
        rw [if_pos z, if_pos z]
        exact go
      · rw [if_neg z] at go
        rw [if_neg z, if_neg z]
        exact go
/-- the model shifts -/
theorem m_shift_L {n : Nat} {v2 v6 v7 v10 : Int32} (hn : 1 ≤ n ∧ n ≤ 200) : ∀ (m i : Nat) (S T : zM) (k : Nat), k ≤ i → i ≤ n - 1 → n ≤ m + i → fr (fun q _ => q = 14) S T → (∀ j : Nat, j < n → gI T 14 j = if j < k then gI S 14 j else if j < i then gI S 14 (j + 1) else gI S 14 j) → ∃ T', gX12_run_L239 v2 v6 v7 (J n) v10 m T (J i) = some T' ∧ fr (fun q _ => q = 14) S T' ∧ ∀ j : Nat, j < n - 1 → gI T' 14 j = if j < k then gI S 14 j else gI S 14 (j + 1) := by
  intro m
  induction m with
  | zero => intro i S T k g1 g2; omega
  | succ m ih =>
    intro i S T k g1 g2 g3 fT hj
    unfold gX12_run_L239
    simp only [J_0, J_1, J_2, J_3, J_4, J_5, J_6, J_7, J_8, J_9, J_10, J_11, J_12, J_14, J_15, J_16, J_19, J_20, J_21, J_22, J_23, J_24, J_25, J_28, J_30, J_31, J_32, J_40, J_44, J_47, J_48, J_49, J_50, J_53, J_54, J_57, J_59, J_74, J_75, J_78, J_84, J_97, J_99, J_100, J_120, J_122, J_126, J_132, J_138, J_144, J_150, J_156, J_162, J_198, J_200, J_202, J_206, J_210, J_214, J_218, J_222, J_226, J_230, J_234, J_238, J_239, J_240, J_241, J_242, J_243, J_255, J_263, J_283, J_303, J_399, J_400, J_401, J_463, J_700, J_701, J_999, J_1000, J_2048, J_4095, J_4096, J_6000, J_9999, J_10000, J_65536, J_65537, J_2147483647, J_neg, J_neg, J_add, J_sub, J_mul]
    rw [iLE (by omega) (by omega) (by omega) (by omega)]
    by_cases e : i = n - 1
    · rw [if_pos (by omega)]
      refine ⟨T, rfl, fT, fun j hj' => ?_⟩
      rw [hj j (by omega)]
      by_cases z : j < k
      · rw [if_pos z, if_pos z]
      · rw [if_neg z, if_neg z, if_pos (by omega)]
    · have x3 : ixb (J (i : Int)) 200 = true := ixb_J (by omega) (by omega) (by decide)
      have y3 : ix (J (i : Int)) = i := by rw [ix_J (by omega) (by omega)]; omega
      have x4 : ixb (J ((i : Int) + 1)) 200 = true := ixb_J (by omega) (by omega) (by decide)
      have y4 : ix (J ((i : Int) + 1)) = i + 1 := by rw [ix_J (by omega) (by omega)]; omega
      rw [if_neg (by omega)]
      simp only [x3, y3, x4, y4, ckt, b1s, b2s, lts, un2s, un3s, un4s, un5s, lmr, lml, lgr, lgl]
      rw [show (i : Int) + 1 = ((i + 1 : Nat) : Int) by omega]
      refine ih (i + 1) S _ k (by omega) (by omega) (by omega) (fr_t fT (fr_pI rfl)) (fun j hj' => ?_)
      rw [rII]
      by_cases z : j = i
      · subst z
        have h2 := hj (j + 1) (by omega)
        rw [if_neg (by omega), if_neg (by omega)] at h2
        rw [if_pos ⟨rfl, rfl⟩, h2, if_neg (by omega), if_pos (by omega)]
      · rw [if_neg (fun w => z w.2), hj j hj']
        by_cases z1 : j < k
        · rw [if_pos z1, if_pos z1]
        · rw [if_neg z1, if_neg z1]
          by_cases z2 : j < i
          · rw [if_pos z2, if_pos (by omega)]
          · rw [if_neg z2, if_neg (by omega)]
theorem m_shift {n k : Nat} {v2 v6 v7 v10 : Int32} {S : zM} (hn : 1 ≤ n ∧ n ≤ 200) (hk : k ≤ n - 1) : ∃ T', gX12_run_L239 v2 v6 v7 (J n) v10 FU S (J k) = some T' ∧ fr (fun q _ => q = 14) S T' ∧ ∀ j : Nat, j < n - 1 → gI T' 14 j = if j < k then gI S 14 j else gI S 14 (j + 1) := by
  refine m_shift_L hn FU k S S k (Nat.le_refl k) hk (by have := FUs (n := 202) (by omega); omega) fr_r (fun j hj => ?_)
  split
  · rfl
  · rfl
/-- the class brings to the front -/
theorem c_front_L {i r : Nat} {v : Int32} (hr : i + r < 200) : ∀ (m e : Nat) (S T : zM), e ≤ r → e < m → fr (fun q _ => q = 239) S T → (∀ j : Nat, j < 200 → gI T 239 j = if i + e < j ∧ j ≤ i + r then gI S 239 (j - 1) else gI S 239 j) → ∃ T', gX11_bringToFront_L29 (J i) v m T (J (i + e : Nat)) = some T' ∧ fr (fun q _ => q = 239) S T' ∧ ∀ j : Nat, j < 200 → gI T' 239 j = if j = i then v else if i < j ∧ j ≤ i + r then gI S 239 (j - 1) else gI S 239 j := by
  intro m
  induction m with
  | zero => intro e S T g1 g2; omega
  | succ m ih =>
    intro e S T g1 g2 fT hj
    unfold gX11_bringToFront_L29
    simp only [J_0, J_1, J_2, J_3, J_4, J_5, J_6, J_7, J_8, J_9, J_10, J_11, J_12, J_14, J_15, J_16, J_19, J_20, J_21, J_22, J_23, J_24, J_25, J_28, J_30, J_31, J_32, J_40, J_44, J_47, J_48, J_49, J_50, J_53, J_54, J_57, J_59, J_74, J_75, J_78, J_84, J_97, J_99, J_100, J_120, J_122, J_126, J_132, J_138, J_144, J_150, J_156, J_162, J_198, J_200, J_202, J_206, J_210, J_214, J_218, J_222, J_226, J_230, J_234, J_238, J_239, J_240, J_241, J_242, J_243, J_255, J_263, J_283, J_303, J_399, J_400, J_401, J_463, J_700, J_701, J_999, J_1000, J_2048, J_4095, J_4096, J_6000, J_9999, J_10000, J_65536, J_65537, J_2147483647, J_neg, J_neg, J_add, J_sub, J_mul]
    rw [iLE (by omega) (by omega) (by omega) (by omega)]
    by_cases z : e = 0
    · subst z
      have x3 : ixb (J (i : Int)) 200 = true := ixb_J (by omega) (by omega) (by decide)
      have y3 : ix (J (i : Int)) = i := by rw [ix_J (by omega) (by omega)]; omega
      rw [if_pos (by omega), x3, ckt, y3]
      refine ⟨_, rfl, fr_t fT (fr_pI rfl), fun j hj' => ?_⟩
      rw [rII]
      by_cases w : j = i
      · rw [if_pos ⟨rfl, w⟩, if_pos w]
      · rw [if_neg (fun q => w q.2), if_neg w, hj j hj', Nat.add_zero]
    · have x3 : ixb (J ((i + e : Nat) : Int)) 200 = true := ixb_J (by omega) (by omega) (by decide)
      have y3 : ix (J ((i + e : Nat) : Int)) = i + e := by rw [ix_J (by omega) (by omega)]; omega
      have x4 : ixb (J (((i + e : Nat) : Int) - 1)) 200 = true := ixb_J (by omega) (by omega) (by decide)
      have y4 : ix (J (((i + e : Nat) : Int) - 1)) = i + e - 1 := by rw [ix_J (by omega) (by omega)]; omega
      rw [if_neg (by omega)]
      simp only [x3, y3, x4, y4, ckt, b1s, b2s, lts, un2s, un3s, un4s, un5s, lmr, lml, lgr, lgl]
      rw [show ((i + e : Nat) : Int) + -1 = ((i + (e - 1) : Nat) : Int) by omega]
      refine ih (e - 1) S _ (by omega) (by omega) (fr_t fT (fr_pI rfl)) (fun j hj' => ?_)
      rw [rII]
      by_cases w : j = i + e
      · subst w
        rw [if_pos ⟨rfl, rfl⟩, hj (i + e - 1) (by omega), if_neg (by omega), if_pos (by omega)]
      · rw [if_neg (fun q => w q.2), hj j hj']
        by_cases w1 : i + e < j ∧ j ≤ i + r
        · rw [if_pos w1, if_pos (by omega)]
        · rw [if_neg w1, if_neg (by omega)]
theorem c_front {i r : Nat} {S : zM} (hr : i + r < 200) : ∃ T', gX11_bringToFront S (J i) (J (i + r : Nat)) = some T' ∧ fr (fun q _ => q = 239) S T' ∧ ∀ j : Nat, j < 200 → gI T' 239 j = if j = i then gI S 239 (i + r) else if i < j ∧ j ≤ i + r then gI S 239 (j - 1) else gI S 239 j := by
  have x3 : ixb (J ((i + r : Nat) : Int)) 200 = true := ixb_J (by omega) (by omega) (by decide)
  have y3 : ix (J ((i + r : Nat) : Int)) = i + r := by rw [ix_J (by omega) (by omega)]; omega
  unfold gX11_bringToFront
  simp only [J_0, J_1, J_2, J_3, J_4, J_5, J_6, J_7, J_8, J_9, J_10, J_11, J_12, J_14, J_15, J_16, J_19, J_20, J_21, J_22, J_23, J_24, J_25, J_28, J_30, J_31, J_32, J_40, J_44, J_47, J_48, J_49, J_50, J_53, J_54, J_57, J_59, J_74, J_75, J_78, J_84, J_97, J_99, J_100, J_120, J_122, J_126, J_132, J_138, J_144, J_150, J_156, J_162, J_198, J_200, J_202, J_206, J_210, J_214, J_218, J_222, J_226, J_230, J_234, J_238, J_239, J_240, J_241, J_242, J_243, J_255, J_263, J_283, J_303, J_399, J_400, J_401, J_463, J_700, J_701, J_999, J_1000, J_2048, J_4095, J_4096, J_6000, J_9999, J_10000, J_65536, J_65537, J_2147483647, J_neg]
  rw [iLT (by omega) (by omega) (by decide) (by decide), if_neg (by omega), iLT (by omega) (by omega) (by omega) (by omega), if_neg (by omega), iLT (by omega) (by omega) (by decide) (by decide), if_pos (by omega), x3, ckt, y3]
  refine c_front_L hr FU r S S (Nat.le_refl r) (by have := FUs (n := 202) (by omega); omega) fr_r (fun j hj => ?_)
  rw [if_neg (by omega)]
theorem run_L {N P : Nat} {how q0 : Int} (hN : N ≤ 200) (ht : t ≤ 512) (hw : 0 ≤ how ∧ how ≤ 2) : ∀ (m i B : Nat) (SC SM : zM) (acc : Int32), i ≤ N → N < m + i → InvB SC SM B → rHall SC SM H → gI SC (H + 205 + 1 * P) 0 = J how → P < 4 → B + (N - i) ≤ 4095 + 1000 * t → (p : Int) < cnt SM 1 → bkn SM + (N - i) ≤ 1000 → (∀ j : Nat, j < N - i → gI SC 239 (i + j) = gI SM 14 j ∧ 1 ≤ iI SM 14 j ∧ iI SM 14 j ≤ 400) → ∃ (r : Int32) (SC' SM' : zM), gX11_run_L83 (J p) (H + 205 + 1 * P) (J N) m SC acc (J i) = some (r, SC') ∧ gX12_run_L203 (J p) (J how) m SM acc (J (N - i : Nat)) = some (r, SM') ∧ InvB SC' SM' (B + (N - i)) := by
  intro m
  induction m with
  | zero => intro i B SC SM acc h1 h2; omega
  | succ m ih =>
    intro i B SC SM acc h1 h2 hI hh hhow hP hB hp hbk hl
    have hH := hh.1.1
    unfold gX11_run_L83 gX12_run_L203
    simp only [J_0, J_1, J_2, J_3, J_4, J_5, J_6, J_7, J_8, J_9, J_10, J_11, J_12, J_14, J_15, J_16, J_19, J_20, J_21, J_22, J_23, J_24, J_25, J_28, J_30, J_31, J_32, J_40, J_44, J_47, J_48, J_49, J_50, J_53, J_54, J_57, J_59, J_74, J_75, J_78, J_84, J_97, J_99, J_100, J_120, J_122, J_126, J_132, J_138, J_144, J_150, J_156, J_162, J_198, J_200, J_202, J_206, J_210, J_214, J_218, J_222, J_226, J_230, J_234, J_238, J_239, J_240, J_241, J_242, J_243, J_255, J_263, J_283, J_303, J_399, J_400, J_401, J_463, J_700, J_701, J_999, J_1000, J_2048, J_4095, J_4096, J_6000, J_9999, J_10000, J_65536, J_65537, J_2147483647, J_neg, hhow]
    rw [iLE (by omega) (by omega) (by omega) (by omega), iLE (by omega) (by omega) (by decide) (by decide), iEQ (by omega) (by omega) (by decide) (by decide), iEQ (by omega) (by omega) (by decide) (by decide)]
    by_cases e : i = N
    · rw [if_pos (show (N : Int) ≤ i by omega), if_pos (show ((N - i : Nat) : Int) ≤ 0 by omega)]
      refine ⟨_, _, _, rfl, rfl, ?_⟩
      rw [e, Nat.sub_self]
      exact hI
    · rw [if_neg (show ¬ (N : Int) ≤ i by omega), if_neg (show ¬ ((N - i : Nat) : Int) ≤ 0 by omega)]
      have x3 : ixb (J (i : Int)) 200 = true := ixb_J (by omega) (by omega) (by decide)
      have y3 : ix (J (i : Int)) = i := by rw [ix_J (by omega) (by omega)]; omega
      -- behind the choice: the class' size at i is the model's, and what is left is the same
      have go : ∀ (S T : zM) (x : Int), InvB S T B → rHall S T H → gI S (H + 205 + 1 * P) 0 = J how → (p : Int) < cnt T 1 → bkn T = bkn SM → (1 ≤ x ∧ x ≤ 400) → gI S 239 i = J x → (∀ j : Nat, j < N - (i + 1) → gI S 239 (i + 1 + j) = gI T 14 j ∧ 1 ≤ iI T 14 j ∧ iI T 14 j ≤ 400) → ∃ (r r' : Int32) (S2 T2 SC' SM' : zM), gX11_sayAlone S (J p) (gI S 239 i) = some (r', S2) ∧ gX12_draws T (J p) (J 1) (J x) (J 0) (J 0) = some (r', T2) ∧ gX11_run_L83 (J p) (H + 205 + 1 * P) (J N) m S2 (acc + r') (J i + J 1) = some (r, SC') ∧ gX12_run_L203 (J p) (J how) m T2 (acc + r') (J (N - i : Nat) + J (-1)) = some (r, SM') ∧ InvB SC' SM' (B + (N - i)) := by
        intro S T x g1 g2 g3 g4 g5 g6 g7 g8
        obtain ⟨r, S2, T2, r1, r2, r3, r4, r5, r6, r7, r8⟩ := alone_eq (x := x) g1 g2 (by omega) ht g4 (by omega) (by omega)
        have hp' : (p : Int) < cnt T2 1 := by
          rw [fr_cnt r7 (by unfold EmA EmW; omega) (by unfold EmA EmW; omega)]
          exact g4
        obtain ⟨rr, SC', SM', q1, q2, q3⟩ := ih (i + 1) (B + 1) S2 T2 (acc + J r) (by omega) (by omega) r4 r5 ((r6.1 _ 0 (by unfold EcA EcW sy89; omega)).trans g3) hP (by omega) hp' (by omega) (fun j hj => by
          obtain ⟨w1, w2, w3⟩ := g8 j hj
          have e14 : gI T2 14 j = gI T 14 j := r7.1 14 j (by unfold EmA EmW; omega)
          have e239 : gI S2 239 (i + 1 + j) = gI S 239 (i + 1 + j) := r6.1 239 _ (by unfold EcA EcW sy89; omega)
          rw [e239, e14, iI_c e14]
          exact ⟨w1, w2, w3⟩)
        refine ⟨rr, J r, S2, T2, SC', SM', by rw [g7]; exact r2, r3, ?_, ?_, ?_⟩
        · rw [J_add, show (i : Int) + 1 = ((i + 1 : Nat) : Int) by omega]; exact q1
        · rw [J_add, show ((N - i : Nat) : Int) + -1 = ((N - (i + 1) : Nat) : Int) by omega]; exact q2
        · rw [show B + (N - i) = B + 1 + (N - (i + 1)) by omega]; exact q3
      by_cases e2 : how = 2
      · rw [if_pos e2, if_pos e2]
        have hms := hI.2.2.2.2.2.2.1
        have hd := gI_J SM 0 20
        obtain ⟨d1, d2⟩ := drawn_eq (d := iI SM 0 20) (a := ((N - i : Nat) : Int)) (hms.1.trans hd) hd hms.2 (by omega)
        have hr0 : 0 ≤ (75 * iI SM 0 20 + 74) % 65537 % ((N - i : Nat) : Int) := Int.emod_nonneg _ (by omega)
        have hr1 : (75 * iI SM 0 20 + 74) % 65537 % ((N - i : Nat) : Int) < ((N - i : Nat) : Int) := Int.emod_lt_of_pos _ (by omega)
        generalize hr : (75 * iI SM 0 20 + 74) % 65537 % ((N - i : Nat) : Int) = r at d1 d2 hr0 hr1
        generalize hd' : (75 * iI SM 0 20 + 74) % 65537 = d' at d1 d2
        have hd2 : 0 ≤ d' ∧ d' < 65537 := by omega
        obtain ⟨R, rfl⟩ : ∃ R : Nat, r = R := ⟨r.toNat, by omega⟩
        have x4 : ixb (J (R : Int)) 200 = true := ixb_J (by omega) (by omega) (by decide)
        have y4 : ix (J (R : Int)) = R := by rw [ix_J (by omega) (by omega)]; omega
        rw [J_sub, show (N : Int) - i = ((N - i : Nat) : Int) by omega, d1, d2, b2s, b2s]
        have hIs := InvB_s (d := d') hI hd2
        have hhs := rHall_s (d := d') hh
        obtain ⟨S', f1, f2, f3⟩ := c_front (i := i) (r := R) (S := sC SC d') (by omega)
        obtain ⟨T', s1, s2, s3⟩ := m_shift (n := N - i) (k := R) (S := sM SM d') (v2 := J p) (v6 := J how) (v7 := acc) (v10 := gI (sM SM d') 14 R) (by omega) (by omega)
        obtain ⟨l1, l2, l3⟩ := hl R (by omega)
        have ex : gI (sM SM d') 14 R = J (iI SM 14 R) := by rw [sM_o (by omega), gI_J]
        obtain ⟨rr, r', S2, T2, SC', SM', q1, q2, q3, q4, q5⟩ := go S' T' (iI SM 14 R) (InvB_l hIs (fr_w f2 (fun _ _ z => Or.inr z)) s2) (rHall_l hhs (fr_w f2 (fun _ _ z => Or.inr z)) s2) (by rw [f2.1 _ 0 (by omega), sC_o (by omega)]; exact hhow) (by rw [fr_cnt s2 (by omega) (by omega), sM_cnt]; exact hp) (by unfold bkn; rw [fr_i s2 (by omega), sM_i (by omega)]) ⟨l2, l3⟩ (by rw [f3 i (by omega), if_pos rfl, sC_o (by omega), l1, gI_J]) (fun j hj => by
          have e14 : gI T' 14 j = if j < R then gI SM 14 j else gI SM 14 (j + 1) := by
            rw [s3 j (by omega)]
            split
            · exact sM_o (by omega)
            · exact sM_o (by omega)
          rw [f3 (i + 1 + j) (by omega), if_neg (by omega), e14]
          by_cases z : j < R
          · obtain ⟨w1, w2, w3⟩ := hl j (by omega)
            rw [if_pos (by omega), sC_o (by omega), show i + 1 + j - 1 = i + j by omega, if_pos z, iI_c (e14.trans (if_pos z))]
            exact ⟨w1, w2, w3⟩
          · obtain ⟨w1, w2, w3⟩ := hl (j + 1) (by omega)
            rw [if_neg (by omega), sC_o (by omega), show i + 1 + j = i + (j + 1) by omega, if_neg z, iI_c (e14.trans (if_neg z))]
            exact ⟨w1, w2, w3⟩)
        have w1 : pI SC 0 11 (J d') = sC SC d' := rfl
        have w2 : pI SM 0 20 (J d') = sM SM d' := rfl
        rw [w1, w2, J_add, show (i : Int) + R = ((i + R : Nat) : Int) by omega, f1, b1s, x4, ckt, y4, s1, b1s, ex, q2, b2s]
        unfold gX11_run_J116
        simp only [J_0, J_1, J_2, J_3, J_4, J_5, J_6, J_7, J_8, J_9, J_10, J_11, J_12, J_14, J_15, J_16, J_19, J_20, J_21, J_22, J_23, J_24, J_25, J_28, J_30, J_31, J_32, J_40, J_44, J_47, J_48, J_49, J_50, J_53, J_54, J_57, J_59, J_74, J_75, J_78, J_84, J_97, J_99, J_100, J_120, J_122, J_126, J_132, J_138, J_144, J_150, J_156, J_162, J_198, J_200, J_202, J_206, J_210, J_214, J_218, J_222, J_226, J_230, J_234, J_238, J_239, J_240, J_241, J_242, J_243, J_255, J_263, J_283, J_303, J_399, J_400, J_401, J_463, J_700, J_701, J_999, J_1000, J_2048, J_4095, J_4096, J_6000, J_9999, J_10000, J_65536, J_65537, J_2147483647, J_neg]
        rw [x3, ckt, y3, q1, b2s, lmr, un3s]
        exact ⟨rr, SC', SM', q3, q4, q5⟩
      · rw [if_neg e2, if_neg e2, x3, ckt, y3, show ixb (J 0) 200 = true by decide, ckt, show ix (J 0) = 0 by decide]
        obtain ⟨T', s1, s2, s3⟩ := m_shift (n := N - i) (k := 0) (S := SM) (v2 := J p) (v6 := J how) (v7 := acc) (v10 := gI SM 14 0) (by omega) (by omega)
        rw [show (((0 : Nat) : Int)) = 0 from rfl] at s1
        obtain ⟨l1, l2, l3⟩ := hl 0 (by omega)
        obtain ⟨rr, r', S2, T2, SC', SM', q1, q2, q3, q4, q5⟩ := go SC T' (iI SM 14 0) (InvB_l hI fr_r s2) (rHall_l hh fr_r s2) hhow (by rw [fr_cnt s2 (by omega) (by omega)]; exact hp) (by unfold bkn; rw [fr_i s2 (by omega)]) ⟨l2, l3⟩ (by rw [← gI_J]; exact l1) (fun j hj => by
          obtain ⟨w1, w2, w3⟩ := hl (j + 1) (by omega)
          have e14 : gI T' 14 j = gI SM 14 (j + 1) := by rw [s3 j (by omega), if_neg (by omega)]
          rw [e14, iI_c e14, show i + 1 + j = i + (j + 1) by omega]
          exact ⟨w1, w2, w3⟩)
        rw [s1, b1s, gI_J SM 14 0, q2, b2s, q1, b2s]
        exact ⟨rr, SC', SM', q3, q4, q5⟩
theorem st_run (h : Inv SC SM t) (ht : t < 512) (x1 x2 : Int32) : stp (gX11_run SC x1 x2) (gX12_run SM x1 x2) t := by
  have hInv := h
  have hB := h.2.2.1
  obtain ⟨⟨H, hh⟩, -⟩ := h
  obtain ⟨n, rfl, n1, n2⟩ := J_of x1
  obtain ⟨p, rfl, p1, p2⟩ := J_of x2
  have hg := rHall_q hh fr_r (fmgd (S := SM))
  have hg' := hg
  obtain ⟨⟨hH, hr, -⟩, ⟨-, m0, k0, -⟩, ⟨-, c0, e0, -⟩, -, -, hpl, -⟩ := hg'
  have a1 := c_isSayer p1 p2 hH hr c0 m0
  have b1' := m_isSayer (S := mgd SM) p1 p2 m0
  have a2 := c_isPlan n1 n2 hH hr e0 k0
  have no1 : ∀ X Y, X = (some (J (-1), cps SC 1) : Option (Int32 × zM)) → Y = some (J (-1), mno SM 1) → stp X Y t := fun X Y hX hY => ⟨_, _, _, hX, hY, Inv_w hInv fr_cps (by decide) cps_12⟩
  have x0 : ixb (J 240) 463 = true := by decide
  have y0 : ix (J 240) = 240 := by decide
  unfold gX11_run gX12_run gX11_run_J22
  simp only [J_0, J_1, J_2, J_3, J_4, J_5, J_6, J_7, J_8, J_9, J_10, J_11, J_12, J_14, J_15, J_16, J_19, J_20, J_21, J_22, J_23, J_24, J_25, J_28, J_30, J_31, J_32, J_40, J_44, J_47, J_48, J_49, J_50, J_53, J_54, J_57, J_59, J_74, J_75, J_78, J_84, J_97, J_99, J_100, J_120, J_122, J_126, J_132, J_138, J_144, J_150, J_156, J_162, J_198, J_200, J_202, J_206, J_210, J_214, J_218, J_222, J_226, J_230, J_234, J_238, J_239, J_240, J_241, J_242, J_243, J_255, J_263, J_283, J_303, J_399, J_400, J_401, J_463, J_700, J_701, J_999, J_1000, J_2048, J_4095, J_4096, J_6000, J_9999, J_10000, J_65536, J_65537, J_2147483647, J_neg, m_good, ckt, b1s, b2s, lts, un2s, un3s, un4s, un5s, lmr, lml, lgr, lgl, a1, b1', a2, iB0, m_no, c_passes0, c_passesN (w := 1) (by decide), x0, y0]
  rw [gI_J (mgd SM) 3 240, J_sub]
  by_cases e1 : 0 ≤ n ∧ n < cnt (mgd SM) 2
  · have hr14 : ¬ gI (mgd SM) 0 14 = J 0 := by
      intro z
      have : cnt (mgd SM) 2 = 0 := if_pos z
      omega
    have hc2 : cnt (mgd SM) 2 = iI (mgd SM) 3 240 := if_neg hr14
    rw [if_pos e1, if_neg hr14, m_within n1 n2 (by decide) (by decide) (by omega) (by omega), b1s, iB0, if_pos (show 0 ≤ n ∧ n ≤ iI (mgd SM) 3 240 - 1 by omega)]
    by_cases e2 : 0 ≤ p ∧ p < cnt (mgd SM) 1
    · rw [if_pos e2, if_pos e2, if_neg (show ¬ J 1 = J 0 by decide)]
      obtain ⟨P, rfl⟩ : ∃ P : Nat, p = P := ⟨p.toNat, by omega⟩
      obtain ⟨n', rfl⟩ : ∃ n' : Nat, n = n' := ⟨n.toNat, by omega⟩
      have hg1 := rHall_q hh (fcps (S := SC) (w := 0)) (fmgd (S := SM))
      have hn4 : n' < 4 := by omega
      obtain ⟨⟨i0, i1, i2, i3, i4⟩, r0, r1, r2, r3, r4⟩ := hg1.2.2.2.2.2.1 n' e1.2
      rw [gI_J (mgd SM)] at r0 r1 r2 r3 r4
      have tr := c_trials r1 r2 r3 r4 i1.1 i1.2.1 i1.2.2 i2
      obtain ⟨s1, s2, s3⟩ := plS_b i1.1 i1.2.1 i1.2.2 i2.1
      have hN0 : 0 ≤ plS (iI (mgd SM) 3 (202 + n')) (iI (mgd SM) 3 (206 + n')) (iI (mgd SM) 3 (210 + n')) * iI (mgd SM) 3 (214 + n') := Int.mul_nonneg (by omega) (by omega)
      have hN1 : plS (iI (mgd SM) 3 (202 + n')) (iI (mgd SM) 3 (206 + n')) (iI (mgd SM) 3 (210 + n')) * iI (mgd SM) 3 (214 + n') ≤ 200 := i4
      have x1 : ixb (J (n' : Int)) 4 = true := ixb_J (by omega) (by omega) (by decide)
      have y1 : ix (J (n' : Int)) = n' := by rw [ix_J (by omega) (by omega)]; omega
      have xa : ∀ k : Nat, k ≤ 214 → ixb (J ((k : Int) + n')) 463 = true := fun k hk => ixb_J (by omega) (by omega) (by decide)
      have ya : ∀ k : Nat, k ≤ 214 → ix (J ((k : Int) + n')) = k + n' := fun k hk => by rw [ix_J (by omega) (by omega)]; omega
      have x202 := xa 202 (by decide)
      have x206 := xa 206 (by decide)
      have x210 := xa 210 (by decide)
      have x214 := xa 214 (by decide)
      have x198 := xa 198 (by decide)
      have y202 := ya 202 (by decide)
      have y206 := ya 206 (by decide)
      have y210 := ya 210 (by decide)
      have y214 := ya 214 (by decide)
      have y198 := ya 198 (by decide)
      rw [show (((202 : Nat)) : Int) = 202 from rfl] at x202 y202
      rw [show (((206 : Nat)) : Int) = 206 from rfl] at x206 y206
      rw [show (((210 : Nat)) : Int) = 210 from rfl] at x210 y210
      rw [show (((214 : Nat)) : Int) = 214 from rfl] at x214 y214
      rw [show (((198 : Nat)) : Int) = 198 from rfl] at x198 y198
      have g202 := gI_J (mgd SM) 3 (202 + n')
      have g206 := gI_J (mgd SM) 3 (206 + n')
      have g210 := gI_J (mgd SM) 3 (210 + n')
      have g214 := gI_J (mgd SM) 3 (214 + n')
      have g198 := gI_J (mgd SM) 3 (198 + n')
      have hB2 := rBook_q hB (fcps (S := SC) (w := 0)) (fmgd (S := SM))
      obtain ⟨w1, w2, w3⟩ := bkn_e hB2
      have dv : J (iI (mgd SM) 3 (206 + n') - iI (mgd SM) 3 (202 + n')) / J (iI (mgd SM) 3 (210 + n')) = J ((iI (mgd SM) 3 (206 + n') - iI (mgd SM) 3 (202 + n')) / iI (mgd SM) 3 (210 + n')) := J_div (by omega) (by omega) (by omega) (by omega)
      have pl : (iI (mgd SM) 3 (206 + n') - iI (mgd SM) 3 (202 + n')) / iI (mgd SM) 3 (210 + n') + 1 = plS (iI (mgd SM) 3 (202 + n')) (iI (mgd SM) 3 (206 + n')) (iI (mgd SM) 3 (210 + n')) := rfl
      have R8 : gR (cps SC 0) 0 8 = H := hg1.1.2.1
      simp only [J_neg, J_add, J_sub, J_mul, R8, zb3 hH, ckt, b1s, b2s, lts, un2s, un3s, un4s, un5s, lmr, lml, lgr, lgl, x1, y1, tr, x202, y202, x206, y206, x210, y210, x214, y214, x198, y198, g202, g206, g210, g214, g198, dnz (a := iI (mgd SM) 3 (210 + n')) (by omega) (by omega) (by omega), dv, pl, w1]
      generalize hNN : plS (iI (mgd SM) 3 (202 + n')) (iI (mgd SM) 3 (206 + n')) (iI (mgd SM) 3 (210 + n')) * iI (mgd SM) 3 (214 + n') = NI at hN0 hN1
      obtain ⟨N, rfl⟩ : ∃ N : Nat, NI = N := ⟨NI.toNat, by omega⟩
      generalize hn : bkn (mgd SM) = nb at w1 w2 w3
      rw [jmin_J (by omega) (by omega) (by decide) (by decide), Int.min_eq_left hN1, c_whyNoRoom w2 w3 (by omega), b1s, iLE (by omega) (by omega) (by decide) (by decide)]
      by_cases e5 : (nb : Int) + N ≤ 1000
      · rw [if_pos e5, if_pos e5, c_passes0, b2s, if_neg (show ¬ J 1 = J 0 by decide)]
        have hI := InvB_0 hInv (cps_2 (S := SC) (v := 0) (w := 0)) cps_12
        have hg3 := rHall_q hh (fr456q (cps_2 (S := SC) (v := 0) (w := 0))) (fmgd (S := SM))
        have t0 : gI (cps (cps SC 0) 0) (H + 205 + 1 * n') 0 = J (iI (mgd SM) 3 (198 + n')) := (cps_o (by omega)).trans r0
        have t1 : gI (cps (cps SC 0) 0) (H + 205 + 1 * n') 1 = J (iI (mgd SM) 3 (202 + n')) := (cps_o (by omega)).trans r1
        have t2 : gI (cps (cps SC 0) 0) (H + 205 + 1 * n') 2 = J (iI (mgd SM) 3 (206 + n')) := (cps_o (by omega)).trans r2
        have t3 : gI (cps (cps SC 0) 0) (H + 205 + 1 * n') 3 = J (iI (mgd SM) 3 (210 + n')) := (cps_o (by omega)).trans r3
        have t4 : gI (cps (cps SC 0) 0) (H + 205 + 1 * n') 4 = J (iI (mgd SM) 3 (214 + n')) := (cps_o (by omega)).trans r4
        obtain ⟨S', T', l1, l2, l3, l4, l5⟩ := lay_L (p := P) (n := n') (by omega) hn4 t0 t1 t2 t3 t4 g202 g210 i0 i1.1 i1.2.1 i1.2.2 i2 i3 (by rw [hNN]; exact hN1) FU 0 _ _ (by rw [hNN]; omega) (by have := FUs (n := 202) (by omega); omega) fr_r fr_r (fun k hk => by omega)
        rw [hNN] at l2 l5
        have fS : fr (fun q _ => q = 456 ∨ q = 239) (cps (cps SC 0) 0) S' := fr_w l3 (fun _ _ z => Or.inr z)
        have hcnt : cnt T' 1 = cnt (mgd SM) 1 := fr_cnt l4 (by omega) (by omega)
        have hbk : bkn T' = nb := by unfold bkn at hn ⊢; rw [fr_i l4 (by omega)]; exact hn
        obtain ⟨r, SC', SM', q1, q2, q3⟩ := run_L (H := H) (p := P) (t := t + 1) (N := N) (P := n') (q0 := 0) (by omega) (by omega) i0 FU 0 (4095 + 1000 * t) S' T' (J 0) (Nat.zero_le N) (by have := FUs (n := 202) (by omega); omega) (InvB_l hI fS l4) (rHall_l hg3 fS l4) (by rw [l3.1 _ 0 (by omega)]; exact t0) hn4 (by omega) (by rw [hcnt]; exact e2.2) (by rw [hbk]; omega) (fun j hj => by
          obtain ⟨u1, u2⟩ := l5 j (by omega)
          have hb := plX_b (how := iI (mgd SM) 3 (198 + n')) i1.1 i1.2.1 i1.2.2 i2.1 i3.1 (show 0 ≤ (j : Int) by omega) (by rw [hNN]; omega)
          rw [Nat.zero_add, u1, u2, iI_of u2 (by omega) (by omega)]
          exact ⟨rfl, hb.1, hb.2⟩)
        have ly : gX6_layOut (cps (cps SC 0) 0) (H + 205 + 1 * n') = some S' := by
          unfold gX6_layOut
          simp only [J_0, J_1, J_2, J_3, J_4, J_5, J_6, J_7, J_8, J_9, J_10, J_11, J_12, J_14, J_15, J_16, J_19, J_20, J_21, J_22, J_23, J_24, J_25, J_28, J_30, J_31, J_32, J_40, J_44, J_47, J_48, J_49, J_50, J_53, J_54, J_57, J_59, J_74, J_75, J_78, J_84, J_97, J_99, J_100, J_120, J_122, J_126, J_132, J_138, J_144, J_150, J_156, J_162, J_198, J_200, J_202, J_206, J_210, J_214, J_218, J_222, J_226, J_230, J_234, J_238, J_239, J_240, J_241, J_242, J_243, J_255, J_263, J_283, J_303, J_399, J_400, J_401, J_463, J_700, J_701, J_999, J_1000, J_2048, J_4095, J_4096, J_6000, J_9999, J_10000, J_65536, J_65537, J_2147483647, J_neg]
          exact l1
        rw [ly, b1s]
        rw [show ((0 : Nat) : Int) = 0 from rfl] at l2 q1
        rw [Nat.sub_zero] at q2
        rw [l2, b1s]
        exact ⟨r, SC', SM', q1, q2, Inv_of q3 (by omega)⟩
      · rw [if_neg e5, if_neg e5, c_passesN (by decide), b2s, if_pos rfl]
        exact ⟨_, _, _, rfl, rfl, Inv_w hInv cps_2 (by decide) cps_12⟩
    · rw [if_neg e2, if_neg e2, if_pos trivial]
      exact no1 _ _ rfl rfl
  · rw [if_neg e1, if_pos trivial]
    refine no1 _ _ rfl ?_
    by_cases z : gI (mgd SM) 0 14 = J 0
    · rw [if_pos z]
    · have hc2 : cnt (mgd SM) 2 = iI (mgd SM) 3 240 := if_neg z
      rw [if_neg z, m_within n1 n2 (by decide) (by decide) (by omega) (by omega), b1s, iB0, if_neg (show ¬ (0 ≤ n ∧ n ≤ iI (mgd SM) 3 240 - 1) by omega)]
end
