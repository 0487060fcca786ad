/-! fits, fitAt, verdict. -/
def vOf (w : Int) (s i j : Nat) : Int := if w = 0 then s else if w = 1 then (i : Int) - 10 else (j : Int) - 5
section
variable {B C M : zM} {H N s i : Nat} {p g k w : Int}
theorem m_at_n (h6 : F26 B M p (21 * N)) (hs : s < N) (hN : N ≤ 6) (hi : i < 21) (no : ¬ lA B p s i) {v2 v3 v4 : Int32} : ∀ n j, j ≤ 11 → 11 < n + j → gX12_fitAt_L78 M v2 v3 (J s) (J i) n v4 (J ((j : Nat) : Int)) = some (.inr v4) := by
  intro n
  induction n with
  | zero => intro j g1 g2; omega
  | succ n ih =>
    intro j g1 g2
    unfold gX12_fitAt_L78
    simp only [J_0, J_1, J_2, J_3, J_4, J_5, J_6, J_7, J_8, J_9, J_10, J_11, J_12, J_14, J_15, J_16, J_19, J_20, J_21, J_22, J_23, J_24, J_25, J_28, J_30, J_31, J_32, J_40, J_44, J_47, J_48, J_49, J_50, J_53, J_54, J_57, J_59, J_74, J_75, J_78, J_84, J_97, J_99, J_100, J_120, J_122, J_126, J_132, J_138, J_144, J_150, J_156, J_162, J_198, J_200, J_202, J_206, J_210, J_214, J_218, J_222, J_226, J_230, J_234, J_238, J_239, J_240, J_241, J_242, J_243, J_255, J_263, J_283, J_303, J_399, J_400, J_401, J_463, J_700, J_701, J_999, J_1000, J_2048, J_4095, J_4096, J_6000, J_9999, J_10000, J_65536, J_65537, J_2147483647, J_neg, J_neg, J_add, J_sub, J_mul]
    rw [iLE (by decide) (by decide) (by omega) (by omega)]
    by_cases e : j = 11
    · rw [if_pos (by omega)]
    · have f6 := flg_0 (h6 s i hi (by omega)) no
      rw [if_neg (by omega), ixb_J (by omega) (by omega) (by decide), ckt, ix_J (by omega) (by omega), show (21 * (s : Int) + i).toNat = 21 * s + i by omega, if_pos f6, show (j : Int) + 1 = ((j + 1 : Nat) : Int) by omega]
      exact ih (j + 1) (by omega) (by omega)
theorem m_at_y (h6 : F26 B M p (21 * N)) (h7 : F27 B M p g (11 * N)) (hs : s < N) (hN : N ≤ 6) (hi : i < 21) (yes : lA B p s i) (hw : 0 ≤ w ∧ w ≤ 2) (hk : -2147483648 ≤ k ∧ k ≤ 2147483647) {acc : Nat} (ha : acc ≤ 5000) : ∀ n j, j ≤ 11 → 11 < n + j → (¬ (((acc + cn (lQ B p s g) j : Nat) : Int) ≤ k ∧ k < ((acc + cn (lQ B p s g) 11 : Nat) : Int)) ∧ gX12_fitAt_L78 M (J k) (J w) (J s) (J i) n (J ((acc + cn (lQ B p s g) j : Nat) : Int)) (J ((j : Nat) : Int)) = some (.inr (J ((acc + cn (lQ B p s g) 11 : Nat) : Int)))) ∨ ∃ j', j' < 11 ∧ lQ B p s g j' ∧ k = ((acc + cn (lQ B p s g) j' : Nat) : Int) ∧ gX12_fitAt_L78 M (J k) (J w) (J s) (J i) n (J ((acc + cn (lQ B p s g) j : Nat) : Int)) (J ((j : Nat) : Int)) = some (.inl (J (vOf w s i j'), M)) := by
  intro n
  induction n with
  | zero => intro j g1 g2; omega
  | succ n ih =>
    intro j g1 g2
    unfold gX12_fitAt_L78
    simp only [J_0, J_1, J_2, J_3, J_4, J_5, J_6, J_7, J_8, J_9, J_10, J_11, J_12, J_14, J_15, J_16, J_19, J_20, J_21, J_22, J_23, J_24, J_25, J_28, J_30, J_31, J_32, J_40, J_44, J_47, J_48, J_49, J_50, J_53, J_54, J_57, J_59, J_74, J_75, J_78, J_84, J_97, J_99, J_100, J_120, J_122, J_126, J_132, J_138, J_144, J_150, J_156, J_162, J_198, J_200, J_202, J_206, J_210, J_214, J_218, J_222, J_226, J_230, J_234, J_238, J_239, J_240, J_241, J_242, J_243, J_255, J_263, J_283, J_303, J_399, J_400, J_401, J_463, J_700, J_701, J_999, J_1000, J_2048, J_4095, J_4096, J_6000, J_9999, J_10000, J_65536, J_65537, J_2147483647, J_neg, J_neg, J_add, J_sub, J_mul]
    rw [iLE (by decide) (by decide) (by omega) (by omega)]
    by_cases e : j = 11
    · subst e
      rw [if_pos (by omega)]
      exact Or.inl ⟨by omega, rfl⟩
    · have f6 := flg_1 (h6 s i hi (by omega)) yes
      have f7 := h7 s j (by omega) (by omega)
      have hc := cn_le (A := lQ B p s g) j
      rw [if_neg (by omega), ixb_J (by omega) (by omega) (by decide), ckt, ix_J (by omega) (by omega), show (21 * (s : Int) + i).toNat = 21 * s + i by omega, f6, if_neg (by decide), ixb_J (by omega) (by omega) (by decide), ckt, ix_J (by omega) (by omega), show (11 * (s : Int) + j).toNat = 11 * s + j by omega, show (j : Int) + 1 = ((j + 1 : Nat) : Int) by omega, iEQ (by omega) (by omega) hk.1 hk.2, iEQ (by omega) (by omega) (by decide) (by decide), iEQ (by omega) (by omega) (by decide) (by decide)]
      by_cases z : lQ B p s g j
      · have lt := cn_lt z (show j < 11 by omega)
        rw [if_neg (show ¬ gI M 27 (11 * s + j) = J 0 by rw [flg_1 f7 z]; decide)]
        by_cases y : ((acc + cn (lQ B p s g) j : Nat) : Int) = k
        · rw [if_pos y]
          refine Or.inr ⟨j, by omega, z, y.symm, ?_⟩
          unfold vOf
          by_cases w0 : w = 0
          · rw [if_pos w0, if_pos w0]
          · rw [if_neg w0, if_neg w0]
            by_cases w1 : w = 1
            · rw [if_pos w1, if_pos w1]
            · rw [if_neg w1, if_neg w1]
        · have := ih (j + 1) (by omega) (by omega)
          rw [cn_y z] at this
          rw [if_neg y, show ((acc + cn (lQ B p s g) j : Nat) : Int) + 1 = ((acc + (cn (lQ B p s g) j + 1) : Nat) : Int) by omega]
          rcases this with ⟨t1, t2⟩ | t
          · exact Or.inl ⟨by omega, t2⟩
          · exact Or.inr t
      · have := ih (j + 1) (by omega) (by omega)
        rw [cn_n z] at this
        rw [if_pos (flg_0 f7 z)]
        exact this
theorem m_at_68 (h6 : F26 B M p (21 * N)) (h7 : F27 B M p g (11 * N)) (hs : s < N) (hN : N ≤ 6) (hw : 0 ≤ w ∧ w ≤ 2) (hk : -2147483648 ≤ k ∧ k ≤ 2147483647) {acc : Nat} (ha : acc ≤ 2000) : ∀ n i, i ≤ 21 → 21 < n + i → (¬ (((acc + cn (lA B p s) i * cn (lQ B p s g) 11 : Nat) : Int) ≤ k ∧ k < ((acc + fts B p g s : Nat) : Int)) ∧ gX12_fitAt_L68 M (J k) (J w) (J s) n (J ((acc + cn (lA B p s) i * cn (lQ B p s g) 11 : Nat) : Int)) (J ((i : Nat) : Int)) = some (.inr (J ((acc + fts B p g s : Nat) : Int)))) ∨ ∃ i' j', i' < 21 ∧ lA B p s i' ∧ j' < 11 ∧ lQ B p s g j' ∧ k = ((acc + cn (lA B p s) i' * cn (lQ B p s g) 11 + cn (lQ B p s g) j' : Nat) : Int) ∧ gX12_fitAt_L68 M (J k) (J w) (J s) n (J ((acc + cn (lA B p s) i * cn (lQ B p s g) 11 : Nat) : Int)) (J ((i : Nat) : Int)) = some (.inl (J (vOf w s i' j'), M)) := by
  have hf := FUs (n := 30) (by omega)
  intro n
  induction n with
  | zero => intro j g1 g2; omega
  | succ n ih =>
    intro i g1 g2
    unfold gX12_fitAt_L68
    simp only [J_0, J_1, J_2, J_3, J_4, J_5, J_6, J_7, J_8, J_9, J_10, J_11, J_12, J_14, J_15, J_16, J_19, J_20, J_21, J_22, J_23, J_24, J_25, J_28, J_30, J_31, J_32, J_40, J_44, J_47, J_48, J_49, J_50, J_53, J_54, J_57, J_59, J_74, J_75, J_78, J_84, J_97, J_99, J_100, J_120, J_122, J_126, J_132, J_138, J_144, J_150, J_156, J_162, J_198, J_200, J_202, J_206, J_210, J_214, J_218, J_222, J_226, J_230, J_234, J_238, J_239, J_240, J_241, J_242, J_243, J_255, J_263, J_283, J_303, J_399, J_400, J_401, J_463, J_700, J_701, J_999, J_1000, J_2048, J_4095, J_4096, J_6000, J_9999, J_10000, J_65536, J_65537, J_2147483647, J_neg, J_neg, J_add, J_sub, J_mul]
    rw [iLE (by decide) (by decide) (by omega) (by omega)]
    have e11 : fts B p g s = cn (lA B p s) 21 * cn (lQ B p s g) 11 := fts_e
    by_cases e : i = 21
    · subst e
      rw [if_pos (by omega), ← e11]
      exact Or.inl ⟨by omega, rfl⟩
    · have i1 := ih (i + 1) (by omega) (by omega)
      have c1 := cn_le (A := lA B p s) i
      have c2 := cn_le (A := lQ B p s g) 11
      have c3 : cn (lA B p s) i * cn (lQ B p s g) 11 ≤ 21 * 11 := Nat.mul_le_mul (by omega) c2
      rw [if_neg (by omega), show (i : Int) + 1 = ((i + 1 : Nat) : Int) by omega, show J 0 = J ((0 : Nat) : Int) from rfl]
      by_cases z : lA B p s i
      · rw [cn_y z, Nat.succ_mul, ← Nat.add_assoc] at i1
        have mo : cn (lA B p s) (i + 1) * cn (lQ B p s g) 11 ≤ cn (lA B p s) 21 * cn (lQ B p s g) 11 := Nat.mul_le_mul_right _ (cn_mono 21 (i + 1) (by omega))
        rw [cn_y z, Nat.succ_mul] at mo
        have := m_at_y (i := i) h6 h7 hs hN (by omega) z hw hk (acc := acc + cn (lA B p s) i * cn (lQ B p s g) 11) (by omega) FU 0 (by omega) (by omega)
        rw [show cn (lQ B p s g) 0 = 0 from rfl, Nat.add_zero] at this
        rcases this with ⟨t1, t2⟩ | ⟨j', t1, t2, t3, t4⟩
        · rw [t2, lgr]
          rcases i1 with ⟨u1, u2⟩ | u
          · exact Or.inl ⟨by omega, u2⟩
          · exact Or.inr u
        · rw [t4, lgl]
          exact Or.inr ⟨i, j', by omega, z, t1, t2, t3, rfl⟩
      · rw [cn_n z] at i1
        rw [m_at_n h6 hs hN (by omega) z FU 0 (by omega) (by omega), lgr]
        exact i1
/-- what is found in the class' lists -/
theorem c_fitLS {a b : Nat} (h : jF B C p g s) (hs : s < 6) (ha : a < 21) (hb : b < 11) (yA : lA B p s a) (yQ : lQ B p s g b) : gX2_fitLine C (J s) (J ((cn (lA B p s) a * cn (lQ B p s g) 11 + cn (lQ B p s g) b : Nat) : Int)) = some (J ((a : Int) - 10)) ∧ gX2_fitSecond C (J s) (J ((cn (lA B p s) a * cn (lQ B p s g) 11 + cn (lQ B p s g) b : Nat) : Int)) = some (J ((b : Int) - 5)) := by
  have ht := fts_b (B := B) (p := p) (g := g) (s := s)
  have l1 : cn (lA B p s) a < nL B p s := cn_lt yA ha
  have l2 : cn (lQ B p s g) b < cn (lQ B p s g) 11 := cn_lt yQ hb
  have l3 : nL B p s ≤ 21 := cn_le 21
  have l4 := cn_le (A := lQ B p s g) 11
  have n0 : nL B p s ≠ 0 := by omega
  have eq : nQ B p g s = cn (lQ B p s g) 11 := by unfold nQ; rw [if_neg n0]
  have e9 := h.2.2.1 a ha yA
  have e10 := h.2.2.2 n0 b hb yQ
  have e2 := h.2.1
  rw [eq] at e2
  have lt : cn (lA B p s) a * cn (lQ B p s g) 11 + cn (lQ B p s g) b < fts B p g s := by
    rw [fts_e]
    have : (cn (lA B p s) a + 1) * cn (lQ B p s g) 11 ≤ nL B p s * cn (lQ B p s g) 11 := Nat.mul_le_mul_right _ (by omega)
    rw [Nat.succ_mul] at this
    omega
  have dv : (cn (lA B p s) a * cn (lQ B p s g) 11 + cn (lQ B p s g) b) / cn (lQ B p s g) 11 = cn (lA B p s) a := by
    rw [Nat.add_comm, Nat.add_mul_div_right _ _ (by omega), Nat.div_eq_of_lt l2]
    omega
  have fo := c_fitsOf h hs
  have x2 : ixb (J (s : Int)) 6 = true := ixb_J (by omega) (by omega) (by decide)
  have y2 : ix (J (s : Int)) = s := by rw [ix_J (by omega) (by omega)]; omega
  have nz : decide (¬ J ((cn (lQ B p s g) 11 : Nat) : Int) = J 0) = true := dnz (by omega) (by omega) (by omega)
  generalize hX : cn (lA B p s) a * cn (lQ B p s g) 11 = X at lt dv ⊢
  have dI : J ((X + cn (lQ B p s g) b : Nat) : Int) / J ((cn (lQ B p s g) 11 : Nat) : Int) = J (cn (lA B p s) a : Nat) := by
    rw [J_div (by omega) (by omega) (by omega) (by omega)]
    congr 1
    rw [← dv]
    rfl
  have XI : ((X + cn (lQ B p s g) b : Nat) : Int) - (cn (lA B p s) a : Int) * (cn (lQ B p s g) 11 : Int) = (cn (lQ B p s g) b : Nat) := by
    have : (cn (lA B p s) a : Int) * (cn (lQ B p s g) 11 : Int) = (X : Nat) := by rw [← hX]; rfl
    rw [this]
    omega
  constructor
  · unfold gX2_fitLine
    simp only [J_0, J_1, J_2, J_3, J_4, J_5, J_6, J_7, J_8, J_9, J_10, J_11, J_12, J_14, J_15, J_16, J_19, J_20, J_21, J_22, J_23, J_24, J_25, J_28, J_30, J_31, J_32, J_40, J_44, J_47, J_48, J_49, J_50, J_53, J_54, J_57, J_59, J_74, J_75, J_78, J_84, J_97, J_99, J_100, J_120, J_122, J_126, J_132, J_138, J_144, J_150, J_156, J_162, J_198, J_200, J_202, J_206, J_210, J_214, J_218, J_222, J_226, J_230, J_234, J_238, J_239, J_240, J_241, J_242, J_243, J_255, J_263, J_283, J_303, J_399, J_400, J_401, J_463, J_700, J_701, J_999, J_1000, J_2048, J_4095, J_4096, J_6000, J_9999, J_10000, J_65536, J_65537, J_2147483647, J_neg]
    rw [iLT (by omega) (by omega) (by decide) (by decide), if_neg (by omega), fo, b1s, iLT (by omega) (by omega) (by omega) (by omega), if_pos (by omega), x2, ckt, y2, e2, nz, ckt, dI, J_mul, J_add, ixb_J (by omega) (by omega) (by decide), ckt, ix_J (by omega) (by omega), show ((s : Int) * 21 + (cn (lA B p s) a : Nat)).toNat = 21 * s + cn (lA B p s) a by omega, e9]
  · unfold gX2_fitSecond
    simp only [J_0, J_1, J_2, J_3, J_4, J_5, J_6, J_7, J_8, J_9, J_10, J_11, J_12, J_14, J_15, J_16, J_19, J_20, J_21, J_22, J_23, J_24, J_25, J_28, J_30, J_31, J_32, J_40, J_44, J_47, J_48, J_49, J_50, J_53, J_54, J_57, J_59, J_74, J_75, J_78, J_84, J_97, J_99, J_100, J_120, J_122, J_126, J_132, J_138, J_144, J_150, J_156, J_162, J_198, J_200, J_202, J_206, J_210, J_214, J_218, J_222, J_226, J_230, J_234, J_238, J_239, J_240, J_241, J_242, J_243, J_255, J_263, J_283, J_303, J_399, J_400, J_401, J_463, J_700, J_701, J_999, J_1000, J_2048, J_4095, J_4096, J_6000, J_9999, J_10000, J_65536, J_65537, J_2147483647, J_neg]
    rw [iLT (by omega) (by omega) (by decide) (by decide), if_neg (by omega), fo, b1s, iLT (by omega) (by omega) (by omega) (by omega), if_pos (by omega), x2, ckt, y2, e2, nz, ckt, dI, J_mul, J_mul, J_sub, XI, J_add, ixb_J (by omega) (by omega) (by decide), ckt, ix_J (by omega) (by omega), show ((s : Int) * 11 + (cn (lQ B p s g) b : Nat)).toNat = 11 * s + cn (lQ B p s g) b by omega, e10]
theorem tot_mono : ∀ N s, s ≤ N → tot B p g s ≤ tot B p g N := by
  intro N
  induction N with
  | zero => intro s h; rw [show s = 0 by omega]; exact Nat.le_refl _
  | succ N ih =>
    intro s h
    by_cases e : s = N + 1
    · rw [e]; exact Nat.le_refl _
    · have := ih s (by omega)
      show _ ≤ tot B p g N + fts B p g N
      omega
theorem at_L (hj : ∀ e, e < N → jF B C p g e) (h6 : F26 B M p (21 * N)) (h7 : F27 B M p g (11 * N)) (hN : N ≤ 6) (e238 : gI M 3 238 = J N) (hw : 0 ≤ w ∧ w ≤ 2) (hk : -2147483648 ≤ k ∧ k ≤ 2147483647) (kN : k < tot B p g N) : ∀ n s, s ≤ N → N < n + s → (tot B p g s : Int) ≤ k → ∃ r : Int32, gX11_fitAt_L86 C (J w) (J N) n (J (k - tot B p g s)) (J s) = some (r, C) ∧ gX12_fitAt_L52 M (J k) (J w) n (J (tot B p g s)) (J s) = some (r, M) := by
  have hf := FUs (n := 30) (by omega)
  intro n
  induction n with
  | zero => intro j g1 g2; omega
  | succ n ih =>
    intro s g1 g2 ks
    have hs : s < N := by
      by_cases e : s = N
      · rw [e] at ks; omega
      · omega
    have tb := tot_b (B := B) (p := p) (g := g) s
    have fb := fts_b (B := B) (p := p) (g := g) (s := s)
    have fo := c_fitsOf (hj s hs) (by omega)
    unfold gX11_fitAt_L86 gX12_fitAt_L52
    simp only [J_0, J_1, J_2, J_3, J_4, J_5, J_6, J_7, J_8, J_9, J_10, J_11, J_12, J_14, J_15, J_16, J_19, J_20, J_21, J_22, J_23, J_24, J_25, J_28, J_30, J_31, J_32, J_40, J_44, J_47, J_48, J_49, J_50, J_53, J_54, J_57, J_59, J_74, J_75, J_78, J_84, J_97, J_99, J_100, J_120, J_122, J_126, J_132, J_138, J_144, J_150, J_156, J_162, J_198, J_200, J_202, J_206, J_210, J_214, J_218, J_222, J_226, J_230, J_234, J_238, J_239, J_240, J_241, J_242, J_243, J_255, J_263, J_283, J_303, J_399, J_400, J_401, J_463, J_700, J_701, J_999, J_1000, J_2048, J_4095, J_4096, J_6000, J_9999, J_10000, J_65536, J_65537, J_2147483647, J_neg]
    rw [iLE (by omega) (by omega) (by omega) (by omega), if_neg (show ¬ (N : Int) ≤ s by omega), show ixb (J 238) 463 = true by decide, ckt, show ix (J 238) = 238 by decide, e238, iLE (by omega) (by omega) (by omega) (by omega), if_neg (show ¬ (N : Int) ≤ s by omega), fo, b1s, iLT (by omega) (by omega) (by omega) (by omega), b1s, J_sub, J_add, show (s : Int) + 1 = ((s + 1 : Nat) : Int) by omega, show J 0 = J ((0 : Nat) : Int) from rfl]
    have m6 := m_at_68 h6 h7 hs hN hw hk (acc := tot B p g s) (by omega) FU 0 (by omega) (by omega)
    rw [show cn (lA B p s) 0 = 0 from rfl, Nat.zero_mul, Nat.add_zero] at m6
    by_cases z : k - (tot B p g s : Int) < fts B p g s
    · rcases m6 with ⟨t1, -⟩ | ⟨a, b, t1, t2, t3, t4, t5, t6⟩
      · exact absurd (by omega) t1
      · obtain ⟨q1, q2⟩ := c_fitLS (hj s hs) (by omega) t1 t3 t2 t4
        rw [if_pos z, t6, lml, show k - (tot B p g s : Int) = ((cn (lA B p s) a * cn (lQ B p s g) 11 + cn (lQ B p s g) b : Nat) : Int) by rw [t5, Nat.add_assoc]; omega, q1, q2, b1s, b1s, iEQ (by omega) (by omega) (by decide) (by decide), iEQ (by omega) (by omega) (by decide) (by decide), show (((0 : Nat) : Int)) = 0 from rfl]
        refine ⟨_, ?_, rfl⟩
        unfold vOf
        by_cases w0 : w = 0
        · rw [if_pos w0, if_pos w0]
        · rw [if_neg w0, if_neg w0]
          by_cases w1 : w = 1
          · rw [if_pos w1, if_pos w1]
          · rw [if_neg w1, if_neg w1]
    · rcases m6 with ⟨t1, t2⟩ | ⟨a, b, t1, t2, t3, t4, t5, t6⟩
      · rw [if_neg z, t2, lmr]
        have := ih (s + 1) (by omega) (by omega) (by show ((tot B p g s + fts B p g s : Nat) : Int) ≤ k; omega)
        rw [show tot B p g (s + 1) = tot B p g s + fts B p g s from rfl] at this
        rw [show k - (tot B p g s : Int) - (fts B p g s : Int) = k - ((tot B p g s + fts B p g s : Nat) : Int) by omega]
        exact this
      · exfalso
        have l1 : cn (lA B p s) a < cn (lA B p s) 21 := cn_lt t2 t1
        have l2 : cn (lQ B p s g) b < cn (lQ B p s g) 11 := cn_lt t4 t3
        have : (cn (lA B p s) a + 1) * cn (lQ B p s g) 11 ≤ cn (lA B p s) 21 * cn (lQ B p s g) 11 := Nat.mul_le_mul_right _ (by omega)
        rw [Nat.succ_mul] at this
        have e11 : fts B p g s = cn (lA B p s) 21 * cn (lQ B p s g) 11 := fts_e
        omega
theorem m_at_out (h6 : F26 B M p (21 * N)) (h7 : F27 B M p g (11 * N)) (hN : N ≤ 6) (e238 : gI M 3 238 = J N) (hw : 0 ≤ w ∧ w ≤ 2) (hk : -2147483648 ≤ k ∧ k ≤ 2147483647) (kN : ¬ (0 ≤ k ∧ k < tot B p g N)) : ∀ n s, s ≤ N → N < n + s → gX12_fitAt_L52 M (J k) (J w) n (J (tot B p g s)) (J s) = some (J (-1000), pI M 0 11 (J 1)) := by
  have hf := FUs (n := 30) (by omega)
  intro n
  induction n with
  | zero => intro j g1 g2; omega
  | succ n ih =>
    intro s g1 g2
    have tb := tot_b (B := B) (p := p) (g := g) s
    have fb := fts_b (B := B) (p := p) (g := g) (s := s)
    unfold gX12_fitAt_L52
    simp only [J_0, J_1, J_2, J_3, J_4, J_5, J_6, J_7, J_8, J_9, J_10, J_11, J_12, J_14, J_15, J_16, J_19, J_20, J_21, J_22, J_23, J_24, J_25, J_28, J_30, J_31, J_32, J_40, J_44, J_47, J_48, J_49, J_50, J_53, J_54, J_57, J_59, J_74, J_75, J_78, J_84, J_97, J_99, J_100, J_120, J_122, J_126, J_132, J_138, J_144, J_150, J_156, J_162, J_198, J_200, J_202, J_206, J_210, J_214, J_218, J_222, J_226, J_230, J_234, J_238, J_239, J_240, J_241, J_242, J_243, J_255, J_263, J_283, J_303, J_399, J_400, J_401, J_463, J_700, J_701, J_999, J_1000, J_2048, J_4095, J_4096, J_6000, J_9999, J_10000, J_65536, J_65537, J_2147483647, J_neg]
    rw [show ixb (J 238) 463 = true by decide, ckt, show ix (J 238) = 238 by decide, e238, iLE (by omega) (by omega) (by omega) (by omega)]
    by_cases e : s = N
    · rw [if_pos (by omega), m_notR, b2s]
    · rw [if_neg (by omega), J_add, show (s : Int) + 1 = ((s + 1 : Nat) : Int) by omega, show J 0 = J ((0 : Nat) : Int) from rfl]
      have m6 := m_at_68 (s := s) h6 h7 (by omega) hN hw hk (acc := tot B p g s) (by omega) FU 0 (by omega) (by omega)
      rw [show cn (lA B p s) 0 = 0 from rfl, Nat.zero_mul, Nat.add_zero] at m6
      rcases m6 with ⟨t1, t2⟩ | ⟨a, b, t1, t2, t3, t4, t5, t6⟩
      · rw [t2, lmr]
        exact ih (s + 1) (by omega) (by omega)
      · exfalso
        have l1 : cn (lA B p s) a < cn (lA B p s) 21 := cn_lt t2 t1
        have l2 : cn (lQ B p s g) b < cn (lQ B p s g) 11 := cn_lt t4 t3
        have : (cn (lA B p s) a + 1) * cn (lQ B p s g) 11 ≤ cn (lA B p s) 21 * cn (lQ B p s g) 11 := Nat.mul_le_mul_right _ (by omega)
        rw [Nat.succ_mul] at this
        have e11 : fts B p g s = cn (lA B p s) 21 * cn (lQ B p s g) 11 := fts_e
        have mo := tot_mono (B := B) (p := p) (g := g) N (s + 1) (by omega)
        have e12 : tot B p g (s + 1) = tot B p g s + fts B p g s := rfl
        omega
end
section
variable {SC SM SC1 : zM} {H P t : Nat}
/-- all that fits, by both, where the sayer's book can be judged -/
theorem fit_both (jd : jdB SC1 (mgd SM) H) (hP : (P : Int) < cnt (mgd SM) 1) (nf : notFull (mgd SM) P) {M1 : zM} {m : Nat} (q2 : fr fLy (mgd SM) M1) (q5 : ∀ s : Nat, (s : Int) < cnt (mgd SM) 0 → mOK M1 (mgd SM) s m P) : ∃ (g : Int) (N : Nat) (C' M' : zM), N ≤ 6 ∧ cnt (mgd SM) 0 = N ∧ gX11_allFits SC1 (J P) = some (J (tot (mgd SM) P g N), C') ∧ jdB C' (mgd SM) H ∧ fr fJa SC1 C' ∧ (∀ e, e < N → jF (mgd SM) C' P g e) ∧ gX12_fit M1 (J P) = some M' ∧ fr fMj M1 M' ∧ F26 (mgd SM) M' P (21 * N) ∧ F27 (mgd SM) M' P g (11 * N) ∧ gI M' 3 238 = J N := by
  have p6 := jd.1.2.1.2.1
  have s6 := jd.1.2.1.1
  obtain ⟨g, g1, g2, g3⟩ := jd_g jd hP
  obtain ⟨N, hN⟩ : ∃ N : Nat, cnt (mgd SM) 0 = N := ⟨(cnt (mgd SM) 0).toNat, by omega⟩
  have h14 : ¬ gI (mgd SM) 0 14 = J 0 := fun z => by
    have : cnt (mgd SM) 1 = 0 := if_pos z
    omega
  have e238 : gI (mgd SM) 3 238 = J N := by
    have : cnt (mgd SM) 0 = iI (mgd SM) 3 (238 + 0) := if_neg h14
    rw [gI_J, ← hN, this]
  have k3 : ∀ k, gI M1 3 k = gI (mgd SM) 3 k := fun k => q2.1 3 k (by unfold fLy; omega)
  obtain ⟨C', a1, a2, a3, a4⟩ := c_allFits jd hP nf g1 g3 hN
  obtain ⟨M', b1, b2, b3, b4⟩ := m_fit (g := g) (N := N) (by omega) (by omega) g1 nf (fun e he => q5 e (by omega)) ((k3 238).trans e238) (by rw [Int.toNat_natCast, k3]; exact g3)
  exact ⟨g, N, C', M', by omega, hN, a1, a2, a3, a4, b1, b2, b3, b4, (b2.1 3 238 (by unfold fMj; omega)).trans ((k3 238).trans e238)⟩
theorem st_fits (h : Inv SC SM t) (x1 : Int32) : stp (gX11_fits SC x1) (gX12_fits SM x1) t := by
  have hInv := h
  obtain ⟨⟨H, hh⟩, -⟩ := h
  obtain ⟨p, rfl, p1, p2⟩ := J_of x1
  have hg := rHall_q hh fr_r (fmgd (S := SM))
  obtain ⟨⟨hH, hr, -⟩, ⟨m0, m1, -⟩, ⟨c0, c1, -⟩, -⟩ := id hg
  have a1 := c_isSayer p1 p2 hH hr c1 m1
  have b1' := m_isSayer (S := mgd SM) p1 p2 m1
  have no1 : stp (some (J (-1), cps SC 1)) (some (J (-1), mno SM 1)) t := ⟨_, _, _, rfl, rfl, Inv_w hInv fr_cps (by decide) cps_12⟩
  unfold gX11_fits gX12_fits
  simp only [J_0, J_1, J_2, J_3, J_4, J_5, J_6, J_7, J_8, J_9, J_10, J_11, J_12, J_14, J_15, J_16, J_19, J_20, J_21, J_22, J_23, J_24, J_25, J_28, J_30, J_31, J_32, J_40, J_44, J_47, J_48, J_49, J_50, J_53, J_54, J_57, J_59, J_74, J_75, J_78, J_84, J_97, J_99, J_100, J_120, J_122, J_126, J_132, J_138, J_144, J_150, J_156, J_162, J_198, J_200, J_202, J_206, J_210, J_214, J_218, J_222, J_226, J_230, J_234, J_238, J_239, J_240, J_241, J_242, J_243, J_255, J_263, J_283, J_303, J_399, J_400, J_401, J_463, J_700, J_701, J_999, J_1000, J_2048, J_4095, J_4096, J_6000, J_9999, J_10000, J_65536, J_65537, J_2147483647, J_neg, m_good, ckt, b1s, b2s, lts, un2s, un3s, un4s, un5s, lmr, lml, lgr, lgl, a1, b1', iB0, m_no, c_passesN (w := 1) (by decide), if_true, if_neg (show ¬ J 1 = J 0 by decide)]
  by_cases e1 : 0 ≤ p ∧ p < cnt (mgd SM) 1
  · rw [if_pos e1, if_pos e1]
    obtain ⟨p, rfl⟩ : ∃ P : Nat, p = P := ⟨p.toNat, by omega⟩
    have jd := jd_of hInv hh fr_r
    have jd2 := jd_of hInv hh (fr_cps (S := SC) (w := 0))
    have hp : 0 ≤ (p : Int) ∧ (p : Int) < 6 := by omega
    obtain ⟨w, w1, w2, w3⟩ := c_why jd hp
    obtain ⟨r, M1, m, q1, q2, q3, q4, q5⟩ := m_laysQ jd hp
    have k11 : gI M1 0 11 = J 0 := by rw [q2.1 0 11 (by unfold fLy; omega)]; exact mgd_11
    rw [w2, b1s, q1, b2s]
    by_cases nf : notFull (mgd SM) p
    · have hw := w3.mpr nf
      have hr1 := q4.mpr nf
      subst hw
      subst hr1
      obtain ⟨g, N, C', M', f1, f2, f3, f4, f5, f6, f7, f8, f9, f10, f11⟩ := fit_both jd2 e1.2 nf q2 q5
      rw [c_passes0, b2s, if_neg (show ¬ J 1 = J 0 by decide), if_neg (show ¬ J 1 = J 0 by decide), f3, b2s, f7, b1s, m_fitsMany f9 f10 f1 f11, b1s]
      exact ⟨_, _, _, rfl, rfl, Inv_e hInv (fr_t fcps (fJa_q f5)) ((f5.1 0 12 (by unfold fJa; omega)).trans cps_12) f4.2.2.2 (fr_t fmgd (fr_t (fLy_q q2) (fMj_q f8))) ((f8.1 0 11 (by unfold fMj; omega)).trans k11) (by decide)⟩
    · have hw : w = 3 := by rcases w1 with z | z; exact absurd (w3.mp z) nf; exact z
      have hr1 : r = 0 := by rcases q3 with z | z; exact z; exact absurd (q4.mp z) nf
      subst hw
      subst hr1
      rw [c_passesN (w := 3) (by decide), b2s, if_pos rfl, if_pos rfl, m_noR, b2s]
      exact ⟨_, _, _, rfl, rfl, Inv_e hInv fcps cps_12 (rSpans_cps jd.2.2.2) (fr_t fmgd (fr_t (fLy_q q2) (fr_pI (by unfold Em0; omega)))) (by rw [rII, if_pos ⟨rfl, rfl⟩]) (by decide)⟩
  · rw [if_neg e1, if_neg e1]
    exact no1
theorem st_verdict (h : Inv SC SM t) (x1 x2 : Int32) : stp (gX11_verdict SC x1 x2) (gX12_verdict SM x1 x2) t := by
  have hInv := h
  obtain ⟨⟨H, hh⟩, -⟩ := h
  obtain ⟨p, rfl, p1, p2⟩ := J_of x1
  obtain ⟨s, rfl, s1, s2⟩ := J_of x2
  have hg := rHall_q hh fr_r (fmgd (S := SM))
  obtain ⟨⟨hH, hr, -⟩, ⟨m0, m1, -⟩, ⟨c0, c1, -⟩, -⟩ := id hg
  have a1 := c_isSayer p1 p2 hH hr c1 m1
  have a2 := c_isSense s1 s2 hH hr c0 m0
  have b1' := m_isSayer (S := mgd SM) p1 p2 m1
  have b2' := m_isSense (S := mgd SM) s1 s2 m0
  have no1 : stp (some (J (-1), cps SC 1)) (some (J (-1), mno SM 1)) t := ⟨_, _, _, rfl, rfl, Inv_w hInv fr_cps (by decide) cps_12⟩
  unfold gX11_verdict gX12_verdict gX11_verdict_J26
  simp only [J_0, J_1, J_2, J_3, J_4, J_5, J_6, J_7, J_8, J_9, J_10, J_11, J_12, J_14, J_15, J_16, J_19, J_20, J_21, J_22, J_23, J_24, J_25, J_28, J_30, J_31, J_32, J_40, J_44, J_47, J_48, J_49, J_50, J_53, J_54, J_57, J_59, J_74, J_75, J_78, J_84, J_97, J_99, J_100, J_120, J_122, J_126, J_132, J_138, J_144, J_150, J_156, J_162, J_198, J_200, J_202, J_206, J_210, J_214, J_218, J_222, J_226, J_230, J_234, J_238, J_239, J_240, J_241, J_242, J_243, J_255, J_263, J_283, J_303, J_399, J_400, J_401, J_463, J_700, J_701, J_999, J_1000, J_2048, J_4095, J_4096, J_6000, J_9999, J_10000, J_65536, J_65537, J_2147483647, J_neg, m_good, ckt, b1s, b2s, lts, un2s, un3s, un4s, un5s, lmr, lml, lgr, lgl, a1, a2, b1', b2', iB0, m_no, c_passesN (w := 1) (by decide), if_true, if_neg (show ¬ J 1 = J 0 by decide)]
  by_cases e1 : 0 ≤ p ∧ p < cnt (mgd SM) 1
  · rw [if_pos e1, if_pos e1]
    by_cases e2 : 0 ≤ s ∧ s < cnt (mgd SM) 0
    · rw [if_pos e2, if_pos e2]
      obtain ⟨p, rfl⟩ : ∃ P : Nat, p = P := ⟨p.toNat, by omega⟩
      obtain ⟨s, rfl⟩ : ∃ P : Nat, s = P := ⟨s.toNat, by omega⟩
      have jd := jd_of hInv hh fr_r
      have jd2 := jd_of hInv hh (fr_cps (S := SC) (w := 0))
      have hp : 0 ≤ (p : Int) ∧ (p : Int) < 6 := by omega
      obtain ⟨w, w1, w2, w3⟩ := c_why jd hp
      obtain ⟨r, M1, m, q1, q2, q3, q4, q5⟩ := m_laysQ jd hp
      have k11 : gI M1 0 11 = J 0 := by rw [q2.1 0 11 (by unfold fLy; omega)]; exact mgd_11
      rw [w2, b1s, q1, b2s]
      by_cases nf : notFull (mgd SM) p
      · have hw := w3.mpr nf
        have hr1 := q4.mpr nf
        subst hw
        subst hr1
        obtain ⟨g, N, C', M', f1, f2, f3, f4, f5, f6, f7, f8, f9, f10, f11⟩ := fit_both jd2 e1.2 nf q2 q5
        have tb := tot_b (B := mgd SM) (p := (p : Int)) (g := g) N
        have fb := fts_b (B := mgd SM) (p := (p : Int)) (g := g) (s := s)
        have fin : Inv C' M' (t + 1) := Inv_e hInv (fr_t fcps (fJa_q f5)) ((f5.1 0 12 (by unfold fJa; omega)).trans cps_12) f4.2.2.2 (fr_t fmgd (fr_t (fLy_q q2) (fMj_q f8))) ((f8.1 0 11 (by unfold fMj; omega)).trans k11) (by decide)
        rw [c_passes0, b2s, if_neg (show ¬ J 1 = J 0 by decide), if_neg (show ¬ J 1 = J 0 by decide), f3, b2s, f7, b1s, c_fitsOf (f6 s (by omega)) (by omega), b1s, m_fitsOf f9 f10 (by omega) f1, b1s, m_fitsMany f9 f10 f1 f11, b1s, iEQ (by omega) (by omega) (by decide) (by decide), iEQ (by omega) (by omega) (by omega) (by omega), iEQ (by omega) (by omega) (by decide) (by decide), iEQ (by omega) (by omega) (by omega) (by omega)]
        by_cases z : (fts (mgd SM) p g s : Int) = 0
        · rw [if_pos z, if_pos z]
          exact ⟨_, _, _, rfl, rfl, fin⟩
        · rw [if_neg z, if_neg z]
          by_cases y : (fts (mgd SM) p g s : Int) = tot (mgd SM) p g N
          · rw [if_pos y, if_pos y]
            exact ⟨_, _, _, rfl, rfl, fin⟩
          · rw [if_neg y, if_neg y]
            exact ⟨_, _, _, rfl, rfl, fin⟩
      · have hw : w = 3 := by rcases w1 with z | z; exact absurd (w3.mp z) nf; exact z
        have hr1 : r = 0 := by rcases q3 with z | z; exact z; exact absurd (q4.mp z) nf
        subst hw
        subst hr1
        rw [c_passesN (w := 3) (by decide), b2s, if_pos rfl, if_pos rfl, m_noR, b2s]
        exact ⟨_, _, _, rfl, rfl, Inv_e hInv fcps cps_12 (rSpans_cps jd.2.2.2) (fr_t fmgd (fr_t (fLy_q q2) (fr_pI (by unfold Em0; omega)))) (by rw [rII, if_pos ⟨rfl, rfl⟩]) (by decide)⟩
    · rw [if_neg e2, if_neg e2]
      exact no1
  · rw [if_neg e1, if_neg e1]
    exact no1
theorem st_fitAt (h : Inv SC SM t) (x1 x2 x3 : Int32) : stp (gX11_fitAt SC x1 x2 x3) (gX12_fitAt SM x1 x2 x3) t := by
  have hInv := h
  obtain ⟨⟨H, hh⟩, -⟩ := h
  obtain ⟨p, rfl, p1, p2⟩ := J_of x1
  obtain ⟨k, rfl, k1, k2⟩ := J_of x2
  obtain ⟨w', rfl, l1, l2⟩ := J_of x3
  have hg := rHall_q hh fr_r (fmgd (S := SM))
  obtain ⟨⟨hH, hr, -⟩, ⟨m0, m1, -⟩, ⟨c0, c1, -⟩, -⟩ := id hg
  have a1 := c_isSayer p1 p2 hH hr c1 m1
  have b1' := m_isSayer (S := mgd SM) p1 p2 m1
  have no1 : stp (some (J (-1000), cps SC 1)) (some (J (-1000), mno SM 1)) t := ⟨_, _, _, rfl, rfl, Inv_w hInv fr_cps (by decide) cps_12⟩
  unfold gX11_fitAt gX12_fitAt gX11_fitAt_J27 gX11_fitAt_J52
  simp only [J_0, J_1, J_2, J_3, J_4, J_5, J_6, J_7, J_8, J_9, J_10, J_11, J_12, J_14, J_15, J_16, J_19, J_20, J_21, J_22, J_23, J_24, J_25, J_28, J_30, J_31, J_32, J_40, J_44, J_47, J_48, J_49, J_50, J_53, J_54, J_57, J_59, J_74, J_75, J_78, J_84, J_97, J_99, J_100, J_120, J_122, J_126, J_132, J_138, J_144, J_150, J_156, J_162, J_198, J_200, J_202, J_206, J_210, J_214, J_218, J_222, J_226, J_230, J_234, J_238, J_239, J_240, J_241, J_242, J_243, J_255, J_263, J_283, J_303, J_399, J_400, J_401, J_463, J_700, J_701, J_999, J_1000, J_2048, J_4095, J_4096, J_6000, J_9999, J_10000, J_65536, J_65537, J_2147483647, J_neg, m_good, ckt, b1s, b2s, lts, un2s, un3s, un4s, un5s, lmr, lml, lgr, lgl, a1, b1', iB0, m_not, c_passesN (w := 1) (by decide), c_passes0, if_true, if_neg (show ¬ J 1 = J 0 by decide)]
  rw [m_within l1 l2 (by decide) (by decide) (by decide) (by decide), b1s, iB0, iLT l1 l2 (by decide) (by decide), iLT (by decide) (by decide) l1 l2]
  by_cases e1 : 0 ≤ p ∧ p < cnt (mgd SM) 1
  · rw [if_pos e1, if_pos e1]
    by_cases e2 : 0 ≤ w' ∧ w' ≤ 2
    · rw [if_pos e2, if_neg (show ¬ w' < 0 by omega), if_neg (show ¬ 2 < w' by omega)]
      obtain ⟨p, rfl⟩ : ∃ P : Nat, p = P := ⟨p.toNat, by omega⟩
      have jd := jd_of hInv hh fr_r
      have jd2 := jd_of hInv hh (fr_cps (S := SC) (w := 0))
      have hp : 0 ≤ (p : Int) ∧ (p : Int) < 6 := by omega
      obtain ⟨w, w1, w2, w3⟩ := c_why jd hp
      obtain ⟨r, M1, m, q1, q2, q3, q4, q5⟩ := m_laysQ jd hp
      have k11 : gI M1 0 11 = J 0 := by rw [q2.1 0 11 (by unfold fLy; omega)]; exact mgd_11
      rw [w2, b1s, q1, b2s]
      by_cases nf : notFull (mgd SM) p
      · have hw := w3.mpr nf
        have hr1 := q4.mpr nf
        subst hw
        subst hr1
        obtain ⟨g, N, C', M', f1, f2, f3, f4, f5, f6, f7, f8, f9, f10, f11⟩ := fit_both jd2 e1.2 nf q2 q5
        have tb := tot_b (B := mgd SM) (p := (p : Int)) (g := g) N
        have G : fr Em0 SM M' := fr_t fmgd (fr_t (fLy_q q2) (fMj_q f8))
        have F : fr Eq0 SC C' := fr_t fcps (fJa_q f5)
        have fin : ∀ w, 0 ≤ w ∧ w ≤ 6 ∧ w ≠ 4 → Inv (cps C' w) (pI M' 0 11 (J w)) (t + 1) := fun w hw => Inv_e hInv (fr_t F fcps) cps_12 (rSpans_cps f4.2.2.2) (fr_t G (fr_pI (by unfold Em0; omega))) (by rw [rII, if_pos ⟨rfl, rfl⟩]) hw
        have hf := FUs (n := 30) (by omega)
        rw [c_passes0, b2s, if_neg (show ¬ J 1 = J 0 by decide), if_neg (show ¬ J 1 = J 0 by decide), iLT k1 k2 (by decide) (by decide), f3, b2s, f7, b1s, iLE (by omega) (by omega) k1 k2]
        by_cases z : 0 ≤ k ∧ k < tot (mgd SM) p g N
        · obtain ⟨r, u1, u2⟩ := at_L (C := cps C' 0) (fun e he => by
            obtain ⟨j1, j2, j3, j4⟩ := f6 e he
            exact ⟨(cps_o (by omega)).trans j1, (cps_o (by omega)).trans j2, fun e he z => (cps_o (by omega)).trans (j3 e he z), fun n0 e he z => (cps_o (by omega)).trans (j4 n0 e he z)⟩) f9 f10 f1 f11 e2 ⟨k1, k2⟩ z.2 FU 0 (by omega) (by omega) (by show ((0 : Nat) : Int) ≤ k; omega)
          rw [show tot (mgd SM) (p : Int) g 0 = 0 from rfl, show k - ((0 : Nat) : Int) = k by omega, show J ((0 : Nat) : Int) = J 0 from rfl] at u1
          rw [show tot (mgd SM) (p : Int) g 0 = 0 from rfl, show J ((0 : Nat) : Int) = J 0 from rfl] at u2
          have hR : gR (cps C' 0) 0 8 = H := cps_R.trans f4.1.1.2.1
          have h6' : gI (cps C' 0) H 6 = J N := by rw [cps_o (by omega), f4.1.2.2.1.1, f2]
          rw [if_neg (by omega), if_neg (by omega), hR, zb3 hH, ckt, h6', u1, u2]
          exact ⟨_, _, _, rfl, rfl, Inv_e hInv (fr_t F fcps) cps_12 (rSpans_cps f4.2.2.2) G ((f8.1 0 11 (by unfold fMj; omega)).trans k11) (by decide)⟩
        · have u2 := m_at_out f9 f10 f1 f11 e2 ⟨k1, k2⟩ z FU 0 (by omega) (by omega)
          rw [show tot (mgd SM) (p : Int) g 0 = 0 from rfl, show J ((0 : Nat) : Int) = J 0 from rfl] at u2
          rw [u2]
          by_cases y : k < 0
          · rw [if_pos y]
            exact ⟨_, _, _, rfl, rfl, Inv_e hInv (fr_w cps_2 (fun _ _ z => Eq0_456 z)) cps_12 (rSpans_cps jd2.2.2.2) (fr_t G (fr_pI (by unfold Em0; omega))) (by rw [rII, if_pos ⟨rfl, rfl⟩]) (by decide)⟩
          · rw [if_neg y, if_pos (by omega)]
            exact ⟨_, _, _, rfl, rfl, fin 1 (by decide)⟩
      · have hw : w = 3 := by rcases w1 with z | z; exact absurd (w3.mp z) nf; exact z
        have hr1 : r = 0 := by rcases q3 with z | z; exact z; exact absurd (q4.mp z) nf
        subst hw
        subst hr1
        rw [c_passesN (w := 3) (by decide), b2s, if_pos rfl, if_pos rfl, m_notR, b2s]
        exact ⟨_, _, _, rfl, rfl, Inv_e hInv fcps cps_12 (rSpans_cps jd.2.2.2) (fr_t fmgd (fr_t (fLy_q q2) (fr_pI (by unfold Em0; omega)))) (by rw [rII, if_pos ⟨rfl, rfl⟩]) (by decide)⟩
    · rw [if_neg e2]
      by_cases z : w' < 0
      · rw [if_pos z]; exact no1
      · rw [if_neg z, if_pos (show 2 < w' by omega)]; exact no1
  · rw [if_neg e1, if_neg e1]
    exact no1
end
