/-! All that fits, by the class. -/
noncomputable def cn (A : Nat → Prop) : Nat → Nat
  | 0 => 0
  | n + 1 => cn A n + @ite Nat (A n) (Classical.propDecidable _) 1 0
theorem cn_y {A : Nat → Prop} {n : Nat} (h : A n) : cn A (n + 1) = cn A n + 1 := by
  show cn A n + @ite Nat (A n) (Classical.propDecidable _) 1 0 = _
  rw [if_pos h]
theorem cn_n {A : Nat → Prop} {n : Nat} (h : ¬ A n) : cn A (n + 1) = cn A n := by
  show cn A n + @ite Nat (A n) (Classical.propDecidable _) 1 0 = _
  rw [if_neg h]; rfl
theorem cn_le {A : Nat → Prop} : ∀ n, cn A n ≤ n := by
  intro n
  induction n with
  | zero => exact Nat.le_refl 0
  | succ n ih =>
    by_cases h : A n
    · rw [cn_y h]; omega
    · rw [cn_n h]; omega
theorem cn_mono {A : Nat → Prop} : ∀ n i, i ≤ n → cn A i ≤ cn A n := by
  intro n
  induction n with
  | zero => intro i h; rw [show i = 0 by omega]; exact Nat.le_refl _
  | succ n ih =>
    intro i h
    by_cases e : i = n + 1
    · rw [e]; exact Nat.le_refl _
    · have := ih i (by omega)
      by_cases h : A n
      · rw [cn_y h]; omega
      · rw [cn_n h]; omega
theorem cn_lt {A : Nat → Prop} {n i : Nat} (h : A i) (hi : i < n) : cn A i < cn A n := by
  have := cn_mono (A := A) n (i + 1) (by omega)
  rw [cn_y h] at this
  omega
def lA (B : zM) (p : Int) (s i : Nat) : Prop := lineOK B p s ((i : Int) - 10)
def lQ (B : zM) (p : Int) (s : Nat) (g : Int) (j : Nat) : Prop := secOK B p s ((j : Int) - 5) g
/-- the lists of a sense: its lines and its seconds, in order -/
def j229 (B C : zM) (p : Int) (s i : Nat) : Prop := ∀ e : Nat, e < i → lA B p s e → gI C 229 (21 * s + cn (lA B p s) e) = J ((e : Int) - 10)
def j230 (B C : zM) (p g : Int) (s j : Nat) : Prop := ∀ e : Nat, e < j → lQ B p s g e → gI C 230 (11 * s + cn (lQ B p s g) e) = J ((e : Int) - 5)
noncomputable def nL (B : zM) (p : Int) (s : Nat) : Nat := cn (lA B p s) 21
noncomputable def nQ (B : zM) (p g : Int) (s : Nat) : Nat := if nL B p s = 0 then 0 else cn (lQ B p s g) 11
def jF (B C : zM) (p g : Int) (s : Nat) : Prop := gI C 231 s = J (nL B p s) ∧ gI C 232 s = J (nQ B p g s) ∧ j229 B C p s 21 ∧ (nL B p s ≠ 0 → j230 B C p g s 11)
def fJu (s q k : Nat) : Prop := fC q k ∨ (q = 229 ∧ 21 * s ≤ k ∧ k < 21 * s + 21) ∨ (q = 230 ∧ 11 * s ≤ k ∧ k < 11 * s + 11) ∨ ((q = 231 ∨ q = 232) ∧ k = s)
theorem fJu_q {C C' : zM} {s : Nat} (f : fr (fJu s) C C') : fr Eq0 C C' := fr_w f (fun q k z => by unfold fJu fC at z; unfold Eq0; omega)
theorem fJu_C {C C' : zM} {s : Nat} (f : fr fC C C') : fr (fJu s) C C' := fr_w f (fun q k z => Or.inl z)
theorem jF_c {B C C' : zM} {p g : Int} {s s' : Nat} (h : jF B C p g s) (f : fr (fJu s') C C') (hs : s ≠ s') : jF B C' p g s := by
  obtain ⟨h1, h2, h3, h4⟩ := h
  have b1 := cn_le (A := lA B p s)
  refine ⟨(f.1 231 s (by unfold fJu fC; omega)).trans h1, (f.1 232 s (by unfold fJu fC; omega)).trans h2, fun e he z => ?_, fun w e he z => ?_⟩
  · have := cn_le (A := lA B p s) e
    rw [f.1 229 _ (by unfold fJu fC; omega)]
    exact h3 e he z
  · have := cn_le (A := lQ B p s g) e
    rw [f.1 230 _ (by unfold fJu fC; omega)]
    exact h4 w e he z
section
variable {B : zM} {H s : Nat} {p g : Int}
theorem jdB_q {C C' : zM} (h : jdB C B H) (f : fr Eq0 C C') (hs : rSpans C') : jdB C' B H := ⟨rHall_q h.1 f fr_r, rBook_q h.2.1 f fr_r, rCells_q h.2.2.1 f fr_r, hs⟩
theorem jdB_w {C : zM} (h : jdB C B H) {q k : Nat} {v : Int32} (hq : 229 ≤ q ∧ q ≤ 232) : jdB (pI C q k v) B H := jdB_q h (fr_pI (by unfold Eq0; omega)) (rSpans_c h.2.2.2 (fun k => rLI) (fun k => by rw [rII, if_neg (by omega)]))
theorem c_judge_l (hs : (s : Int) < cnt B 0) (hp : 0 ≤ p ∧ p < 6) (nf : notFull B p) {v6 : Int32} : ∀ (n i : Nat) (C0 C : zM), i ≤ 21 → 21 < n + i → jdB C B H → fr (fJu s) C0 C → j229 B C p s i → ∃ C', gX2_judge_L26 (J p) (J s) (H + 7 + 31 * s) v6 n C (J (cn (lA B p s) i)) (J ((i : Int) - 10)) = some (J (nL B p s), C') ∧ jdB C' B H ∧ fr (fJu s) C0 C' ∧ j229 B C' p s 21 := by
  intro n
  induction n with
  | zero => intro i C0 C g1 g2; omega
  | succ n ih =>
    intro i C0 C g1 g2 jd f h9
    have s6 := jd.1.2.1.1
    unfold gX2_judge_L26
    simp only [J_0, J_1, J_2, J_3, J_4, J_5, J_6, J_7, J_8, J_9, J_10, J_11, J_12, J_14, J_15, J_16, J_19, J_20, J_21, J_22, J_23, J_24, J_25, J_28, J_30, J_31, J_32, J_40, J_44, J_47, J_48, J_49, J_50, J_53, J_54, J_57, J_59, J_74, J_75, J_78, J_84, J_97, J_99, J_100, J_120, J_122, J_126, J_132, J_138, J_144, J_150, J_156, J_162, J_198, J_200, J_202, J_206, J_210, J_214, J_218, J_222, J_226, J_230, J_234, J_238, J_239, J_240, J_241, J_242, J_243, J_255, J_263, J_283, J_303, J_399, J_400, J_401, J_463, J_700, J_701, J_999, J_1000, J_2048, J_4095, J_4096, J_6000, J_9999, J_10000, J_65536, J_65537, J_2147483647, J_neg]
    rw [iLT (by decide) (by decide) (by omega) (by omega)]
    by_cases e : i = 21
    · subst e
      rw [if_pos (by omega)]
      exact ⟨C, rfl, jd, f, h9⟩
    · obtain ⟨r, C1, r1, r2, r3, r4, r5⟩ := c_lineLets (s := s) (p := p) (l := (i : Int) - 10) (jd.1.2.2.2.1 s hs) jd.1.1.1 (by omega) hp (by omega) jd.2.2.1 jd.2.1 nf fr_r jd.2.2.2
      have jd1 := jdB_q jd (fC_q r3) r4
      have f1 := fr_t f (fJu_C (s := s) r3)
      have h91 : j229 B C1 p s i := fun e he z => by rw [r3.1 229 _ (by unfold fC; omega)]; exact h9 e he z
      have hc := cn_le (A := lA B p s) i
      rw [if_neg (by omega), r2, b2s, J_add, J_add, J_mul, J_add, show (i : Int) - 10 + 1 = ((i + 1 : Nat) : Int) - 10 by omega]
      rcases r1 with y | y
      · subst y
        have no : ¬ lA B p s i := fun z => absurd (r5.mpr z) (by decide)
        rw [if_pos rfl, ← cn_n no]
        refine ih (i + 1) C0 C1 (by omega) (by omega) jd1 f1 (fun e he z => ?_)
        by_cases w : e = i
        · rw [w] at z; exact absurd z no
        · exact h91 e (by omega) z
      · subst y
        have yes : lA B p s i := r5.mp rfl
        rw [if_neg (by decide), ixb_J (by omega) (by omega) (by decide), ckt, ix_J (by omega) (by omega), show ((s : Int) * 21 + (cn (lA B p s) i : Int)).toNat = 21 * s + cn (lA B p s) i by omega, show ((cn (lA B p s) i : Int) + 1) = ((cn (lA B p s) (i + 1) : Nat) : Int) by rw [cn_y yes]; omega]
        refine ih (i + 1) C0 _ (by omega) (by omega) (jdB_w jd1 (by decide)) (fr_t f1 (fr_pI (Or.inr (Or.inl ⟨rfl, by omega, by omega⟩)))) (fun e he z => ?_)
        rw [rII]
        by_cases w : e = i
        · subst w
          rw [if_pos ⟨rfl, rfl⟩]
        · have := cn_lt z (show e < i by omega)
          rw [if_neg (by omega)]
          exact h91 e (by omega) z
theorem c_judge_0 (hs : (s : Int) < cnt B 0) (h0 : nL B p s = 0) {v1 : Int32} {v5 : Nat} {v6 : Int32} : ∀ (n j : Nat) (C0 C : zM), j ≤ 11 → 11 < n + j → jdB C B H → fr (fJu s) C0 C → j229 B C p s 21 → ∃ C', gX2_judge_L77 v1 (J s) v5 v6 (J 0) n C (J 0) (J ((j : Int) - 5)) = some C' ∧ jdB C' B H ∧ fr (fJu s) C0 C' ∧ jF B C' p g s := by
  intro n
  induction n with
  | zero => intro i C0 C g1 g2; omega
  | succ n ih =>
    intro j C0 C g1 g2 jd f h9
    have s6 := jd.1.2.1.1
    have x2 : ixb (J (s : Int)) 6 = true := ixb_J (by omega) (by omega) (by decide)
    have y2 : ix (J (s : Int)) = s := by rw [ix_J (by omega) (by omega)]; omega
    unfold gX2_judge_L77
    simp only [J_0, J_1, J_2, J_3, J_4, J_5, J_6, J_7, J_8, J_9, J_10, J_11, J_12, J_14, J_15, J_16, J_19, J_20, J_21, J_22, J_23, J_24, J_25, J_28, J_30, J_31, J_32, J_40, J_44, J_47, J_48, J_49, J_50, J_53, J_54, J_57, J_59, J_74, J_75, J_78, J_84, J_97, J_99, J_100, J_120, J_122, J_126, J_132, J_138, J_144, J_150, J_156, J_162, J_198, J_200, J_202, J_206, J_210, J_214, J_218, J_222, J_226, J_230, J_234, J_238, J_239, J_240, J_241, J_242, J_243, J_255, J_263, J_283, J_303, J_399, J_400, J_401, J_463, J_700, J_701, J_999, J_1000, J_2048, J_4095, J_4096, J_6000, J_9999, J_10000, J_65536, J_65537, J_2147483647, J_neg]
    rw [iLT (by decide) (by decide) (by omega) (by omega)]
    by_cases e : j = 11
    · subst e
      rw [if_pos (by omega), x2, ckt, ckt, y2]
      refine ⟨_, rfl, jdB_w (jdB_w jd (by decide)) (by decide), fr_t (fr_t f (fr_pI (Or.inr (Or.inr (Or.inr ⟨Or.inl rfl, rfl⟩))))) (fr_pI (Or.inr (Or.inr (Or.inr ⟨Or.inr rfl, rfl⟩)))), ?_, ?_, fun e he z => ?_, fun w => absurd h0 w⟩
      · rw [rII, if_neg (by omega), rII, if_pos ⟨rfl, rfl⟩, h0]; rfl
      · unfold nQ
        rw [rII, if_pos ⟨rfl, rfl⟩, if_pos h0]; rfl
      · rw [rII, if_neg (by omega), rII, if_neg (by omega)]
        exact h9 e he z
    · rw [if_neg (by omega), if_pos (by decide), J_add, show (j : Int) - 5 + 1 = ((j + 1 : Nat) : Int) - 5 by omega]
      exact ih (j + 1) C0 C (by omega) (by omega) jd f h9
theorem c_judge_s (hs : (s : Int) < cnt B 0) (hp : 0 ≤ p ∧ p < 6) (nf : notFull B p) (hg : g = 0 ∨ g = 1) (h0 : nL B p s ≠ 0) : ∀ (n j : Nat) (C0 C : zM), j ≤ 11 → 11 < n + j → jdB C B H → fr (fJu s) C0 C → j229 B C p s 21 → j230 B C p g s j → ∃ C', gX2_judge_L77 (J p) (J s) (H + 7 + 31 * s) (J g) (J (nL B p s)) n C (J (cn (lQ B p s g) j)) (J ((j : Int) - 5)) = some C' ∧ jdB C' B H ∧ fr (fJu s) C0 C' ∧ jF B C' p g s := by
  intro n
  induction n with
  | zero => intro i C0 C g1 g2; omega
  | succ n ih =>
    intro j C0 C g1 g2 jd f h9 h10
    have s6 := jd.1.2.1.1
    have x2 : ixb (J (s : Int)) 6 = true := ixb_J (by omega) (by omega) (by decide)
    have y2 : ix (J (s : Int)) = s := by rw [ix_J (by omega) (by omega)]; omega
    have hL : nL B p s ≤ 21 := cn_le 21
    unfold gX2_judge_L77
    simp only [J_0, J_1, J_2, J_3, J_4, J_5, J_6, J_7, J_8, J_9, J_10, J_11, J_12, J_14, J_15, J_16, J_19, J_20, J_21, J_22, J_23, J_24, J_25, J_28, J_30, J_31, J_32, J_40, J_44, J_47, J_48, J_49, J_50, J_53, J_54, J_57, J_59, J_74, J_75, J_78, J_84, J_97, J_99, J_100, J_120, J_122, J_126, J_132, J_138, J_144, J_150, J_156, J_162, J_198, J_200, J_202, J_206, J_210, J_214, J_218, J_222, J_226, J_230, J_234, J_238, J_239, J_240, J_241, J_242, J_243, J_255, J_263, J_283, J_303, J_399, J_400, J_401, J_463, J_700, J_701, J_999, J_1000, J_2048, J_4095, J_4096, J_6000, J_9999, J_10000, J_65536, J_65537, J_2147483647, J_neg]
    rw [iLT (by decide) (by decide) (by omega) (by omega)]
    by_cases e : j = 11
    · subst e
      rw [if_pos (by omega), x2, ckt, ckt, y2]
      refine ⟨_, rfl, jdB_w (jdB_w jd (by decide)) (by decide), fr_t (fr_t f (fr_pI (Or.inr (Or.inr (Or.inr ⟨Or.inl rfl, rfl⟩))))) (fr_pI (Or.inr (Or.inr (Or.inr ⟨Or.inr rfl, rfl⟩)))), ?_, ?_, fun e he z => ?_, fun w e he z => ?_⟩
      · rw [rII, if_neg (by omega), rII, if_pos ⟨rfl, rfl⟩]
      · unfold nQ
        rw [rII, if_pos ⟨rfl, rfl⟩, if_neg h0]
      · rw [rII, if_neg (by omega), rII, if_neg (by omega)]
        exact h9 e he z
      · rw [rII, if_neg (by omega), rII, if_neg (by omega)]
        exact h10 e he z
    · obtain ⟨r, C1, r1, r2, r3, r4, r5⟩ := c_secondLets (s := s) (p := p) (l := (j : Int) - 5) (g := g) (jd.1.2.2.2.1 s hs) jd.1.1.1 (by omega) hp (by omega) hg jd.2.2.1 jd.2.1 nf fr_r jd.2.2.2
      have jd1 := jdB_q jd (fC_q r3) r4
      have f1 := fr_t f (fJu_C (s := s) r3)
      have h91 : j229 B C1 p s 21 := fun e he z => by rw [r3.1 229 _ (by unfold fC; omega)]; exact h9 e he z
      have h101 : j230 B C1 p g s j := fun e he z => by rw [r3.1 230 _ (by unfold fC; omega)]; exact h10 e he z
      have hc := cn_le (A := lQ B p s g) j
      rw [if_neg (by omega), iLE (by omega) (by omega) (by decide) (by decide), if_neg (by omega), r2, b2s, J_add, J_add, J_mul, J_add, show (j : Int) - 5 + 1 = ((j + 1 : Nat) : Int) - 5 by omega]
      rcases r1 with y | y
      · subst y
        have no : ¬ lQ B p s g j := fun z => absurd (r5.mpr z) (by decide)
        rw [if_pos rfl, ← cn_n no]
        refine ih (j + 1) C0 C1 (by omega) (by omega) jd1 f1 h91 (fun e he z => ?_)
        by_cases w : e = j
        · rw [w] at z; exact absurd z no
        · exact h101 e (by omega) z
      · subst y
        have yes : lQ B p s g j := r5.mp rfl
        rw [if_neg (by decide), ixb_J (by omega) (by omega) (by decide), ckt, ix_J (by omega) (by omega), show ((s : Int) * 11 + (cn (lQ B p s g) j : Int)).toNat = 11 * s + cn (lQ B p s g) j by omega, show ((cn (lQ B p s g) j : Int) + 1) = ((cn (lQ B p s g) (j + 1) : Nat) : Int) by rw [cn_y yes]; omega]
        refine ih (j + 1) C0 _ (by omega) (by omega) (jdB_w jd1 (by decide)) (fr_t f1 (fr_pI (Or.inr (Or.inr (Or.inl ⟨rfl, by omega, by omega⟩))))) (fun e he z => by rw [rII, if_neg (by omega)]; exact h91 e he z) (fun e he z => ?_)
        rw [rII]
        by_cases w : e = j
        · subst w
          rw [if_pos ⟨rfl, rfl⟩]
        · have := cn_lt z (show e < j by omega)
          rw [if_neg (by omega)]
          exact h101 e (by omega) z
end
section
variable {B : zM} {H s P : Nat} {g : Int}
theorem c_judge {C : zM} (jd : jdB C B H) (hs : (s : Int) < cnt B 0) (hP : (P : Int) < cnt B 1) (nf : notFull B P) (hg : g = 0 ∨ g = 1) (e150 : gI B 3 (150 + P) = J g) : ∃ C', gX2_judge C (J P) (J s) H = some C' ∧ jdB C' B H ∧ fr (fJu s) C C' ∧ jF B C' P g s := by
  have s6 := jd.1.2.1.1
  have p6 := jd.1.2.1.2.1
  have hp : 0 ≤ (P : Int) ∧ (P : Int) < 6 := by omega
  have x1 : ixb (J (P : Int)) 6 = true := ixb_J (by omega) (by omega) (by decide)
  have y1 : ix (J (P : Int)) = P := by rw [ix_J (by omega) (by omega)]; omega
  have x2 : ixb (J (s : Int)) 6 = true := ixb_J (by omega) (by omega) (by decide)
  have y2 : ix (J (s : Int)) = s := by rw [ix_J (by omega) (by omega)]; omega
  obtain ⟨g', g1, g2, g3⟩ := jd_g jd hP
  have eg : gI C (H + 193 + 2 * P) 6 = J g := by rw [g2, ← g3, e150]
  obtain ⟨C1, r1, r2, r3, r4⟩ := c_judge_l hs hp nf (v6 := J g) FU 0 C C (by omega) (by have := FUs (n := 30) (by omega); omega) jd fr_r (fun e he => by omega)
  rw [show cn (lA B (P : Int) s) 0 = 0 from rfl, show ((0 : Nat) : Int) - 10 = -10 from rfl, show J ((0 : Nat) : Int) = J 0 from rfl] at r1
  unfold gX2_judge
  simp only [J_0, J_1, J_2, J_3, J_4, J_5, J_6, J_7, J_8, J_9, J_10, J_11, J_12, J_14, J_15, J_16, J_19, J_20, J_21, J_22, J_23, J_24, J_25, J_28, J_30, J_31, J_32, J_40, J_44, J_47, J_48, J_49, J_50, J_53, J_54, J_57, J_59, J_74, J_75, J_78, J_84, J_97, J_99, J_100, J_120, J_122, J_126, J_132, J_138, J_144, J_150, J_156, J_162, J_198, J_200, J_202, J_206, J_210, J_214, J_218, J_222, J_226, J_230, J_234, J_238, J_239, J_240, J_241, J_242, J_243, J_255, J_263, J_283, J_303, J_399, J_400, J_401, J_463, J_700, J_701, J_999, J_1000, J_2048, J_4095, J_4096, J_6000, J_9999, J_10000, J_65536, J_65537, J_2147483647, J_neg, x1, y1, x2, y2, eg, ckt, b1s, b2s, lts, un2s, un3s, un4s, un5s, lmr, lml, lgr, lgl, r1]
  by_cases z : nL B P s = 0
  · obtain ⟨C', q1, q2, q3, q4⟩ := c_judge_0 (g := g) (v1 := J (P : Int)) (v5 := H + 7 + 31 * s) (v6 := J g) hs z FU 0 C C1 (by omega) (by have := FUs (n := 30) (by omega); omega) r2 r3 r4
    rw [show ((0 : Nat) : Int) - 5 = -5 from rfl] at q1
    rw [z]
    exact ⟨C', q1, q2, q3, q4⟩
  · obtain ⟨C', q1, q2, q3, q4⟩ := c_judge_s hs hp nf hg z FU 0 C C1 (by omega) (by have := FUs (n := 30) (by omega); omega) r2 r3 r4 (fun e he => by omega)
    rw [show cn (lQ B (P : Int) s g) 0 = 0 from rfl, show ((0 : Nat) : Int) - 5 = -5 from rfl, show J ((0 : Nat) : Int) = J 0 from rfl] at q1
    exact ⟨C', q1, q2, q3, q4⟩
noncomputable def fts (B : zM) (p g : Int) (s : Nat) : Nat := nL B p s * nQ B p g s
noncomputable def tot (B : zM) (p g : Int) : Nat → Nat
  | 0 => 0
  | s + 1 => tot B p g s + fts B p g s
theorem fts_b {p : Int} : fts B p g s ≤ 231 := by
  have h1 : nL B p s ≤ 21 := cn_le 21
  have h2 : nQ B p g s ≤ 11 := by
    unfold nQ
    split
    · omega
    · exact cn_le 11
  exact Nat.mul_le_mul h1 h2
theorem tot_b {p : Int} : ∀ s, tot B p g s ≤ 231 * s := by
  intro s
  induction s with
  | zero => exact Nat.le_refl 0
  | succ s ih =>
    have := fts_b (B := B) (g := g) (s := s) (p := p)
    show tot B p g s + fts B p g s ≤ _
    omega
theorem c_fitsOf {C : zM} {p : Int} (h : jF B C p g s) (hs : s < 6) : gX2_fitsOf C (J s) = some (J (fts B p g s)) := by
  have x2 : ixb (J (s : Int)) 6 = true := ixb_J (by omega) (by omega) (by decide)
  have y2 : ix (J (s : Int)) = s := by rw [ix_J (by omega) (by omega)]; omega
  unfold gX2_fitsOf
  simp only [x2, y2, h.1, h.2.1, ckt, b1s, b2s, lts, un2s, un3s, un4s, un5s, lmr, lml, lgr, lgl, J_mul]
  congr 2
def fJa (q _k : Nat) : Prop := 229 ≤ q ∧ q ≤ 238
theorem fJa_q {C C' : zM} (f : fr fJa C C') : fr Eq0 C C' := fr_w f (fun q k z => by unfold fJa at z; unfold Eq0; omega)
theorem fJu_a {C C' : zM} (f : fr (fJu s) C C') : fr fJa C C' := fr_w f (fun q k z => by unfold fJu fC at z; unfold fJa; omega)
theorem c_allFits_L (hP : (P : Int) < cnt B 1) (nf : notFull B P) (hg : g = 0 ∨ g = 1) (e150 : gI B 3 (150 + P) = J g) {N : Nat} (hN : cnt B 0 = N) : ∀ (n s : Nat) (C0 C : zM), s ≤ N → N < n + s → jdB C B H → fr fJa C0 C → (∀ e, e < s → jF B C P g e) → ∃ C', gX11_allFits_L4 (J P) n C (J (tot B P g s)) (J s) = some (J (tot B P g N), C') ∧ jdB C' B H ∧ fr fJa C0 C' ∧ ∀ e, e < N → jF B C' P g e := by
  intro n
  induction n with
  | zero => intro s C0 C g1 g2; omega
  | succ n ih =>
    intro s C0 C g1 g2 jd f hj
    have s6 := jd.1.2.1.1
    have hH := jd.1.1.1
    unfold gX11_allFits_L4
    simp only [J_0, J_1, J_2, J_3, J_4, J_5, J_6, J_7, J_8, J_9, J_10, J_11, J_12, J_14, J_15, J_16, J_19, J_20, J_21, J_22, J_23, J_24, J_25, J_28, J_30, J_31, J_32, J_40, J_44, J_47, J_48, J_49, J_50, J_53, J_54, J_57, J_59, J_74, J_75, J_78, J_84, J_97, J_99, J_100, J_120, J_122, J_126, J_132, J_138, J_144, J_150, J_156, J_162, J_198, J_200, J_202, J_206, J_210, J_214, J_218, J_222, J_226, J_230, J_234, J_238, J_239, J_240, J_241, J_242, J_243, J_255, J_263, J_283, J_303, J_399, J_400, J_401, J_463, J_700, J_701, J_999, J_1000, J_2048, J_4095, J_4096, J_6000, J_9999, J_10000, J_65536, J_65537, J_2147483647, J_neg]
    rw [jd.1.1.2.1, zb3 hH, ckt, jd.1.2.2.1.1, hN, iLE (by omega) (by omega) (by omega) (by omega)]
    by_cases e : s = N
    · subst e
      rw [if_pos (by omega)]
      exact ⟨C, rfl, jd, f, hj⟩
    · obtain ⟨C1, r1, r2, r3, r4⟩ := c_judge jd (s := s) (by omega) hP nf hg e150
      rw [if_neg (by omega), ckt, r1, b1s, c_fitsOf r4 (by omega), b1s, J_add, J_add, show ((tot B P g s : Int) + (fts B P g s : Int)) = ((tot B P g (s + 1) : Nat) : Int) from rfl, show (s : Int) + 1 = ((s + 1 : Nat) : Int) by omega]
      refine ih (s + 1) C0 C1 (by omega) (by omega) r2 (fr_t f (fJu_a r3)) (fun e he => ?_)
      by_cases z : e = s
      · rw [z]; exact r4
      · exact jF_c (hj e (by omega)) r3 z
theorem c_allFits {C : zM} (jd : jdB C B H) (hP : (P : Int) < cnt B 1) (nf : notFull B P) (hg : g = 0 ∨ g = 1) (e150 : gI B 3 (150 + P) = J g) {N : Nat} (hN : cnt B 0 = N) : ∃ C', gX11_allFits C (J P) = some (J (tot B P g N), C') ∧ jdB C' B H ∧ fr fJa C C' ∧ ∀ e, e < N → jF B C' P g e := by
  have s6 := jd.1.2.1.1
  obtain ⟨C', r1, r2⟩ := c_allFits_L hP nf hg e150 hN FU 0 C C (by omega) (by have := FUs (n := 30) (by omega); omega) jd fr_r (fun e he => by omega)
  refine ⟨C', ?_, r2⟩
  unfold gX11_allFits
  simp only [J_0, J_1, J_2, J_3, J_4, J_5, J_6, J_7, J_8, J_9, J_10, J_11, J_12, J_14, J_15, J_16, J_19, J_20, J_21, J_22, J_23, J_24, J_25, J_28, J_30, J_31, J_32, J_40, J_44, J_47, J_48, J_49, J_50, J_53, J_54, J_57, J_59, J_74, J_75, J_78, J_84, J_97, J_99, J_100, J_120, J_122, J_126, J_132, J_138, J_144, J_150, J_156, J_162, J_198, J_200, J_202, J_206, J_210, J_214, J_218, J_222, J_226, J_230, J_234, J_238, J_239, J_240, J_241, J_242, J_243, J_255, J_263, J_283, J_303, J_399, J_400, J_401, J_463, J_700, J_701, J_999, J_1000, J_2048, J_4095, J_4096, J_6000, J_9999, J_10000, J_65536, J_65537, J_2147483647, J_neg]
  exact r1
end
