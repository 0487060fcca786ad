/-! All that fits, by the model. -/
def flg (v : Int32) (P : Prop) : Prop := (v = J 0 ∧ ¬ P) ∨ (v = J 1 ∧ P)
theorem flg_0 {v : Int32} {P : Prop} (h : flg v P) (z : ¬ P) : v = J 0 := by
  rcases h with w | w
  · exact w.1
  · exact absurd w.2 z
theorem flg_1 {v : Int32} {P : Prop} (h : flg v P) (z : P) : v = J 1 := by
  rcases h with w | w
  · exact absurd z w.2
  · exact w.1
def F26 (B M : zM) (p : Int) (n : Nat) : Prop := ∀ s i : Nat, i < 21 → 21 * s + i < n → flg (gI M 26 (21 * s + i)) (lA B p s i)
def F27 (B M : zM) (p g : Int) (n : Nat) : Prop := ∀ s j : Nat, j < 11 → 11 * s + j < n → flg (gI M 27 (11 * s + j)) (lQ B p s g j)
def fFa (a q _k : Nat) : Prop := (15 ≤ q ∧ q ≤ 19) ∨ q = 25 ∨ q = a
theorem fFa_j {a : Nat} {M M' : zM} (ha : 26 ≤ a ∧ a ≤ 27) (f : fr (fFa a) M M') : fr fMj M M' := fr_w f (fun q k z => by unfold fFa at z; unfold fMj; omega)
theorem fFa_k {a : Nat} {M M' : zM} (f : fr fMk M M') : fr (fFa a) M M' := fr_w f (fun q k z => by unfold fMk at z; unfold fFa; omega)
section
variable {B : zM} {s m : Nat} {p g : Int}
theorem m_fit_l (hs6 : s < 6) (nf : notFull B p) {v1 : Int32} : ∀ (n i : Nat) (M0 M : zM), i ≤ 21 → 21 < n + i → mOK M B s m p → fr (fFa 26) M0 M → F26 B M p (21 * s + i) → ∃ M', gX12_fit_L17 v1 (J s) n M (J ((i : Int) - 10)) = some M' ∧ fr (fFa 26) M0 M' ∧ F26 B M' p (21 * s + 21) := by
  intro n
  induction n with
  | zero => intro i M0 M g1 g2; omega
  | succ n ih =>
    intro i M0 M g1 g2 ok f hF
    unfold gX12_fit_L17
    simp only [J_0, J_1, J_2, J_3, J_4, J_5, J_6, J_7, J_8, J_9, J_10, J_11, J_12, J_14, J_15, J_16, J_19, J_20, J_21, J_22, J_23, J_24, J_25, J_28, J_30, J_31, J_32, J_40, J_44, J_47, J_48, J_49, J_50, J_53, J_54, J_57, J_59, J_74, J_75, J_78, J_84, J_97, J_99, J_100, J_120, J_122, J_126, J_132, J_138, J_144, J_150, J_156, J_162, J_198, J_200, J_202, J_206, J_210, J_214, J_218, J_222, J_226, J_230, J_234, J_238, J_239, J_240, J_241, J_242, J_243, J_255, J_263, J_283, J_303, J_399, J_400, J_401, J_463, J_700, J_701, J_999, J_1000, J_2048, J_4095, J_4096, J_6000, J_9999, J_10000, J_65536, J_65537, J_2147483647, J_neg]
    rw [iLT (by decide) (by decide) (by omega) (by omega)]
    by_cases e : i = 21
    · subst e
      rw [if_pos (by omega)]
      exact ⟨M, rfl, f, hF⟩
    · obtain ⟨r, M1, r1, r2, r3, r4⟩ := m_lineOK (l := (i : Int) - 10) ok hs6 (by omega) nf
      have hn : vp_nar .boolean (J r) = J r := by rcases r1 with z | z <;> subst z <;> decide
      rw [if_neg (by omega), r2, b2s, J_mul, J_add, J_add, J_add, hn, ixb_J (by omega) (by omega) (by decide), ckt, ix_J (by omega) (by omega), show (21 * (s : Int) + ((i : Int) - 10) + 10).toNat = 21 * s + i by omega, show (i : Int) - 10 + 1 = ((i + 1 : Nat) : Int) - 10 by omega]
      have f1 : fr (fFa 26) M M1 := fFa_k r3
      have f2 : fr (fFa 26) M1 (pI M1 26 (21 * s + i) (J r)) := fr_pI (Or.inr (Or.inr rfl))
      refine ih (i + 1) M0 _ (by omega) (by omega) (mOK_c ok (fFa_j (by decide) (fr_t f1 f2))) (fr_t f (fr_t f1 f2)) (fun s' i' hi hn => ?_)
      rw [rII]
      by_cases z : 21 * s' + i' = 21 * s + i
      · rw [if_pos ⟨rfl, z⟩, show s' = s by omega, show i' = i by omega]
        rcases r1 with y | y
        · subst y
          exact Or.inl ⟨rfl, fun w => absurd (r4.mpr w) (by decide)⟩
        · subst y
          exact Or.inr ⟨rfl, r4.mp rfl⟩
      · rw [if_neg (fun w => z w.2), r3.1 26 _ (by unfold fMk; omega)]
        exact hF s' i' hi (by omega)
theorem m_fit_s (hs6 : s < 6) (hp : 0 ≤ p ∧ p < 6) (hg : g = 0 ∨ g = 1) (nf : notFull B p) : ∀ (n j : Nat) (M0 M : zM), j ≤ 11 → 11 < n + j → mOK M B s m p → gI M 3 (150 + p.toNat) = J g → fr (fFa 27) M0 M → F27 B M p g (11 * s + j) → ∃ M', gX12_fit_L52 (J p) (J s) n M (J ((j : Int) - 5)) = some M' ∧ fr (fFa 27) M0 M' ∧ F27 B M' p g (11 * s + 11) := by
  intro n
  induction n with
  | zero => intro i M0 M g1 g2; omega
  | succ n ih =>
    intro j M0 M g1 g2 ok e150 f hF
    unfold gX12_fit_L52
    simp only [J_0, J_1, J_2, J_3, J_4, J_5, J_6, J_7, J_8, J_9, J_10, J_11, J_12, J_14, J_15, J_16, J_19, J_20, J_21, J_22, J_23, J_24, J_25, J_28, J_30, J_31, J_32, J_40, J_44, J_47, J_48, J_49, J_50, J_53, J_54, J_57, J_59, J_74, J_75, J_78, J_84, J_97, J_99, J_100, J_120, J_122, J_126, J_132, J_138, J_144, J_150, J_156, J_162, J_198, J_200, J_202, J_206, J_210, J_214, J_218, J_222, J_226, J_230, J_234, J_238, J_239, J_240, J_241, J_242, J_243, J_255, J_263, J_283, J_303, J_399, J_400, J_401, J_463, J_700, J_701, J_999, J_1000, J_2048, J_4095, J_4096, J_6000, J_9999, J_10000, J_65536, J_65537, J_2147483647, J_neg]
    rw [iLT (by decide) (by decide) (by omega) (by omega)]
    by_cases e : j = 11
    · subst e
      rw [if_pos (by omega)]
      exact ⟨M, rfl, f, hF⟩
    · obtain ⟨r, M1, r1, r2, r3, r4⟩ := m_secOK (l := (j : Int) - 5) (g := g) ok hs6 hp (by omega) hg nf e150
      have hn : vp_nar .boolean (J r) = J r := by rcases r1 with z | z <;> subst z <;> decide
      rw [if_neg (by omega), r2, b2s, J_mul, J_add, J_add, J_add, hn, ixb_J (by omega) (by omega) (by decide), ckt, ix_J (by omega) (by omega), show (11 * (s : Int) + ((j : Int) - 5) + 5).toNat = 11 * s + j by omega, show (j : Int) - 5 + 1 = ((j + 1 : Nat) : Int) - 5 by omega]
      have f1 : fr (fFa 27) M M1 := fFa_k r3
      have f2 : fr (fFa 27) M1 (pI M1 27 (11 * s + j) (J r)) := fr_pI (Or.inr (Or.inr rfl))
      have f3 := fr_t f1 f2
      refine ih (j + 1) M0 _ (by omega) (by omega) (mOK_c ok (fFa_j (by decide) f3)) ((f3.1 3 _ (by unfold fFa; omega)).trans e150) (fr_t f f3) (fun s' j' hj hn => ?_)
      rw [rII]
      by_cases z : 11 * s' + j' = 11 * s + j
      · rw [if_pos ⟨rfl, z⟩, show s' = s by omega, show j' = j by omega]
        rcases r1 with y | y
        · subst y
          exact Or.inl ⟨rfl, fun w => absurd (r4.mpr w) (by decide)⟩
        · subst y
          exact Or.inr ⟨rfl, r4.mp rfl⟩
      · rw [if_neg (fun w => z w.2), r3.1 27 _ (by unfold fMk; omega)]
        exact hF s' j' hj (by omega)
theorem m_fit_L {N : Nat} (hN6 : N ≤ 6) (hp : 0 ≤ p ∧ p < 6) (hg : g = 0 ∨ g = 1) (nf : notFull B p) : ∀ (n s : Nat) (M0 M : zM), s ≤ N → N < n + s → (∀ e, e < N → mOK M B e m p) → gI M 3 238 = J N → gI M 3 (150 + p.toNat) = J g → fr fMj M0 M → F26 B M p (21 * s) → F27 B M p g (11 * s) → ∃ M', gX12_fit_L2 (J p) n M (J s) = some M' ∧ fr fMj M0 M' ∧ F26 B M' p (21 * N) ∧ F27 B M' p g (11 * N) := by
  intro n
  induction n with
  | zero => intro i M0 M g1 g2; omega
  | succ n ih =>
    intro s M0 M g1 g2 ok e238 e150 f h6 h7
    unfold gX12_fit_L2
    simp only [J_0, J_1, J_2, J_3, J_4, J_5, J_6, J_7, J_8, J_9, J_10, J_11, J_12, J_14, J_15, J_16, J_19, J_20, J_21, J_22, J_23, J_24, J_25, J_28, J_30, J_31, J_32, J_40, J_44, J_47, J_48, J_49, J_50, J_53, J_54, J_57, J_59, J_74, J_75, J_78, J_84, J_97, J_99, J_100, J_120, J_122, J_126, J_132, J_138, J_144, J_150, J_156, J_162, J_198, J_200, J_202, J_206, J_210, J_214, J_218, J_222, J_226, J_230, J_234, J_238, J_239, J_240, J_241, J_242, J_243, J_255, J_263, J_283, J_303, J_399, J_400, J_401, J_463, J_700, J_701, J_999, J_1000, J_2048, J_4095, J_4096, J_6000, J_9999, J_10000, J_65536, J_65537, J_2147483647, J_neg]
    rw [show ixb (J 238) 463 = true by decide, ckt, show ix (J 238) = 238 by decide, e238, iLE (by omega) (by omega) (by omega) (by omega)]
    by_cases e : s = N
    · subst e
      rw [if_pos (by omega)]
      exact ⟨M, rfl, f, h6, h7⟩
    · have hf := FUs (n := 30) (by omega)
      obtain ⟨M1, q1, q2, q3⟩ := m_fit_l (s := s) (by omega) nf (v1 := J p) FU 0 M M (by omega) (by omega) (ok s (by omega)) fr_r h6
      have f1 := fFa_j (by decide) q2
      have h71 : F27 B M1 p g (11 * s) := fun s' j' hj hn => by rw [q2.1 27 _ (by unfold fFa; omega)]; exact h7 s' j' hj hn
      obtain ⟨M2, r1, r2, r3⟩ := m_fit_s (s := s) (by omega) hp hg nf FU 0 M1 M1 (by omega) (by omega) (mOK_c (ok s (by omega)) f1) ((q2.1 3 _ (by unfold fFa; omega)).trans e150) fr_r h71
      have f2 := fFa_j (by decide) r2
      have h62 : F26 B M2 p (21 * (s + 1)) := fun s' i' hi hn => by rw [r2.1 26 _ (by unfold fFa; omega)]; exact q3 s' i' hi (by omega)
      have f3 := fr_t f1 f2
      rw [show ((0 : Nat) : Int) - 10 = -10 from rfl] at q1
      rw [show ((0 : Nat) : Int) - 5 = -5 from rfl] at r1
      rw [if_neg (by omega), q1, b1s, r1, b1s, J_add, show (s : Int) + 1 = ((s + 1 : Nat) : Int) by omega]
      exact ih (s + 1) M0 M2 (by omega) (by omega) (fun e he => mOK_c (ok e he) f3) ((f3.1 3 _ (by unfold fMj; omega)).trans e238) ((f3.1 3 _ (by unfold fMj; omega)).trans e150) (fr_t f f3) h62 (fun s' j' hj hn => r3 s' j' hj (by omega))
theorem m_fit {M : zM} {N : Nat} (hN6 : N ≤ 6) (hp : 0 ≤ p ∧ p < 6) (hg : g = 0 ∨ g = 1) (nf : notFull B p) (ok : ∀ e, e < N → mOK M B e m p) (e238 : gI M 3 238 = J N) (e150 : gI M 3 (150 + p.toNat) = J g) : ∃ M', gX12_fit M (J p) = some M' ∧ fr fMj M M' ∧ F26 B M' p (21 * N) ∧ F27 B M' p g (11 * N) := by
  obtain ⟨M', r1, r2⟩ := m_fit_L hN6 hp hg nf FU 0 M M (by omega) (by have := FUs (n := 30) (by omega); omega) ok e238 e150 fr_r (fun s i hi hn => by omega) (fun s i hi hn => by omega)
  refine ⟨M', ?_, r2⟩
  unfold gX12_fit
  simp only [J_0, J_1, J_2, J_3, J_4, J_5, J_6, J_7, J_8, J_9, J_10, J_11, J_12, J_14, J_15, J_16, J_19, J_20, J_21, J_22, J_23, J_24, J_25, J_28, J_30, J_31, J_32, J_40, J_44, J_47, J_48, J_49, J_50, J_53, J_54, J_57, J_59, J_74, J_75, J_78, J_84, J_97, J_99, J_100, J_120, J_122, J_126, J_132, J_138, J_144, J_150, J_156, J_162, J_198, J_200, J_202, J_206, J_210, J_214, J_218, J_222, J_226, J_230, J_234, J_238, J_239, J_240, J_241, J_242, J_243, J_255, J_263, J_283, J_303, J_399, J_400, J_401, J_463, J_700, J_701, J_999, J_1000, J_2048, J_4095, J_4096, J_6000, J_9999, J_10000, J_65536, J_65537, J_2147483647, J_neg]
  exact r1
theorem m_cn26 {M : zM} {N : Nat} (h : F26 B M p (21 * N)) (hs : s < N) (hN : N ≤ 6) {v3 : Int32} : ∀ (n i : Nat), i ≤ 21 → 21 < n + i → gX12_fitsOf_L7 M (J s) v3 n (J (cn (lA B p s) i)) (J i) = some (J (nL B p s)) := by
  intro n
  induction n with
  | zero => intro i g1 g2; omega
  | succ n ih =>
    intro i g1 g2
    unfold gX12_fitsOf_L7
    simp only [J_0, J_1, J_2, J_3, J_4, J_5, J_6, J_7, J_8, J_9, J_10, J_11, J_12, J_14, J_15, J_16, J_19, J_20, J_21, J_22, J_23, J_24, J_25, J_28, J_30, J_31, J_32, J_40, J_44, J_47, J_48, J_49, J_50, J_53, J_54, J_57, J_59, J_74, J_75, J_78, J_84, J_97, J_99, J_100, J_120, J_122, J_126, J_132, J_138, J_144, J_150, J_156, J_162, J_198, J_200, J_202, J_206, J_210, J_214, J_218, J_222, J_226, J_230, J_234, J_238, J_239, J_240, J_241, J_242, J_243, J_255, J_263, J_283, J_303, J_399, J_400, J_401, J_463, J_700, J_701, J_999, J_1000, J_2048, J_4095, J_4096, J_6000, J_9999, J_10000, J_65536, J_65537, J_2147483647, J_neg]
    rw [iLE (by decide) (by decide) (by omega) (by omega)]
    by_cases e : i = 21
    · subst e
      rw [if_pos (by omega)]
      rfl
    · have hf := h s i (by omega) (by omega)
      rw [if_neg (by omega), J_mul, J_add, ixb_J (by omega) (by omega) (by decide), ckt, ix_J (by omega) (by omega), show (21 * (s : Int) + i).toNat = 21 * s + i by omega, J_add, J_add, J_add, show (i : Int) + 1 = ((i + 1 : Nat) : Int) by omega]
      by_cases z : lA B p s i
      · rw [if_neg (show ¬ gI M 26 (21 * s + i) = J 0 by rw [flg_1 hf z]; decide), show ((cn (lA B p s) i : Int) + 1) = ((cn (lA B p s) (i + 1) : Nat) : Int) by rw [cn_y z]; omega]
        exact ih (i + 1) (by omega) (by omega)
      · rw [if_pos (flg_0 hf z), show ((cn (lA B p s) i : Int) + 0) = ((cn (lA B p s) (i + 1) : Nat) : Int) by rw [cn_n z]; omega]
        exact ih (i + 1) (by omega) (by omega)
theorem m_cn27 {M : zM} {N : Nat} (h : F27 B M p g (11 * N)) (hs : s < N) (hN : N ≤ 6) {v1 : Int32} {c : Int} (hv : v1 = J s) : ∀ (n i : Nat), i ≤ 11 → 11 < n + i → gX12_fitsOf_L46 M v1 (J c) n (J (cn (lQ B p s g) i)) (J i) = some (J (c * (cn (lQ B p s g) 11 : Nat))) := by
  subst hv
  intro n
  induction n with
  | zero => intro i g1 g2; omega
  | succ n ih =>
    intro i g1 g2
    unfold gX12_fitsOf_L46
    simp only [J_0, J_1, J_2, J_3, J_4, J_5, J_6, J_7, J_8, J_9, J_10, J_11, J_12, J_14, J_15, J_16, J_19, J_20, J_21, J_22, J_23, J_24, J_25, J_28, J_30, J_31, J_32, J_40, J_44, J_47, J_48, J_49, J_50, J_53, J_54, J_57, J_59, J_74, J_75, J_78, J_84, J_97, J_99, J_100, J_120, J_122, J_126, J_132, J_138, J_144, J_150, J_156, J_162, J_198, J_200, J_202, J_206, J_210, J_214, J_218, J_222, J_226, J_230, J_234, J_238, J_239, J_240, J_241, J_242, J_243, J_255, J_263, J_283, J_303, J_399, J_400, J_401, J_463, J_700, J_701, J_999, J_1000, J_2048, J_4095, J_4096, J_6000, J_9999, J_10000, J_65536, J_65537, J_2147483647, J_neg]
    rw [iLE (by decide) (by decide) (by omega) (by omega)]
    by_cases e : i = 11
    · subst e
      rw [if_pos (by omega), J_mul]
    · have hf := h s i (by omega) (by omega)
      rw [if_neg (by omega), J_mul, J_add, ixb_J (by omega) (by omega) (by decide), ckt, ix_J (by omega) (by omega), show (11 * (s : Int) + i).toNat = 11 * s + i by omega, J_add, J_add, J_add, show (i : Int) + 1 = ((i + 1 : Nat) : Int) by omega]
      by_cases z : lQ B p s g i
      · rw [if_neg (show ¬ gI M 27 (11 * s + i) = J 0 by rw [flg_1 hf z]; decide), show ((cn (lQ B p s g) i : Int) + 1) = ((cn (lQ B p s g) (i + 1) : Nat) : Int) by rw [cn_y z]; omega]
        exact ih (i + 1) (by omega) (by omega)
      · rw [if_pos (flg_0 hf z), show ((cn (lQ B p s g) i : Int) + 0) = ((cn (lQ B p s g) (i + 1) : Nat) : Int) by rw [cn_n z]; omega]
        exact ih (i + 1) (by omega) (by omega)
/-- pairs of a sense: lines by seconds -/
theorem fts_e : fts B p g s = nL B p s * cn (lQ B p s g) 11 := by
  unfold fts nQ
  by_cases z : nL B p s = 0
  · rw [z, Nat.zero_mul, Nat.zero_mul]
  · rw [if_neg z]
theorem m_fitsOf {M : zM} {N : Nat} (h : F26 B M p (21 * N)) (h2 : F27 B M p g (11 * N)) (hs : s < N) (hN : N ≤ 6) : gX12_fitsOf M (J s) = some (J (fts B p g s)) := by
  have hf := FUs (n := 30) (by omega)
  have q1 := m_cn26 h hs hN (v3 := J 0) FU 0 (by omega) (by omega)
  have q2 := m_cn27 h2 hs hN (v1 := J s) (c := nL B p s) rfl FU 0 (by omega) (by omega)
  rw [show cn (lA B p s) 0 = 0 from rfl, show J ((0 : Nat) : Int) = J 0 from rfl] at q1
  rw [show cn (lQ B p s g) 0 = 0 from rfl, show J ((0 : Nat) : Int) = J 0 from rfl] at q2
  unfold gX12_fitsOf
  simp only [J_0, J_1, J_2, J_3, J_4, J_5, J_6, J_7, J_8, J_9, J_10, J_11, J_12, J_14, J_15, J_16, J_19, J_20, J_21, J_22, J_23, J_24, J_25, J_28, J_30, J_31, J_32, J_40, J_44, J_47, J_48, J_49, J_50, J_53, J_54, J_57, J_59, J_74, J_75, J_78, J_84, J_97, J_99, J_100, J_120, J_122, J_126, J_132, J_138, J_144, J_150, J_156, J_162, J_198, J_200, J_202, J_206, J_210, J_214, J_218, J_222, J_226, J_230, J_234, J_238, J_239, J_240, J_241, J_242, J_243, J_255, J_263, J_283, J_303, J_399, J_400, J_401, J_463, J_700, J_701, J_999, J_1000, J_2048, J_4095, J_4096, J_6000, J_9999, J_10000, J_65536, J_65537, J_2147483647, J_neg]
  rw [q1, b1s, q2, fts_e]
  congr 2
theorem m_many_L {M : zM} {N : Nat} (h : F26 B M p (21 * N)) (h2 : F27 B M p g (11 * N)) (hN : N ≤ 6) (e238 : gI M 3 238 = J N) : ∀ (n s : Nat), s ≤ N → N < n + s → gX12_fitsMany_L4 M n (J (tot B p g s)) (J s) = some (J (tot B p g N)) := by
  intro n
  induction n with
  | zero => intro i g1 g2; omega
  | succ n ih =>
    intro s g1 g2
    unfold gX12_fitsMany_L4
    simp only [J_0, J_1, J_2, J_3, J_4, J_5, J_6, J_7, J_8, J_9, J_10, J_11, J_12, J_14, J_15, J_16, J_19, J_20, J_21, J_22, J_23, J_24, J_25, J_28, J_30, J_31, J_32, J_40, J_44, J_47, J_48, J_49, J_50, J_53, J_54, J_57, J_59, J_74, J_75, J_78, J_84, J_97, J_99, J_100, J_120, J_122, J_126, J_132, J_138, J_144, J_150, J_156, J_162, J_198, J_200, J_202, J_206, J_210, J_214, J_218, J_222, J_226, J_230, J_234, J_238, J_239, J_240, J_241, J_242, J_243, J_255, J_263, J_283, J_303, J_399, J_400, J_401, J_463, J_700, J_701, J_999, J_1000, J_2048, J_4095, J_4096, J_6000, J_9999, J_10000, J_65536, J_65537, J_2147483647, J_neg]
    rw [show ixb (J 238) 463 = true by decide, ckt, show ix (J 238) = 238 by decide, e238, iLE (by omega) (by omega) (by omega) (by omega)]
    by_cases e : s = N
    · subst e
      rw [if_pos (by omega)]
    · rw [if_neg (by omega), m_fitsOf h h2 (by omega) hN, b1s, J_add, J_add, show ((tot B p g s : Int) + (fts B p g s : Int)) = ((tot B p g (s + 1) : Nat) : Int) from rfl, show (s : Int) + 1 = ((s + 1 : Nat) : Int) by omega]
      exact ih (s + 1) (by omega) (by omega)
theorem m_fitsMany {M : zM} {N : Nat} (h : F26 B M p (21 * N)) (h2 : F27 B M p g (11 * N)) (hN : N ≤ 6) (e238 : gI M 3 238 = J N) : gX12_fitsMany M = some (J (tot B p g N)) := by
  unfold gX12_fitsMany
  simp only [J_0, J_1, J_2, J_3, J_4, J_5, J_6, J_7, J_8, J_9, J_10, J_11, J_12, J_14, J_15, J_16, J_19, J_20, J_21, J_22, J_23, J_24, J_25, J_28, J_30, J_31, J_32, J_40, J_44, J_47, J_48, J_49, J_50, J_53, J_54, J_57, J_59, J_74, J_75, J_78, J_84, J_97, J_99, J_100, J_120, J_122, J_126, J_132, J_138, J_144, J_150, J_156, J_162, J_198, J_200, J_202, J_206, J_210, J_214, J_218, J_222, J_226, J_230, J_234, J_238, J_239, J_240, J_241, J_242, J_243, J_255, J_263, J_283, J_303, J_399, J_400, J_401, J_463, J_700, J_701, J_999, J_1000, J_2048, J_4095, J_4096, J_6000, J_9999, J_10000, J_65536, J_65537, J_2147483647, J_neg]
  exact m_many_L h h2 hN e238 FU 0 (by omega) (by have := FUs (n := 30) (by omega); omega)
end
