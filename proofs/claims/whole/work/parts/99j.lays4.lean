/-! The model lays its cells: what a question finds. -/
section
variable {S S' : zM} {s m : Nat} {p : Int}
theorem m_lays (h21 : gI S 0 21 = J (bkn S)) (hb : bkn S ≤ 1000) (hrow : ∀ i, i < bkn S → mRow S i) (hp : 0 ≤ p ∧ p < 6) : ∃ (r : Int) (S' : zM) (m : Nat), gX12_lays S (J p) = some (J r, S') ∧ fr fLy S S' ∧ (r = 0 ∨ r = 1) ∧ (r = 1 ↔ notFull S p) ∧ mlP S' S p m := by
  obtain ⟨r, S', m, q1, q2, q3, q4, q5⟩ := m_lays_L hb h21 hrow hp FU 0 0 (pI S 0 34 (J 0)) 1 (Nat.zero_le _) (by have := FUs (n := 1002) (by omega); omega) (fr_pI (Or.inl ⟨rfl, rfl⟩)) ⟨by rw [rII, if_pos ⟨rfl, rfl⟩]; rfl, Nat.le_refl 0, fun d hd => by omega, fun j hj => by omega, fun d e hd => by omega, fun d hd => by omega⟩ ⟨Or.inr rfl, fun _ j hj => by omega, fun _ => rfl⟩
  rw [show J ((0 : Nat) : Int) = J 0 from rfl] at q1
  obtain ⟨g1, g2, g3, g4, g5, g6⟩ := q3
  refine ⟨r, S', m, ?_, q2, q4, q5, g1, by omega, fun d hd => ?_, g4⟩
  · unfold gX12_lays
    simp only [J_0, J_1, J_2, J_3, J_4, J_5, J_6, J_7, J_8, J_9, J_10, J_11, J_12, J_14, J_15, J_16, J_19, J_20, J_21, J_22, J_23, J_24, J_25, J_28, J_30, J_31, J_32, J_40, J_44, J_47, J_48, J_49, J_50, J_53, J_54, J_57, J_59, J_74, J_75, J_78, J_84, J_97, J_99, J_100, J_120, J_122, J_126, J_132, J_138, J_144, J_150, J_156, J_162, J_198, J_200, J_202, J_206, J_210, J_214, J_218, J_222, J_226, J_230, J_234, J_238, J_239, J_240, J_241, J_242, J_243, J_255, J_263, J_283, J_303, J_399, J_400, J_401, J_463, J_700, J_701, J_999, J_1000, J_2048, J_4095, J_4096, J_6000, J_9999, J_10000, J_65536, J_65537, J_2147483647, J_neg]
    exact q1
  · obtain ⟨i, i1, i2, i3, i4⟩ := g3 d hd
    have hc := g6 d hd
    rw [iI_c i4.1, iI_c i4.2.1, iI_c i4.2.2] at hc
    refine ⟨i, i1, i2, i3, i4, hrow i i1, ?_⟩
    rw [i2]
    exact hc
/-- what the model needs to judge a line and a second -/
def mOK (S B : zM) (s m : Nat) (p : Int) : Prop := mSense S s ∧ mlP S B p m ∧ nS S s = nS B s ∧ ∀ x, lvS S s x = lvS B s x
def fMj (q _k : Nat) : Prop := (15 ≤ q ∧ q ≤ 19) ∨ (25 ≤ q ∧ q ≤ 27)
theorem mOK_c {B : zM} (h : mOK S B s m p) (f : fr fMj S S') : mOK S' B s m p := by
  obtain ⟨h1, ⟨g1, g2, g3, g4⟩, h3, h4⟩ := h
  have c : ∀ q k, ¬ ((15 ≤ q ∧ q ≤ 19) ∨ (25 ≤ q ∧ q ≤ 27)) → gI S' q k = gI S q k := f.1
  have ko : ∀ d j, lkey S' d B j ↔ lkey S d B j := fun d j => by
    unfold lkey
    rw [c 20 d (by omega), c 21 d (by omega), c 22 d (by omega)]
  refine ⟨mSense_c h1 (fun k => c 3 k (by omega)) (fun k => c 5 k (by omega)), ⟨(c 0 34 (by omega)).trans g1, g2, fun d hd => ?_, fun i i1 i2 i3 => ?_⟩, ?_, fun x => ?_⟩
  · obtain ⟨i, i1, i2, i3, i4, i5, i6, i7⟩ := g3 d hd
    exact ⟨i, i1, i2, i3, (ko d i).mpr i4, i5, (c 23 d (by omega)).trans i6, fun a ha => (c 24 _ (by omega)).trans (i7 a ha)⟩
  · obtain ⟨d, d1, d2⟩ := g4 i i1 i2 i3
    exact ⟨d, d1, (ko d i).mpr d2⟩
  · rw [← h3]
    unfold nS
    rw [show fK S' s = fK S s by unfold fK iI; rw [c 3 _ (by omega)], mN_c (fun k => c 3 k (by omega))]
  · rw [← h4]
    unfold lvS iI
    rw [c 5 _ (by omega)]
def fMk (q _k : Nat) : Prop := (15 ≤ q ∧ q ≤ 19) ∨ q = 25
theorem fMk_M (f : fr fM S S') : fr fMk S S' := fr_w f (fun q k z => by unfold fM at z; unfold fMk; omega)
theorem fMk_j (f : fr fMk S S') : fr fMj S S' := fr_w f (fun q k z => by unfold fMk at z; unfold fMj; omega)
theorem m_lineOK {B : zM} {l : Int} (h : mOK S B s m p) (hs6 : s < 6) (hl : -1000 ≤ l ∧ l ≤ 1000) (hnf : notFull B p) : ∃ (r : Int) (S' : zM), (r = 0 ∨ r = 1) ∧ gX12_letsLine S (J s) (J l) = some (J r, S') ∧ fr fMk S S' ∧ (r = 1 ↔ lineOK B p s l) := by
  obtain ⟨r, S', r1, r2, r3, r4⟩ := m_letsLine (S0 := S) (S := S) h.1 hs6 hl h.2.1 h.2.2.1 h.2.2.2 hnf fr_r
  exact ⟨r, S', r1, r2, fMk_M r3, r4⟩
end
section
variable {S : zM} {d N K0 K1 K2 : Nat} {W o0 o1 o2 g z : Int} {v1 v2 v3 : Int32}
theorem m_J198 (hd : d < 1000) (hN : 1 ≤ N ∧ N ≤ 40) (hW : 1 ≤ W * W ∧ W * W ≤ 10000) (hK : K2 ≤ N) (e23 : gI S 23 d = J N) (e24 : gI S 24 (3 * d + 2) = J K2) (ho : 0 ≤ o2 ∧ o2 ≤ W * W) (hg : g = 0 ∨ g = 1) (hz : z = 0 ∨ z = 1) : ∃ (r : Int) (S' : zM), (r = 0 ∨ r = 1) ∧ gX12_letsSecond_J198 S v1 v2 v3 (J W) (J d) (J g) (J o2) (J z) = some (.inr (J r, J ((d + 1 : Nat) : Int), S')) ∧ fr fM S S' ∧ (r = 1 ↔ z = 1 ∧ (g = 0 → spI N o2 (W * W) K2)) := by
  have x1 : ixb (J (d : Int)) 1000 = true := ixb_J (by omega) (by omega) (by decide)
  have y1 : ix (J (d : Int)) = d := by rw [ix_J (by omega) (by omega)]; omega
  have x2 : ixb (J (3 * (d : Int) + 2)) 3000 = true := ixb_J (by omega) (by omega) (by decide)
  have y2 : ix (J (3 * (d : Int) + 2)) = 3 * d + 2 := by rw [ix_J (by omega) (by omega)]; omega
  unfold gX12_letsSecond_J198
  simp only [J_0, J_1, J_2, J_3, J_4, J_5, J_6, J_7, J_8, J_9, J_10, J_11, J_12, J_14, J_15, J_16, J_19, J_20, J_21, J_22, J_23, J_24, J_25, J_28, J_30, J_31, J_32, J_40, J_44, J_47, J_48, J_49, J_50, J_53, J_54, J_57, J_59, J_74, J_75, J_78, J_84, J_97, J_99, J_100, J_120, J_122, J_126, J_132, J_138, J_144, J_150, J_156, J_162, J_198, J_200, J_202, J_206, J_210, J_214, J_218, J_222, J_226, J_230, J_234, J_238, J_239, J_240, J_241, J_242, J_243, J_255, J_263, J_283, J_303, J_399, J_400, J_401, J_463, J_700, J_701, J_999, J_1000, J_2048, J_4095, J_4096, J_6000, J_9999, J_10000, J_65536, J_65537, J_2147483647, J_neg, J_neg, J_add, J_sub, J_mul, x1, y1, x2, y2, e23, e24, ckt, b1s, b2s, lts, un2s, un3s, un4s, un5s, lmr, lml, lgr, lgl]
  rw [iEQ (by omega) (by omega) (by decide) (by decide), iEQ (by omega) (by omega) (by decide) (by decide), show (d : Int) + 1 = ((d + 1 : Nat) : Int) by omega]
  by_cases a : z = 0
  · rw [if_pos a]
    exact ⟨0, S, Or.inl rfl, rfl, fr_r, fun v => absurd v (by decide), fun v => by omega⟩
  · rw [if_neg a]
    by_cases b : g = 0
    · obtain ⟨S', q1, q2⟩ := m_isIn (S := S) (n := N) (k := K2) (x := o2) (y := W * W) hN hK ho.1 ho.2 hW
      rw [if_pos b, q1, b2s, iB0]
      by_cases c : N - spH N (W * W - o2) o2 ≤ K2 ∧ K2 ≤ spH N o2 (W * W - o2)
      · rw [if_pos c]
        exact ⟨1, S', Or.inr rfl, rfl, q2, fun _ => ⟨by omega, fun _ => c⟩, fun _ => rfl⟩
      · rw [if_neg c]
        exact ⟨0, S', Or.inl rfl, rfl, q2, fun v => absurd v (by decide), fun v => absurd (v.2 b) c⟩
    · rw [if_neg b]
      exact ⟨1, S, Or.inr rfl, rfl, fr_r, fun _ => ⟨by omega, fun v => absurd v b⟩, fun _ => rfl⟩
theorem m_J121 (hd : d < 1000) (hN : 1 ≤ N ∧ N ≤ 40) (hW : 1 ≤ W * W ∧ W * W ≤ 10000) (hK0 : K0 ≤ N) (hK1 : K1 ≤ N) (hK : K2 ≤ N) (e23 : gI S 23 d = J N) (f0 : gI S 24 (3 * d) = J K0) (f1 : gI S 24 (3 * d + 1) = J K1) (e24 : gI S 24 (3 * d + 2) = J K2) (e25 : gI S 25 2 = J o2) (ho0 : 0 ≤ o0 ∧ o0 ≤ W * W) (ho1 : 0 ≤ o1 ∧ o1 ≤ W * W) (ho : 0 ≤ o2 ∧ o2 ≤ W * W) (hg : g = 0 ∨ g = 1) : ∃ (r : Int) (S' : zM), (r = 0 ∨ r = 1) ∧ gX12_letsSecond_J121 S v1 v2 v3 (J W) (J d) (J g) (J o0) (J o1) = some (.inr (J r, J ((d + 1 : Nat) : Int), S')) ∧ fr fM S S' ∧ (r = 1 ↔ spI N o0 (W * W) K0 ∧ spI N o1 (W * W) K1 ∧ (g = 0 → spI N o2 (W * W) K2)) := by
  have x1 : ixb (J (d : Int)) 1000 = true := ixb_J (by omega) (by omega) (by decide)
  have y1 : ix (J (d : Int)) = d := by rw [ix_J (by omega) (by omega)]; omega
  have x2 : ixb (J (3 * (d : Int) + 1)) 3000 = true := ixb_J (by omega) (by omega) (by decide)
  have y2 : ix (J (3 * (d : Int) + 1)) = 3 * d + 1 := by rw [ix_J (by omega) (by omega)]; omega
  have x3 : ixb (J (3 * (d : Int))) 3000 = true := ixb_J (by omega) (by omega) (by decide)
  have y3 : ix (J (3 * (d : Int))) = 3 * d := by rw [ix_J (by omega) (by omega)]; omega
  have x4 : ixb (J 2) 3 = true := by decide
  have y4 : ix (J 2) = 2 := by decide
  obtain ⟨S1, q1, q2⟩ := m_isIn (S := S) (n := N) (k := K0) (x := o0) (y := W * W) hN hK0 ho0.1 ho0.2 hW
  have c1 : ∀ q k, ¬ (15 ≤ q ∧ q ≤ 19) → gI S1 q k = gI S q k := q2.1
  obtain ⟨S2, r1, r2⟩ := m_isIn (S := S1) (n := N) (k := K1) (x := o1) (y := W * W) hN hK1 ho1.1 ho1.2 hW
  have c2 : ∀ q k, ¬ (15 ≤ q ∧ q ≤ 19) → gI S2 q k = gI S q k := fun q k z => (r2.1 q k z).trans (c1 q k z)
  unfold gX12_letsSecond_J121
  simp only [J_0, J_1, J_2, J_3, J_4, J_5, J_6, J_7, J_8, J_9, J_10, J_11, J_12, J_14, J_15, J_16, J_19, J_20, J_21, J_22, J_23, J_24, J_25, J_28, J_30, J_31, J_32, J_40, J_44, J_47, J_48, J_49, J_50, J_53, J_54, J_57, J_59, J_74, J_75, J_78, J_84, J_97, J_99, J_100, J_120, J_122, J_126, J_132, J_138, J_144, J_150, J_156, J_162, J_198, J_200, J_202, J_206, J_210, J_214, J_218, J_222, J_226, J_230, J_234, J_238, J_239, J_240, J_241, J_242, J_243, J_255, J_263, J_283, J_303, J_399, J_400, J_401, J_463, J_700, J_701, J_999, J_1000, J_2048, J_4095, J_4096, J_6000, J_9999, J_10000, J_65536, J_65537, J_2147483647, J_neg, J_neg, J_add, J_sub, J_mul, x1, y1, x2, y2, x3, y3, x4, y4, e23, f0, e25, ckt, b1s, b2s, lts, un2s, un3s, un4s, un5s, lmr, lml, lgr, lgl, q1, c1 23 d (by omega), c1 24 (3 * d + 1) (by omega), f1, r1]
  rw [iB0]
  have d1 : gI S1 23 d = J N := (c1 23 d (by omega)).trans e23
  have d2 : gI S1 24 (3 * d + 2) = J K2 := (c1 24 _ (by omega)).trans e24
  have e1 : gI S2 23 d = J N := (c2 23 d (by omega)).trans e23
  have e2 : gI S2 24 (3 * d + 2) = J K2 := (c2 24 _ (by omega)).trans e24
  by_cases a : N - spH N (W * W - o0) o0 ≤ K0 ∧ K0 ≤ spH N o0 (W * W - o0)
  · rw [if_pos a, iB0]
    by_cases b : N - spH N (W * W - o1) o1 ≤ K1 ∧ K1 ≤ spH N o1 (W * W - o1)
    · rw [if_pos b]
      obtain ⟨r, S', p1, p2, p3, p4⟩ := m_J198 (v1 := v1) (v2 := v2) (v3 := v3) (z := 1) hd hN hW hK e1 e2 ho hg (Or.inr rfl)
      exact ⟨r, S', p1, p2, fr_t (fr_t q2 r2) p3, p4.trans ⟨fun v => ⟨a, b, v.2⟩, fun v => ⟨rfl, v.2.2⟩⟩⟩
    · rw [if_neg b]
      obtain ⟨r, S', p1, p2, p3, p4⟩ := m_J198 (v1 := v1) (v2 := v2) (v3 := v3) (z := 0) hd hN hW hK e1 e2 ho hg (Or.inl rfl)
      exact ⟨r, S', p1, p2, fr_t (fr_t q2 r2) p3, p4.trans ⟨fun v => absurd v.1 (by decide), fun v => absurd v.2.1 b⟩⟩
  · rw [if_neg a]
    obtain ⟨r, S', p1, p2, p3, p4⟩ := m_J198 (v1 := v1) (v2 := v2) (v3 := v3) (z := 0) hd hN hW hK d1 d2 ho hg (Or.inl rfl)
    exact ⟨r, S', p1, p2, fr_t q2 p3, p4.trans ⟨fun v => absurd v.1 (by decide), fun v => absurd v.1 a⟩⟩
theorem m_J84 (hd : d < 1000) (hN : 1 ≤ N ∧ N ≤ 40) (hW : 1 ≤ W * W ∧ W * W ≤ 10000) (hK0 : K0 ≤ N) (hK1 : K1 ≤ N) (hK : K2 ≤ N) (e23 : gI S 23 d = J N) (f0 : gI S 24 (3 * d) = J K0) (f1 : gI S 24 (3 * d + 1) = J K1) (e24 : gI S 24 (3 * d + 2) = J K2) (g0 : gI S 25 0 = J o0) (g1 : gI S 25 1 = J o1) (g2 : gI S 25 2 = J o2) (ho0 : 0 ≤ o0 ∧ o0 ≤ W * W) (ho1 : 0 ≤ o1 ∧ o1 ≤ W * W) (ho : 0 ≤ o2 ∧ o2 ≤ W * W) (ho3 : o1 + o2 ≤ W * W) (hg : g = 0 ∨ g = 1) : ∃ (r : Int) (S' : zM), (r = 0 ∨ r = 1) ∧ gX12_letsSecond_J84 S v1 v2 v3 (J W) (J d) (J g) = some (.inr (J r, J ((d + 1 : Nat) : Int), S')) ∧ fr fM S S' ∧ (r = 1 ↔ spI N o0 (W * W) K0 ∧ spI N (if g = 1 then o1 + o2 else o1) (W * W) K1 ∧ (g = 0 → spI N o2 (W * W) K2)) := by
  unfold gX12_letsSecond_J84
  simp only [J_0, J_1, J_2, J_3, J_4, J_5, J_6, J_7, J_8, J_9, J_10, J_11, J_12, J_14, J_15, J_16, J_19, J_20, J_21, J_22, J_23, J_24, J_25, J_28, J_30, J_31, J_32, J_40, J_44, J_47, J_48, J_49, J_50, J_53, J_54, J_57, J_59, J_74, J_75, J_78, J_84, J_97, J_99, J_100, J_120, J_122, J_126, J_132, J_138, J_144, J_150, J_156, J_162, J_198, J_200, J_202, J_206, J_210, J_214, J_218, J_222, J_226, J_230, J_234, J_238, J_239, J_240, J_241, J_242, J_243, J_255, J_263, J_283, J_303, J_399, J_400, J_401, J_463, J_700, J_701, J_999, J_1000, J_2048, J_4095, J_4096, J_6000, J_9999, J_10000, J_65536, J_65537, J_2147483647, J_neg, show ixb (J 0) 3 = true by decide, show ixb (J 1) 3 = true by decide, show ixb (J 2) 3 = true by decide, show ix (J 0) = 0 by decide, show ix (J 1) = 1 by decide, show ix (J 2) = 2 by decide, g0, g1, g2, J_neg, J_add, J_sub, J_mul, ckt, b1s, b2s, lts, un2s, un3s, un4s, un5s, lmr, lml, lgr, lgl]
  rcases hg with z | z
  · subst z
    rw [if_pos rfl, if_neg (show ¬ (0 : Int) = 1 by decide)]
    exact m_J121 hd hN hW hK0 hK1 hK e23 f0 f1 e24 g2 ho0 ho1 ho (Or.inl rfl)
  · subst z
    rw [if_neg (show ¬ J 1 = J 0 by decide), if_pos rfl]
    exact m_J121 hd hN hW hK0 hK1 hK e23 f0 f1 e24 g2 ho0 ⟨by omega, ho3⟩ ho (Or.inr rfl)
end
section
variable {B : zM} {s m : Nat} {p l g : Int}
theorem m_sc_0 {S : zM} {v1 v2 v3 v4 : Int32} {d n : Nat} : gX12_letsSecond_L18 v1 v2 v3 v4 (n + 1) S (J 0) (J d) = some (J 0, S) := by
  unfold gX12_letsSecond_L18
  simp only [J_0, J_1, J_2, J_3, J_4, J_5, J_6, J_7, J_8, J_9, J_10, J_11, J_12, J_14, J_15, J_16, J_19, J_20, J_21, J_22, J_23, J_24, J_25, J_28, J_30, J_31, J_32, J_40, J_44, J_47, J_48, J_49, J_50, J_53, J_54, J_57, J_59, J_74, J_75, J_78, J_84, J_97, J_99, J_100, J_120, J_122, J_126, J_132, J_138, J_144, J_150, J_156, J_162, J_198, J_200, J_202, J_206, J_210, J_214, J_218, J_222, J_226, J_230, J_234, J_238, J_239, J_240, J_241, J_242, J_243, J_255, J_263, J_283, J_303, J_399, J_400, J_401, J_463, J_700, J_701, J_999, J_1000, J_2048, J_4095, J_4096, J_6000, J_9999, J_10000, J_65536, J_65537, J_2147483647, J_neg, if_true, show isB (J 0) = true by decide, ckt, b1s, b2s, lts, un2s, un3s, un4s, un5s, lmr, lml, lgr, lgl]
  split <;> rfl
theorem m_sc_L (hs6 : s < 6) (hp : 0 ≤ p ∧ p < 6) (hl : -1000 ≤ l ∧ l ≤ 1000) (hg : g = 0 ∨ g = 1) (hnf : notFull B p) : ∀ (n d : Nat) (S : zM), d ≤ m → m < n + d → mOK S B s m p → gI S 3 (150 + p.toNat) = J g → ∃ (r : Int) (S' : zM), (r = 0 ∨ r = 1) ∧ gX12_letsSecond_L18 (J p) (J s) (J l) (J (nAll (nS B s))) n S (J 1) (J d) = some (J r, S') ∧ fr fMk S S' ∧ (r = 1 ↔ ∀ e : Nat, d ≤ e → e < m → ∀ i : Nat, i < bkn B → lkey S e B i → iI B 8 i = p → iI B 9 i = 0 → scR B s l g i) := by
  intro n
  induction n with
  | zero => intro d S g1 g2; omega
  | succ n ih =>
    intro d S g1 g2 ok e150
    obtain ⟨hse, ⟨h34, hm2, hcs, hcr⟩, hns, hlv⟩ := id ok
    have hk := fK_b hse
    have ho : nOK (nS S s) := mN_ok hse ⟨hk.1, hk.2.1⟩
    have W1 := nAll_hi ho
    have W0 := nAll_lo ho
    have W2 := nSq_hi ho
    have W3 : 1 * 1 ≤ nAll (nS S s) * nAll (nS S s) := Int.mul_le_mul W0 W0 (by omega) (by omega)
    unfold gX12_letsSecond_L18
    simp only [J_0, J_1, J_2, J_3, J_4, J_5, J_6, J_7, J_8, J_9, J_10, J_11, J_12, J_14, J_15, J_16, J_19, J_20, J_21, J_22, J_23, J_24, J_25, J_28, J_30, J_31, J_32, J_40, J_44, J_47, J_48, J_49, J_50, J_53, J_54, J_57, J_59, J_74, J_75, J_78, J_84, J_97, J_99, J_100, J_120, J_122, J_126, J_132, J_138, J_144, J_150, J_156, J_162, J_198, J_200, J_202, J_206, J_210, J_214, J_218, J_222, J_226, J_230, J_234, J_238, J_239, J_240, J_241, J_242, J_243, J_255, J_263, J_283, J_303, J_399, J_400, J_401, J_463, J_700, J_701, J_999, J_1000, J_2048, J_4095, J_4096, J_6000, J_9999, J_10000, J_65536, J_65537, J_2147483647, J_neg]
    rw [h34, iLE (by omega) (by omega) (by omega) (by omega)]
    by_cases e : d = m
    · subst e
      rw [if_pos (by omega), show isB (J 1) = true by decide, ckt]
      exact ⟨1, S, Or.inr rfl, rfl, fr_r, fun _ d d1 d2 => by omega, fun _ => rfl⟩
    · obtain ⟨i, i1, i8, i2, i3, i4, i5, i6⟩ := hcs d (by omega)
      have x1 : ixb (J (d : Int)) 1000 = true := ixb_J (by omega) (by omega) (by decide)
      have y1 : ix (J (d : Int)) = d := by rw [ix_J (by omega) (by omega)]; omega
      have x2 : ixb (J (150 + p)) 463 = true := ixb_J (by omega) (by omega) (by decide)
      have y2 : ix (J (150 + p)) = 150 + p.toNat := by rw [ix_J (by omega) (by omega)]; omega
      obtain ⟨-, m9, m10, m11, -⟩ := i4
      have uq : ∀ i' : Nat, lkey S d B i' → iI B 9 i' = iI B 9 i ∧ iI B 10 i' = iI B 10 i ∧ iI B 11 i' = iI B 11 i := fun i' q => ⟨(iI_c q.1).symm.trans (iI_c i3.1), (iI_c q.2.1).symm.trans (iI_c i3.2.1), (iI_c q.2.2).symm.trans (iI_c i3.2.2)⟩
      rw [if_neg (by omega), if_neg (show ¬ J 1 = J 0 by decide), x1, ckt, ckt, ckt, y1, i3.1, i3.2.1, i3.2.2, gI_J B 9, gI_J B 10, gI_J B 11, iEQ (by omega) (by omega) (by decide) (by decide), J_add, J_add, show (d : Int) + 1 = ((d + 1 : Nat) : Int) by omega]
      by_cases w : iI B 9 i = 0
      · have hN1 := nK_pos (n := bkn B) i1 (show isK B i (iI B 8 i) (iI B 9 i) (iI B 10 i) (iI B 11 i) from ⟨rfl, rfl, rfl, rfl⟩)
        have hN2 := hnf i i1 i8 i2
        rw [← i8] at hN2
        have nb : ∀ a : Nat, _ := fun a => nKA_bd (S := B) (n := bkn B) (p := iI B 8 i) (k := iI B 9 i) (a := iI B 10 i) (b := iI B 11 i) (an := a)
        have nb0 := nb 0
        have nb1 := nb 1
        have nb2 := nb 2
        obtain ⟨S1, q1, q2, q3, q4, q5⟩ := m_pairsD hse hs6 (d := l) (x := iI B 10 i) (y := iI B 11 i) hl m10 m11
        have f1 : fr fMk S S1 := fr_w q2 (fun q k z => Or.inr (by omega))
        have ok1 := mOK_c ok (fMk_j f1)
        have c1 : ∀ q k, ¬ q = 25 → gI S1 q k = gI S q k := q2.1
        generalize hv : lvS S s (iI B 11 i) + l - lvS S s (iI B 10 i) = v at q3 q4 q5
        obtain ⟨N, hN⟩ : ∃ N : Nat, nK B (bkn B) (iI B 8 i) (iI B 9 i) (iI B 10 i) (iI B 11 i) = N := ⟨(nK B (bkn B) (iI B 8 i) (iI B 9 i) (iI B 10 i) (iI B 11 i)).toNat, by omega⟩
        obtain ⟨K0, hK0⟩ : ∃ N : Nat, nKA B (bkn B) (iI B 8 i) (iI B 9 i) (iI B 10 i) (iI B 11 i) ((0 : Nat) : Int) = N := ⟨(nKA B (bkn B) (iI B 8 i) (iI B 9 i) (iI B 10 i) (iI B 11 i) ((0 : Nat) : Int)).toNat, by omega⟩
        obtain ⟨K1, hK1⟩ : ∃ N : Nat, nKA B (bkn B) (iI B 8 i) (iI B 9 i) (iI B 10 i) (iI B 11 i) ((1 : Nat) : Int) = N := ⟨(nKA B (bkn B) (iI B 8 i) (iI B 9 i) (iI B 10 i) (iI B 11 i) ((1 : Nat) : Int)).toNat, by omega⟩
        obtain ⟨K2, hK2⟩ : ∃ N : Nat, nKA B (bkn B) (iI B 8 i) (iI B 9 i) (iI B 10 i) (iI B 11 i) ((2 : Nat) : Int) = N := ⟨(nKA B (bkn B) (iI B 8 i) (iI B 9 i) (iI B 10 i) (iI B 11 i) ((2 : Nat) : Int)).toNat, by omega⟩
        have e0 : gI S 24 (3 * d) = J K0 := by
          have := i6 0 (by omega)
          rw [hK0] at this
          exact this
        have e1 : gI S 24 (3 * d + 1) = J K1 := by rw [i6 1 (by omega), hK1]
        have e2 : gI S 24 (3 * d + 2) = J K2 := by rw [i6 2 (by omega), hK2]
        have pb : ∀ (gg : Bool) (a : Int), _ := fun gg a => pOd_all ho v gg a
        have p12 : pOd (nS S s) v false 1 + pOd (nS S s) v false 2 = pOd (nS S s) v true 1 := by
          unfold pOd
          simp
          omega
        have pg0 : pOd (nS S s) v true 0 = pOd (nS S s) v false 0 := rfl
        have pt := pb true 1
        obtain ⟨r, S', r1, r2, r3, r4⟩ := m_J84 (S := S1) (d := d) (N := N) (K0 := K0) (K1 := K1) (K2 := K2) (W := nAll (nS S s)) (g := g) (v1 := J p) (v2 := J s) (v3 := J l) (by omega) (by omega) (by omega) (by omega) (by omega) (by omega) (by rw [c1 23 d (by decide), i5, hN]) (by rw [c1 24 _ (by decide), e0]) (by rw [c1 24 _ (by decide), e1]) (by rw [c1 24 _ (by decide), e2]) q3 q4 q5 (pb false 0) (pb false 1) (pb false 2) (by omega) hg
        have iff : r = 1 ↔ scR B s l g i := by
          refine r4.trans ?_
          unfold scR
          rw [hN, ← hns, ← hlv, ← hlv, hv]
          rcases hg with z | z
          · subst z
            rw [show decide ((0 : Int) = 1) = false from rfl, if_neg (show ¬ (0 : Int) = 1 by decide)]
            constructor
            · intro u a ha
              have : a = 0 ∨ a = 1 ∨ a = 2 := by unfold tpG at ha; rw [if_pos rfl] at ha; omega
              rcases this with y | y | y
              · subst y; rw [hK0]; exact u.1
              · subst y; rw [hK1]; exact u.2.1
              · subst y; rw [hK2]; exact u.2.2 rfl
            · intro u
              have u0 := u 0 (by decide)
              have u1 := u 1 (by decide)
              have u2 := u 2 (by decide)
              rw [hK0] at u0
              rw [hK1] at u1
              rw [hK2] at u2
              exact ⟨u0, u1, fun _ => u2⟩
          · subst z
            rw [show decide ((1 : Int) = 1) = true from rfl, if_pos rfl, p12]
            constructor
            · intro u a ha
              have : a = 0 ∨ a = 1 := by unfold tpG at ha; rw [if_neg (by decide)] at ha; omega
              rcases this with y | y
              · subst y; rw [hK0]; exact u.1
              · subst y; rw [hK1]; exact u.2.1
            · intro u
              have u0 := u 0 (by decide)
              have u1 := u 1 (by decide)
              rw [hK0] at u0
              rw [hK1] at u1
              exact ⟨u0, u1, fun w => absurd w (by decide)⟩
        have fS := fr_t f1 (fMk_M r3)
        have eg : gI S1 3 (150 + p.toNat) = J g := by rw [c1 3 _ (by decide), e150]
        have lk : ∀ e' j, lkey S' e' B j ↔ lkey S e' B j := fun e' j => by
          unfold lkey
          rw [fS.1 20 e' (by unfold fMk; omega), fS.1 21 e' (by unfold fMk; omega), fS.1 22 e' (by unfold fMk; omega)]
        obtain ⟨n', hn'⟩ : ∃ n', n = n' + 1 := ⟨n - 1, by omega⟩
        have fin : ∃ (r' : Int) (S'' : zM), (r' = 0 ∨ r' = 1) ∧ gX12_letsSecond_L18 (J p) (J s) (J l) (J (nAll (nS B s))) n S' (J r) (J ((d + 1 : Nat) : Int)) = some (J r', S'') ∧ fr fMk S S'' ∧ (r' = 1 ↔ ∀ e : Nat, d ≤ e → e < m → ∀ i : Nat, i < bkn B → lkey S e B i → iI B 8 i = p → iI B 9 i = 0 → scR B s l g i) := by
          rcases r1 with z | z
          · subst z
            rw [hn', m_sc_0]
            exact ⟨0, S', Or.inl rfl, rfl, fS, fun v => absurd v (by decide), fun v => absurd (iff.mpr (v d (Nat.le_refl d) (by omega) i i1 i3 i8 w)) (by decide)⟩
          · subst z
            obtain ⟨r', S'', a1, a2, a3, a4⟩ := ih (d + 1) S' (by omega) (by omega) (mOK_c ok (fMk_j fS)) (by rw [fS.1 3 _ (by unfold fMk; omega), e150])
            refine ⟨r', S'', a1, a2, fr_t fS a3, a4.trans ⟨fun v e' d1 d2 i' b1 b2 b3 b4 => ?_, fun v e' d1 d2 i' b1 b2 => v e' (by omega) d2 i' b1 ((lk e' i').mp b2)⟩⟩
            by_cases y : e' = d
            · rw [y] at b2
              obtain ⟨k1, k2, k3⟩ := uq i' b2
              have := iff.mp rfl
              intro a ha
              rw [b3, k1, k2, k3, ← i8]
              exact this a ha
            · exact v e' (by omega) d2 i' b1 ((lk e' i').mpr b2) b3 b4
        rw [if_pos w, q1, b1s, x2, ckt, y2, eg, iEQ (by omega) (by omega) (by decide) (by decide), ← hns]
        rw [← hns] at fin
        rcases hg with z | z
        · subst z
          rw [if_neg (by decide), r2, lmr, un3s]
          exact fin
        · subst z
          rw [if_pos rfl, r2, lmr, un3s]
          exact fin
      · rw [if_neg w]
        obtain ⟨r, S', a1, a2, a3, a4⟩ := ih (d + 1) S (by omega) (by omega) ok e150
        refine ⟨r, S', a1, a2, a3, a4.trans ⟨fun v e' d1 d2 i' b1 b2 b3 b4 => ?_, fun v e' d1 d2 => v e' (by omega) d2⟩⟩
        by_cases y : e' = d
        · rw [y] at b2
          exact absurd ((uq i' b2).1.symm.trans b4) w
        · exact v e' (by omega) d2 i' b1 b2 b3 b4
theorem m_secOK {S : zM} (h : mOK S B s m p) (hs6 : s < 6) (hp : 0 ≤ p ∧ p < 6) (hl : -1000 ≤ l ∧ l ≤ 1000) (hg : g = 0 ∨ g = 1) (hnf : notFull B p) (e150 : gI S 3 (150 + p.toNat) = J g) : ∃ (r : Int) (S' : zM), (r = 0 ∨ r = 1) ∧ gX12_letsSecond S (J p) (J s) (J l) = some (J r, S') ∧ fr fMk S S' ∧ (r = 1 ↔ secOK B p s l g) := by
  have hk := fK_b h.1
  have ea := m_all (S := S) (s := s) hs6 hk.2.1
  rw [show mN S s (fK S s) = nS S s from rfl, h.2.2.1] at ea
  obtain ⟨r, S', r1, r2, r3, r4⟩ := m_sc_L hs6 hp hl hg hnf FU 0 S (Nat.zero_le m) (by have := h.2.1.2.1; have := FUs (n := 1002) (by omega); omega) h e150
  rw [show J ((0 : Nat) : Int) = J 0 from rfl] at r2
  refine ⟨r, S', r1, ?_, r3, r4.trans ⟨fun v i i1 i2 i3 => ?_, fun v e _ _ i i1 _ i3 i4 => v i i1 i3 i4⟩⟩
  · unfold gX12_letsSecond
    simp only [J_0, J_1, J_2, J_3, J_4, J_5, J_6, J_7, J_8, J_9, J_10, J_11, J_12, J_14, J_15, J_16, J_19, J_20, J_21, J_22, J_23, J_24, J_25, J_28, J_30, J_31, J_32, J_40, J_44, J_47, J_48, J_49, J_50, J_53, J_54, J_57, J_59, J_74, J_75, J_78, J_84, J_97, J_99, J_100, J_120, J_122, J_126, J_132, J_138, J_144, J_150, J_156, J_162, J_198, J_200, J_202, J_206, J_210, J_214, J_218, J_222, J_226, J_230, J_234, J_238, J_239, J_240, J_241, J_242, J_243, J_255, J_263, J_283, J_303, J_399, J_400, J_401, J_463, J_700, J_701, J_999, J_1000, J_2048, J_4095, J_4096, J_6000, J_9999, J_10000, J_65536, J_65537, J_2147483647, J_neg]
    rw [m_fullOf h.1 hs6, b1s, ea, b1s]
    exact r2
  · obtain ⟨d, d1, d2⟩ := h.2.1.2.2.2 i i1 i2 (by omega)
    exact v d (Nat.zero_le d) d1 i i1 d2 i2 i3
end
