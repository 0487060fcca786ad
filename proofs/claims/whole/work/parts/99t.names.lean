/-! Names, by both. -/
section
variable {b : Nat → Int} {n T k : Nat} {C M : zM}
theorem b_mustName (h : gI M 0 13 = J 1) : gX12_mustName M = some M := by
  unfold gX12_mustName gX12_mustName_J113
  simp only [J_0, J_1, J_2, J_3, J_4, J_5, J_6, J_7, J_8, J_9, J_10, J_11, J_12, J_14, J_15, J_16, J_19, J_20, J_21, J_22, J_23, J_24, J_25, J_28, J_30, J_31, J_32, J_40, J_44, J_47, J_48, J_49, J_50, J_53, J_54, J_57, J_59, J_74, J_75, J_78, J_84, J_97, J_99, J_100, J_120, J_122, J_126, J_132, J_138, J_144, J_150, J_156, J_162, J_198, J_200, J_202, J_206, J_210, J_214, J_218, J_222, J_226, J_230, J_234, J_238, J_239, J_240, J_241, J_242, J_243, J_255, J_263, J_283, J_303, J_399, J_400, J_401, J_463, J_700, J_701, J_999, J_1000, J_2048, J_4095, J_4096, J_6000, J_9999, J_10000, J_65536, J_65537, J_2147483647, J_neg, b_word h, ckt, b1s, b2s, lts, un2s, un3s, un4s, un5s, lmr, lml, lgr, lgl, if_true, b_wrong h]
  split <;> rfl
theorem b_newName {x y : Int32} (h : gI M 0 13 = J 1) : gX12_newName M x y = some M := by
  unfold gX12_newName
  simp only [J_0, J_1, J_2, J_3, J_4, J_5, J_6, J_7, J_8, J_9, J_10, J_11, J_12, J_14, J_15, J_16, J_19, J_20, J_21, J_22, J_23, J_24, J_25, J_28, J_30, J_31, J_32, J_40, J_44, J_47, J_48, J_49, J_50, J_53, J_54, J_57, J_59, J_74, J_75, J_78, J_84, J_97, J_99, J_100, J_120, J_122, J_126, J_132, J_138, J_144, J_150, J_156, J_162, J_198, J_200, J_202, J_206, J_210, J_214, J_218, J_222, J_226, J_230, J_234, J_238, J_239, J_240, J_241, J_242, J_243, J_255, J_263, J_283, J_303, J_399, J_400, J_401, J_463, J_700, J_701, J_999, J_1000, J_2048, J_4095, J_4096, J_6000, J_9999, J_10000, J_65536, J_65537, J_2147483647, J_neg, b_mustName h, ckt, b1s, b2s, lts, un2s, un3s, un4s, un5s, lmr, lml, lgr, lgl]
  rw [h, if_neg (by decide), if_neg (by decide)]
theorem rd_isName (h : rdS b n T C M k) : ∃ r : Int, (r = 0 ∨ r = 1) ∧ gX7_isName C = some (J r) ∧ gX12_mustName M = some (if r = 1 then M else mbad M 1 (tpos b n k)) ∧ (r = 1 → tW b n (tpos b n k)) := by
  obtain ⟨x1, y1, x3, x4, x5⟩ := rd_x h
  obtain ⟨k3, k6⟩ := rd_kind h
  obtain ⟨C1, -, q2, -⟩ := rd_wrong h (f := 1) (by decide)
  have kb := tKd_b (b := b) (n := n) (q := tpos b n k)
  have mb := mKd_b (b := b) (n := n) (q := tpos b n k)
  obtain ⟨r0, a0, c0, m0, t0⟩ := rd_word h (w := 0) (by decide)
  obtain ⟨r1, a1, c1, m1, t1⟩ := rd_word h (w := 1) (by decide)
  obtain ⟨r2, a2, c2, m2, t2⟩ := rd_word h (w := 2) (by decide)
  obtain ⟨r3, a3, c3, m3, t3⟩ := rd_word h (w := 3) (by decide)
  obtain ⟨r4, a4, c4, m4, t4⟩ := rd_word h (w := 4) (by decide)
  obtain ⟨r5, a5, c5, m5, t5⟩ := rd_word h (w := 5) (by decide)
  obtain ⟨r6, a6, c6, m6, t6⟩ := rd_word h (w := 6) (by decide)
  obtain ⟨r7, a7, c7, m7, t7⟩ := rd_word h (w := 7) (by decide)
  obtain ⟨r8, a8, c8, m8, t8⟩ := rd_word h (w := 8) (by decide)
  obtain ⟨r9, a9, c9, m9, t9⟩ := rd_word h (w := 9) (by decide)
  obtain ⟨r10, a10, c10, m10, t10⟩ := rd_word h (w := 10) (by decide)
  obtain ⟨r11, a11, c11, m11, t11⟩ := rd_word h (w := 11) (by decide)
  unfold gX7_isName gX12_mustName gX12_mustName_J113
  simp only [J_0, J_1, J_2, J_3, J_4, J_5, J_6, J_7, J_8, J_9, J_10, J_11, J_12, J_14, J_15, J_16, J_19, J_20, J_21, J_22, J_23, J_24, J_25, J_28, J_30, J_31, J_32, J_40, J_44, J_47, J_48, J_49, J_50, J_53, J_54, J_57, J_59, J_74, J_75, J_78, J_84, J_97, J_99, J_100, J_120, J_122, J_126, J_132, J_138, J_144, J_150, J_156, J_162, J_198, J_200, J_202, J_206, J_210, J_214, J_218, J_222, J_226, J_230, J_234, J_238, J_239, J_240, J_241, J_242, J_243, J_255, J_263, J_283, J_303, J_399, J_400, J_401, J_463, J_700, J_701, J_999, J_1000, J_2048, J_4095, J_4096, J_6000, J_9999, J_10000, J_65536, J_65537, J_2147483647, J_neg]
  rw [show (10000 : Nat) = 10000 + 0 from rfl, show (10001 : Nat) = 10000 + 1 from rfl, show (10002 : Nat) = 10000 + 2 from rfl, show (10003 : Nat) = 10000 + 3 from rfl, show (10004 : Nat) = 10000 + 4 from rfl, show (10005 : Nat) = 10000 + 5 from rfl, show (10006 : Nat) = 10000 + 6 from rfl, show (10007 : Nat) = 10000 + 7 from rfl, show (10008 : Nat) = 10000 + 8 from rfl, show (10009 : Nat) = 10000 + 9 from rfl, show (10010 : Nat) = 10000 + 10 from rfl, show (10011 : Nat) = 10000 + 11 from rfl]
  have no : (∃ r : Int, (r = 0 ∨ r = 1) ∧ some (J 0) = some (J r) ∧ some (mbad M 1 (tpos b n k)) = some (if r = 1 then M else mbad M 1 (tpos b n k)) ∧ (r = 1 → tW b n (tpos b n k))) := ⟨0, Or.inl rfl, rfl, rfl, fun w => absurd w (by decide)⟩
  rw [x1, ckt, y1, k3, iEQ (by omega) (by omega) (by decide) (by decide), k6, iEQ (by omega) (by omega) (by decide) (by decide), iEQ (by omega) (by omega) (by decide) (by decide)]
  by_cases y : tW b n (tpos b n k)
  · have yk := tW_k.mpr y
    have ym := (tW_m h.1).mpr y
    simp only [if_pos yk, if_pos ym, c0, c1, c2, c3, c4, c5, c6, c7, c8, c9, c10, c11, m0, m1, m2, m3, m4, m5, m6, m7, m8, m9, m10, m11, ckt, b1s, b2s, lts, un2s, un3s, un4s, un5s, lmr, lml, lgr, lgl, q2, if_true, if_neg (show ¬ J 1 = J 0 by decide)]
    rcases a0 with z | z <;> subst z
    · simp only [if_true]
      rcases a1 with z | z <;> subst z
      · simp only [if_true]
        rcases a2 with z | z <;> subst z
        · simp only [if_true]
          rcases a3 with z | z <;> subst z
          · simp only [if_true]
            rcases a4 with z | z <;> subst z
            · simp only [if_true]
              rcases a5 with z | z <;> subst z
              · simp only [if_true]
                rcases a6 with z | z <;> subst z
                · simp only [if_true]
                  rcases a7 with z | z <;> subst z
                  · simp only [if_true]
                    rcases a8 with z | z <;> subst z
                    · simp only [if_true]
                      rcases a9 with z | z <;> subst z
                      · simp only [if_true]
                        rcases a10 with z | z <;> subst z
                        · simp only [if_true]
                          rcases a11 with z | z <;> subst z
                          · simp only [if_true]
                            exact ⟨1, Or.inr rfl, rfl, rfl, fun _ => y⟩
                          · simp only [if_neg (show ¬ J 1 = J 0 by decide)]
                            exact no
                        · simp only [if_neg (show ¬ J 1 = J 0 by decide)]
                          exact no
                      · simp only [if_neg (show ¬ J 1 = J 0 by decide)]
                        exact no
                    · simp only [if_neg (show ¬ J 1 = J 0 by decide)]
                      exact no
                  · simp only [if_neg (show ¬ J 1 = J 0 by decide)]
                    exact no
                · simp only [if_neg (show ¬ J 1 = J 0 by decide)]
                  exact no
              · simp only [if_neg (show ¬ J 1 = J 0 by decide)]
                exact no
            · simp only [if_neg (show ¬ J 1 = J 0 by decide)]
              exact no
          · simp only [if_neg (show ¬ J 1 = J 0 by decide)]
            exact no
        · simp only [if_neg (show ¬ J 1 = J 0 by decide)]
          exact no
      · simp only [if_neg (show ¬ J 1 = J 0 by decide)]
        exact no
    · simp only [if_neg (show ¬ J 1 = J 0 by decide)]
      exact no
  · have z0 : ∀ {r : Int}, (r = 0 ∨ r = 1) → (r = 1 → tW b n (tpos b n k)) → r = 0 := fun a t => by
      rcases a with w | w
      · exact w
      · exact absurd (t w) y
    rw [z0 a0 t0] at m0
    rw [z0 a1 t1] at m1
    rw [z0 a2 t2] at m2
    rw [z0 a3 t3] at m3
    rw [z0 a4 t4] at m4
    rw [z0 a5 t5] at m5
    rw [z0 a6 t6] at m6
    rw [z0 a7 t7] at m7
    rw [z0 a8 t8] at m8
    rw [z0 a9 t9] at m9
    rw [z0 a10 t10] at m10
    rw [z0 a11 t11] at m11
    have yk : ¬ tKd b n (tpos b n k) = 1 := fun w => y (tW_k.mp w)
    have ym : ¬ mKd b n (tpos b n k) = 2 := fun w => y ((tW_m h.1).mp w)
    simp only [if_neg yk, if_neg ym, m0, m1, m2, m3, m4, m5, m6, m7, m8, m9, m10, m11, ckt, b1s, b2s, lts, un2s, un3s, un4s, un5s, lmr, lml, lgr, lgl, q2, if_true]
    exact no
/-- the names told -/
def bN (C M : zM) (G u ms : Nat) : Prop := u ≤ 20 ∧ gI C G 10 = J u ∧ gI M 4 242 = J u ∧ (∀ v w : Nat, v < u → w < u → gL C (G + 5) v = gL C (G + 5) w → v = w) ∧ ∀ v : Nat, v < u → (∃ (L : Nat) (f : Nat → Int), (1 ≤ L ∧ L ≤ 8) ∧ (∀ j, j < L → lB (f j) = true) ∧ gI M 4 (283 + v) = J L ∧ (∀ j : Nat, j < L → gI M 4 (303 + 8 * v + j) = J (f j)) ∧ gL C (G + 5) v = JL (cdW f 0 L)) ∧ ∃ so x : Int, (0 ≤ so ∧ so ≤ 3) ∧ gI M 4 (243 + v) = J so ∧ gI M 4 (263 + v) = J x ∧ gI C (G + 6) v = J (if so = 0 then x else -1) ∧ (so = 0 → 0 ≤ x ∧ x < ms)
theorem c_named_L {G u : Nat} {c : Int64} (hu : u ≤ 20) (h10 : gI C G 10 = J u) : ∀ (f i : Nat), i ≤ u → u < f + i → (∃ v, i ≤ v ∧ v < u ∧ gL C (G + 5) v = c ∧ gX3_namedBy_L2 C G c f (J i) = some (gI C (G + 6) v)) ∨ ((∀ v, i ≤ v → v < u → ¬ gL C (G + 5) v = c) ∧ gX3_namedBy_L2 C G c f (J i) = some (J (-2))) := by
  intro f
  induction f with
  | zero => intro i h1 h2; omega
  | succ f ih =>
    intro i h1 h2
    unfold gX3_namedBy_L2
    simp only [J_0, J_1, J_2, J_3, J_4, J_5, J_6, J_7, J_8, J_9, J_10, J_11, J_12, J_14, J_15, J_16, J_19, J_20, J_21, J_22, J_23, J_24, J_25, J_28, J_30, J_31, J_32, J_40, J_44, J_47, J_48, J_49, J_50, J_53, J_54, J_57, J_59, J_74, J_75, J_78, J_84, J_97, J_99, J_100, J_120, J_122, J_126, J_132, J_138, J_144, J_150, J_156, J_162, J_198, J_200, J_202, J_206, J_210, J_214, J_218, J_222, J_226, J_230, J_234, J_238, J_239, J_240, J_241, J_242, J_243, J_255, J_263, J_283, J_303, J_399, J_400, J_401, J_463, J_700, J_701, J_999, J_1000, J_2048, J_4095, J_4096, J_6000, J_9999, J_10000, J_65536, J_65537, J_2147483647, J_neg]
    rw [h10, iLE (by omega) (by omega) (by omega) (by omega), iLE (by decide) (by decide) (by omega) (by omega)]
    by_cases e : i = u
    · rw [if_pos (by omega)]
      exact Or.inr ⟨fun v v1 v2 => by omega, rfl⟩
    · rw [if_neg (by omega), if_neg (by omega), ixb_J (by omega) (by omega) (by decide), ckt, ckt, ix_J (by omega) (by omega), Int.toNat_natCast, J_add, show (i : Int) + 1 = ((i + 1 : Nat) : Int) by omega]
      by_cases y : gL C (G + 5) i = c
      · rw [if_pos y]
        exact Or.inl ⟨i, Nat.le_refl i, by omega, y, rfl⟩
      · rw [if_neg y]
        rcases ih (i + 1) (by omega) (by omega) with ⟨v, v1, v2, v3, v4⟩ | ⟨w1, w2⟩
        · exact Or.inl ⟨v, by omega, v2, v3, v4⟩
        · refine Or.inr ⟨fun v v1 v2 => ?_, w2⟩
          by_cases z : v = i
          · rw [z]; exact y
          · exact w1 v (by omega) v2
theorem m_find_in {v L : Nat} {q : Nat} (hv : v < 20) (hL : L ≤ 8) (h8 : gI M 0 8 = J L) (h2 : ∀ j : Nat, j < L → gI M 2 j = J (b (q + j))) {f : Nat → Int} (hf : ∀ j : Nat, j < L → gI M 4 (303 + 8 * v + j) = J (f j)) (hb1 : ∀ j, j < L → lB (b (q + j)) = true) (hb2 : ∀ j, j < L → lB (f j) = true) {v1 : Int32} : ∀ (F i : Nat) (a : Int), i ≤ L → L < F + i → (a = 0 ∨ a = 1) → ∃ r : Int, (r = 0 ∨ r = 1) ∧ gX12_find_L42 M v1 (J v) F (J a) (J i) = some (J r) ∧ (r = 1 ↔ a = 1 ∧ ∀ j, i ≤ j → j < L → b (q + j) = f j) := by
  intro F
  induction F with
  | zero => intro i a h1 h2; omega
  | succ F ih =>
    intro i a h1 h2' ha
    unfold gX12_find_L42
    simp only [J_0, J_1, J_2, J_3, J_4, J_5, J_6, J_7, J_8, J_9, J_10, J_11, J_12, J_14, J_15, J_16, J_19, J_20, J_21, J_22, J_23, J_24, J_25, J_28, J_30, J_31, J_32, J_40, J_44, J_47, J_48, J_49, J_50, J_53, J_54, J_57, J_59, J_74, J_75, J_78, J_84, J_97, J_99, J_100, J_120, J_122, J_126, J_132, J_138, J_144, J_150, J_156, J_162, J_198, J_200, J_202, J_206, J_210, J_214, J_218, J_222, J_226, J_230, J_234, J_238, J_239, J_240, J_241, J_242, J_243, J_255, J_263, J_283, J_303, J_399, J_400, J_401, J_463, J_700, J_701, J_999, J_1000, J_2048, J_4095, J_4096, J_6000, J_9999, J_10000, J_65536, J_65537, J_2147483647, J_neg]
    rw [h8, iLE (by omega) (by omega) (by omega) (by omega)]
    by_cases e : i = L
    · rw [if_pos (by omega)]
      exact ⟨a, ha, rfl, fun w => ⟨w, fun j j1 j2 => by omega⟩, fun w => w.1⟩
    · rw [if_neg (by omega)]
      rcases ha with z | z
      · subst z
        rw [if_pos rfl]
        exact ⟨0, Or.inl rfl, rfl, fun w => absurd w (by decide), fun w => absurd w.1 (by decide)⟩
      · subst z
        have b1 := lB_t.mp (hb1 i (by omega))
        have b2 := lB_t.mp (hb2 i (by omega))
        rw [if_neg (show ¬ J 1 = J 0 by decide), J_mul, J_add, J_add, ixb_J (by omega) (by omega) (by decide), ckt, ixb_J (by omega) (by omega) (by decide), ckt, ix_J (by omega) (by omega), ix_J (by omega) (by omega), show (303 + 8 * (v : Int) + (i : Int)).toNat = 303 + 8 * v + i by omega, Int.toNat_natCast, hf i (by omega), h2 i (by omega), iEQ (by omega) (by omega) (by omega) (by omega), J_add, show (i : Int) + 1 = ((i + 1 : Nat) : Int) by omega]
        by_cases y : f i = b (q + i)
        · rw [if_pos y]
          obtain ⟨r, r1, r2, r3⟩ := ih (i + 1) 1 (by omega) (by omega) (Or.inr rfl)
          refine ⟨r, r1, r2, r3.trans ⟨fun u => ⟨rfl, fun j j1 j2 => ?_⟩, fun u => ⟨rfl, fun j j1 j2 => u.2 j (by omega) j2⟩⟩⟩
          by_cases x : j = i
          · rw [x]; exact y.symm
          · exact u.2 j (by omega) j2
        · rw [if_neg y]
          obtain ⟨r, r1, r2, r3⟩ := ih (i + 1) 0 (by omega) (by omega) (Or.inl rfl)
          exact ⟨r, r1, r2, fun u => absurd (r3.mp u).1 (by decide), fun u => absurd (u.2 i (Nat.le_refl i) (by omega)).symm y⟩
theorem m_named_L {G u ms L : Nat} {q : Nat} (hN : bN C M G u ms) (hL : L ≤ 8) (h8 : gI M 0 8 = J L) (h2 : ∀ j : Nat, j < L → gI M 2 j = J (b (q + j))) (hb1 : ∀ j, j < L → lB (b (q + j)) = true) : ∀ (F i : Nat) (a : Int), i ≤ u → u < F + i → (∃ v, i ≤ v ∧ v < u ∧ gL C (G + 5) v = JL (cdW b q L) ∧ gX12_find_L4 M F (J a) (J i) = some (J v)) ∨ ((∀ v, i ≤ v → v < u → ¬ gL C (G + 5) v = JL (cdW b q L)) ∧ gX12_find_L4 M F (J a) (J i) = some (J a)) := by
  obtain ⟨hu, h10, h242, -, hv⟩ := hN
  have hf := FUs (n := 30) (by omega)
  intro F
  induction F with
  | zero => intro i a h1 h2; omega
  | succ F ih =>
    intro i a h1 h2'
    unfold gX12_find_L4
    simp only [J_0, J_1, J_2, J_3, J_4, J_5, J_6, J_7, J_8, J_9, J_10, J_11, J_12, J_14, J_15, J_16, J_19, J_20, J_21, J_22, J_23, J_24, J_25, J_28, J_30, J_31, J_32, J_40, J_44, J_47, J_48, J_49, J_50, J_53, J_54, J_57, J_59, J_74, J_75, J_78, J_84, J_97, J_99, J_100, J_120, J_122, J_126, J_132, J_138, J_144, J_150, J_156, J_162, J_198, J_200, J_202, J_206, J_210, J_214, J_218, J_222, J_226, J_230, J_234, J_238, J_239, J_240, J_241, J_242, J_243, J_255, J_263, J_283, J_303, J_399, J_400, J_401, J_463, J_700, J_701, J_999, J_1000, J_2048, J_4095, J_4096, J_6000, J_9999, J_10000, J_65536, J_65537, J_2147483647, J_neg]
    rw [show ixb (J 242) 463 = true by decide, ckt, show ix (J 242) = 242 by decide, h242, iLE (by omega) (by omega) (by omega) (by omega)]
    by_cases e : i = u
    · rw [if_pos (by omega)]
      exact Or.inr ⟨fun v v1 v2 => by omega, rfl⟩
    · obtain ⟨⟨L', f, l1, l2, l3, l4, l5⟩, -⟩ := hv i (by omega)
      have cb1 := cdW_L (f := b) (p := q) hL hb1
      have cb2 := cdW_L (f := f) (p := 0) (l := L') l1.2 (fun j hj => by rw [Nat.zero_add]; exact l2 j hj)
      have step : ∀ a' : Int, (∃ v, i + 1 ≤ v ∧ v < u ∧ gL C (G + 5) v = JL (cdW b q L) ∧ gX12_find_L4 M F (J a') (J ((i + 1 : Nat) : Int)) = some (J v)) ∨ ((∀ v, i + 1 ≤ v → v < u → ¬ gL C (G + 5) v = JL (cdW b q L)) ∧ gX12_find_L4 M F (J a') (J ((i + 1 : Nat) : Int)) = some (J a')) := fun a' => ih (i + 1) a' (by omega) (by omega)
      have skip : ¬ gL C (G + 5) i = JL (cdW b q L) → (∃ v, i ≤ v ∧ v < u ∧ gL C (G + 5) v = JL (cdW b q L) ∧ gX12_find_L4 M F (J a) (J ((i + 1 : Nat) : Int)) = some (J v)) ∨ ((∀ v, i ≤ v → v < u → ¬ gL C (G + 5) v = JL (cdW b q L)) ∧ gX12_find_L4 M F (J a) (J ((i + 1 : Nat) : Int)) = some (J a)) := fun no => by
        rcases step a with ⟨v, v1, v2, v3, v4⟩ | ⟨w1, w2⟩
        · exact Or.inl ⟨v, by omega, v2, v3, v4⟩
        · refine Or.inr ⟨fun v v1 v2 => ?_, w2⟩
          by_cases z : v = i
          · rw [z]; exact no
          · exact w1 v (by omega) v2
      rw [if_neg (by omega), J_add, ixb_J (by omega) (by omega) (by decide), ckt, ix_J (by omega) (by omega), show (283 + (i : Int)).toNat = 283 + i by omega, l3, h8, iEQ (by omega) (by omega) (by omega) (by omega), J_add, show (i : Int) + 1 = ((i + 1 : Nat) : Int) by omega, show J 0 = J ((0 : Nat) : Int) from rfl]
      by_cases y : L' = L
      · subst y
        obtain ⟨r, r1, r2, r3⟩ := m_find_in (b := b) (q := q) (v1 := J a) (show i < 20 by omega) hL h8 h2 l4 hb1 l2 FU 0 1 (by omega) (by omega) (Or.inr rfl)
        rw [if_pos rfl, r2, b1s]
        rcases r1 with z | z
        · subst z
          rw [show J ((0 : Nat) : Int) = J 0 from rfl, if_pos rfl]
          refine skip (fun w => ?_)
          rw [l5, JL_inj (by omega) (by omega) (by omega) (by omega)] at w
          have := (cdW_inj _ _ (fun j hj => by rw [Nat.zero_add]; exact l2 j hj) hb1 w).2
          have : (0 : Int) = 1 := r3.mpr ⟨rfl, fun j _ hj => by have := this j hj; rw [Nat.zero_add] at this; exact this.symm⟩
          exact absurd this (by decide)
        · subst z
          have m := (r3.mp rfl).2
          have e5 : gL C (G + 5) i = JL (cdW b q L') := by
            rw [l5]
            congr 1
            exact cdW_e _ (fun j hj => by rw [Nat.zero_add]; exact (m j (Nat.zero_le j) hj).symm)
          rw [if_neg (by decide)]
          rcases step (i : Int) with ⟨v, v1, v2, v3, v4⟩ | ⟨w1, w2⟩
          · exact Or.inl ⟨v, by omega, v2, v3, v4⟩
          · exact Or.inl ⟨i, Nat.le_refl i, by omega, e5, w2⟩
      · rw [if_neg (show ¬ (L' : Int) = L by omega)]
        have z0 : gX12_find_L42 M (J a) (J i) FU (J ((0 : Nat) : Int)) (J ((0 : Nat) : Int)) = some (J 0) := by
          obtain ⟨FU', hF⟩ : ∃ m, FU = m + 1 := ⟨FU - 1, by omega⟩
          rw [hF]
          unfold gX12_find_L42
          simp only [J_0, J_1, J_2, J_3, J_4, J_5, J_6, J_7, J_8, J_9, J_10, J_11, J_12, J_14, J_15, J_16, J_19, J_20, J_21, J_22, J_23, J_24, J_25, J_28, J_30, J_31, J_32, J_40, J_44, J_47, J_48, J_49, J_50, J_53, J_54, J_57, J_59, J_74, J_75, J_78, J_84, J_97, J_99, J_100, J_120, J_122, J_126, J_132, J_138, J_144, J_150, J_156, J_162, J_198, J_200, J_202, J_206, J_210, J_214, J_218, J_222, J_226, J_230, J_234, J_238, J_239, J_240, J_241, J_242, J_243, J_255, J_263, J_283, J_303, J_399, J_400, J_401, J_463, J_700, J_701, J_999, J_1000, J_2048, J_4095, J_4096, J_6000, J_9999, J_10000, J_65536, J_65537, J_2147483647, J_neg]
          rw [if_pos (show J ((0 : Nat) : Int) = J 0 from rfl)]
          split <;> rfl
        rw [z0, b1s, show J ((0 : Nat) : Int) = J 0 from rfl, if_pos rfl]
        refine skip (fun w => ?_)
        rw [l5, JL_inj (by omega) (by omega) (by omega) (by omega)] at w
        exact y (cdW_inj _ _ (fun j hj => by rw [Nat.zero_add]; exact l2 j hj) hb1 w).1
/-- the letters of the token, where it is a word -/
theorem rd_letters (h : rdS b n T C M k) (y : tW b n (tpos b n k)) : ∃ (q L : Nat), (1 ≤ L ∧ L ≤ 8) ∧ gI M 0 8 = J L ∧ (∀ j : Nat, j < L → gI M 2 j = J (b (q + j))) ∧ (∀ j, j < L → lB (b (q + j)) = true) ∧ gL C 5 k = JL (cdW b q L) := by
  obtain ⟨x1, y1, x3, x4, x5⟩ := rd_x h
  obtain ⟨hb, hcC, hk, h24, ht, ⟨m4, m5, m6, m8, m7⟩, h13⟩ := h
  obtain ⟨l1, l2⟩ := te_let y.1 y.2.1
  have lt := te_b (b := b) y.1
  have y8 := y.2.2
  obtain ⟨e8, e2⟩ := m8 y.1 y.2.1 y.2.2
  exact ⟨tpos b n k, te b n (tpos b n k) - tpos b n k, by omega, e8, e2, l2, by rw [x5, tVl_w y]⟩
theorem rd_find (h : rdS b n T C M k) (y : tW b n (tpos b n k)) {G u ms : Nat} (hN : bN C M G u ms) : (∃ v, v < u ∧ gL C (G + 5) v = gL C 5 k ∧ gX3_namedBy C G (gL C 5 k) = some (gI C (G + 6) v) ∧ gX12_find M = some (J v)) ∨ ((∀ v, v < u → ¬ gL C (G + 5) v = gL C 5 k) ∧ gX3_namedBy C G (gL C 5 k) = some (J (-2)) ∧ gX12_find M = some (J (-1))) := by
  have hf := FUs (n := 30) (by omega)
  obtain ⟨q, L, l1, l2, l3, l4, l5⟩ := rd_letters h y
  have a1 := c_named_L (c := gL C 5 k) hN.1 hN.2.1 FU 0 (by omega) (by have := hN.1; omega)
  have a2 := m_named_L hN l1.2 l2 l3 l4 FU 0 (-1) (by omega) (by have := hN.1; omega)
  rw [← l5] at a2
  unfold gX3_namedBy gX12_find
  simp only [J_0, J_1, J_2, J_3, J_4, J_5, J_6, J_7, J_8, J_9, J_10, J_11, J_12, J_14, J_15, J_16, J_19, J_20, J_21, J_22, J_23, J_24, J_25, J_28, J_30, J_31, J_32, J_40, J_44, J_47, J_48, J_49, J_50, J_53, J_54, J_57, J_59, J_74, J_75, J_78, J_84, J_97, J_99, J_100, J_120, J_122, J_126, J_132, J_138, J_144, J_150, J_156, J_162, J_198, J_200, J_202, J_206, J_210, J_214, J_218, J_222, J_226, J_230, J_234, J_238, J_239, J_240, J_241, J_242, J_243, J_255, J_263, J_283, J_303, J_399, J_400, J_401, J_463, J_700, J_701, J_999, J_1000, J_2048, J_4095, J_4096, J_6000, J_9999, J_10000, J_65536, J_65537, J_2147483647, J_neg, J_neg]
  rw [show J ((0 : Nat) : Int) = J 0 from rfl] at a1 a2
  rcases a1 with ⟨v, v1, v2, v3, v4⟩ | ⟨w1, w2⟩
  · rcases a2 with ⟨w, z1, z2, z3, z4⟩ | ⟨z1, z2⟩
    · have : v = w := hN.2.2.2.1 v w v2 z2 (v3.trans z3.symm)
      subst this
      exact Or.inl ⟨v, v2, v3, v4, z4⟩
    · exact absurd v3 (z1 v (by omega) v2)
  · rcases a2 with ⟨w, z1, z2, z3, z4⟩ | ⟨z1, z2⟩
    · exact absurd z3 (w1 w (by omega) z2)
    · exact Or.inr ⟨fun v hv => w1 v (by omega) hv, w2, z2⟩
end
