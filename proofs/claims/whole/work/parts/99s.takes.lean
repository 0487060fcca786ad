/-! Words, wholes, marks taken, by both. -/
def two (b : Nat → Int) (n T k0 : Nat) (EC EM : Nat → Nat → Prop) (C M : zM) (F : Option (Int32 × zM)) (Gm : Option zM) (E : zM → zM → Prop) : Prop := ∃ (r : Int) (C' M' : zM), F = some (J r, C') ∧ Gm = some M' ∧ fr EC C C' ∧ fr EM M M' ∧ ((r = 1 ∧ (∃ k, k0 ≤ k ∧ rdS b n T C' M' k) ∧ E C' M') ∨ (r = 0 ∧ bad C' M'))
section
variable {b : Nat → Int} {n T k : Nat} {C M : zM}
/-! the model after a fault -/
theorem b_word {q : Nat} (h : gI M 0 13 = J 1) : gX12_isWord M q = some (J 0) := by
  unfold gX12_isWord
  simp only [J_0, J_1, J_2, J_3, J_4, J_5, J_6, J_7, J_8, J_9, J_10, J_11, J_12, J_14, J_15, J_16, J_19, J_20, J_21, J_22, J_23, J_24, J_25, J_28, J_30, J_31, J_32, J_40, J_44, J_47, J_48, J_49, J_50, J_53, J_54, J_57, J_59, J_74, J_75, J_78, J_84, J_97, J_99, J_100, J_120, J_122, J_126, J_132, J_138, J_144, J_150, J_156, J_162, J_198, J_200, J_202, J_206, J_210, J_214, J_218, J_222, J_226, J_230, J_234, J_238, J_239, J_240, J_241, J_242, J_243, J_255, J_263, J_283, J_303, J_399, J_400, J_401, J_463, J_700, J_701, J_999, J_1000, J_2048, J_4095, J_4096, J_6000, J_9999, J_10000, J_65536, J_65537, J_2147483647, J_neg]
  rw [h, if_neg (by decide)]
theorem b_takes {q : Nat} (h : gI M 0 13 = J 1) : gX12_takes M q = some (J 0, M) := by
  unfold gX12_takes
  simp only [J_0, J_1, J_2, J_3, J_4, J_5, J_6, J_7, J_8, J_9, J_10, J_11, J_12, J_14, J_15, J_16, J_19, J_20, J_21, J_22, J_23, J_24, J_25, J_28, J_30, J_31, J_32, J_40, J_44, J_47, J_48, J_49, J_50, J_53, J_54, J_57, J_59, J_74, J_75, J_78, J_84, J_97, J_99, J_100, J_120, J_122, J_126, J_132, J_138, J_144, J_150, J_156, J_162, J_198, J_200, J_202, J_206, J_210, J_214, J_218, J_222, J_226, J_230, J_234, J_238, J_239, J_240, J_241, J_242, J_243, J_255, J_263, J_283, J_303, J_399, J_400, J_401, J_463, J_700, J_701, J_999, J_1000, J_2048, J_4095, J_4096, J_6000, J_9999, J_10000, J_65536, J_65537, J_2147483647, J_neg]
  rw [b_word h, b1s, if_pos rfl]
theorem b_must {q : Nat} (h : gI M 0 13 = J 1) : gX12_must M q = some M := by
  unfold gX12_must
  simp only [J_0, J_1, J_2, J_3, J_4, J_5, J_6, J_7, J_8, J_9, J_10, J_11, J_12, J_14, J_15, J_16, J_19, J_20, J_21, J_22, J_23, J_24, J_25, J_28, J_30, J_31, J_32, J_40, J_44, J_47, J_48, J_49, J_50, J_53, J_54, J_57, J_59, J_74, J_75, J_78, J_84, J_97, J_99, J_100, J_120, J_122, J_126, J_132, J_138, J_144, J_150, J_156, J_162, J_198, J_200, J_202, J_206, J_210, J_214, J_218, J_222, J_226, J_230, J_234, J_238, J_239, J_240, J_241, J_242, J_243, J_255, J_263, J_283, J_303, J_399, J_400, J_401, J_463, J_700, J_701, J_999, J_1000, J_2048, J_4095, J_4096, J_6000, J_9999, J_10000, J_65536, J_65537, J_2147483647, J_neg]
  rw [h, if_neg (by decide)]
theorem b_number {x y : Int32} (h : gI M 0 13 = J 1) : gX12_number M x y = some (x, M) := by
  unfold gX12_number
  simp only [J_0, J_1, J_2, J_3, J_4, J_5, J_6, J_7, J_8, J_9, J_10, J_11, J_12, J_14, J_15, J_16, J_19, J_20, J_21, J_22, J_23, J_24, J_25, J_28, J_30, J_31, J_32, J_40, J_44, J_47, J_48, J_49, J_50, J_53, J_54, J_57, J_59, J_74, J_75, J_78, J_84, J_97, J_99, J_100, J_120, J_122, J_126, J_132, J_138, J_144, J_150, J_156, J_162, J_198, J_200, J_202, J_206, J_210, J_214, J_218, J_222, J_226, J_230, J_234, J_238, J_239, J_240, J_241, J_242, J_243, J_255, J_263, J_283, J_303, J_399, J_400, J_401, J_463, J_700, J_701, J_999, J_1000, J_2048, J_4095, J_4096, J_6000, J_9999, J_10000, J_65536, J_65537, J_2147483647, J_neg]
  rw [h, if_neg (by decide)]
theorem b_signed {y : Int32} (h : gI M 0 13 = J 1) : gX12_signed M y = some (J 0, M) := by
  unfold gX12_signed
  simp only [J_0, J_1, J_2, J_3, J_4, J_5, J_6, J_7, J_8, J_9, J_10, J_11, J_12, J_14, J_15, J_16, J_19, J_20, J_21, J_22, J_23, J_24, J_25, J_28, J_30, J_31, J_32, J_40, J_44, J_47, J_48, J_49, J_50, J_53, J_54, J_57, J_59, J_74, J_75, J_78, J_84, J_97, J_99, J_100, J_120, J_122, J_126, J_132, J_138, J_144, J_150, J_156, J_162, J_198, J_200, J_202, J_206, J_210, J_214, J_218, J_222, J_226, J_230, J_234, J_238, J_239, J_240, J_241, J_242, J_243, J_255, J_263, J_283, J_303, J_399, J_400, J_401, J_463, J_700, J_701, J_999, J_1000, J_2048, J_4095, J_4096, J_6000, J_9999, J_10000, J_65536, J_65537, J_2147483647, J_neg]
  rw [b_takes h, b2s, b_number h, b2s, if_pos rfl]
theorem b_slash (h : gI M 0 13 = J 1) : gX12_slash M = some M := by
  unfold gX12_slash
  simp only [J_0, J_1, J_2, J_3, J_4, J_5, J_6, J_7, J_8, J_9, J_10, J_11, J_12, J_14, J_15, J_16, J_19, J_20, J_21, J_22, J_23, J_24, J_25, J_28, J_30, J_31, J_32, J_40, J_44, J_47, J_48, J_49, J_50, J_53, J_54, J_57, J_59, J_74, J_75, J_78, J_84, J_97, J_99, J_100, J_120, J_122, J_126, J_132, J_138, J_144, J_150, J_156, J_162, J_198, J_200, J_202, J_206, J_210, J_214, J_218, J_222, J_226, J_230, J_234, J_238, J_239, J_240, J_241, J_242, J_243, J_255, J_263, J_283, J_303, J_399, J_400, J_401, J_463, J_700, J_701, J_999, J_1000, J_2048, J_4095, J_4096, J_6000, J_9999, J_10000, J_65536, J_65537, J_2147483647, J_neg]
  rw [h, if_neg (by decide)]
theorem b_wrong {x y : Int32} (h : gI M 0 13 = J 1) : gX12_wrong M x y = some M := by
  unfold gX12_wrong
  simp only [J_0, J_1, J_2, J_3, J_4, J_5, J_6, J_7, J_8, J_9, J_10, J_11, J_12, J_14, J_15, J_16, J_19, J_20, J_21, J_22, J_23, J_24, J_25, J_28, J_30, J_31, J_32, J_40, J_44, J_47, J_48, J_49, J_50, J_53, J_54, J_57, J_59, J_74, J_75, J_78, J_84, J_97, J_99, J_100, J_120, J_122, J_126, J_132, J_138, J_144, J_150, J_156, J_162, J_198, J_200, J_202, J_206, J_210, J_214, J_218, J_222, J_226, J_230, J_234, J_238, J_239, J_240, J_241, J_242, J_243, J_255, J_263, J_283, J_303, J_399, J_400, J_401, J_463, J_700, J_701, J_999, J_1000, J_2048, J_4095, J_4096, J_6000, J_9999, J_10000, J_65536, J_65537, J_2147483647, J_neg]
  rw [h, if_neg (by decide)]
theorem mbad_13 {f q : Int} : gI (mbad M f q) 0 13 = J 1 := by
  unfold mbad
  rw [rII, if_neg (by omega), rII, if_neg (by omega), rII, if_pos ⟨rfl, rfl⟩]
/-! taken -/
theorem m_takes1 {w : Nat} {M' : zM} (h : gX12_isWord M w = some (J 1)) (h2 : gX12_next M = some M') : gX12_takes M w = some (J 1, M') := by
  unfold gX12_takes
  simp only [J_0, J_1, J_2, J_3, J_4, J_5, J_6, J_7, J_8, J_9, J_10, J_11, J_12, J_14, J_15, J_16, J_19, J_20, J_21, J_22, J_23, J_24, J_25, J_28, J_30, J_31, J_32, J_40, J_44, J_47, J_48, J_49, J_50, J_53, J_54, J_57, J_59, J_74, J_75, J_78, J_84, J_97, J_99, J_100, J_120, J_122, J_126, J_132, J_138, J_144, J_150, J_156, J_162, J_198, J_200, J_202, J_206, J_210, J_214, J_218, J_222, J_226, J_230, J_234, J_238, J_239, J_240, J_241, J_242, J_243, J_255, J_263, J_283, J_303, J_399, J_400, J_401, J_463, J_700, J_701, J_999, J_1000, J_2048, J_4095, J_4096, J_6000, J_9999, J_10000, J_65536, J_65537, J_2147483647, J_neg]
  rw [h, b1s, if_neg (by decide), h2, b1s]
theorem m_takes0 {w : Nat} (h : gX12_isWord M w = some (J 0)) : gX12_takes M w = some (J 0, M) := by
  unfold gX12_takes
  simp only [J_0, J_1, J_2, J_3, J_4, J_5, J_6, J_7, J_8, J_9, J_10, J_11, J_12, J_14, J_15, J_16, J_19, J_20, J_21, J_22, J_23, J_24, J_25, J_28, J_30, J_31, J_32, J_40, J_44, J_47, J_48, J_49, J_50, J_53, J_54, J_57, J_59, J_74, J_75, J_78, J_84, J_97, J_99, J_100, J_120, J_122, J_126, J_132, J_138, J_144, J_150, J_156, J_162, J_198, J_200, J_202, J_206, J_210, J_214, J_218, J_222, J_226, J_230, J_234, J_238, J_239, J_240, J_241, J_242, J_243, J_255, J_263, J_283, J_303, J_399, J_400, J_401, J_463, J_700, J_701, J_999, J_1000, J_2048, J_4095, J_4096, J_6000, J_9999, J_10000, J_65536, J_65537, J_2147483647, J_neg]
  rw [h, b1s, if_pos rfl]
theorem rd_must (h : rdS b n T C M k) {w : Nat} (hw : w < 28) : two b n T k fC2 fM2 C M (gX7_takeWord C (10000 + w)) (gX12_must M (10000 + w)) (fun _ _ => True) := by
  obtain ⟨r, r1, r2, r3, -⟩ := rd_word h hw
  have h13 := h.2.2.2.2.2.2
  unfold gX7_takeWord gX12_must
  simp only [J_0, J_1, J_2, J_3, J_4, J_5, J_6, J_7, J_8, J_9, J_10, J_11, J_12, J_14, J_15, J_16, J_19, J_20, J_21, J_22, J_23, J_24, J_25, J_28, J_30, J_31, J_32, J_40, J_44, J_47, J_48, J_49, J_50, J_53, J_54, J_57, J_59, J_74, J_75, J_78, J_84, J_97, J_99, J_100, J_120, J_122, J_126, J_132, J_138, J_144, J_150, J_156, J_162, J_198, J_200, J_202, J_206, J_210, J_214, J_218, J_222, J_226, J_230, J_234, J_238, J_239, J_240, J_241, J_242, J_243, J_255, J_263, J_283, J_303, J_399, J_400, J_401, J_463, J_700, J_701, J_999, J_1000, J_2048, J_4095, J_4096, J_6000, J_9999, J_10000, J_65536, J_65537, J_2147483647, J_neg]
  rw [r2, b1s, h13, if_pos rfl]
  rcases r1 with z | z
  · subst z
    obtain ⟨C', q1, q2, q3, q4, q5⟩ := rd_wrong h (f := 1) (by decide)
    rw [m_takes0 r3, b2s, if_pos rfl, if_pos rfl, q1, b2s, q2, b1s, show isB (J 0) = true by decide, ckt]
    exact ⟨0, _, _, rfl, rfl, q4, q5, Or.inr ⟨rfl, q3⟩⟩
  · subst z
    obtain ⟨C', M', k', q1, q2, q3, q4, q5, -, q6, -⟩ := rd_step h
    rw [m_takes1 r3 q2, b2s, if_neg (by decide), if_neg (by decide), q1, b1s]
    exact ⟨1, _, _, rfl, rfl, q4, fNx_2 q5, Or.inl ⟨rfl, ⟨k', q6, q3⟩, trivial⟩⟩
/-- a whole -/
def tN (b : Nat → Int) (n q : Nat) : Prop := q < n ∧ ¬ lB (b q) = true ∧ dB (b q) = true ∧ te b n q ≤ q + 3
theorem tN_k {q : Nat} : tKd b n q = 2 ↔ tN b n q := by
  unfold tKd tN
  by_cases e : q < n
  · rw [if_pos e]
    by_cases y : lB (b q) = true
    · rw [if_pos y]
      constructor
      · intro w
        exfalso
        revert w
        split <;> omega
      · exact fun w => absurd y w.2.1
    · rw [if_neg y]
      by_cases d : dB (b q) = true
      · rw [if_pos d]
        by_cases z : te b n q ≤ q + 3
        · rw [if_pos z]
          exact ⟨fun _ => ⟨e, y, d, z⟩, fun _ => rfl⟩
        · rw [if_neg z]
          exact ⟨fun w => absurd w (by decide), fun w => absurd w.2.2.2 z⟩
      · rw [if_neg d]
        constructor
        · intro w
          exfalso
          revert w
          split <;> omega
        · exact fun w => absurd w.2.2.1 d
  · rw [if_neg e]
    exact ⟨fun w => absurd w (by decide), fun w => absurd w.1 e⟩
theorem tN_m {q : Nat} : mKd b n q = 3 ↔ tN b n q := by
  unfold mKd tN
  by_cases e : q < n
  · rw [if_pos e]
    by_cases y : lB (b q) = true
    · rw [if_pos y]
      constructor
      · intro w
        exfalso
        revert w
        split <;> omega
      · exact fun w => absurd y w.2.1
    · rw [if_neg y]
      by_cases d : dB (b q) = true
      · rw [if_pos d]
        by_cases z : te b n q ≤ q + 3
        · rw [if_pos z]
          exact ⟨fun _ => ⟨e, y, d, z⟩, fun _ => rfl⟩
        · rw [if_neg z]
          exact ⟨fun w => absurd w (by decide), fun w => absurd w.2.2.2 z⟩
      · rw [if_neg d]
        constructor
        · intro w
          exfalso
          revert w
          split <;> omega
        · exact fun w => absurd w.2.2.1 d
  · rw [if_neg e]
    exact ⟨fun w => absurd w (by decide), fun w => absurd w.1 e⟩
theorem dcW_b {q : Nat} : ∀ l, l ≤ 3 → (∀ j, j < l → dB (b (q + j)) = true) → 0 ≤ dcW b q l ∧ dcW b q l ≤ (if l = 0 then 0 else if l = 1 then 9 else if l = 2 then 99 else 999) := by
  intro l
  induction l with
  | zero => intro h1 h; exact ⟨Int.le_refl 0, Int.le_refl 0⟩
  | succ l ih =>
    intro h1 h
    obtain ⟨a1, a2⟩ := ih (by omega) (fun j hj => h j (by omega))
    have := dB_t.mp (h l (by omega))
    have e : dcW b q (l + 1) = dcW b q l * 10 + b (q + l) - 48 := rfl
    rw [e]
    have : l = 0 ∨ l = 1 ∨ l = 2 := by omega
    rcases this with z | z | z
    · subst z
      rw [if_pos rfl] at a2
      rw [if_neg (by decide), if_pos rfl]
      omega
    · subst z
      rw [if_neg (by decide), if_pos rfl] at a2
      rw [if_neg (by decide), if_neg (by decide), if_pos rfl]
      omega
    · subst z
      rw [if_neg (by decide), if_neg (by decide), if_pos rfl] at a2
      rw [if_neg (by decide), if_neg (by decide), if_neg (by decide)]
      omega
theorem tN_v {q : Nat} (h : tN b n q) : tVl b n q = dcW b q (te b n q - q) ∧ 0 ≤ dcW b q (te b n q - q) ∧ dcW b q (te b n q - q) ≤ 999 := by
  obtain ⟨h1, h2, h3, h4⟩ := h
  have et : te b n q = run dB b n q := by unfold te; rw [if_pos h1, if_neg h2, if_pos h3]
  have := dcW_b (b := b) (q := q) (te b n q - q) (by omega) (fun j hj => (run_s (P := dB) (b := b) (n := n) (i := q) (j := q + j) (by omega) (by omega) (by omega)).1)
  refine ⟨by unfold tVl; rw [if_pos h1, if_neg h2, if_pos h3], this.1, ?_⟩
  have t2 := this.2
  revert t2
  repeat' split
  all_goals omega
/-- what the token is, for both: not a word and not a whole too -/
theorem rd_kind (h : rdS b n T C M k) : gI C 3 k = J (tKd b n (tpos b n k)) ∧ gI M 0 6 = J (mKd b n (tpos b n k)) := ⟨(rd_x h).2.2.1, h.2.2.2.2.2.1.2.2.1⟩
theorem rdS_w {C' M' : zM} (h : rdS b n T C M k) (c3 : gI C' 2 3 = gI C 2 3) (c4 : gI C' 2 4 = gI C 2 4) (c7 : gI C' 2 7 = gI C 2 7) (cf : ∀ k, gI C' 3 k = gI C 3 k ∧ gI C' 4 k = gI C 4 k ∧ gL C' 5 k = gL C 5 k) (m0 : ∀ k, ¬ k = 10 → gI M' 0 k = gI M 0 k) (m1 : ∀ k, gI M' 1 k = gI M 1 k) (m2 : ∀ k, gI M' 2 k = gI M 2 k) : rdS b n T C' M' k := by
  obtain ⟨hb, hc, hk, h24, ⟨ht, h27, h09⟩, ⟨g4, g5, g6, g8, g7⟩, h13⟩ := h
  refine ⟨hb, rdC_c hc c3 cf, hk, c4.trans h24, ⟨mTp_c ht (m0 3 (by omega)) m1, c7.trans h27, (m0 9 (by omega)).trans h09⟩, ⟨(m0 4 (by omega)).trans g4, (m0 5 (by omega)).trans g5, (m0 6 (by omega)).trans g6, fun a1 a2 a3 => ?_, fun a1 a2 a3 a4 => (m0 7 (by omega)).trans (g7 a1 a2 a3 a4)⟩, (m0 13 (by omega)).trans h13⟩
  obtain ⟨u1, u2⟩ := g8 a1 a2 a3
  exact ⟨(m0 8 (by omega)).trans u1, fun j hj => (m2 _).trans (u2 j hj)⟩
/-- the outcome of a number -/
def twoN (b : Nat → Int) (n T k0 : Nat) (lo hi : Int) (C M : zM) (F : Option (Int32 × zM)) (Gm : Option (Int32 × zM)) : Prop := ∃ (r v : Int) (C' M' : zM), F = some (J r, C') ∧ Gm = some (J v, M') ∧ fr fC2 C C' ∧ fr fM2 M M' ∧ ((r = 1 ∧ (∃ k, k0 + 1 ≤ k ∧ rdS b n T C' M' k) ∧ gI C' 2 5 = J v ∧ lo ≤ v ∧ v ≤ hi) ∨ (r = 0 ∧ bad C' M'))
theorem rd_number (h : rdS b n T C M k) {lo hi : Int} (hl : 0 ≤ lo ∧ lo ≤ 1000) (hh : -1000 ≤ hi ∧ hi ≤ 1000) : twoN b n T k lo hi C M (gX7_takeWhole C (J lo) (J hi)) (gX12_number M (J lo) (J hi)) := by
  have h' := h
  obtain ⟨x1, y1, x3, x4, x5⟩ := rd_x h
  obtain ⟨hb, hc, hk, h24, ht, ⟨m4, m5, m6, m8, m7⟩, h13⟩ := h
  have kb := tKd_b (b := b) (n := n) (q := tpos b n k)
  have mb := mKd_b (b := b) (n := n) (q := tpos b n k)
  unfold gX7_takeWhole gX12_number
  simp only [J_0, J_1, J_2, J_3, J_4, J_5, J_6, J_7, J_8, J_9, J_10, J_11, J_12, J_14, J_15, J_16, J_19, J_20, J_21, J_22, J_23, J_24, J_25, J_28, J_30, J_31, J_32, J_40, J_44, J_47, J_48, J_49, J_50, J_53, J_54, J_57, J_59, J_74, J_75, J_78, J_84, J_97, J_99, J_100, J_120, J_122, J_126, J_132, J_138, J_144, J_150, J_156, J_162, J_198, J_200, J_202, J_206, J_210, J_214, J_218, J_222, J_226, J_230, J_234, J_238, J_239, J_240, J_241, J_242, J_243, J_255, J_263, J_283, J_303, J_399, J_400, J_401, J_463, J_700, J_701, J_999, J_1000, J_2048, J_4095, J_4096, J_6000, J_9999, J_10000, J_65536, J_65537, J_2147483647, J_neg]
  rw [x1, ckt, ckt, ckt, ckt, y1, x3, x5, h13, if_pos rfl, m6, iEQ (by omega) (by omega) (by decide) (by decide), iEQ (by omega) (by omega) (by decide) (by decide)]
  by_cases y : tN b n (tpos b n k)
  · obtain ⟨v1, v2, v3⟩ := tN_v y
    rw [if_pos (tN_k.mpr y), if_pos (tN_m.mpr y), v1, J_toL (by omega) (by omega), J_toL (by omega) (by omega), iLTl (by omega) (by omega) (by omega) (by omega), iLEl (by omega) (by omega) (by omega) (by omega), m7 y.1 y.2.1 y.2.2.1 y.2.2.2, m_within (by omega) (by omega) (by omega) (by omega) (by omega) (by omega), b1s, iB0]
    generalize dcW b (tpos b n k) (te b n (tpos b n k) - tpos b n k) = v at v2 v3
    obtain ⟨C1, q1, q2, q3, q4, q5⟩ := rd_wrong h' (f := 4) (by decide)
    by_cases z : v < lo
    · rw [if_pos z, if_neg (by omega), q1, b2s, show isB (J 0) = true by decide, ckt, q2, b1s]
      exact ⟨0, lo, _, _, rfl, rfl, q4, q5, Or.inr ⟨rfl, q3⟩⟩
    · rw [if_neg z]
      by_cases w : v ≤ hi
      · have hs : rdS b n T (pI C 2 5 (J v)) M k := rdS_w h' (by rw [rII, if_neg (by omega)]) (by rw [rII, if_neg (by omega)]) (by rw [rII, if_neg (by omega)]) (fun k => ⟨by rw [rII, if_neg (by omega)], by rw [rII, if_neg (by omega)], rLI⟩) (fun _ _ => rfl) (fun _ => rfl) (fun _ => rfl)
        obtain ⟨C', M', k', s1, s2, s3, s4, s5, -, -, s6⟩ := rd_step hs
        rw [if_pos w, if_pos ⟨by omega, w⟩, JL_toI, s1, b1s, s2, b1s]
        have h5 : gI C' 2 5 = J v := by
          have : gX7_step (pI C 2 5 (J v)) = some C' := s1
          unfold gX7_step at this
          split at this
          · have := Option.some.inj this
            rw [← this, rII, if_pos ⟨rfl, rfl⟩]
          · have := Option.some.inj this
            rw [← this, rII, if_neg (by omega), rII, if_pos ⟨rfl, rfl⟩]
        exact ⟨1, v, _, _, rfl, rfl, fr_t (fr_pI (by unfold fC2; omega)) s4, fNx_2 s5, Or.inl ⟨rfl, ⟨k', s6 y.1, s3⟩, h5, by omega, w⟩⟩
      · rw [if_neg w, if_neg (by omega), q1, b2s, show isB (J 0) = true by decide, ckt, q2, b1s]
        exact ⟨0, lo, _, _, rfl, rfl, q4, q5, Or.inr ⟨rfl, q3⟩⟩
  · obtain ⟨C1, q1, q2, q3, q4, q5⟩ := rd_wrong h' (f := 1) (by decide)
    rw [if_neg (fun v => y (tN_k.mp v)), if_neg (fun v => y (tN_m.mp v)), q1, b2s, show isB (J 0) = true by decide, ckt, q2, b1s]
    exact ⟨0, lo, _, _, rfl, rfl, q4, q5, Or.inr ⟨rfl, q3⟩⟩
theorem rd_signed (h : rdS b n T C M k) {hi : Int} (hh : 0 ≤ hi ∧ hi ≤ 1000) : twoN b n T k (-hi) hi C M (gX7_takeSigned C (J hi)) (gX12_signed M (J hi)) := by
  obtain ⟨r, r1, r2, r3, -⟩ := rd_word h (w := 7) (by decide)
  unfold gX7_takeSigned gX12_signed gX7_takeSigned_J15
  simp only [J_0, J_1, J_2, J_3, J_4, J_5, J_6, J_7, J_8, J_9, J_10, J_11, J_12, J_14, J_15, J_16, J_19, J_20, J_21, J_22, J_23, J_24, J_25, J_28, J_30, J_31, J_32, J_40, J_44, J_47, J_48, J_49, J_50, J_53, J_54, J_57, J_59, J_74, J_75, J_78, J_84, J_97, J_99, J_100, J_120, J_122, J_126, J_132, J_138, J_144, J_150, J_156, J_162, J_198, J_200, J_202, J_206, J_210, J_214, J_218, J_222, J_226, J_230, J_234, J_238, J_239, J_240, J_241, J_242, J_243, J_255, J_263, J_283, J_303, J_399, J_400, J_401, J_463, J_700, J_701, J_999, J_1000, J_2048, J_4095, J_4096, J_6000, J_9999, J_10000, J_65536, J_65537, J_2147483647, J_neg]
  rw [show (10007 : Nat) = 10000 + 7 from rfl, r2, b1s]
  rcases r1 with z | z
  · subst z
    obtain ⟨s, v, C', M', q1, q2, q3, q4, q5⟩ := rd_number h (lo := 0) (hi := hi) (by decide) (by omega)
    rw [if_pos rfl, q1, b2s, m_takes0 r3, b2s, q2, b2s, if_pos rfl, if_pos rfl]
    rcases q5 with ⟨w, w2, w3, w4, w5⟩ | ⟨w, w2⟩
    · subst w
      obtain ⟨k', w0, w2⟩ := w2
      rw [if_neg (by decide), w3]
      exact ⟨1, v, _, _, rfl, rfl, fr_t q3 (fr_pI (by unfold fC2; omega)), q4, Or.inl ⟨rfl, ⟨k', by omega, rdS_w w2 (by rw [rII, if_neg (by omega)]) (by rw [rII, if_neg (by omega)]) (by rw [rII, if_neg (by omega)]) (fun k => ⟨by rw [rII, if_neg (by omega)], by rw [rII, if_neg (by omega)], rLI⟩) (fun _ _ => rfl) (fun _ => rfl) (fun _ => rfl)⟩, by rw [rII, if_pos ⟨rfl, rfl⟩], by omega, by omega⟩⟩
    · subst w
      rw [if_pos rfl]
      exact ⟨0, v, _, _, rfl, rfl, q3, q4, Or.inr ⟨rfl, w2⟩⟩
  · subst z
    obtain ⟨C1, M1, k1, p1, p2, p3, p4, p5, -, p6, -⟩ := rd_step h
    obtain ⟨s, v, C', M', q1, q2, q3, q4, q5⟩ := rd_number p3 (lo := 0) (hi := hi) (by decide) (by omega)
    rw [if_neg (show ¬ J 1 = J 0 by decide), p1, b1s, q1, b2s, m_takes1 r3 p2, b2s, q2, b2s, if_neg (show ¬ J 1 = J 0 by decide), if_neg (show ¬ J 1 = J 0 by decide), J_neg]
    rcases q5 with ⟨w, w2, w3, w4, w5⟩ | ⟨w, w2⟩
    · subst w
      obtain ⟨k', w0, w2⟩ := w2
      rw [if_neg (by decide), w3, J_neg]
      exact ⟨1, -v, _, _, rfl, rfl, fr_t (fr_t p4 q3) (fr_pI (by unfold fC2; omega)), fr_t (fNx_2 p5) q4, Or.inl ⟨rfl, ⟨k', by omega, rdS_w w2 (by rw [rII, if_neg (by omega)]) (by rw [rII, if_neg (by omega)]) (by rw [rII, if_neg (by omega)]) (fun k => ⟨by rw [rII, if_neg (by omega)], by rw [rII, if_neg (by omega)], rLI⟩) (fun _ _ => rfl) (fun _ => rfl) (fun _ => rfl)⟩, by rw [rII, if_pos ⟨rfl, rfl⟩], by omega, by omega⟩⟩
    · subst w
      rw [if_pos rfl]
      exact ⟨0, -v, _, _, rfl, rfl, fr_t p4 q3, fr_t (fNx_2 p5) q4, Or.inr ⟨rfl, w2⟩⟩
/-- is it this mark? -/
theorem rd_mark (h : rdS b n T C M k) {c : Int} (hc : c = 59 ∨ c = 44 ∨ c = 47) : ∃ r : Int, (r = 0 ∨ r = 1) ∧ gX7_isMark C (J c) = some (J r) ∧ (r = 1 ↔ gI M 0 6 = J c) := by
  obtain ⟨x1, y1, x3, x4, x5⟩ := rd_x h
  obtain ⟨hb, hcC, hk, h24, ht, ⟨m4, m5, m6, m8, m7⟩, h13⟩ := h
  have kb := tKd_b (b := b) (n := n) (q := tpos b n k)
  have mb := mKd_b (b := b) (n := n) (q := tpos b n k)
  unfold gX7_isMark
  simp only [J_0, J_1, J_2, J_3, J_4, J_5, J_6, J_7, J_8, J_9, J_10, J_11, J_12, J_14, J_15, J_16, J_19, J_20, J_21, J_22, J_23, J_24, J_25, J_28, J_30, J_31, J_32, J_40, J_44, J_47, J_48, J_49, J_50, J_53, J_54, J_57, J_59, J_74, J_75, J_78, J_84, J_97, J_99, J_100, J_120, J_122, J_126, J_132, J_138, J_144, J_150, J_156, J_162, J_198, J_200, J_202, J_206, J_210, J_214, J_218, J_222, J_226, J_230, J_234, J_238, J_239, J_240, J_241, J_242, J_243, J_255, J_263, J_283, J_303, J_399, J_400, J_401, J_463, J_700, J_701, J_999, J_1000, J_2048, J_4095, J_4096, J_6000, J_9999, J_10000, J_65536, J_65537, J_2147483647, J_neg]
  rw [x1, ckt, ckt, y1, x3, x5, m6, iEQ (by omega) (by omega) (by decide) (by decide), J_toL (by omega) (by omega), J_inj (by omega) (by omega) (by omega) (by omega)]
  generalize tpos b n k = q at kb mb
  unfold tKd mKd tVl
  by_cases e : q < n
  · have hv := hb.2 q e
    have hs := sgn_b hv
    rw [if_pos e, if_pos e, if_pos e]
    by_cases y : lB (b q) = true
    · rw [if_pos y, if_pos y]
      have n3 : ¬ ((if te b n q ≤ q + 8 then (1 : Int) else 4) = 3) := by split <;> decide
      rw [if_neg n3]
      refine ⟨0, Or.inl rfl, rfl, fun w => absurd w (by decide), fun w => ?_⟩
      exfalso
      revert w
      split <;> omega
    · rw [if_neg y, if_neg y, if_neg y]
      by_cases d : dB (b q) = true
      · rw [if_pos d, if_pos d]
        have n3 : ¬ ((if te b n q ≤ q + 3 then (2 : Int) else 4) = 3) := by split <;> decide
        rw [if_neg n3]
        refine ⟨0, Or.inl rfl, rfl, fun w => absurd w (by decide), fun w => ?_⟩
        exfalso
        revert w
        split <;> omega
      · rw [if_neg d, if_neg d, if_neg d]
        by_cases m : b q = 59 ∨ b q = 44 ∨ b q = 47
        · have sg : sgn (b q) = b q := by unfold sgn; rw [if_pos (by omega)]
          rw [if_pos m, if_pos m, if_pos rfl, sg, iEQl (by omega) (by omega) (by omega) (by omega)]
          by_cases z : b q = c
          · rw [if_pos z]
            exact ⟨1, Or.inr rfl, rfl, fun _ => z, fun _ => rfl⟩
          · rw [if_neg z]
            exact ⟨0, Or.inl rfl, rfl, fun w => absurd w (by decide), fun w => absurd w z⟩
        · rw [if_neg m, if_neg m, if_neg (by decide)]
          exact ⟨0, Or.inl rfl, rfl, fun w => absurd w (by decide), fun w => by omega⟩
  · rw [if_neg e, if_neg e, if_neg (by decide)]
    exact ⟨0, Or.inl rfl, rfl, fun w => absurd w (by decide), fun w => by omega⟩
theorem rd_slash (h : rdS b n T C M k) : two b n T k fC2 fM2 C M (gX7_takeMark C (J 47)) (gX12_slash M) (fun _ _ => True) := by
  obtain ⟨r, r1, r2, r3⟩ := rd_mark h (c := 47) (Or.inr (Or.inr rfl))
  have h13 := h.2.2.2.2.2.2
  unfold gX7_takeMark gX12_slash
  simp only [J_0, J_1, J_2, J_3, J_4, J_5, J_6, J_7, J_8, J_9, J_10, J_11, J_12, J_14, J_15, J_16, J_19, J_20, J_21, J_22, J_23, J_24, J_25, J_28, J_30, J_31, J_32, J_40, J_44, J_47, J_48, J_49, J_50, J_53, J_54, J_57, J_59, J_74, J_75, J_78, J_84, J_97, J_99, J_100, J_120, J_122, J_126, J_132, J_138, J_144, J_150, J_156, J_162, J_198, J_200, J_202, J_206, J_210, J_214, J_218, J_222, J_226, J_230, J_234, J_238, J_239, J_240, J_241, J_242, J_243, J_255, J_263, J_283, J_303, J_399, J_400, J_401, J_463, J_700, J_701, J_999, J_1000, J_2048, J_4095, J_4096, J_6000, J_9999, J_10000, J_65536, J_65537, J_2147483647, J_neg]
  rw [r2, b1s, h13, if_pos rfl]
  rcases r1 with z | z
  · subst z
    obtain ⟨C', q1, q2, q3, q4, q5⟩ := rd_wrong h (f := 1) (by decide)
    rw [if_pos rfl, if_neg (fun w => absurd (r3.mpr w) (by decide)), q1, b2s, q2, b1s, show isB (J 0) = true by decide, ckt]
    exact ⟨0, _, _, rfl, rfl, q4, q5, Or.inr ⟨rfl, q3⟩⟩
  · subst z
    obtain ⟨C', M', k', q1, q2, q3, q4, q5, -, q6, -⟩ := rd_step h
    rw [if_neg (by decide), if_pos (r3.mp rfl), q1, b1s, q2, b1s]
    exact ⟨1, _, _, rfl, rfl, q4, fNx_2 q5, Or.inl ⟨rfl, ⟨k', q6, q3⟩, trivial⟩⟩
end
