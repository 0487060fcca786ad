/-! The words of the text, by both. -/
def wL (k : Nat) : Nat := zS0.1.getD k 0
def wF (k j : Nat) : Int := ((zS0.2.1.getD k []).getD j 0).toInt
theorem wOK_d : ∀ k, k < 28 → (1 ≤ zS0.1.getD k 0 ∧ zS0.1.getD k 0 ≤ 8) ∧ ∀ j, j < zS0.1.getD k 0 → (97 ≤ ((zS0.2.1.getD k []).getD j 0).toInt ∧ ((zS0.2.1.getD k []).getD j 0).toInt ≤ 122) := by decide +kernel
theorem wOK {k : Nat} (h : k < 28) : (1 ≤ wL k ∧ wL k ≤ 8) ∧ ∀ j, j < wL k → lB (wF k j) = true := ⟨(wOK_d k h).1, fun j hj => lB_t.mpr ((wOK_d k h).2 j hj)⟩
theorem slnN_w {k : Nat} : slnN (10000 + k) = wL k := by
  unfold slnN wL
  rw [Nat.add_sub_cancel_left]
theorem slen_w {k : Nat} : slen (10000 + k) = J (wL k) := by
  unfold slen
  rw [slnN_w]
  rfl
theorem sch_w {k j : Nat} (h : j < 8) : sch (10000 + k) (J j) = J (wF k j) := by
  unfold sch wF
  rw [Nat.add_sub_cancel_left, ix_J (by omega) (by omega), Int.toNat_natCast]
  exact J_self _
/-- letters in number -/
def p32 : Nat → Int
  | 0 => 1
  | l + 1 => 32 * p32 l
theorem cdW_b {f : Nat → Int} {p : Nat} : ∀ l, (∀ j, j < l → lB (f (p + j)) = true) → 0 ≤ cdW f p l ∧ cdW f p l + 1 ≤ p32 l ∧ (0 < l → 1 ≤ cdW f p l) := by
  intro l
  induction l with
  | zero => intro h; exact ⟨Int.le_refl 0, Int.le_refl 1, fun w => absurd w (by decide)⟩
  | succ l ih =>
    intro h
    obtain ⟨h1, h2, h3⟩ := ih (fun j hj => h j (by omega))
    have := lB_t.mp (h l (by omega))
    show 0 ≤ cdW f p l * 32 + f (p + l) - 97 + 1 ∧ cdW f p l * 32 + f (p + l) - 97 + 1 + 1 ≤ 32 * p32 l ∧ (0 < l + 1 → 1 ≤ cdW f p l * 32 + f (p + l) - 97 + 1)
    omega
theorem p32_8 {l : Nat} (h : l ≤ 8) : p32 l ≤ 1099511627776 := by
  have : l = 0 ∨ l = 1 ∨ l = 2 ∨ l = 3 ∨ l = 4 ∨ l = 5 ∨ l = 6 ∨ l = 7 ∨ l = 8 := by omega
  rcases this with z | z | z | z | z | z | z | z | z <;> subst z <;> decide
theorem cdW_inj {f g : Nat → Int} {p p' : Nat} : ∀ l m, (∀ j, j < l → lB (f (p + j)) = true) → (∀ j, j < m → lB (g (p' + j)) = true) → cdW f p l = cdW g p' m → l = m ∧ ∀ j, j < l → f (p + j) = g (p' + j) := by
  intro l
  induction l with
  | zero =>
    intro m h1 h2 e
    cases m with
    | zero => exact ⟨rfl, fun j hj => absurd hj (by omega)⟩
    | succ m =>
      have := (cdW_b (m + 1) h2).2.2 (by omega)
      have e0 : cdW f p 0 = 0 := rfl
      omega
  | succ l ih =>
    intro m h1 h2 e
    cases m with
    | zero =>
      have := (cdW_b (l + 1) h1).2.2 (by omega)
      have e0 : cdW g p' 0 = 0 := rfl
      omega
    | succ m =>
      have a1 := lB_t.mp (h1 l (by omega))
      have a2 := lB_t.mp (h2 m (by omega))
      have e1 : cdW f p (l + 1) = cdW f p l * 32 + f (p + l) - 97 + 1 := rfl
      have e2 : cdW g p' (m + 1) = cdW g p' m * 32 + g (p' + m) - 97 + 1 := rfl
      rw [e1, e2] at e
      obtain ⟨q1, q2⟩ := ih m (fun j hj => h1 j (by omega)) (fun j hj => h2 j (by omega)) (by omega)
      refine ⟨by omega, fun j hj => ?_⟩
      by_cases z : j = l
      · rw [z]
        rw [show p' + l = p' + m by omega]
        omega
      · exact q2 j (by omega)
theorem cdW_e {f g : Nat → Int} {p p' : Nat} : ∀ l, (∀ j, j < l → f (p + j) = g (p' + j)) → cdW f p l = cdW g p' l := by
  intro l
  induction l with
  | zero => intro h; rfl
  | succ l ih =>
    intro h
    show cdW f p l * 32 + f (p + l) - 97 + 1 = cdW g p' l * 32 + g (p' + l) - 97 + 1
    rw [ih (fun j hj => h j (by omega)), h l (by omega)]
theorem cdW_L {f : Nat → Int} {p l : Nat} (hl : l ≤ 8) (h : ∀ j, j < l → lB (f (p + j)) = true) : 0 ≤ cdW f p l ∧ cdW f p l ≤ 1099511627776 := by
  have := cdW_b l h
  have := p32_8 hl
  omega
theorem c_code_L {k : Nat} (hk : k < 28) : ∀ (f j : Nat), j ≤ wL k → wL k < f + j → gX7_codeOf_L4 (10000 + k) f (JL (cdW (wF k) 0 j)) (J j) = some (JL (cdW (wF k) 0 (wL k))) := by
  have hw := wOK hk
  intro f
  induction f with
  | zero => intro j h1 h2; omega
  | succ f ih =>
    intro j h1 h2
    unfold gX7_codeOf_L4
    simp only [J_0, J_1, J_2, J_3, J_4, J_5, J_6, J_7, J_8, J_9, J_10, J_11, J_12, J_14, J_15, J_16, J_19, J_20, J_21, J_22, J_23, J_24, J_25, J_28, J_30, J_31, J_32, J_40, J_44, J_47, J_48, J_49, J_50, J_53, J_54, J_57, J_59, J_74, J_75, J_78, J_84, J_97, J_99, J_100, J_120, J_122, J_126, J_132, J_138, J_144, J_150, J_156, J_162, J_198, J_200, J_202, J_206, J_210, J_214, J_218, J_222, J_226, J_230, J_234, J_238, J_239, J_240, J_241, J_242, J_243, J_255, J_263, J_283, J_303, J_399, J_400, J_401, J_463, J_700, J_701, J_999, J_1000, J_2048, J_4095, J_4096, J_6000, J_9999, J_10000, J_65536, J_65537, J_2147483647, J_neg, JL_0, JL_1, JL_9, JL_10, JL_32, JL_40, JL_48, JL_64, JL_97, JL_100, JL_4095, JL_4096, JL_16384, JL_65537, JL_524287, JL_524288, JL_268435455, JL_1099511627775, JL_neg, slen_w, slnN_w]
    rw [iLE (by omega) (by omega) (by omega) (by omega)]
    by_cases e : j = wL k
    · rw [if_pos (by omega), e]
    · have := lB_t.mp (hw.2 j (by omega))
      rw [if_neg (by omega), ixb_J (by omega) (by omega) (by omega), ckt, lts, sch_w (by omega), J_toL (by omega) (by omega), JL_mul, JL_add, JL_sub, JL_add, J_add, show (j : Int) + 1 = ((j + 1 : Nat) : Int) by omega]
      have cd : cdW (wF k) 0 j * 32 + wF k j - 97 + 1 = cdW (wF k) 0 (j + 1) := by
        show _ = cdW (wF k) 0 j * 32 + wF k (0 + j) - 97 + 1
        rw [Nat.zero_add]
      rw [cd]
      exact ih (j + 1) (by omega) (by omega)
theorem c_code {k : Nat} (hk : k < 28) : gX7_codeOf (10000 + k) = some (JL (cdW (wF k) 0 (wL k))) := by
  have hw := wOK hk
  unfold gX7_codeOf
  simp only [J_0, J_1, J_2, J_3, J_4, J_5, J_6, J_7, J_8, J_9, J_10, J_11, J_12, J_14, J_15, J_16, J_19, J_20, J_21, J_22, J_23, J_24, J_25, J_28, J_30, J_31, J_32, J_40, J_44, J_47, J_48, J_49, J_50, J_53, J_54, J_57, J_59, J_74, J_75, J_78, J_84, J_97, J_99, J_100, J_120, J_122, J_126, J_132, J_138, J_144, J_150, J_156, J_162, J_198, J_200, J_202, J_206, J_210, J_214, J_218, J_222, J_226, J_230, J_234, J_238, J_239, J_240, J_241, J_242, J_243, J_255, J_263, J_283, J_303, J_399, J_400, J_401, J_463, J_700, J_701, J_999, J_1000, J_2048, J_4095, J_4096, J_6000, J_9999, J_10000, J_65536, J_65537, J_2147483647, J_neg, JL_0, JL_1, JL_9, JL_10, JL_32, JL_40, JL_48, JL_64, JL_97, JL_100, JL_4095, JL_4096, JL_16384, JL_65537, JL_524287, JL_524288, JL_268435455, JL_1099511627775, JL_neg]
  exact c_code_L hk FU 0 (by omega) (by have := FUs (n := 30) (by omega); omega)
/-- both read the same token -/
def rdS (b : Nat → Int) (n T : Nat) (C M : zM) (k : Nat) : Prop := bOK b n ∧ rdC C b n T ∧ k ≤ T ∧ gI C 2 4 = J k ∧ (mTp M b n ∧ gI C 2 7 = J 0 ∧ gI M 0 9 = J 0) ∧ rdM M b n (tpos b n k) ∧ gI M 0 13 = J 0
section
variable {b : Nat → Int} {n T k : Nat} {C M : zM}
/-- the letters of a token -/
theorem te_let {q : Nat} (hq : q < n) (y : lB (b q) = true) : te b n q = run lB b n q ∧ ∀ j, j < te b n q - q → lB (b (q + j)) = true := by
  have et : te b n q = run lB b n q := by unfold te; rw [if_pos hq, if_pos y]
  refine ⟨et, fun j hj => ?_⟩
  exact (run_s (P := lB) (b := b) (n := n) (i := q) (j := q + j) (by omega) (by omega) (by omega)).1
theorem rd_x (h : rdS b n T C M k) : ixb (gI C 2 4) 701 = true ∧ ix (gI C 2 4) = k ∧ gI C 3 k = J (tKd b n (tpos b n k)) ∧ gI C 4 k = J (tpos b n k) ∧ gL C 5 k = JL (tVl b n (tpos b n k)) := by
  obtain ⟨hb, ⟨c1, c2, c3, c4, c5⟩, hk, h24, -⟩ := h
  rw [h24]
  exact ⟨ixb_J (by omega) (by omega) (by decide), by rw [ix_J (by omega) (by omega)]; omega, c5 k hk⟩
theorem tKd_b {q : Nat} : 0 ≤ tKd b n q ∧ tKd b n q ≤ 4 := by
  unfold tKd
  repeat' split
  all_goals omega
/-- a word -/
def tW (b : Nat → Int) (n q : Nat) : Prop := q < n ∧ lB (b q) = true ∧ te b n q ≤ q + 8
theorem tW_k {q : Nat} : tKd b n q = 1 ↔ tW b n q := by
  unfold tKd tW
  by_cases e : q < n
  · rw [if_pos e]
    by_cases y : lB (b q) = true
    · rw [if_pos y]
      by_cases z : te b n q ≤ q + 8
      · rw [if_pos z]
        exact ⟨fun _ => ⟨e, y, z⟩, fun _ => rfl⟩
      · rw [if_neg z]
        exact ⟨fun w => absurd w (by decide), fun w => absurd w.2.2 z⟩
    · rw [if_neg y]
      constructor
      · intro w
        exfalso
        revert w
        repeat' split
        all_goals omega
      · exact fun w => absurd w.2.1 y
  · rw [if_neg e]
    exact ⟨fun w => absurd w (by decide), fun w => absurd w.1 e⟩
theorem tW_m {q : Nat} (hb : bOK b n) : mKd b n q = 2 ↔ tW b n q := by
  unfold mKd tW
  by_cases e : q < n
  · rw [if_pos e]
    by_cases y : lB (b q) = true
    · rw [if_pos y]
      by_cases z : te b n q ≤ q + 8
      · rw [if_pos z]
        exact ⟨fun _ => ⟨e, y, z⟩, fun _ => rfl⟩
      · rw [if_neg z]
        exact ⟨fun w => absurd w (by decide), fun w => absurd w.2.2 z⟩
    · rw [if_neg y]
      constructor
      · intro w
        exfalso
        revert w
        repeat' split
        all_goals omega
      · exact fun w => absurd w.2.1 y
  · rw [if_neg e]
    exact ⟨fun w => absurd w (by decide), fun w => absurd w.1 e⟩
theorem mKd_b {q : Nat} : 0 ≤ mKd b n q ∧ mKd b n q ≤ 59 := by
  unfold mKd
  repeat' split
  all_goals omega
theorem tVl_w {q : Nat} (h : tW b n q) : tVl b n q = cdW b q (te b n q - q) := by
  unfold tVl
  rw [if_pos h.1, if_pos h.2.1]
theorem m_isWord_L {q w L : Nat} (hw : w < 28) (hL : L ≤ 8) (h8 : gI M 0 8 = J L) (hwl : wL w = L) (hl : ∀ j : Nat, j < L → gI M 2 j = J (b (q + j))) (hlb : ∀ j : Nat, j < L → lB (b (q + j)) = true) : ∀ (f j : Nat) (v : Int), j ≤ L → L < f + j → (v = 0 ∨ v = 1) → ∃ r : Int, (r = 0 ∨ r = 1) ∧ gX12_isWord_L32 M (10000 + w) f (J v) (J j) = some (J r) ∧ (r = 1 ↔ v = 1 ∧ ∀ i, j ≤ i → i < L → b (q + i) = wF w i) := by
  have ow := wOK hw
  intro f
  induction f with
  | zero => intro j v h1 h2; omega
  | succ f ih =>
    intro j v h1 h2 hv
    unfold gX12_isWord_L32
    simp only [J_0, J_1, J_2, J_3, J_4, J_5, J_6, J_7, J_8, J_9, J_10, J_11, J_12, J_14, J_15, J_16, J_19, J_20, J_21, J_22, J_23, J_24, J_25, J_28, J_30, J_31, J_32, J_40, J_44, J_47, J_48, J_49, J_50, J_53, J_54, J_57, J_59, J_74, J_75, J_78, J_84, J_97, J_99, J_100, J_120, J_122, J_126, J_132, J_138, J_144, J_150, J_156, J_162, J_198, J_200, J_202, J_206, J_210, J_214, J_218, J_222, J_226, J_230, J_234, J_238, J_239, J_240, J_241, J_242, J_243, J_255, J_263, J_283, J_303, J_399, J_400, J_401, J_463, J_700, J_701, J_999, J_1000, J_2048, J_4095, J_4096, J_6000, J_9999, J_10000, J_65536, J_65537, J_2147483647, J_neg, slnN_w]
    rw [h8, iLE (by omega) (by omega) (by omega) (by omega)]
    by_cases e : j = L
    · rw [if_pos (by omega), show isB (J v) = true by rcases hv with z | z <;> rw [z] <;> decide, ckt]
      exact ⟨v, hv, rfl, fun z => ⟨z, fun i i1 i2 => by omega⟩, fun z => z.1⟩
    · rw [if_neg (by omega), J_add, show (j : Int) + 1 = ((j + 1 : Nat) : Int) by omega]
      rcases hv with z | z
      · subst z
        rw [if_pos rfl]
        obtain ⟨r, r1, r2, r3⟩ := ih (j + 1) 0 (by omega) (by omega) (Or.inl rfl)
        exact ⟨r, r1, r2, fun y => absurd (r3.mp y).1 (by decide), fun y => absurd y.1 (by decide)⟩
      · subst z
        have b1 := lB_t.mp (hlb j (by omega))
        have b2 := lB_t.mp (ow.2 j (by omega))
        rw [if_neg (show ¬ J 1 = J 0 by decide), ixb_J (by omega) (by omega) (by decide), ckt, ixb_J (by omega) (by omega) (by omega), ckt, ix_J (by omega) (by omega), Int.toNat_natCast, hl j (by omega), sch_w (by omega), iEQ (by omega) (by omega) (by omega) (by omega)]
        by_cases y : b (q + j) = wF w j
        · rw [if_pos y]
          obtain ⟨r, r1, r2, r3⟩ := ih (j + 1) 1 (by omega) (by omega) (Or.inr rfl)
          refine ⟨r, r1, r2, r3.trans ⟨fun u => ⟨rfl, fun i i1 i2 => ?_⟩, fun u => ⟨rfl, fun i i1 i2 => u.2 i (by omega) i2⟩⟩⟩
          by_cases x : i = j
          · rw [x]; exact y
          · exact u.2 i (by omega) i2
        · rw [if_neg y]
          obtain ⟨r, r1, r2, r3⟩ := ih (j + 1) 0 (by omega) (by omega) (Or.inl rfl)
          exact ⟨r, r1, r2, fun u => absurd (r3.mp u).1 (by decide), fun u => absurd (u.2 j (Nat.le_refl j) (by omega)) y⟩
/-- is it this word? -/
theorem rd_word (h : rdS b n T C M k) {w : Nat} (hw : w < 28) : ∃ r : Int, (r = 0 ∨ r = 1) ∧ gX7_isWord C (10000 + w) = some (J r) ∧ gX12_isWord M (10000 + w) = some (J r) ∧ (r = 1 → tW b n (tpos b n k)) := by
  have ow := wOK hw
  obtain ⟨x1, y1, x3, x4, x5⟩ := rd_x h
  obtain ⟨hb, hc, hk, h24, ht, ⟨m4, m5, m6, m8, m7⟩, h13⟩ := h
  have kb := tKd_b (b := b) (n := n) (q := tpos b n k)
  have mb := mKd_b (b := b) (n := n) (q := tpos b n k)
  unfold gX7_isWord gX12_isWord
  simp only [J_0, J_1, J_2, J_3, J_4, J_5, J_6, J_7, J_8, J_9, J_10, J_11, J_12, J_14, J_15, J_16, J_19, J_20, J_21, J_22, J_23, J_24, J_25, J_28, J_30, J_31, J_32, J_40, J_44, J_47, J_48, J_49, J_50, J_53, J_54, J_57, J_59, J_74, J_75, J_78, J_84, J_97, J_99, J_100, J_120, J_122, J_126, J_132, J_138, J_144, J_150, J_156, J_162, J_198, J_200, J_202, J_206, J_210, J_214, J_218, J_222, J_226, J_230, J_234, J_238, J_239, J_240, J_241, J_242, J_243, J_255, J_263, J_283, J_303, J_399, J_400, J_401, J_463, J_700, J_701, J_999, J_1000, J_2048, J_4095, J_4096, J_6000, J_9999, J_10000, J_65536, J_65537, J_2147483647, J_neg]
  rw [x1, ckt, ckt, y1, x3, x5, c_code hw, b1s, h13, if_pos rfl, m6, iEQ (by omega) (by omega) (by decide) (by decide), iEQ (by omega) (by omega) (by decide) (by decide)]
  generalize hq : tpos b n k = q at m8 m7
  by_cases y : tW b n q
  · obtain ⟨l1, l2⟩ := te_let y.1 y.2.1
    have lt := te_b (b := b) y.1
    have cb := cdW_L (f := b) (p := q) (l := te b n q - q) (by have := y.2.2; omega) l2
    have cw := cdW_L (f := wF w) (p := 0) (l := wL w) ow.1.2 (fun j hj => by rw [Nat.zero_add]; exact ow.2 j hj)
    obtain ⟨e8, e2⟩ := m8 y.1 y.2.1 y.2.2
    have y8 := y.2.2
    rw [if_pos (tW_k.mpr y), if_pos ((tW_m hb).mpr y), tVl_w y, iEQl (by omega) (by omega) (by omega) (by omega), e8, slen_w, iEQ (by omega) (by omega) (by omega) (by omega)]
    by_cases z : te b n q - q = wL w
    · rw [if_pos (show ((te b n q - q : Nat) : Int) = (wL w : Int) by omega)]
      obtain ⟨r, r1, r2, r3⟩ := m_isWord_L (b := b) (q := q) hw (by omega) e8 z.symm e2 l2 FU 0 1 (by omega) (by have := FUs (n := 30) (by omega); omega) (Or.inr rfl)
      rw [show J ((0 : Nat) : Int) = J 0 from rfl] at r2
      rw [r2]
      by_cases u : cdW b q (te b n q - q) = cdW (wF w) 0 (wL w)
      · rw [if_pos u]
        have := (cdW_inj _ _ l2 (fun j hj => by rw [Nat.zero_add]; exact ow.2 j hj) u).2
        have r1' : r = 1 := r3.mpr ⟨rfl, fun i _ hi => by have := this i hi; rw [Nat.zero_add] at this; exact this⟩
        subst r1'
        exact ⟨1, Or.inr rfl, rfl, rfl, fun _ => y⟩
      · rw [if_neg u]
        have r0 : r = 0 := by
          rcases r1 with v | v
          · exact v
          · exfalso
            have := (r3.mp v).2
            apply u
            rw [z] at this ⊢
            exact cdW_e _ (fun j hj => by rw [Nat.zero_add]; exact this j (Nat.zero_le j) hj)
        subst r0
        exact ⟨0, Or.inl rfl, rfl, rfl, fun v => absurd v (by decide)⟩
    · rw [if_neg (show ¬ ((te b n q - q : Nat) : Int) = (wL w : Int) by omega), if_neg (fun u => z (cdW_inj _ _ l2 (fun j hj => by rw [Nat.zero_add]; exact ow.2 j hj) u).1)]
      exact ⟨0, Or.inl rfl, rfl, rfl, fun v => absurd v (by decide)⟩
  · rw [if_neg (fun v => y (tW_k.mp v)), if_neg (fun v => y ((tW_m hb).mp v))]
    exact ⟨0, Or.inl rfl, rfl, rfl, fun v => absurd v (by decide)⟩
/-- what the reading of a token writes -/
def fC2 (q k : Nat) : Prop := q = 2 ∧ (k = 4 ∨ k = 5 ∨ k = 7 ∨ k = 8)
def fM2 (q k : Nat) : Prop := (q = 0 ∧ ((4 ≤ k ∧ k ≤ 10) ∨ k = 13)) ∨ q = 2
theorem fNx_2 {M M' : zM} (f : fr fNx M M') : fr fM2 M M' := fr_w f (fun q k z => by unfold fNx at z; unfold fM2; omega)
theorem rdC_c {C C' : zM} (h : rdC C b n T) (e3 : gI C' 2 3 = gI C 2 3) (f : ∀ k, gI C' 3 k = gI C 3 k ∧ gI C' 4 k = gI C 4 k ∧ gL C' 5 k = gL C 5 k) : rdC C' b n T := by
  obtain ⟨h1, h2, h3, h4, h5⟩ := h
  refine ⟨h1, h2, h3, e3.trans h4, fun k hk => ?_⟩
  rw [(f k).1, (f k).2.1, (f k).2.2]
  exact h5 k hk
theorem rd_step (h : rdS b n T C M k) : ∃ C' M' k', gX7_step C = some C' ∧ gX12_next M = some M' ∧ rdS b n T C' M' k' ∧ fr fC2 C C' ∧ fr fNx M M' ∧ gI M' 0 13 = J 0 ∧ k ≤ k' ∧ (tpos b n k < n → k + 1 ≤ k') := by
  obtain ⟨hb, hc, hk, h24, ⟨ht, h27, h09⟩, ⟨m4, m5, m6, m8, m7⟩, h13⟩ := h
  have hn := hb.1
  have hT := hc.1
  have tl := tpos_le (b := b) (n := n) k
  obtain ⟨M', r1, r2, r3⟩ := m_next hb ht (te_le tl) m5
  have c13 : gI M' 0 13 = J 0 := (r2.1 0 13 (by unfold fNx; omega)).trans h13
  have tM : mTp M' b n := mTp_c ht (r2.1 0 3 (by unfold fNx; omega)) (fun k => r2.1 1 k (by unfold fNx; omega))
  unfold gX7_step
  simp only [J_0, J_1, J_2, J_3, J_4, J_5, J_6, J_7, J_8, J_9, J_10, J_11, J_12, J_14, J_15, J_16, J_19, J_20, J_21, J_22, J_23, J_24, J_25, J_28, J_30, J_31, J_32, J_40, J_44, J_47, J_48, J_49, J_50, J_53, J_54, J_57, J_59, J_74, J_75, J_78, J_84, J_97, J_99, J_100, J_120, J_122, J_126, J_132, J_138, J_144, J_150, J_156, J_162, J_198, J_200, J_202, J_206, J_210, J_214, J_218, J_222, J_226, J_230, J_234, J_238, J_239, J_240, J_241, J_242, J_243, J_255, J_263, J_283, J_303, J_399, J_400, J_401, J_463, J_700, J_701, J_999, J_1000, J_2048, J_4095, J_4096, J_6000, J_9999, J_10000, J_65536, J_65537, J_2147483647, J_neg]
  rw [hc.2.2.2.1, h24, J_add, iLE (by omega) (by omega) (by omega) (by omega)]
  by_cases e : k = T
  · rw [if_pos (by omega)]
    have tn : tpos b n k = n := by rw [e]; exact hc.2.1
    refine ⟨C, M', k, rfl, r1, ⟨hb, hc, hk, h24, ⟨tM, h27, (r2.1 0 9 (by unfold fNx; omega)).trans h09⟩, ?_, c13⟩, fr_r, r2, c13, Nat.le_refl k, fun w => by omega⟩
    have : run sB b n (te b n (tpos b n k)) = tpos b n k := by
      rw [tn]
      have : te b n n = n := by unfold te; rw [if_neg (by omega)]
      rw [this]
      exact run_e (Nat.le_refl n)
    rw [← this]
    exact r3
  · rw [if_neg (by omega), show (k : Int) + 1 = ((k + 1 : Nat) : Int) by omega]
    exact ⟨_, M', k + 1, rfl, r1, ⟨hb, rdC_c hc (by rw [rII, if_neg (by omega)]) (fun j => ⟨by rw [rII, if_neg (by omega)], by rw [rII, if_neg (by omega)], rLI⟩), by omega, by rw [rII, if_pos ⟨rfl, rfl⟩], ⟨tM, by rw [rII, if_neg (by omega), h27], (r2.1 0 9 (by unfold fNx; omega)).trans h09⟩, r3, c13⟩, fr_pI (by unfold fC2; omega), r2, c13, by omega, fun _ => Nat.le_refl _⟩
/-- a fault, in both -/
def bad (C M : zM) : Prop := gI M 0 13 = J 1 ∧ gI C 2 7 = gI M 0 9 ∧ gI C 2 8 = gI M 0 10 ∧ ∃ f : Int, (1 ≤ f ∧ f ≤ 6) ∧ gI M 0 9 = J f
def mbad (M : zM) (f q : Int) : zM := pI (pI (pI M 0 13 (J 1)) 0 9 (J f)) 0 10 (J q)
theorem rd_wrong (h : rdS b n T C M k) {f : Int} (hf : 1 ≤ f ∧ f ≤ 6) : ∃ C', gX7_wrong C (J f) = some (J 0, C') ∧ gX12_wrong M (J f) (gI M 0 4) = some (mbad M f (tpos b n k)) ∧ bad C' (mbad M f (tpos b n k)) ∧ fr fC2 C C' ∧ fr fM2 M (mbad M f (tpos b n k)) := by
  obtain ⟨x1, y1, x3, x4, x5⟩ := rd_x h
  obtain ⟨hb, hc, hk, h24, ht, ⟨m4, -⟩, h13⟩ := h
  have e24 : gI (pI C 2 7 (J f)) 2 4 = gI C 2 4 := by rw [rII, if_neg (by omega)]
  have e4 : gI (pI C 2 7 (J f)) 4 k = J (tpos b n k) := by rw [rII, if_neg (by omega), x4]
  have fM : fr fM2 M (mbad M f (tpos b n k)) := fr_t (fr_t (fr_pI (by unfold fM2; omega)) (fr_pI (by unfold fM2; omega))) (fr_pI (by unfold fM2; omega))
  refine ⟨pI (pI C 2 7 (J f)) 2 8 (J (tpos b n k)), ?_, ?_, ⟨?_, ?_, ?_, f, hf, ?_⟩, fr_t (fr_pI (by unfold fC2; omega)) (fr_pI (by unfold fC2; omega)), fM⟩
  · unfold gX7_wrong
    simp only [J_0, J_1, J_2, J_3, J_4, J_5, J_6, J_7, J_8, J_9, J_10, J_11, J_12, J_14, J_15, J_16, J_19, J_20, J_21, J_22, J_23, J_24, J_25, J_28, J_30, J_31, J_32, J_40, J_44, J_47, J_48, J_49, J_50, J_53, J_54, J_57, J_59, J_74, J_75, J_78, J_84, J_97, J_99, J_100, J_120, J_122, J_126, J_132, J_138, J_144, J_150, J_156, J_162, J_198, J_200, J_202, J_206, J_210, J_214, J_218, J_222, J_226, J_230, J_234, J_238, J_239, J_240, J_241, J_242, J_243, J_255, J_263, J_283, J_303, J_399, J_400, J_401, J_463, J_700, J_701, J_999, J_1000, J_2048, J_4095, J_4096, J_6000, J_9999, J_10000, J_65536, J_65537, J_2147483647, J_neg]
    rw [e24, x1, ckt, y1, e4]
  · unfold gX12_wrong mbad
    simp only [J_0, J_1, J_2, J_3, J_4, J_5, J_6, J_7, J_8, J_9, J_10, J_11, J_12, J_14, J_15, J_16, J_19, J_20, J_21, J_22, J_23, J_24, J_25, J_28, J_30, J_31, J_32, J_40, J_44, J_47, J_48, J_49, J_50, J_53, J_54, J_57, J_59, J_74, J_75, J_78, J_84, J_97, J_99, J_100, J_120, J_122, J_126, J_132, J_138, J_144, J_150, J_156, J_162, J_198, J_200, J_202, J_206, J_210, J_214, J_218, J_222, J_226, J_230, J_234, J_238, J_239, J_240, J_241, J_242, J_243, J_255, J_263, J_283, J_303, J_399, J_400, J_401, J_463, J_700, J_701, J_999, J_1000, J_2048, J_4095, J_4096, J_6000, J_9999, J_10000, J_65536, J_65537, J_2147483647, J_neg]
    rw [h13, if_pos rfl, m4]
  · unfold mbad
    rw [rII, if_neg (by omega), rII, if_neg (by omega), rII, if_pos ⟨rfl, rfl⟩]
  · unfold mbad
    rw [rII, if_neg (by omega), rII, if_pos ⟨rfl, rfl⟩, rII, if_neg (by omega), rII, if_pos ⟨rfl, rfl⟩]
  · unfold mbad
    rw [rII, if_pos ⟨rfl, rfl⟩, rII, if_pos ⟨rfl, rfl⟩]
  · unfold mbad
    rw [rII, if_neg (by omega), rII, if_pos ⟨rfl, rfl⟩]
end
