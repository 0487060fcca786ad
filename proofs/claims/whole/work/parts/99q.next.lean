/-! The text: its tokens, by the model. -/
def mTp (M : zM) (b : Nat → Int) (n : Nat) : Prop := gI M 0 3 = J n ∧ ∀ k, k < n → gI M 1 k = J (b k)
def mKd (b : Nat → Int) (n q : Nat) : Int := if q < n then (if lB (b q) = true then (if te b n q ≤ q + 8 then 2 else 1) else if dB (b q) = true then (if te b n q ≤ q + 3 then 3 else 1) else if b q = 59 ∨ b q = 44 ∨ b q = 47 then b q else 1) else 0
def rdM (M : zM) (b : Nat → Int) (n q : Nat) : Prop := gI M 0 4 = J q ∧ gI M 0 5 = J (te b n q) ∧ gI M 0 6 = J (mKd b n q) ∧ (q < n → lB (b q) = true → te b n q ≤ q + 8 → gI M 0 8 = J ((te b n q - q : Nat) : Int) ∧ ∀ j : Nat, j < te b n q - q → gI M 2 j = J (b (q + j))) ∧ (q < n → ¬ lB (b q) = true → dB (b q) = true → te b n q ≤ q + 3 → gI M 0 7 = J (dcW b q (te b n q - q)))
def fNx (q k : Nat) : Prop := (q = 0 ∧ 4 ≤ k ∧ k ≤ 8) ∨ q = 2
section
variable {b : Nat → Int} {n : Nat}
theorem mTp_c {M M' : zM} (h : mTp M b n) (h3 : gI M' 0 3 = gI M 0 3) (h1 : ∀ k, gI M' 1 k = gI M 1 k) : mTp M' b n := ⟨h3.trans h.1, fun k hk => (h1 k).trans (h.2 k hk)⟩
theorem m_look {M : zM} (hb : bOK b n) (ht : mTp M b n) {i : Nat} (hi : i ≤ n) : gX12_look M (J i) = some (J (if i < n then b i else -1)) := by
  have hn := hb.1
  unfold gX12_look
  simp only [J_0, J_1, J_2, J_3, J_4, J_5, J_6, J_7, J_8, J_9, J_10, J_11, J_12, J_14, J_15, J_16, J_19, J_20, J_21, J_22, J_23, J_24, J_25, J_28, J_30, J_31, J_32, J_40, J_44, J_47, J_48, J_49, J_50, J_53, J_54, J_57, J_59, J_74, J_75, J_78, J_84, J_97, J_99, J_100, J_120, J_122, J_126, J_132, J_138, J_144, J_150, J_156, J_162, J_198, J_200, J_202, J_206, J_210, J_214, J_218, J_222, J_226, J_230, J_234, J_238, J_239, J_240, J_241, J_242, J_243, J_255, J_263, J_283, J_303, J_399, J_400, J_401, J_463, J_700, J_701, J_999, J_1000, J_2048, J_4095, J_4096, J_6000, J_9999, J_10000, J_65536, J_65537, J_2147483647, J_neg]
  rw [ht.1, iLE (by omega) (by omega) (by omega) (by omega)]
  by_cases e : i < n
  · rw [if_neg (by omega), if_pos e, ixb_J (by omega) (by omega) (by decide), ckt, ix_J (by omega) (by omega), Int.toNat_natCast, ht.2 i e]
  · rw [if_pos (by omega), if_neg e]
theorem m_small {v : Int} (h : -1 ≤ v ∧ v ≤ 255) : gX12_isSmall (J v) = some (bI (lB v = true)) := by
  unfold gX12_isSmall
  simp only [J_0, J_1, J_2, J_3, J_4, J_5, J_6, J_7, J_8, J_9, J_10, J_11, J_12, J_14, J_15, J_16, J_19, J_20, J_21, J_22, J_23, J_24, J_25, J_28, J_30, J_31, J_32, J_40, J_44, J_47, J_48, J_49, J_50, J_53, J_54, J_57, J_59, J_74, J_75, J_78, J_84, J_97, J_99, J_100, J_120, J_122, J_126, J_132, J_138, J_144, J_150, J_156, J_162, J_198, J_200, J_202, J_206, J_210, J_214, J_218, J_222, J_226, J_230, J_234, J_238, J_239, J_240, J_241, J_242, J_243, J_255, J_263, J_283, J_303, J_399, J_400, J_401, J_463, J_700, J_701, J_999, J_1000, J_2048, J_4095, J_4096, J_6000, J_9999, J_10000, J_65536, J_65537, J_2147483647, J_neg]
  rw [iLT (by omega) (by omega) (by decide) (by decide), iLT (by decide) (by decide) (by omega) (by omega)]
  have hl := @lB_t v
  by_cases y : lB v = true
  · rw [bI_t y]
    have := hl.mp y
    rw [if_neg (by omega), if_neg (by omega)]
  · rw [bI_f y]
    have nl : ¬ (97 ≤ v ∧ v ≤ 122) := fun w => y (hl.mpr w)
    by_cases a : v < 97
    · rw [if_pos a]
    · rw [if_neg a, if_pos (by omega)]
theorem m_digit {v : Int} (h : -1 ≤ v ∧ v ≤ 255) : gX12_isDigit (J v) = some (bI (dB v = true)) := by
  unfold gX12_isDigit
  simp only [J_0, J_1, J_2, J_3, J_4, J_5, J_6, J_7, J_8, J_9, J_10, J_11, J_12, J_14, J_15, J_16, J_19, J_20, J_21, J_22, J_23, J_24, J_25, J_28, J_30, J_31, J_32, J_40, J_44, J_47, J_48, J_49, J_50, J_53, J_54, J_57, J_59, J_74, J_75, J_78, J_84, J_97, J_99, J_100, J_120, J_122, J_126, J_132, J_138, J_144, J_150, J_156, J_162, J_198, J_200, J_202, J_206, J_210, J_214, J_218, J_222, J_226, J_230, J_234, J_238, J_239, J_240, J_241, J_242, J_243, J_255, J_263, J_283, J_303, J_399, J_400, J_401, J_463, J_700, J_701, J_999, J_1000, J_2048, J_4095, J_4096, J_6000, J_9999, J_10000, J_65536, J_65537, J_2147483647, J_neg]
  rw [iLT (by omega) (by omega) (by decide) (by decide), iLT (by decide) (by decide) (by omega) (by omega)]
  have hl := @dB_t v
  by_cases y : dB v = true
  · rw [bI_t y]
    have := hl.mp y
    rw [if_neg (by omega), if_neg (by omega)]
  · rw [bI_f y]
    have nl : ¬ (48 ≤ v ∧ v ≤ 57) := fun w => y (hl.mpr w)
    by_cases a : v < 48
    · rw [if_pos a]
    · rw [if_neg a, if_pos (by omega)]
theorem m_blank_L {M : zM} (hb : bOK b n) (ht : mTp M b n) : ∀ (f i : Nat), i ≤ n → n < f + i → gX12_next_L5 M f (J i) = some (J (run sB b n i)) := by
  have hn := hb.1
  intro f
  induction f with
  | zero => intro i h1 h2; omega
  | succ f ih =>
    intro i h1 h2
    unfold gX12_next_L5
    simp only [J_0, J_1, J_2, J_3, J_4, J_5, J_6, J_7, J_8, J_9, J_10, J_11, J_12, J_14, J_15, J_16, J_19, J_20, J_21, J_22, J_23, J_24, J_25, J_28, J_30, J_31, J_32, J_40, J_44, J_47, J_48, J_49, J_50, J_53, J_54, J_57, J_59, J_74, J_75, J_78, J_84, J_97, J_99, J_100, J_120, J_122, J_126, J_132, J_138, J_144, J_150, J_156, J_162, J_198, J_200, J_202, J_206, J_210, J_214, J_218, J_222, J_226, J_230, J_234, J_238, J_239, J_240, J_241, J_242, J_243, J_255, J_263, J_283, J_303, J_399, J_400, J_401, J_463, J_700, J_701, J_999, J_1000, J_2048, J_4095, J_4096, J_6000, J_9999, J_10000, J_65536, J_65537, J_2147483647, J_neg]
    rw [m_look hb ht h1, b1s]
    by_cases e : i < n
    · have hi := hb.2 i e
      rw [if_pos e, iEQ (by omega) (by omega) (by decide) (by decide)]
      by_cases z : b i = 32
      · rw [if_pos z, J_add, show (i : Int) + 1 = ((i + 1 : Nat) : Int) by omega, ih (i + 1) (by omega) (by omega), run_y e (sB_t.mpr z)]
      · rw [if_neg z, run_n e (fun w => z (sB_t.mp w))]
    · rw [if_neg e, if_neg (by decide), run_e (by omega)]
theorem m_letters_L (hb : bOK b n) {q : Nat} (hq : q < n) : ∀ (f i : Nat) (M0 M : zM), q ≤ i → i ≤ n → n < f + i → run lB b n i = run lB b n q → mTp M b n → fr fNx M0 M → gI M 0 8 = J ((i - q : Nat) : Int) → gI M 0 4 = J q → (∀ j : Nat, j < i - q → j < 8 → gI M 2 j = J (b (q + j))) → ∃ M', gX12_next_L67 f M (J i) = some M' ∧ fr fNx M0 M' ∧ gI M' 0 4 = J q ∧ gI M' 0 5 = J (run lB b n q) ∧ gI M' 0 6 = J (if run lB b n q ≤ q + 8 then 2 else 1) ∧ gI M' 0 8 = J ((run lB b n q - q : Nat) : Int) ∧ ∀ j : Nat, j < run lB b n q - q → j < 8 → gI M' 2 j = J (b (q + j)) := by
  have hn := hb.1
  intro f
  induction f with
  | zero => intro i M0 M h1 h2 h3; omega
  | succ f ih =>
    intro i M0 M h1 h2 h3 he ht fM h8 h4 hj
    unfold gX12_next_L67
    simp only [J_0, J_1, J_2, J_3, J_4, J_5, J_6, J_7, J_8, J_9, J_10, J_11, J_12, J_14, J_15, J_16, J_19, J_20, J_21, J_22, J_23, J_24, J_25, J_28, J_30, J_31, J_32, J_40, J_44, J_47, J_48, J_49, J_50, J_53, J_54, J_57, J_59, J_74, J_75, J_78, J_84, J_97, J_99, J_100, J_120, J_122, J_126, J_132, J_138, J_144, J_150, J_156, J_162, J_198, J_200, J_202, J_206, J_210, J_214, J_218, J_222, J_226, J_230, J_234, J_238, J_239, J_240, J_241, J_242, J_243, J_255, J_263, J_283, J_303, J_399, J_400, J_401, J_463, J_700, J_701, J_999, J_1000, J_2048, J_4095, J_4096, J_6000, J_9999, J_10000, J_65536, J_65537, J_2147483647, J_neg]
    rw [m_look hb ht h2, b1s]
    have ex : run lB b n q = i → ∃ M', (if gI (pI M 0 5 (J i)) 0 8 ≤ J 8 then some (pI (pI M 0 5 (J i)) 0 6 (J 2)) else some (pI (pI M 0 5 (J i)) 0 6 (J 1))) = some M' ∧ fr fNx M0 M' ∧ gI M' 0 4 = J q ∧ gI M' 0 5 = J (run lB b n q) ∧ gI M' 0 6 = J (if run lB b n q ≤ q + 8 then 2 else 1) ∧ gI M' 0 8 = J ((run lB b n q - q : Nat) : Int) ∧ ∀ j : Nat, j < run lB b n q - q → j < 8 → gI M' 2 j = J (b (q + j)) := by
      intro e
      rw [e, rII, if_neg (show ¬ ((0 : Nat) = 0 ∧ (8 : Nat) = 5) by omega), h8, iLE (by omega) (by omega) (by decide) (by decide)]
      have fin : ∀ v : Int, fr fNx M0 (pI (pI M 0 5 (J i)) 0 6 (J v)) ∧ gI (pI (pI M 0 5 (J i)) 0 6 (J v)) 0 4 = J q ∧ gI (pI (pI M 0 5 (J i)) 0 6 (J v)) 0 5 = J i ∧ gI (pI (pI M 0 5 (J i)) 0 6 (J v)) 0 6 = J v ∧ gI (pI (pI M 0 5 (J i)) 0 6 (J v)) 0 8 = J ((i - q : Nat) : Int) ∧ ∀ j : Nat, j < i - q → j < 8 → gI (pI (pI M 0 5 (J i)) 0 6 (J v)) 2 j = J (b (q + j)) := fun v =>
        ⟨fr_t fM (fr_t (fr_pI (by unfold fNx; omega)) (fr_pI (by unfold fNx; omega))), by rw [rII, if_neg (by omega), rII, if_neg (by omega), h4], by rw [rII, if_neg (by omega), rII, if_pos ⟨rfl, rfl⟩], by rw [rII, if_pos ⟨rfl, rfl⟩], by rw [rII, if_neg (by omega), rII, if_neg (by omega), h8], fun j g1 g2 => by rw [rII, if_neg (by omega), rII, if_neg (by omega)]; exact hj j g1 g2⟩
      by_cases z : i ≤ q + 8
      · rw [if_pos (by omega), if_pos z]
        exact ⟨_, rfl, fin 2⟩
      · rw [if_neg (by omega), if_neg z]
        exact ⟨_, rfl, fin 1⟩
    by_cases e : i < n
    · have hi := hb.2 i e
      rw [if_pos e, m_small (by omega), b1s, iB0]
      by_cases y : lB (b i) = true
      · rw [if_pos y, h8, iLE (by decide) (by decide) (by omega) (by omega), J_add, J_add, show (i : Int) + 1 = ((i + 1 : Nat) : Int) by omega, show ((i - q : Nat) : Int) + 1 = ((i + 1 - q : Nat) : Int) by omega]
        by_cases z : 8 ≤ i - q
        · rw [if_pos (by omega)]
          have f1 : fr fNx M (pI M 0 8 (J ((i + 1 - q : Nat) : Int))) := fr_pI (by unfold fNx; omega)
          refine ih (i + 1) M0 _ (by omega) (by omega) (by omega) (by rw [← he, run_y e y]) (mTp_c ht (f1.1 0 3 (by unfold fNx; omega)) (fun k => f1.1 1 k (by unfold fNx; omega))) (fr_t fM f1) (by rw [rII, if_pos ⟨rfl, rfl⟩]) (by rw [rII, if_neg (by omega), h4]) (fun j g1 g2 => ?_)
          rw [rII, if_neg (by omega)]
          exact hj j (by omega) g2
        · have x1 : ixb (J ((i - q : Nat) : Int)) 8 = true := ixb_J (by omega) (by omega) (by decide)
          have y1 : ix (J ((i - q : Nat) : Int)) = i - q := by rw [ix_J (by omega) (by omega)]; omega
          rw [if_neg (by omega), b1s, x1, ckt, y1, lts, rII, if_neg (by omega), h8, J_add, show ((i - q : Nat) : Int) + 1 = ((i + 1 - q : Nat) : Int) by omega]
          have f1 : fr fNx M (pI (pI M 2 (i - q) (J (b i))) 0 8 (J ((i + 1 - q : Nat) : Int))) := fr_t (fr_pI (by unfold fNx; omega)) (fr_pI (by unfold fNx; omega))
          refine ih (i + 1) M0 _ (by omega) (by omega) (by omega) (by rw [← he, run_y e y]) (mTp_c ht (f1.1 0 3 (by unfold fNx; omega)) (fun k => f1.1 1 k (by unfold fNx; omega))) (fr_t fM f1) (by rw [rII, if_pos ⟨rfl, rfl⟩]) (by rw [rII, if_neg (by omega), rII, if_neg (by omega), h4]) (fun j g1 g2 => ?_)
          rw [rII, if_neg (by omega), rII]
          by_cases w : j = i - q
          · rw [if_pos ⟨rfl, w⟩, w, show q + (i - q) = i by omega]
          · rw [if_neg (fun v => w v.2)]
            exact hj j (by omega) g2
      · rw [if_neg y]
        exact ex (by rw [← he]; exact run_n e y)
    · rw [if_neg e, m_small (by decide), b1s, iB0, if_neg (by decide)]
      exact ex (by rw [← he]; exact run_e (by omega))
theorem m_digits_L (hb : bOK b n) {q : Nat} (hq : q < n) : ∀ (f i c : Nat) (M0 M : zM), q ≤ i → i ≤ n → n < f + i → run dB b n i = run dB b n q → (c = i - q) → mTp M b n → fr fNx M0 M → gI M 0 4 = J q → (i - q ≤ 3 → gI M 0 7 = J (dcW b q (i - q))) → ∃ M', gX12_next_L152 f M (J i) (J c) = some M' ∧ fr fNx M0 M' ∧ gI M' 0 4 = J q ∧ gI M' 0 5 = J (run dB b n q) ∧ gI M' 0 6 = J (if run dB b n q ≤ q + 3 then 3 else 1) ∧ (run dB b n q ≤ q + 3 → gI M' 0 7 = J (dcW b q (run dB b n q - q))) := by
  have hn := hb.1
  intro f
  induction f with
  | zero => intro i c M0 M h1 h2 h3; omega
  | succ f ih =>
    intro i c M0 M h1 h2 h3 he hc ht fM h4 h7
    unfold gX12_next_L152
    simp only [J_0, J_1, J_2, J_3, J_4, J_5, J_6, J_7, J_8, J_9, J_10, J_11, J_12, J_14, J_15, J_16, J_19, J_20, J_21, J_22, J_23, J_24, J_25, J_28, J_30, J_31, J_32, J_40, J_44, J_47, J_48, J_49, J_50, J_53, J_54, J_57, J_59, J_74, J_75, J_78, J_84, J_97, J_99, J_100, J_120, J_122, J_126, J_132, J_138, J_144, J_150, J_156, J_162, J_198, J_200, J_202, J_206, J_210, J_214, J_218, J_222, J_226, J_230, J_234, J_238, J_239, J_240, J_241, J_242, J_243, J_255, J_263, J_283, J_303, J_399, J_400, J_401, J_463, J_700, J_701, J_999, J_1000, J_2048, J_4095, J_4096, J_6000, J_9999, J_10000, J_65536, J_65537, J_2147483647, J_neg]
    rw [m_look hb ht h2, b1s]
    have ex : run dB b n q = i → ∃ M', (if J (c : Int) ≤ J 3 then some (pI (pI M 0 5 (J i)) 0 6 (J 3)) else some (pI (pI M 0 5 (J i)) 0 6 (J 1))) = some M' ∧ fr fNx M0 M' ∧ gI M' 0 4 = J q ∧ gI M' 0 5 = J (run dB b n q) ∧ gI M' 0 6 = J (if run dB b n q ≤ q + 3 then 3 else 1) ∧ (run dB b n q ≤ q + 3 → gI M' 0 7 = J (dcW b q (run dB b n q - q))) := by
      intro e
      rw [e, iLE (by omega) (by omega) (by decide) (by decide)]
      have fin : ∀ v : Int, fr fNx M0 (pI (pI M 0 5 (J i)) 0 6 (J v)) ∧ gI (pI (pI M 0 5 (J i)) 0 6 (J v)) 0 4 = J q ∧ gI (pI (pI M 0 5 (J i)) 0 6 (J v)) 0 5 = J i ∧ gI (pI (pI M 0 5 (J i)) 0 6 (J v)) 0 6 = J v ∧ (i ≤ q + 3 → gI (pI (pI M 0 5 (J i)) 0 6 (J v)) 0 7 = J (dcW b q (i - q))) := fun v =>
        ⟨fr_t fM (fr_t (fr_pI (by unfold fNx; omega)) (fr_pI (by unfold fNx; omega))), by rw [rII, if_neg (by omega), rII, if_neg (by omega), h4], by rw [rII, if_neg (by omega), rII, if_pos ⟨rfl, rfl⟩], by rw [rII, if_pos ⟨rfl, rfl⟩], fun w => by rw [rII, if_neg (by omega), rII, if_neg (by omega)]; exact h7 (by omega)⟩
      by_cases z : i ≤ q + 3
      · rw [if_pos (by omega), if_pos z]
        exact ⟨_, rfl, fin 3⟩
      · rw [if_neg (by omega), if_neg z]
        exact ⟨_, rfl, fin 1⟩
    by_cases e : i < n
    · have hi := hb.2 i e
      rw [if_pos e, m_digit (by omega), b1s, iB0]
      by_cases y : dB (b i) = true
      · rw [if_pos y, iLE (by decide) (by decide) (by omega) (by omega), J_add, J_add, b1s, show (i : Int) + 1 = ((i + 1 : Nat) : Int) by omega, show (c : Int) + 1 = ((c + 1 : Nat) : Int) by omega]
        by_cases z : 3 ≤ c
        · rw [if_pos (by omega)]
          exact ih (i + 1) (c + 1) M0 M (by omega) (by omega) (by omega) (by rw [← he, run_y e y]) (by omega) ht fM h4 (fun w => by omega)
        · have cd : 10 * dcW b q (i - q) + b i - 48 = dcW b q (i + 1 - q) := by
            rw [show i + 1 - q = (i - q) + 1 by omega]
            show _ = dcW b q (i - q) * 10 + b (q + (i - q)) - 48
            rw [show q + (i - q) = i by omega]
            omega
          rw [if_neg (by omega), h7 (by omega), J_mul, J_add, J_sub, cd]
          have f1 : fr fNx M (pI M 0 7 (J (dcW b q (i + 1 - q)))) := fr_pI (by unfold fNx; omega)
          exact ih (i + 1) (c + 1) M0 _ (by omega) (by omega) (by omega) (by rw [← he, run_y e y]) (by omega) (mTp_c ht (f1.1 0 3 (by unfold fNx; omega)) (fun k => f1.1 1 k (by unfold fNx; omega))) (fr_t fM f1) (by rw [rII, if_neg (by omega), h4]) (fun w => by rw [rII, if_pos ⟨rfl, rfl⟩])
      · rw [if_neg y]
        exact ex (by rw [← he]; exact run_n e y)
    · rw [if_neg e, m_digit (by decide), b1s, iB0, if_neg (by decide)]
      exact ex (by rw [← he]; exact run_e (by omega))
theorem m_next {M : zM} (hb : bOK b n) (ht : mTp M b n) {i : Nat} (hi : i ≤ n) (h5 : gI M 0 5 = J i) : ∃ M', gX12_next M = some M' ∧ fr fNx M M' ∧ rdM M' b n (run sB b n i) := by
  have hn := hb.1
  have hf := FUs (n := 800) (by omega)
  have hq := run_le (P := sB) (b := b) hi
  unfold gX12_next
  rw [h5, m_blank_L hb ht FU i hi (by omega), b1s]
  generalize run sB b n i = q at hq
  have f4 : fr fNx M (pI M 0 4 (J q)) := fr_pI (by unfold fNx; omega)
  have ht4 : mTp (pI M 0 4 (J q)) b n := mTp_c ht (f4.1 0 3 (by unfold fNx; omega)) (fun k => f4.1 1 k (by unfold fNx; omega))
  simp only [J_0, J_1, J_2, J_3, J_4, J_5, J_6, J_7, J_8, J_9, J_10, J_11, J_12, J_14, J_15, J_16, J_19, J_20, J_21, J_22, J_23, J_24, J_25, J_28, J_30, J_31, J_32, J_40, J_44, J_47, J_48, J_49, J_50, J_53, J_54, J_57, J_59, J_74, J_75, J_78, J_84, J_97, J_99, J_100, J_120, J_122, J_126, J_132, J_138, J_144, J_150, J_156, J_162, J_198, J_200, J_202, J_206, J_210, J_214, J_218, J_222, J_226, J_230, J_234, J_238, J_239, J_240, J_241, J_242, J_243, J_255, J_263, J_283, J_303, J_399, J_400, J_401, J_463, J_700, J_701, J_999, J_1000, J_2048, J_4095, J_4096, J_6000, J_9999, J_10000, J_65536, J_65537, J_2147483647, J_neg]
  rw [m_look hb ht4 hq, b1s]
  generalize hB : pI (pI (pI M 0 4 (J (q : Int))) 0 8 (J 0)) 0 7 (J 0) = B
  have fB : fr fNx M B := by
    rw [← hB]
    exact fr_t (fr_t f4 (fr_pI (by unfold fNx; omega))) (fr_pI (by unfold fNx; omega))
  have tB : mTp B b n := mTp_c ht (fB.1 0 3 (by unfold fNx; omega)) (fun k => fB.1 1 k (by unfold fNx; omega))
  have b4 : gI B 0 4 = J q := by rw [← hB, rII, if_neg (by omega), rII, if_neg (by omega), rII, if_pos ⟨rfl, rfl⟩]
  have b8 : gI B 0 8 = J 0 := by rw [← hB, rII, if_neg (by omega), rII, if_pos ⟨rfl, rfl⟩]
  have b7 : gI B 0 7 = J 0 := by rw [← hB, rII, if_pos ⟨rfl, rfl⟩]
  by_cases e : q < n
  · have hx := hb.2 q e
    rw [if_pos e, iEQ (by omega) (by omega) (by decide) (by decide), if_neg (by omega), m_small (by omega), b1s, iB0]
    by_cases y : lB (b q) = true
    · have et : te b n q = run lB b n q := by unfold te; rw [if_pos e, if_pos y]
      obtain ⟨M', r1, r2, r3, r4, r5, r6, r7⟩ := m_letters_L hb e FU q M B (Nat.le_refl q) hq (by omega) rfl tB fB (by rw [b8, Nat.sub_self]; rfl) b4 (fun j g => by omega)
      rw [if_pos y]
      refine ⟨M', r1, r2, r3, by rw [et]; exact r4, ?_, fun _ _ w => ?_, fun _ w => absurd y w⟩
      · unfold mKd
        rw [if_pos e, if_pos y, et]
        exact r5
      · rw [et] at w ⊢
        exact ⟨r6, fun j hj => r7 j hj (by omega)⟩
    · rw [if_neg y, m_digit (by omega), b1s, iB0]
      by_cases z : dB (b q) = true
      · have et : te b n q = run dB b n q := by unfold te; rw [if_pos e, if_neg y, if_pos z]
        obtain ⟨M', r1, r2, r3, r4, r5, r6⟩ := m_digits_L hb e FU q 0 M B (Nat.le_refl q) hq (by omega) rfl (by omega) tB fB b4 (fun _ => by rw [b7, Nat.sub_self]; rfl)
        rw [if_pos z]
        refine ⟨M', r1, r2, r3, by rw [et]; exact r4, ?_, fun _ w => absurd w y, fun _ _ _ w => ?_⟩
        · unfold mKd
          rw [if_pos e, if_neg y, if_pos z, et]
          exact r5
        · rw [et] at w ⊢
          exact r6 w
      · have et : te b n q = q + 1 := by unfold te; rw [if_pos e, if_neg y, if_neg z]
        have fin : ∀ v : Int, v = mKd b n q → ∃ M', some (pI (pI B 0 5 (J ((q + 1 : Nat) : Int))) 0 6 (J v)) = some M' ∧ fr fNx M M' ∧ rdM M' b n q := fun v hv => by
          refine ⟨_, rfl, fr_t fB (fr_t (fr_pI (by unfold fNx; omega)) (fr_pI (by unfold fNx; omega))), ?_, ?_, ?_, fun _ w => absurd w y, fun _ _ w => absurd w z⟩
          · rw [rII, if_neg (by omega), rII, if_neg (by omega), b4]
          · rw [rII, if_neg (by omega), rII, if_pos ⟨rfl, rfl⟩, et]
          · rw [rII, if_pos ⟨rfl, rfl⟩, hv]
        have mk : mKd b n q = if b q = 59 ∨ b q = 44 ∨ b q = 47 then b q else 1 := by unfold mKd; rw [if_pos e, if_neg y, if_neg z]
        rw [if_neg z, iEQ (by omega) (by omega) (by decide) (by decide), iEQ (by omega) (by omega) (by decide) (by decide), iEQ (by omega) (by omega) (by decide) (by decide), J_add, show (q : Int) + 1 = ((q + 1 : Nat) : Int) by omega, lts, lts]
        by_cases m1 : b q = 59
        · rw [if_pos m1]
          exact fin _ (by rw [mk, if_pos (Or.inl m1)])
        · rw [if_neg m1]
          by_cases m2 : b q = 44
          · rw [if_pos m2]
            exact fin _ (by rw [mk, if_pos (Or.inr (Or.inl m2))])
          · rw [if_neg m2]
            by_cases m3 : b q = 47
            · rw [if_pos m3]
              exact fin _ (by rw [mk, if_pos (Or.inr (Or.inr m3))])
            · rw [if_neg m3]
              exact fin 1 (by rw [mk, if_neg (by omega)])
  · have eq : q = n := by omega
    rw [if_neg e, if_pos rfl]
    refine ⟨_, rfl, fr_t fB (fr_t (fr_pI (by unfold fNx; omega)) (fr_pI (by unfold fNx; omega))), ?_, ?_, ?_, fun w => absurd w e, fun w => absurd w e⟩
    · rw [rII, if_neg (by omega), rII, if_neg (by omega), b4]
    · unfold te
      rw [if_neg e, rII, if_pos ⟨rfl, rfl⟩]
    · unfold mKd
      rw [if_neg e, rII, if_neg (by omega), rII, if_pos ⟨rfl, rfl⟩]
end
