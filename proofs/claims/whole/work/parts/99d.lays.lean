/-! The model lays its cells. -/
/-- a laid cell has a row's key -/
def lkey (S : zM) (d : Nat) (SM : zM) (j : Nat) : Prop := gI S 20 d = gI SM 9 j ∧ gI S 21 d = gI SM 10 j ∧ gI S 22 d = gI SM 11 j
section
variable {S : zM}
theorem m_find_L {v1 v2 : Int32} {m i : Nat} (hm : gI S 0 34 = J m) (hm2 : m ≤ 1000) (hi : i < 1000) : ∀ (n e : Nat), e ≤ m → m < n + e → ∃ d : Nat, e ≤ d ∧ d ≤ m ∧ gX12_lays_L43 S v1 v2 (J i) n (J e) = some (J d) ∧ (d < m → lkey S d S i) ∧ ∀ k, e ≤ k → k < d → ¬ lkey S k S i := by
  have x1 : ixb (J (i : Int)) 1000 = true := ixb_J (by omega) (by omega) (by decide)
  have y1 : ix (J (i : Int)) = i := by rw [ix_J (by omega) (by omega)]; omega
  intro n
  induction n with
  | zero => intro e g1 g2; omega
  | succ n ih =>
    intro e g1 g2
    unfold gX12_lays_L43
    simp only [J_0, J_1, J_2, J_3, J_4, J_5, J_6, J_7, J_8, J_9, J_10, J_11, J_12, J_14, J_15, J_16, J_19, J_20, J_21, J_22, J_23, J_24, J_25, J_28, J_30, J_31, J_32, J_40, J_44, J_47, J_48, J_49, J_50, J_53, J_54, J_57, J_59, J_74, J_75, J_78, J_84, J_97, J_99, J_100, J_120, J_122, J_126, J_132, J_138, J_144, J_150, J_156, J_162, J_198, J_200, J_202, J_206, J_210, J_214, J_218, J_222, J_226, J_230, J_234, J_238, J_239, J_240, J_241, J_242, J_243, J_255, J_263, J_283, J_303, J_399, J_400, J_401, J_463, J_700, J_701, J_999, J_1000, J_2048, J_4095, J_4096, J_6000, J_9999, J_10000, J_65536, J_65537, J_2147483647, J_neg]
    rw [hm, iLE (by omega) (by omega) (by omega) (by omega)]
    by_cases z : e = m
    · rw [if_pos (by omega)]
      exact ⟨e, Nat.le_refl e, g1, rfl, fun w => by omega, fun k k1 k2 => by omega⟩
    · have x2 : ixb (J (e : Int)) 1000 = true := ixb_J (by omega) (by omega) (by decide)
      have y2 : ix (J (e : Int)) = e := by rw [ix_J (by omega) (by omega)]; omega
      rw [if_neg (by omega), x2]
      simp only [x1, y1, y2, ckt, b1s, b2s, lts, un2s, un3s, un4s, un5s, lmr, lml, lgr, lgl]
      rw [J_add, show (e : Int) + 1 = ((e + 1 : Nat) : Int) by omega]
      obtain ⟨d, d1, d2, d3, d4, d5⟩ := ih (e + 1) (by omega) (by omega)
      have next : ¬ lkey S e S i → ∃ d : Nat, e ≤ d ∧ d ≤ m ∧ gX12_lays_L43 S v1 v2 (J i) n (J ((e + 1 : Nat) : Int)) = some (J d) ∧ (d < m → lkey S d S i) ∧ ∀ k, e ≤ k → k < d → ¬ lkey S k S i := by
        intro no
        refine ⟨d, by omega, d2, d3, d4, fun k k1 k2 => ?_⟩
        by_cases y : k = e
        · rw [y]; exact no
        · exact d5 k (by omega) k2
      by_cases a1 : gI S 20 e = gI S 9 i
      · rw [if_pos a1]
        by_cases a2 : gI S 21 e = gI S 10 i
        · rw [if_pos a2]
          by_cases a3 : gI S 22 e = gI S 11 i
          · rw [if_pos a3]
            exact ⟨e, Nat.le_refl e, g1, rfl, fun _ => ⟨a1, a2, a3⟩, fun k k1 k2 => by omega⟩
          · rw [if_neg a3]
            exact next (fun w => a3 w.2.2)
        · rw [if_neg a2]
          exact next (fun w => a2 w.2.1)
      · rw [if_neg a1]
        exact next (fun w => a1 w.1)
theorem m_lay0_L {v1 v2 v3 : Int32} {d : Nat} (hd : d < 1000) : ∀ (n k : Nat) (S T : zM), k ≤ 3 → 4 ≤ n + k → fr (fun q j => q = 24 ∧ 3 * d ≤ j ∧ j < 3 * d + 3) T S → (∀ j, j < k → gI S 24 (3 * d + j) = J 0) → ∃ S', gX12_lays_L165 v1 v2 v3 (J d) n S (J k) = some S' ∧ fr (fun q j => q = 24 ∧ 3 * d ≤ j ∧ j < 3 * d + 3) T S' ∧ ∀ j, j < 3 → gI S' 24 (3 * d + j) = J 0 := by
  intro n
  induction n with
  | zero => intro k S T g1 g2; omega
  | succ n ih =>
    intro k S T g1 g2 f hj
    unfold gX12_lays_L165
    simp only [J_0, J_1, J_2, J_3, J_4, J_5, J_6, J_7, J_8, J_9, J_10, J_11, J_12, J_14, J_15, J_16, J_19, J_20, J_21, J_22, J_23, J_24, J_25, J_28, J_30, J_31, J_32, J_40, J_44, J_47, J_48, J_49, J_50, J_53, J_54, J_57, J_59, J_74, J_75, J_78, J_84, J_97, J_99, J_100, J_120, J_122, J_126, J_132, J_138, J_144, J_150, J_156, J_162, J_198, J_200, J_202, J_206, J_210, J_214, J_218, J_222, J_226, J_230, J_234, J_238, J_239, J_240, J_241, J_242, J_243, J_255, J_263, J_283, J_303, J_399, J_400, J_401, J_463, J_700, J_701, J_999, J_1000, J_2048, J_4095, J_4096, J_6000, J_9999, J_10000, J_65536, J_65537, J_2147483647, J_neg, J_neg, J_add, J_sub, J_mul]
    rw [iLE (by decide) (by decide) (by omega) (by omega)]
    by_cases e : (3 : Int) ≤ k
    · rw [if_pos e]
      exact ⟨S, rfl, f, fun j h => hj j (by omega)⟩
    · rw [if_neg e, ixb_J (by omega) (by omega) (by decide), ckt, ix_J (by omega) (by omega), show (3 * (d : Int) + k).toNat = 3 * d + k by omega, show (k : Int) + 1 = ((k + 1 : Nat) : Int) by omega]
      refine ih (k + 1) _ T (by omega) (by omega) (fr_t f (fr_pI ⟨rfl, by omega, by omega⟩)) (fun j h => ?_)
      rw [rII]
      by_cases z : j = k
      · rw [if_pos ⟨rfl, by omega⟩]
      · rw [if_neg (fun w => z (by omega))]
        exact hj j (by omega)
end
/-- what is laid after i rows -/
def rLay (S : zM) (p : Int) (i m : Nat) : Prop := gI S 0 34 = J m ∧ m ≤ i ∧ (∀ d, d < m → ∃ j, j < i ∧ iI S 8 j = p ∧ iI S 9 j ≤ 1 ∧ lkey S d S j) ∧ (∀ j, j < i → iI S 8 j = p → iI S 9 j ≤ 1 → ∃ d, d < m ∧ lkey S d S j) ∧ (∀ d e, d < m → e < m → gI S 20 d = gI S 20 e → gI S 21 d = gI S 21 e → gI S 22 d = gI S 22 e → d = e) ∧ ∀ d, d < m → gI S 23 d = J (nK S i p (iI S 20 d) (iI S 21 d) (iI S 22 d)) ∧ ∀ a : Nat, a < 3 → gI S 24 (3 * d + a) = J (nKA S i p (iI S 20 d) (iI S 21 d) (iI S 22 d) a)
theorem nK_s {S : zM} {n : Nat} {p k a b : Int} : nK S (n + 1) p k a b = nK S n p k a b + @ite Int (isK S n p k a b) (Classical.propDecidable _) 1 0 := rfl
theorem nKA_s {S : zM} {n : Nat} {p k a b an : Int} : nKA S (n + 1) p k a b an = nKA S n p k a b an + @ite Int (isK S n p k a b ∧ iI S 13 n = an) (Classical.propDecidable _) 1 0 := rfl
