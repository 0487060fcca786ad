/-! What the book lets. -/
/-- within its span -/
def spI (N : Nat) (x W : Int) (k : Nat) : Prop := N - spH N (W - x) x ≤ k ∧ k ≤ spH N x (W - x)
theorem nK_bd {S : zM} {n : Nat} {p k a b : Int} : 0 ≤ nK S n p k a b ∧ nK S n p k a b ≤ n := by
  unfold nK
  refine ⟨sm_nn (fun i hi => by split <;> omega), ?_⟩
  have := sm_bd (n := n) (c := 1) (f := fun i => @ite Int (isK S i p k a b) (Classical.propDecidable _) 1 0) (fun i hi => by
    show @ite Int (isK S i p k a b) (Classical.propDecidable _) 1 0 ≤ 1
    split <;> omega)
  omega
theorem nKA_bd {S : zM} {n : Nat} {p k a b an : Int} : 0 ≤ nKA S n p k a b an ∧ nKA S n p k a b an ≤ nK S n p k a b := by
  unfold nKA nK
  refine ⟨sm_nn (fun i hi => by split <;> omega), sm_le (fun i hi => ?_)⟩
  by_cases e : isK S i p k a b
  · rw [if_pos e]
    split <;> omega
  · rw [if_neg e, if_neg (fun w => e w.1)]
    exact Int.le_refl 0
/-- none of a sayer's keys has more than 40 trials -/
def notFull (S : zM) (p : Int) : Prop := ∀ i : Nat, i < bkn S → iI S 8 i = p → iI S 9 i ≤ 1 → nK S (bkn S) p (iI S 9 i) (iI S 10 i) (iI S 11 i) ≤ 40
section
variable {SC SM : zM}
theorem c_full_L {p : Int} {u : Nat} (h7 : gI SC 221 7 = J u) (hu : u ≤ 1000) (hn : ∀ c : Nat, c < u → 0 ≤ iI SC 227 c ∧ iI SC 227 c ≤ 1000) : ∀ (n i : Nat), i ≤ u → u < n + i → ∃ r : Int, (r = 0 ∨ r = 1) ∧ gX2_isOverfull_L2 SC (J p) n (J i) = some (J r) ∧ (r = 0 ↔ ∀ c, i ≤ c → c < u → gI SC 223 c = J p → iI SC 227 c ≤ 40) := by
  intro n
  induction n with
  | zero => intro i g1 g2; omega
  | succ n ih =>
    intro i g1 g2
    unfold gX2_isOverfull_L2
    simp only [J_0, J_1, J_2, J_3, J_4, J_5, J_6, J_7, J_8, J_9, J_10, J_11, J_12, J_14, J_15, J_16, J_19, J_20, J_21, J_22, J_23, J_24, J_25, J_28, J_30, J_31, J_32, J_40, J_44, J_47, J_48, J_49, J_50, J_53, J_54, J_57, J_59, J_74, J_75, J_78, J_84, J_97, J_99, J_100, J_120, J_122, J_126, J_132, J_138, J_144, J_150, J_156, J_162, J_198, J_200, J_202, J_206, J_210, J_214, J_218, J_222, J_226, J_230, J_234, J_238, J_239, J_240, J_241, J_242, J_243, J_255, J_263, J_283, J_303, J_399, J_400, J_401, J_463, J_700, J_701, J_999, J_1000, J_2048, J_4095, J_4096, J_6000, J_9999, J_10000, J_65536, J_65537, J_2147483647, J_neg]
    rw [h7, iLE (by omega) (by omega) (by omega) (by omega)]
    by_cases e : i = u
    · subst e
      rw [if_pos (by omega)]
      exact ⟨0, Or.inl rfl, rfl, fun _ c c1 c2 => by omega, fun _ => rfl⟩
    · have x1 : ixb (J (i : Int)) 1000 = true := ixb_J (by omega) (by omega) (by decide)
      have y1 : ix (J (i : Int)) = i := by rw [ix_J (by omega) (by omega)]; omega
      have hi := hn i (by omega)
      obtain ⟨r, a1, a2, a3⟩ := ih (i + 1) (by omega) (by omega)
      rw [if_neg (by omega), x1, ckt, ckt, y1, gI_J SC 227, iLE (by omega) (by omega) (by decide) (by decide), J_add, show (i : Int) + 1 = ((i + 1 : Nat) : Int) by omega]
      by_cases z : gI SC 223 i = J p
      · rw [if_pos z]
        by_cases w : iI SC 227 i ≤ 40
        · rw [if_pos w]
          refine ⟨r, a1, a2, a3.trans ⟨fun v c c1 c2 c3 => ?_, fun v c c1 c2 c3 => v c (by omega) c2 c3⟩⟩
          by_cases y : c = i
          · rw [y]; exact w
          · exact v c (by omega) c2 c3
        · rw [if_neg w]
          exact ⟨1, Or.inr rfl, rfl, fun v => absurd v (by decide), fun v => absurd (v i (Nat.le_refl i) (by omega) z) w⟩
      · rw [if_neg z]
        refine ⟨r, a1, a2, a3.trans ⟨fun v c c1 c2 c3 => ?_, fun v c c1 c2 c3 => v c (by omega) c2 c3⟩⟩
        by_cases y : c = i
        · rw [y] at c3; exact absurd c3 z
        · exact v c (by omega) c2 c3
theorem c_overfull (h : rCells SC SM) (hB : rBook SC SM) {p : Int} (hp : 0 ≤ p ∧ p < 6) : ∃ r : Int, (r = 0 ∨ r = 1) ∧ gX2_isOverfull SC (J p) = some (J r) ∧ (r = 0 ↔ notFull SM p) := by
  obtain ⟨u, h1, h2, h3, h4, h5, h6, -⟩ := h
  have hb : bkn SM ≤ 1000 := by have := hB.2.1; unfold bkn; omega
  have hv : ∀ c : Nat, c < u → iI SC 227 c = nK SM (bkn SM) (iI SC 223 c) (iI SC 224 c) (iI SC 225 c) (iI SC 226 c) := fun c hc => by
    have := nK_bd (S := SM) (n := bkn SM) (p := iI SC 223 c) (k := iI SC 224 c) (a := iI SC 225 c) (b := iI SC 226 c)
    exact iI_of (h6 c hc).1 (by omega) (by omega)
  obtain ⟨r, r1, r2, r3⟩ := c_full_L (p := p) h1 (by omega) (fun c hc => by
    have := nK_bd (S := SM) (n := bkn SM) (p := iI SC 223 c) (k := iI SC 224 c) (a := iI SC 225 c) (b := iI SC 226 c)
    rw [hv c hc]; omega) FU 0 (Nat.zero_le u) (by have := FUs (n := 1002) (by omega); omega)
  refine ⟨r, r1, ?_, r3.trans ⟨fun w i hi e8 e9 => ?_, fun w c _ hc e => ?_⟩⟩
  · unfold gX2_isOverfull
    simp only [J_0, J_1, J_2, J_3, J_4, J_5, J_6, J_7, J_8, J_9, J_10, J_11, J_12, J_14, J_15, J_16, J_19, J_20, J_21, J_22, J_23, J_24, J_25, J_28, J_30, J_31, J_32, J_40, J_44, J_47, J_48, J_49, J_50, J_53, J_54, J_57, J_59, J_74, J_75, J_78, J_84, J_97, J_99, J_100, J_120, J_122, J_126, J_132, J_138, J_144, J_150, J_156, J_162, J_198, J_200, J_202, J_206, J_210, J_214, J_218, J_222, J_226, J_230, J_234, J_238, J_239, J_240, J_241, J_242, J_243, J_255, J_263, J_283, J_303, J_399, J_400, J_401, J_463, J_700, J_701, J_999, J_1000, J_2048, J_4095, J_4096, J_6000, J_9999, J_10000, J_65536, J_65537, J_2147483647, J_neg]
    exact r2
  · obtain ⟨c, c1, c2⟩ := h4 i hi e9
    have k1 : iI SC 223 c = iI SM 8 i := iI_c c2.1
    have k2 : iI SC 224 c = iI SM 9 i := iI_c c2.2.1
    have k3 : iI SC 225 c = iI SM 10 i := iI_c c2.2.2.1
    have k4 : iI SC 226 c = iI SM 11 i := iI_c c2.2.2.2
    have := w c (Nat.zero_le c) c1 (by rw [gI_J, k1, e8])
    rw [hv c c1, k1, k2, k3, k4, e8] at this
    exact this
  · obtain ⟨i, i1, i2, i3⟩ := h3 c hc
    have k1 : iI SC 223 c = iI SM 8 i := iI_c i3.1
    have k2 : iI SC 224 c = iI SM 9 i := iI_c i3.2.1
    have k3 : iI SC 225 c = iI SM 10 i := iI_c i3.2.2.1
    have k4 : iI SC 226 c = iI SM 11 i := iI_c i3.2.2.2
    have e8 : iI SM 8 i = p := by
      rw [← k1]
      exact iI_of e (by omega) (by omega)
    rw [hv c hc, k1, k2, k3, k4, e8]
    exact w i i1 e8 i2
end
