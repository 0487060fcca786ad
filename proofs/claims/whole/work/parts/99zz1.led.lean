/-! What was led: a row of a sayer, by both. -/
def lRow (S : zM) (p i : Int32) : Option Int32 := b1 (gX11_isSayer S p) fun r => if r = J 0 then some (J (-1)) else gX1_rowOf S p i
section
variable {SC SM : zM} {t : Nat}
theorem c_rowAt {u k j : Nat} {x : Int32} (h2 : gI SC 219 2 = J u) (hu : u ≤ 1000) (hk : k < u) (hj : j < 6) (hx : x = J j) : gX1_rowAt SC (J k) x = some (gI SC 220 (6 * k + j)) := by
  subst hx
  have a1 : J (k : Int) * J 6 + J (j : Int) = J ((6 * k + j : Nat) : Int) := by rw [J_mul, J_add]; congr 1; omega
  unfold gX1_rowAt
  simp only [J_0, J_1, J_2, J_3, J_4, J_5, J_6, J_7, J_8, J_9, J_10, J_11, J_12, J_14, J_15, J_16, J_19, J_20, J_21, J_22, J_23, J_24, J_25, J_28, J_30, J_31, J_32, J_40, J_44, J_47, J_48, J_49, J_50, J_53, J_54, J_57, J_59, J_74, J_75, J_78, J_84, J_97, J_99, J_100, J_120, J_122, J_126, J_132, J_138, J_144, J_150, J_156, J_162, J_198, J_200, J_202, J_206, J_210, J_214, J_218, J_222, J_226, J_230, J_234, J_238, J_239, J_240, J_241, J_242, J_243, J_255, J_263, J_283, J_303, J_399, J_400, J_401, J_463, J_700, J_701, J_999, J_1000, J_2048, J_4095, J_4096, J_6000, J_9999, J_10000, J_65536, J_65537, J_2147483647, J_neg]
  rw [h2, iLT (by omega) (by omega) (by decide) (by decide), if_neg (by omega), iLE (by omega) (by omega) (by omega) (by omega), if_neg (by omega), iLT (by omega) (by omega) (by decide) (by decide), if_neg (by omega), iLT (by omega) (by omega) (by decide) (by decide), if_pos (by omega), a1, ixb_J (by omega) (by omega) (by omega), ckt, ix_J (by omega) (by omega), Int.toNat_natCast]
theorem led_L {u : Nat} {p i : Int32} (h2 : gI SC 219 2 = J u) (h21 : gI SM 0 21 = J u) (hu : u ≤ 1000) (hr : ∀ k, k < u → gI SC 220 (6 * k + 0) = gI SM 8 k) (hs : gX12_isSayer SM p = some (J 1)) : ∀ (f k : Nat) (n : Int32), k ≤ u → u < f + k → (∃ v : Nat, v < u ∧ gX1_rowOf_L5 SC p i f n (J k) = some (J v) ∧ gX12_led_L5 SM p i f n (J k) = some (gI SM 13 v, pI SM 0 0 (J 0))) ∨ (gX1_rowOf_L5 SC p i f n (J k) = some (J (-1)) ∧ gX12_led_L5 SM p i f n (J k) = some (J 0, pI SM 0 0 (J 1))) := by
  intro f
  induction f with
  | zero => intro k n g1 g2; omega
  | succ f ih =>
    intro k n g1 g2
    unfold gX1_rowOf_L5 gX12_led_L5
    simp only [J_0, J_1, J_2, J_3, J_4, J_5, J_6, J_7, J_8, J_9, J_10, J_11, J_12, J_14, J_15, J_16, J_19, J_20, J_21, J_22, J_23, J_24, J_25, J_28, J_30, J_31, J_32, J_40, J_44, J_47, J_48, J_49, J_50, J_53, J_54, J_57, J_59, J_74, J_75, J_78, J_84, J_97, J_99, J_100, J_120, J_122, J_126, J_132, J_138, J_144, J_150, J_156, J_162, J_198, J_200, J_202, J_206, J_210, J_214, J_218, J_222, J_226, J_230, J_234, J_238, J_239, J_240, J_241, J_242, J_243, J_255, J_263, J_283, J_303, J_399, J_400, J_401, J_463, J_700, J_701, J_999, J_1000, J_2048, J_4095, J_4096, J_6000, J_9999, J_10000, J_65536, J_65537, J_2147483647, J_neg]
    rw [h2, h21, iLE (by omega) (by omega) (by omega) (by omega), iLE (by omega) (by omega) (by omega) (by omega)]
    by_cases e : k = u
    · rw [if_pos (show (u : Int) ≤ (k : Int) by omega), if_pos (show (u : Int) ≤ (k : Int) by omega)]
      exact Or.inr ⟨rfl, rfl⟩
    · have a1 : J (k : Int) + J 1 = J ((k + 1 : Nat) : Int) := by rw [J_add]; rfl
      have x1 : ixb (J (k : Int)) 1000 = true := ixb_J (by omega) (by omega) (by omega)
      have y1 : ix (J (k : Int)) = k := by rw [ix_J (by omega) (by omega)]; omega
      have e1 : gX1_rowAt SC (J k) (J 0) = some (gI SC 220 (6 * k + 0)) := c_rowAt h2 hu (by omega) (by omega) rfl
      rw [if_neg (show ¬ (u : Int) ≤ (k : Int) by omega), if_neg (show ¬ (u : Int) ≤ (k : Int) by omega), e1, b1s, hs, b1s, if_neg (show ¬ J 1 = J 0 by decide), x1, ckt, y1, hr k (by omega), a1]
      by_cases y : gI SM 8 k = p
      · rw [if_pos y, if_pos y]
        by_cases z : n = i
        · rw [if_pos z, if_pos z, ckt]
          refine Or.inl ⟨k, by omega, rfl, ?_⟩
          rw [rII, if_neg (by omega)]
        · rw [if_neg z, if_neg z]
          exact ih (k + 1) _ (by omega) (by omega)
      · rw [if_neg y, if_neg y]
        exact ih (k + 1) _ (by omega) (by omega)
theorem st_led (h : Inv SC SM t) (p i : Int32) : ∃ (v : Int32) (SM' : zM), lRow SC p i = some v ∧ ((v < 0 ∧ gX12_led SM p i = some (0, SM') ∧ gI SM' 0 0 = 1) ∨ (¬ v < 0 ∧ ∃ a, gX1_rowAt SC v 5 = some a ∧ gX12_led SM p i = some (a, SM') ∧ gI SM' 0 0 = 0)) ∧ Inv SC SM' (t + 1) := by
  have hInv := h
  obtain ⟨⟨H, hh⟩, hT, hB, hC, hS, hTp, hM⟩ := h
  obtain ⟨b1', b2', b3'⟩ := hB
  obtain ⟨u, hu⟩ : ∃ u : Nat, iI SM 0 21 = u := ⟨(iI SM 0 21).toNat, by omega⟩
  have h21 : gI SM 0 21 = J u := by rw [← hu]; exact gI_J _ _ _
  have h2 : gI SC 219 2 = J u := b1'.trans h21
  have hbk : bkn SM = u := by unfold bkn; omega
  have hr : ∀ k, k < u → gI SC 220 (6 * k + 0) = gI SM 8 k := fun k hk => (b3' k (by omega)).2 0 (by omega)
  have hr5 : ∀ k, k < u → gI SC 220 (6 * k + 5) = gI SM 13 k := fun k hk => (b3' k (by omega)).2 5 (by omega)
  have inv : ∀ x : Int32, Inv SC (pI SM 0 0 x) (t + 1) := fun x => Inv_q hInv fr_r (fr_pI (Or.inl ⟨rfl, Or.inl rfl⟩)) hS (by rw [rII, if_neg (by omega)]; exact hM.2.1) (fun z => by
    have : iI (pI SM 0 0 x) 0 11 = iI SM 0 11 := iI_c (by rw [rII, if_neg (by omega)])
    omega)
  obtain ⟨a, rfl, ha⟩ := J_of p
  obtain ⟨⟨hH, hR8, -⟩, ⟨-, hc1, -⟩, ⟨-, hc7, -⟩, -⟩ := id hh
  have cs := c_isSayer (S := SC) ha.1 ha.2 hH hR8 hc7 hc1
  have ms := m_isSayer (S := SM) ha.1 ha.2 hc1
  have hf := FUs (n := 2000) (by omega)
  obtain ⟨f', hf'⟩ : ∃ f', FU = f' + 1 := ⟨FU - 1, by omega⟩
  have z1 : (1 : Int32) = J 1 := by decide
  have z0 : (0 : Int32) = J 0 := by decide
  unfold lRow
  rw [cs, b1s, iB0]
  by_cases e : 0 ≤ a ∧ a < cnt SM 1
  · rw [if_pos e]
    have ms1 : gX12_isSayer SM (J a) = some (J 1) := by rw [ms]; unfold bI; rw [if_pos e]
    have hl := led_L (p := J a) (i := i) h2 h21 (by omega) hr ms1 FU 0 (J 0) (by omega) (by omega)
    rw [show J ((0 : Nat) : Int) = J 0 from rfl] at hl
    unfold gX1_rowOf gX12_led
    rw [z0]
    rcases hl with ⟨v, v1, v2, v3⟩ | ⟨v2, v3⟩
    · refine ⟨J v, _, v2, Or.inr ⟨?_, gI SM 13 v, ?_, v3, ?_⟩, inv _⟩
      · rw [J_lt (by omega) (by omega) (by decide) (by decide)]; omega
      · rw [c_rowAt h2 (by omega) v1 (show 5 < 6 by omega) (by decide), hr5 v v1]
      · rw [rII, if_pos ⟨rfl, rfl⟩]
    · refine ⟨J (-1), _, v2, Or.inl ⟨by decide, v3, ?_⟩, inv _⟩
      rw [rII, if_pos ⟨rfl, rfl⟩, z1]
  · have ms0 : gX12_isSayer SM (J a) = some (J 0) := by rw [ms]; unfold bI; rw [if_neg e]
    rw [if_neg e]
    refine ⟨J (-1), pI SM 0 0 (J 1), rfl, Or.inl ⟨by decide, ?_, ?_⟩, inv _⟩
    · unfold gX12_led
      rw [hf']
      unfold gX12_led_L5
      simp only [J_0, J_1, J_2, J_3, J_4, J_5, J_6, J_7, J_8, J_9, J_10, J_11, J_12, J_14, J_15, J_16, J_19, J_20, J_21, J_22, J_23, J_24, J_25, J_28, J_30, J_31, J_32, J_40, J_44, J_47, J_48, J_49, J_50, J_53, J_54, J_57, J_59, J_74, J_75, J_78, J_84, J_97, J_99, J_100, J_120, J_122, J_126, J_132, J_138, J_144, J_150, J_156, J_162, J_198, J_200, J_202, J_206, J_210, J_214, J_218, J_222, J_226, J_230, J_234, J_238, J_239, J_240, J_241, J_242, J_243, J_255, J_263, J_283, J_303, J_399, J_400, J_401, J_463, J_700, J_701, J_999, J_1000, J_2048, J_4095, J_4096, J_6000, J_9999, J_10000, J_65536, J_65537, J_2147483647, J_neg]
      rw [ms0, b1s, if_pos rfl]
      split <;> rfl
    · rw [rII, if_pos ⟨rfl, rfl⟩, z1]
end
