/-! Which lines the book lets, by the model. -/
section
variable {B S0 S : zM} {s m : Nat} {p l : Int}
theorem m_letsLine (hse : mSense S0 s) (hs6 : s < 6) (hl : -1000 ≤ l ∧ l ≤ 1000) (hm : mlP S0 B p m) (hns : nS S0 s = nS B s) (hlv : ∀ x, lvS S0 s x = lvS B s x) (hnf : notFull B p) (f : fr fM S0 S) : ∃ (r : Int) (S' : zM), (r = 0 ∨ r = 1) ∧ gX12_letsLine S (J s) (J l) = some (J r, S') ∧ fr fM S0 S' ∧ (r = 1 ↔ lineOK B p s l) := by
  have c : ∀ q k, ¬ (15 ≤ q ∧ q ≤ 19) → gI S q k = gI S0 q k := f.1
  have hS : mSense S s := mSense_c hse (fun k => c 3 k (by omega)) (fun k => c 5 k (by omega))
  have hk := fK_b hS
  have en : nS S s = nS B s := by
    rw [← hns]
    unfold nS
    rw [show fK S s = fK S0 s by unfold fK iI; rw [c 3 _ (by omega)], mN_c (fun k => c 3 k (by omega))]
  have ea := m_all (S := S) (s := s) hs6 hk.2.1
  rw [show mN S s (fK S s) = nS S s from rfl, en] at ea
  obtain ⟨r, S', r1, r2, r3, r4⟩ := m_ln_L hse hs6 hl hm hns hlv hnf FU 0 S (Nat.zero_le m) (by have := hm.2.1; have := FUs (n := 1002) (by omega); omega) f
  rw [show J ((0 : Nat) : Int) = J 0 from rfl] at r2
  refine ⟨r, S', r1, ?_, r3, r4.trans ⟨fun v i i1 i2 i3 => ?_, fun v e _ _ i i1 _ i3 i4 => v i i1 i3 i4⟩⟩
  · unfold gX12_letsLine
    simp only [J_0, J_1, J_2, J_3, J_4, J_5, J_6, J_7, J_8, J_9, J_10, J_11, J_12, J_14, J_15, J_16, J_19, J_20, J_21, J_22, J_23, J_24, J_25, J_28, J_30, J_31, J_32, J_40, J_44, J_47, J_48, J_49, J_50, J_53, J_54, J_57, J_59, J_74, J_75, J_78, J_84, J_97, J_99, J_100, J_120, J_122, J_126, J_132, J_138, J_144, J_150, J_156, J_162, J_198, J_200, J_202, J_206, J_210, J_214, J_218, J_222, J_226, J_230, J_234, J_238, J_239, J_240, J_241, J_242, J_243, J_255, J_263, J_283, J_303, J_399, J_400, J_401, J_463, J_700, J_701, J_999, J_1000, J_2048, J_4095, J_4096, J_6000, J_9999, J_10000, J_65536, J_65537, J_2147483647, J_neg]
    rw [m_fullOf hS hs6, b1s, ea, b1s]
    exact r2
  · obtain ⟨d, d1, d2⟩ := hm.2.2.2 i i1 i2 (by omega)
    exact v d (Nat.zero_le d) d1 i i1 d2 i2 i3
end
