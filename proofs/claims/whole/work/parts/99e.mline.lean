/-! Which lines the book lets, by the model. -/
section
variable {S : zM} {s : Nat}
theorem m_lnodd_L (h : mSense S s) (hs : s < 6) {x l : Int} (h0 : 0 ≤ x) (h1 : x ≤ 400) (hl : -1000 ≤ l ∧ l ≤ 1000) {c : Nat} (hc : c < 1000) (hx : gI S 21 c = J x) {v3 : Int32} : ∀ (n i : Nat) (acc : Int), i ≤ 11 → 12 ≤ n + i → gX12_letsLine_L52 S (J s) (J l) v3 (J c) n (J acc) (J ((i : Int) - 5)) = some (J (acc + (nAb (nS S s) (l - lvS S s x) - sm i (fun i => if l - lvS S s x < (i : Int) - 5 then nS S s i else 0)))) := by
  have hk := fK_b h
  have hb := lvS_b h h0 h1
  have x1 : ixb (J (c : Int)) 1000 = true := ixb_J (by omega) (by omega) (by decide)
  have y1 : ix (J (c : Int)) = c := by rw [ix_J (by omega) (by omega)]; omega
  intro n
  induction n with
  | zero => intro i acc h1 h2; omega
  | succ n ih =>
    intro i acc h1' h2
    unfold gX12_letsLine_L52
    simp only [J_0, J_1, J_2, J_3, J_4, J_5, J_6, J_7, J_8, J_9, J_10, J_11, J_12, J_14, J_15, J_16, J_19, J_20, J_21, J_22, J_23, J_24, J_25, J_28, J_30, J_31, J_32, J_40, J_44, J_47, J_48, J_49, J_50, J_53, J_54, J_57, J_59, J_74, J_75, J_78, J_84, J_97, J_99, J_100, J_120, J_122, J_126, J_132, J_138, J_144, J_150, J_156, J_162, J_198, J_200, J_202, J_206, J_210, J_214, J_218, J_222, J_226, J_230, J_234, J_238, J_239, J_240, J_241, J_242, J_243, J_255, J_263, J_283, J_303, J_399, J_400, J_401, J_463, J_700, J_701, J_999, J_1000, J_2048, J_4095, J_4096, J_6000, J_9999, J_10000, J_65536, J_65537, J_2147483647, J_neg]
    rw [iLT (by decide) (by decide) (by omega) (by omega)]
    by_cases e : i = 11
    · subst e
      rw [if_pos (by omega)]
      congr 2
      unfold nAb
      omega
    · have q1 := m_levelOf (S := S) hs h0 h1
      rw [show iI S 5 (401 * s + x.toNat) = lvS S s x from rfl] at q1
      have q2 := m_oftenI (S := S) (i := i) hs hk.2.1 (by omega)
      rw [show mN S s (fK S s) i = nS S s i from rfl] at q2
      rw [if_neg (show ¬ 5 < (i : Int) - 5 by omega), x1, ckt, y1, hx, q1, b1s, J_add, iLE (by omega) (by omega) (by omega) (by omega), m_fullOf h hs, b1s, q2, b1s, J_add, J_add, J_add, show (i : Int) - 5 + 1 = ((i + 1 : Nat) : Int) - 5 by omega]
      have i1 := ih (i + 1) (acc + 0) (by omega) (by omega)
      have i2 := ih (i + 1) (acc + nS S s i) (by omega) (by omega)
      rw [sm_s (n := i)] at i1 i2
      by_cases z : lvS S s x + ((i : Int) - 5) ≤ l
      · rw [if_pos z, i1, if_neg (by omega)]
        congr 2
        omega
      · rw [if_neg z, i2, if_pos (by omega)]
        congr 2
        omega
theorem m_lnodd (h : mSense S s) (hs : s < 6) {x l : Int} (h0 : 0 ≤ x) (h1 : x ≤ 400) (hl : -1000 ≤ l ∧ l ≤ 1000) {c : Nat} (hc : c < 1000) (hx : gI S 21 c = J x) {v3 : Int32} : gX12_letsLine_L52 S (J s) (J l) v3 (J c) FU (J 0) (J (-5)) = some (J (wAl (nS S s) (lvS S s x - l) 1)) := by
  have := m_lnodd_L h hs h0 h1 hl hc hx (v3 := v3) FU 0 0 (by omega) (by have := FUs (n := 12) (by omega); omega)
  rw [sm_0, show (((0 : Nat) : Int) - 5) = -5 from rfl] at this
  rw [this]
  congr 2
  have : wAl (nS S s) (lvS S s x - l) 1 = nAb (nS S s) (-(lvS S s x - l)) := rfl
  rw [this, show -(lvS S s x - l) = l - lvS S s x by omega]
  omega
/-- the model's cells after laying, in numbers -/
def mlP (S : zM) (B : zM) (p : Int) (m : Nat) : Prop := gI S 0 34 = J m ∧ m ≤ 1000 ∧ (∀ d, d < m → ∃ i, i < bkn B ∧ iI B 8 i = p ∧ iI B 9 i ≤ 1 ∧ lkey S d B i ∧ mRow B i ∧ gI S 23 d = J (nK B (bkn B) (iI B 8 i) (iI B 9 i) (iI B 10 i) (iI B 11 i)) ∧ ∀ a : Nat, a < 3 → gI S 24 (3 * d + a) = J (nKA B (bkn B) (iI B 8 i) (iI B 9 i) (iI B 10 i) (iI B 11 i) a)) ∧ ∀ i, i < bkn B → iI B 8 i = p → iI B 9 i ≤ 1 → ∃ d, d < m ∧ lkey S d B i
end
