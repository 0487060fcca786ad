/-! What a size brings of an answer; are two senses unlike there. -/
theorem sm_eqs {f g : Nat → Int} : ∀ n : Nat, (∀ k, k < n → f k ≤ g k) → sm n g ≤ sm n f → ∀ k, k < n → f k = g k := by
  intro n
  induction n with
  | zero => intro _ _ k hk; omega
  | succ n ih =>
    intro h1 h2 k hk
    rw [sm_s, sm_s] at h2
    have a1 := sm_le (n := n) (f := f) (g := g) (fun k hk => h1 k (by omega))
    have a2 := h1 n (by omega)
    by_cases e : k = n
    · subst e; omega
    · exact ih (fun k hk => h1 k (by omega)) (by omega) k (by omega)
/-- the value of an answer, at a level -/
def vA (L : Int) (i : Nat) : Int := max 0 (L + ((i : Int) - 5))
/-- the odds of a value -/
def pV (o : Nat → Int) (L v : Int) : Int := sm 11 (fun i => if vA L i = v then o i else 0)
theorem pV_nn {o : Nat → Int} (h : nOK o) (L v : Int) : 0 ≤ pV o L v := sm_nn (fun k hk => by
  have := (h.1 k hk).1
  split <;> omega)
theorem pV_sum {o : Nat → Int} {L : Int} (hL : 0 ≤ L ∧ L ≤ 9999) : sm 10010 (fun v => pV o L v) = nAll o := by
  unfold pV
  rw [sm_swap]
  unfold nAll
  refine sm_c (fun i hi => ?_)
  obtain ⟨a, ha⟩ : ∃ a : Nat, vA L i = a := ⟨(vA L i).toNat, by unfold vA; omega⟩
  have hb : a < 10010 := by unfold vA at ha; omega
  rw [ha]
  refine Eq.trans (sm_c (fun k hk => ?_)) (sm_one (n := 10010) (v := o i) hb)
  by_cases z : k = a
  · rw [if_pos (by omega), if_pos z]
  · rw [if_neg (by omega), if_neg z]
/-- it is enough to look where one of them is -/
theorem pV_all {o o' : Nat → Int} (h : nOK o) (h' : nOK o') {L L' : Int} (hL : 0 ≤ L ∧ L ≤ 9999) (hL' : 0 ≤ L' ∧ L' ≤ 9999) (hs : ∀ i, i < 11 → pV o L (vA L i) * nAll o' = pV o' L' (vA L i) * nAll o) : ∀ v : Nat, v < 10010 → pV o L v * nAll o' = pV o' L' v * nAll o := by
  have p1 := pV_sum (o := o) hL
  have p2 := pV_sum (o := o') hL'
  have w1 := nAll_lo h
  refine sm_eqs (f := fun v => pV o L v * nAll o') (g := fun v => pV o' L' v * nAll o) 10010 (fun v hv => ?_) ?_
  · show pV o L v * nAll o' ≤ pV o' L' v * nAll o
    by_cases z : ∃ i, i < 11 ∧ vA L i = v
    · obtain ⟨i, hi, e⟩ := z
      rw [← e, hs i hi]
      exact Int.le_refl _
    · have e0 : pV o L v = 0 := sm_zero (fun i hi => if_neg (fun w => z ⟨i, hi, w⟩))
      rw [e0, Int.zero_mul]
      exact Int.mul_nonneg (pV_nn h' L' v) (by omega)
  · rw [sm_mulr, sm_mulr, p1, p2, Int.mul_comm]
    exact Int.le_refl _
/-- the class' odds of a number are these -/
theorem pV_c {o : Nat → Int} {L v : Int} (hL : 0 ≤ L) (hv : 0 ≤ v) : (if v ≤ 0 then nAll o - nAb o (-L) else nAt o (v - L)) = pV o L v := by
  unfold pV vA
  by_cases z : v ≤ 0
  · rw [if_pos z]
    unfold nAll nAb
    rw [← sm_sub]
    refine sm_c (fun i hi => ?_)
    by_cases e : -L < (i : Int) - 5
    · rw [if_pos e, if_neg (by omega)]; omega
    · rw [if_neg e, if_pos (by omega)]; omega
  · rw [if_neg z]
    unfold nAt
    by_cases e : -5 ≤ v - L ∧ v - L ≤ 5
    · rw [if_pos e]
      refine Eq.symm (Eq.trans (sm_c (fun i hi => ?_)) (sm_one (n := 11) (a := (v - L + 5).toNat) (v := o (v - L + 5).toNat) (by omega)))
      by_cases y : i = (v - L + 5).toNat
      · rw [if_pos y, if_pos (by omega), y]
      · rw [if_neg y, if_neg (by omega)]
    · rw [if_neg e]
      exact (sm_zero (fun i hi => if_neg (by omega))).symm
section
variable {SC SM : zM} {H s : Nat}
/-- a sense's level, its noise -/
def lvS (S : zM) (s : Nat) (x : Int) : Int := iI S 5 (401 * s + x.toNat)
def nS (S : zM) (s : Nat) : Nat → Int := mN S s (fK S s)
theorem lvS_b (h : mSense SM s) {x : Int} (h0 : 0 ≤ x) (h1 : x ≤ 400) : 0 ≤ lvS SM s x ∧ lvS SM s x ≤ 9999 := h.2.2.2 _ (by omega)
theorem m_brings_L (h : mSense SM s) (hs : s < 6) {x w : Int} (h0 : 0 ≤ x) (h1 : x ≤ 400) (hw : -1 ≤ w ∧ w ≤ 100000) {f : Nat → Int} (hf : ∀ i, i < 11 → f i = if w = -1 then (if -lvS SM s x < (i : Int) - 5 then nS SM s i else 0) else if vA (lvS SM s x) i = w then nS SM s i else 0) : ∀ (n i : Nat) (acc : Int), i ≤ 11 → 12 ≤ n + i → gX12_brings_L7 SM (J s) (J x) (J w) n (J acc) (J ((i : Int) - 5)) = some (J (acc + (sm 11 f - sm i f))) := by
  have hb := lvS_b h h0 h1
  have hk := fK_b h
  intro n
  induction n with
  | zero => intro i acc g1 g2; omega
  | succ n ih =>
    intro i acc g1 g2
    unfold gX12_brings_L7 gX12_brings_J53 gX12_brings_J62
    simp only [J_0, J_1, J_2, J_3, J_4, J_5, J_6, J_7, J_8, J_9, J_10, J_11, J_12, J_14, J_15, J_16, J_19, J_20, J_21, J_22, J_23, J_24, J_25, J_28, J_30, J_31, J_32, J_40, J_44, J_47, J_48, J_49, J_50, J_53, J_54, J_57, J_59, J_74, J_75, J_78, J_84, J_97, J_99, J_100, J_120, J_122, J_126, J_132, J_138, J_144, J_150, J_156, J_162, J_198, J_200, J_202, J_206, J_210, J_214, J_218, J_222, J_226, J_230, J_234, J_238, J_239, J_240, J_241, J_242, J_243, J_255, J_263, J_283, J_303, J_399, J_400, J_401, J_463, J_700, J_701, J_999, J_1000, J_2048, J_4095, J_4096, J_6000, J_9999, J_10000, J_65536, J_65537, J_2147483647, J_neg]
    rw [iLT (by decide) (by decide) (by omega) (by omega)]
    by_cases e : i = 11
    · subst e
      rw [if_pos (by omega)]
      congr 2
      omega
    · have i1 := ih (i + 1) (acc + f i) (by omega) (by omega)
      rw [sm_s (n := i)] at i1
      have hfi := hf i (by omega)
      have q1 := m_levelOf (S := SM) hs h0 h1
      rw [show iI SM 5 (401 * s + x.toNat) = lvS SM s x from rfl] at q1
      have q2 := m_oftenI (S := SM) (i := i) hs hk.2.1 (by omega)
      rw [show mN SM s (fK SM s) i = nS SM s i from rfl] at q2
      rw [if_neg (show ¬ 5 < (i : Int) - 5 by omega)]
      simp only [q1, m_fullOf h hs, q2, ckt, b1s, b2s, lts, un2s, un3s, un4s, un5s, lmr, lml, lgr, lgl, J_neg, J_add, J_sub, J_mul]
      simp (disch := omega) only [J_lt, J_le, J_inj, if_true, show ((1 : Int) = 0) = False from by decide, if_false]
      rw [show (i : Int) - 5 + 1 = ((i + 1 : Nat) : Int) - 5 by omega]
      simp only [lmr, un2s]
      have goal : gX12_brings_L7 SM (J s) (J x) (J w) n (J (acc + f i)) (J (((i + 1 : Nat) : Int) - 5)) = some (J (acc + (sm 11 f - sm i f))) := by
        rw [i1]
        congr 2
        omega
      by_cases z : w = -1
      · rw [if_pos z] at hfi ⊢
        by_cases y : -lvS SM s x < (i : Int) - 5
        · rw [if_pos y] at hfi
          rw [if_neg (show ¬ lvS SM s x + ((i : Int) - 5) ≤ 0 by omega), ← hfi]
          exact goal
        · rw [if_neg y] at hfi
          rw [if_pos (show lvS SM s x + ((i : Int) - 5) ≤ 0 by omega), ← hfi]
          exact goal
      · rw [if_neg z] at hfi ⊢
        unfold vA at hfi
        by_cases y : 0 ≤ lvS SM s x + ((i : Int) - 5)
        · rw [if_pos y]
          by_cases y2 : lvS SM s x + ((i : Int) - 5) = w
          · rw [if_pos (by omega)] at hfi
            rw [if_pos y2, ← hfi]
            exact goal
          · rw [if_neg (by omega)] at hfi
            rw [if_neg y2, ← hfi]
            exact goal
        · rw [if_neg y]
          by_cases y2 : 0 = w
          · rw [if_pos (by omega)] at hfi
            rw [if_pos y2, ← hfi]
            exact goal
          · rw [if_neg (by omega)] at hfi
            rw [if_neg y2, ← hfi]
            exact goal
theorem m_brings1 (h : mSense SM s) (hs : s < 6) {x : Int} (h0 : 0 ≤ x) (h1 : x ≤ 400) : gX12_brings SM (J s) (J x) (J (-1)) = some (J (nAb (nS SM s) (-lvS SM s x))) := by
  have := m_brings_L h hs h0 h1 (w := -1) (by decide) (f := fun i => if -lvS SM s x < (i : Int) - 5 then nS SM s i else 0) (fun i hi => by rw [if_pos rfl]) FU 0 0 (by omega) (by have := FUs (n := 12) (by omega); omega)
  rw [sm_0, show (((0 : Nat) : Int) - 5) = -5 from rfl] at this
  unfold gX12_brings
  simp only [J_0, J_1, J_2, J_3, J_4, J_5, J_6, J_7, J_8, J_9, J_10, J_11, J_12, J_14, J_15, J_16, J_19, J_20, J_21, J_22, J_23, J_24, J_25, J_28, J_30, J_31, J_32, J_40, J_44, J_47, J_48, J_49, J_50, J_53, J_54, J_57, J_59, J_74, J_75, J_78, J_84, J_97, J_99, J_100, J_120, J_122, J_126, J_132, J_138, J_144, J_150, J_156, J_162, J_198, J_200, J_202, J_206, J_210, J_214, J_218, J_222, J_226, J_230, J_234, J_238, J_239, J_240, J_241, J_242, J_243, J_255, J_263, J_283, J_303, J_399, J_400, J_401, J_463, J_700, J_701, J_999, J_1000, J_2048, J_4095, J_4096, J_6000, J_9999, J_10000, J_65536, J_65537, J_2147483647, J_neg]
  rw [this]
  congr 2
  unfold nAb
  omega
theorem m_brings3 (h : mSense SM s) (hs : s < 6) {x v : Int} (h0 : 0 ≤ x) (h1 : x ≤ 400) (hv : 0 ≤ v ∧ v ≤ 100000) : gX12_brings SM (J s) (J x) (J v) = some (J (pV (nS SM s) (lvS SM s x) v)) := by
  have := m_brings_L h hs h0 h1 (w := v) (by omega) (f := fun i => if vA (lvS SM s x) i = v then nS SM s i else 0) (fun i hi => by rw [if_neg (show ¬ v = -1 by omega)]) FU 0 0 (by omega) (by have := FUs (n := 12) (by omega); omega)
  rw [sm_0, show (((0 : Nat) : Int) - 5) = -5 from rfl] at this
  unfold gX12_brings
  simp only [J_0, J_1, J_2, J_3, J_4, J_5, J_6, J_7, J_8, J_9, J_10, J_11, J_12, J_14, J_15, J_16, J_19, J_20, J_21, J_22, J_23, J_24, J_25, J_28, J_30, J_31, J_32, J_40, J_44, J_47, J_48, J_49, J_50, J_53, J_54, J_57, J_59, J_74, J_75, J_78, J_84, J_97, J_99, J_100, J_120, J_122, J_126, J_132, J_138, J_144, J_150, J_156, J_162, J_198, J_200, J_202, J_206, J_210, J_214, J_218, J_222, J_226, J_230, J_234, J_238, J_239, J_240, J_241, J_242, J_243, J_255, J_263, J_283, J_303, J_399, J_400, J_401, J_463, J_700, J_701, J_999, J_1000, J_2048, J_4095, J_4096, J_6000, J_9999, J_10000, J_65536, J_65537, J_2147483647, J_neg]
  rw [this]
  congr 2
  unfold pV
  omega
end
