/-! Are two senses unlike, alone and in numbers. -/
theorem vA_b {L : Int} {i : Nat} (hL : 0 ≤ L ∧ L ≤ 9999) (hi : i < 11) : 0 ≤ vA L i ∧ vA L i < 10010 := by unfold vA; omega
theorem pV_hi {o : Nat → Int} (h : nOK o) (L v : Int) : pV o L v ≤ nAll o := sm_le (fun k hk => by
  have := (h.1 k hk).1
  split <;> omega)
theorem sml {a b : Int} (ha : 0 ≤ a ∧ a ≤ 99) (hb : 0 ≤ b ∧ b ≤ 99) : 0 ≤ a * b ∧ a * b ≤ 9801 := ⟨Int.mul_nonneg ha.1 hb.1, Int.mul_le_mul ha.2 hb.2 hb.1 (by omega)⟩
section
variable {SC SM : zM} {H s u : Nat}
theorem lvS_C (h : rSense SC SM H s) {x : Int} (h0 : 0 ≤ x) (h1 : x ≤ 400) : gX9_levelAt SC (H + 7 + 31 * s) (J x) = some (J (lvS SM s x)) := by
  rw [c_levelAt h0 h1, h.2.2.1 _ (by omega), gI_J]
  rfl
/-- the values agree, at one value -/
def pE (S : zM) (s u : Nat) (x v : Int) : Prop := pV (nS S s) (lvS S s x) v * nAll (nS S u) = pV (nS S u) (lvS S u x) v * nAll (nS S s)
theorem m_unlike_L (h : mSense SM s) (hs : s < 6) (h' : mSense SM u) (hu : u < 6) {x : Int} (h0 : 0 ≤ x) (h1 : x ≤ 400) : ∀ (n i : Nat) (g : Int), i ≤ 11 → 12 ≤ n + i → (g = 0 ∨ g = 1) → ∃ r : Int, (r = 0 ∨ r = 1) ∧ gX12_areUnlike_L67 SM (J s) (J u) (J x) (J (nAll (nS SM s))) (J (nAll (nS SM u))) n (J g) (J ((i : Int) - 5)) = some (J r) ∧ (r = 0 ↔ g = 0 ∧ ∀ k, i ≤ k → k < 11 → pE SM s u x (vA (lvS SM s x) k) ∧ pE SM s u x (vA (lvS SM u x) k)) := by
  have hb := lvS_b h h0 h1
  have hb' := lvS_b h' h0 h1
  have ho := mN_ok h ⟨(fK_b h).1, (fK_b h).2.1⟩
  have ho' := mN_ok h' ⟨(fK_b h').1, (fK_b h').2.1⟩
  rw [show mN SM s (fK SM s) = nS SM s from rfl] at ho
  rw [show mN SM u (fK SM u) = nS SM u from rfl] at ho'
  have W1 := nAll_hi ho
  have W2 := nAll_hi ho'
  have V1 := nAll_lo ho
  have V2 := nAll_lo ho'
  have pb : ∀ v, 0 ≤ pV (nS SM s) (lvS SM s x) v * nAll (nS SM u) ∧ pV (nS SM s) (lvS SM s x) v * nAll (nS SM u) ≤ 9801 := fun v => sml ⟨pV_nn ho _ _, Int.le_trans (pV_hi ho _ _) W1⟩ ⟨by omega, W2⟩
  have pb' : ∀ v, 0 ≤ pV (nS SM u) (lvS SM u x) v * nAll (nS SM s) ∧ pV (nS SM u) (lvS SM u x) v * nAll (nS SM s) ≤ 9801 := fun v => sml ⟨pV_nn ho' _ _, Int.le_trans (pV_hi ho' _ _) W2⟩ ⟨by omega, W1⟩
  have dc : ∀ v, Decidable (pE SM s u x v) := fun v => by unfold pE; infer_instance
  have key : ∀ v : Int, (J (pV (nS SM s) (lvS SM s x) v * nAll (nS SM u)) = J (pV (nS SM u) (lvS SM u x) v * nAll (nS SM s))) = pE SM s u x v := by
    intro v
    have a1 := pb v
    have a2 := pb' v
    rw [J_inj (by omega) (by omega) (by omega) (by omega)]
    rfl
  have q1 := m_levelOf (S := SM) hs h0 h1
  rw [show iI SM 5 (401 * s + x.toNat) = lvS SM s x from rfl] at q1
  have q2 := m_levelOf (S := SM) hu h0 h1
  rw [show iI SM 5 (401 * u + x.toNat) = lvS SM u x from rfl] at q2
  intro n
  induction n with
  | zero => intro i g g1 g2; omega
  | succ n ih =>
    intro i g g1 g2 hg
    unfold gX12_areUnlike_L67 gX12_areUnlike_J100
    simp only [J_0, J_1, J_2, J_3, J_4, J_5, J_6, J_7, J_8, J_9, J_10, J_11, J_12, J_14, J_15, J_16, J_19, J_20, J_21, J_22, J_23, J_24, J_25, J_28, J_30, J_31, J_32, J_40, J_44, J_47, J_48, J_49, J_50, J_53, J_54, J_57, J_59, J_74, J_75, J_78, J_84, J_97, J_99, J_100, J_120, J_122, J_126, J_132, J_138, J_144, J_150, J_156, J_162, J_198, J_200, J_202, J_206, J_210, J_214, J_218, J_222, J_226, J_230, J_234, J_238, J_239, J_240, J_241, J_242, J_243, J_255, J_263, J_283, J_303, J_399, J_400, J_401, J_463, J_700, J_701, J_999, J_1000, J_2048, J_4095, J_4096, J_6000, J_9999, J_10000, J_65536, J_65537, J_2147483647, J_neg]
    rw [iLT (by decide) (by decide) (by omega) (by omega)]
    by_cases e : i = 11
    · subst e
      rw [if_pos (by omega)]
      have hB : isB (J g) = true := by rcases hg with z | z <;> subst z <;> decide
      rw [hB, ckt]
      exact ⟨g, hg, rfl, ⟨fun z => ⟨z, fun k k1 k2 => by omega⟩, fun z => z.1⟩⟩
    · rw [if_neg (show ¬ 5 < (i : Int) - 5 by omega)]
      have core : ∀ A B : Int, vA (lvS SM s x) i = A → vA (lvS SM u x) i = B → ∃ r : Int, (r = 0 ∨ r = 1) ∧ (lm (gX12_areUnlike_J129 SM (J s) (J u) (J x) (J (nAll (nS SM s))) (J (nAll (nS SM u))) (J g) (J ((i : Int) - 5)) (J A) (J B)) (un2 fun v7 v8 => gX12_areUnlike_L67 SM (J s) (J u) (J x) (J (nAll (nS SM s))) (J (nAll (nS SM u))) n v7 v8)) = some (J r) ∧ (r = 0 ↔ g = 0 ∧ ∀ k, i ≤ k → k < 11 → pE SM s u x (vA (lvS SM s x) k) ∧ pE SM s u x (vA (lvS SM u x) k)) := by
        intro A B eA eB
        have v1 := vA_b (i := i) hb (by omega)
        have v2 := vA_b (i := i) hb' (by omega)
        rw [eA] at v1
        rw [eB] at v2
        have r1 := m_brings3 h hs h0 h1 (v := A) (by omega)
        have r2 := m_brings3 h' hu h0 h1 (v := A) (by omega)
        have r3 := m_brings3 h hs h0 h1 (v := B) (by omega)
        have r4 := m_brings3 h' hu h0 h1 (v := B) (by omega)
        unfold gX12_areUnlike_J129
        simp only [J_0, J_1, J_2, J_3, J_4, J_5, J_6, J_7, J_8, J_9, J_10, J_11, J_12, J_14, J_15, J_16, J_19, J_20, J_21, J_22, J_23, J_24, J_25, J_28, J_30, J_31, J_32, J_40, J_44, J_47, J_48, J_49, J_50, J_53, J_54, J_57, J_59, J_74, J_75, J_78, J_84, J_97, J_99, J_100, J_120, J_122, J_126, J_132, J_138, J_144, J_150, J_156, J_162, J_198, J_200, J_202, J_206, J_210, J_214, J_218, J_222, J_226, J_230, J_234, J_238, J_239, J_240, J_241, J_242, J_243, J_255, J_263, J_283, J_303, J_399, J_400, J_401, J_463, J_700, J_701, J_999, J_1000, J_2048, J_4095, J_4096, J_6000, J_9999, J_10000, J_65536, J_65537, J_2147483647, J_neg, r1, r2, r3, r4, ckt, b1s, b2s, lts, un2s, un3s, un4s, un5s, lmr, lml, lgr, lgl]
        simp only [J_neg, J_add, J_sub, J_mul, key, show (i : Int) - 5 + 1 = ((i + 1 : Nat) : Int) - 5 by omega]
        have i0 := ih (i + 1) 0 (by omega) (by omega) (Or.inl rfl)
        have i1 := ih (i + 1) 1 (by omega) (by omega) (Or.inr rfl)
        have no : ∃ r : Int, (r = 0 ∨ r = 1) ∧ gX12_areUnlike_L67 SM (J s) (J u) (J x) (J (nAll (nS SM s))) (J (nAll (nS SM u))) n (J 1) (J (((i + 1 : Nat) : Int) - 5)) = some (J r) ∧ r = 1 := by
          obtain ⟨r, a1, a2, a3⟩ := i1
          refine ⟨r, a1, a2, ?_⟩
          rcases a1 with z | z
          · exact absurd (a3.mp z).1 (by decide)
          · exact z
        rw [iEQ (by omega) (by omega) (by decide) (by decide)]
        by_cases z0 : g = 0
        · rw [if_pos z0]
          by_cases z1 : pE SM s u x A
          · rw [if_pos z1]
            by_cases z2 : pE SM s u x B
            · rw [if_pos z2]
              simp only [lmr, un2s]
              obtain ⟨r, a1, a2, a3⟩ := i0
              refine ⟨r, a1, a2, a3.trans ⟨fun w => ⟨z0, fun k k1 k2 => ?_⟩, fun w => ⟨rfl, fun k k1 k2 => w.2 k (by omega) k2⟩⟩⟩
              by_cases y : k = i
              · rw [y, eA, eB]; exact ⟨z1, z2⟩
              · exact w.2 k (by omega) k2
            · rw [if_neg z2]
              simp only [lmr, un2s]
              obtain ⟨r, a1, a2, a3⟩ := no
              refine ⟨r, a1, a2, fun w => absurd w (by omega), fun w => absurd (w.2 i (Nat.le_refl i) (by omega)).2 ?_⟩
              rw [eB]; exact z2
          · rw [if_neg z1]
            simp only [lmr, un2s]
            obtain ⟨r, a1, a2, a3⟩ := no
            refine ⟨r, a1, a2, fun w => absurd w (by omega), fun w => absurd (w.2 i (Nat.le_refl i) (by omega)).1 ?_⟩
            rw [eA]; exact z1
        · rw [if_neg z0]
          simp only [lmr, un2s]
          obtain ⟨r, a1, a2, a3⟩ := no
          exact ⟨r, a1, a2, fun w => absurd w (by omega), fun w => absurd w.1 z0⟩
      simp only [q1, q2, ckt, b1s, b2s, lts, un2s, un3s, un4s, un5s, lmr, lml, lgr, lgl, J_neg, J_add, J_sub, J_mul]
      rw [iLE (a := 0) (b := lvS SM s x + ((i : Int) - 5)) (by decide) (by decide) (by omega) (by omega)]
      simp only [J_le (a := 0) (b := lvS SM u x + ((i : Int) - 5)) (by decide) (by decide) (by omega) (by omega)]
      by_cases y1 : 0 ≤ lvS SM s x + ((i : Int) - 5) <;> by_cases y2 : 0 ≤ lvS SM u x + ((i : Int) - 5)
      · simp only [if_pos y1, if_pos y2]
        exact core _ _ (by unfold vA; omega) (by unfold vA; omega)
      · simp only [if_pos y1, if_neg y2]
        exact core _ _ (by unfold vA; omega) (by unfold vA; omega)
      · simp only [if_neg y1, if_pos y2]
        exact core _ _ (by unfold vA; omega) (by unfold vA; omega)
      · simp only [if_neg y1, if_neg y2]
        exact core _ _ (by unfold vA; omega) (by unfold vA; omega)
theorem c_number_L (h : rSense SC SM H s) (h' : rSense SC SM H u) {x : Int} (h0 : 0 ≤ x) (h1 : x ≤ 400) : ∀ (n i : Nat), i ≤ 11 → 12 ≤ n + i → ∃ r : Int, (r = 0 ∨ r = 1) ∧ gX11_numberParts_L15 SC (H + 7 + 31 * s) (H + 7 + 31 * u) (J x) (H + 7 + 31 * s + 7 + 4 * (fK SM s - 1)) (H + 7 + 31 * u + 7 + 4 * (fK SM u - 1)) n (J ((i : Int) - 5)) = some (J r) ∧ (r = 0 ↔ ∀ k, i ≤ k → k < 11 → pE SM s u x (vA (lvS SM s x) k)) := by
  have hb := lvS_b h.1 h0 h1
  have hb' := lvS_b h'.1 h0 h1
  obtain ⟨-, nz, ho⟩ := c_fresh h
  obtain ⟨-, nz', ho'⟩ := c_fresh h'
  rw [show mN SM s (fK SM s) = nS SM s from rfl] at ho nz
  rw [show mN SM u (fK SM u) = nS SM u from rfl] at ho' nz'
  have W1 := nAll_hi ho
  have W2 := nAll_hi ho'
  have V1 := nAll_lo ho
  have V2 := nAll_lo ho'
  intro n
  induction n with
  | zero => intro i g1 g2; omega
  | succ n ih =>
    intro i g1 g2
    unfold gX11_numberParts_L15
    simp only [J_0, J_1, J_2, J_3, J_4, J_5, J_6, J_7, J_8, J_9, J_10, J_11, J_12, J_14, J_15, J_16, J_19, J_20, J_21, J_22, J_23, J_24, J_25, J_28, J_30, J_31, J_32, J_40, J_44, J_47, J_48, J_49, J_50, J_53, J_54, J_57, J_59, J_74, J_75, J_78, J_84, J_97, J_99, J_100, J_120, J_122, J_126, J_132, J_138, J_144, J_150, J_156, J_162, J_198, J_200, J_202, J_206, J_210, J_214, J_218, J_222, J_226, J_230, J_234, J_238, J_239, J_240, J_241, J_242, J_243, J_255, J_263, J_283, J_303, J_399, J_400, J_401, J_463, J_700, J_701, J_999, J_1000, J_2048, J_4095, J_4096, J_6000, J_9999, J_10000, J_65536, J_65537, J_2147483647, J_neg]
    rw [iLT (by decide) (by decide) (by omega) (by omega)]
    by_cases e : i = 11
    · subst e
      rw [if_pos (by omega)]
      exact ⟨0, Or.inl rfl, rfl, fun _ k k1 k2 => by omega, fun _ => rfl⟩
    · have v1 := vA_b (i := i) hb (by omega)
      have j1 : jmax (J 0) (J (lvS SM s x) + J ((i : Int) - 5)) = J (vA (lvS SM s x) i) := by
        rw [J_add, jmax_J (by decide) (by decide) (by omega) (by omega)]
        rfl
      have n1 := c_numberOdds (v := lvS SM s x) (a := vA (lvS SM s x) i) nz (by omega) (by omega) (by omega) (by omega)
      have n2 := c_numberOdds (v := lvS SM u x) (a := vA (lvS SM s x) i) nz' (by omega) (by omega) (by omega) (by omega)
      rw [pV_c (by omega) (by omega)] at n1 n2
      rw [if_neg (show ¬ 5 < (i : Int) - 5 by omega)]
      simp only [lvS_C h h0 h1, lvS_C h' h0 h1, ckt, b1s, b2s, lts, un2s, un3s, un4s, un5s, lmr, lml, lgr, lgl, j1, n1, n2, nz.1, nz'.1]
      have b1' := sml (b := nAll (nS SM u)) ⟨pV_nn ho (lvS SM s x) (vA (lvS SM s x) i), Int.le_trans (pV_hi ho _ _) W1⟩ ⟨by omega, W2⟩
      have b2' := sml (b := nAll (nS SM s)) ⟨pV_nn ho' (lvS SM u x) (vA (lvS SM s x) i), Int.le_trans (pV_hi ho' _ _) W2⟩ ⟨by omega, W1⟩
      simp only [J_neg, J_add, J_sub, J_mul, show (i : Int) - 5 + 1 = ((i + 1 : Nat) : Int) - 5 by omega]
      rw [iEQ (by omega) (by omega) (by omega) (by omega)]
      by_cases z : pE SM s u x (vA (lvS SM s x) i)
      · have z' := z
        unfold pE at z'
        rw [if_pos z']
        obtain ⟨r, a1, a2, a3⟩ := ih (i + 1) (by omega) (by omega)
        refine ⟨r, a1, a2, a3.trans ⟨fun w k k1 k2 => ?_, fun w k k1 k2 => w k (by omega) k2⟩⟩
        by_cases y : k = i
        · rw [y]; exact z
        · exact w k (by omega) k2
      · have z' := z
        unfold pE at z'
        rw [if_neg z']
        exact ⟨1, Or.inr rfl, rfl, fun w => absurd w (by decide), fun w => absurd (w i (Nat.le_refl i) (by omega)) z⟩
/-- alone, by both -/
theorem alone_un (h : rSense SC SM H s) (hs : s < 6) (h' : rSense SC SM H u) (hu : u < 6) {x : Int} (h0 : 0 ≤ x) (h1 : x ≤ 400) : ∃ r : Int, (r = 0 ∨ r = 1) ∧ gX11_aloneParts SC (H + 7 + 31 * s) (H + 7 + 31 * u) (J x) = some (J r) ∧ gX12_areUnlike SM (J s) (J u) (J 1) (J x) = some (J r) := by
  have hb := lvS_b h.1 h0 h1
  have hb' := lvS_b h'.1 h0 h1
  obtain ⟨f1, nz, ho⟩ := c_fresh h
  obtain ⟨f2, nz', ho'⟩ := c_fresh h'
  rw [show mN SM s (fK SM s) = nS SM s from rfl] at ho nz
  rw [show mN SM u (fK SM u) = nS SM u from rfl] at ho' nz'
  have k1 := fK_b h.1
  have k2 := fK_b h'.1
  have W1 := nAll_hi ho
  have W2 := nAll_hi ho'
  have V1 := nAll_lo ho
  have V2 := nAll_lo ho'
  have a1 := c_aloneOdds (v := lvS SM s x) (a := 1) nz (by omega) (by omega) (by decide) (by decide)
  have a2 := c_aloneOdds (v := lvS SM u x) (a := 1) nz' (by omega) (by omega) (by decide) (by decide)
  rw [if_pos rfl] at a1 a2
  have b1' := sml (b := nAll (nS SM u)) ⟨nAb_lo ho (-lvS SM s x), Int.le_trans (nAb_hi ho _) W1⟩ ⟨by omega, W2⟩
  have b2' := sml (b := nAll (nS SM s)) ⟨nAb_lo ho' (-lvS SM u x), Int.le_trans (nAb_hi ho' _) W2⟩ ⟨by omega, W1⟩
  have c1 := m_all (S := SM) hs k1.2.1
  have c2 := m_all (S := SM) hu k2.2.1
  rw [show mN SM s (fK SM s) = nS SM s from rfl] at c1
  rw [show mN SM u (fK SM u) = nS SM u from rfl] at c2
  refine ⟨if nAb (nS SM s) (-lvS SM s x) * nAll (nS SM u) = nAb (nS SM u) (-lvS SM u x) * nAll (nS SM s) then 0 else 1, by split <;> omega, ?_, ?_⟩
  · unfold gX11_aloneParts
    simp only [J_0, J_1, J_2, J_3, J_4, J_5, J_6, J_7, J_8, J_9, J_10, J_11, J_12, J_14, J_15, J_16, J_19, J_20, J_21, J_22, J_23, J_24, J_25, J_28, J_30, J_31, J_32, J_40, J_44, J_47, J_48, J_49, J_50, J_53, J_54, J_57, J_59, J_74, J_75, J_78, J_84, J_97, J_99, J_100, J_120, J_122, J_126, J_132, J_138, J_144, J_150, J_156, J_162, J_198, J_200, J_202, J_206, J_210, J_214, J_218, J_222, J_226, J_230, J_234, J_238, J_239, J_240, J_241, J_242, J_243, J_255, J_263, J_283, J_303, J_399, J_400, J_401, J_463, J_700, J_701, J_999, J_1000, J_2048, J_4095, J_4096, J_6000, J_9999, J_10000, J_65536, J_65537, J_2147483647, J_neg, f1, f2, ckt, b1s, b2s, lts, un2s, un3s, un4s, un5s, lmr, lml, lgr, lgl, lvS_C h h0 h1, lvS_C h' h0 h1, a1, a2, nz.1, nz'.1, J_neg, J_add, J_sub, J_mul]
    rw [iEQ (by omega) (by omega) (by omega) (by omega)]
    split <;> rfl
  · unfold gX12_areUnlike
    simp only [J_0, J_1, J_2, J_3, J_4, J_5, J_6, J_7, J_8, J_9, J_10, J_11, J_12, J_14, J_15, J_16, J_19, J_20, J_21, J_22, J_23, J_24, J_25, J_28, J_30, J_31, J_32, J_40, J_44, J_47, J_48, J_49, J_50, J_53, J_54, J_57, J_59, J_74, J_75, J_78, J_84, J_97, J_99, J_100, J_120, J_122, J_126, J_132, J_138, J_144, J_150, J_156, J_162, J_198, J_200, J_202, J_206, J_210, J_214, J_218, J_222, J_226, J_230, J_234, J_238, J_239, J_240, J_241, J_242, J_243, J_255, J_263, J_283, J_303, J_399, J_400, J_401, J_463, J_700, J_701, J_999, J_1000, J_2048, J_4095, J_4096, J_6000, J_9999, J_10000, J_65536, J_65537, J_2147483647, J_neg, if_true]
    simp only [m_fullOf h.1 hs, m_fullOf h'.1 hu, c1, c2, m_brings1 h.1 hs h0 h1, m_brings1 h'.1 hu h0 h1, ckt, b1s, b2s, lts, un2s, un3s, un4s, un5s, lmr, lml, lgr, lgl, J_neg, J_add, J_sub, J_mul]
    rw [iEQ (by omega) (by omega) (by omega) (by omega)]
    split <;> rfl
/-- in numbers, by both -/
theorem number_un (h : rSense SC SM H s) (hs : s < 6) (h' : rSense SC SM H u) (hu : u < 6) {x : Int} (h0 : 0 ≤ x) (h1 : x ≤ 400) : ∃ r : Int, (r = 0 ∨ r = 1) ∧ gX11_numberParts SC (H + 7 + 31 * s) (H + 7 + 31 * u) (J x) = some (J r) ∧ gX12_areUnlike SM (J s) (J u) (J 3) (J x) = some (J r) := by
  have hb := lvS_b h.1 h0 h1
  have hb' := lvS_b h'.1 h0 h1
  obtain ⟨f1, nz, ho⟩ := c_fresh h
  obtain ⟨f2, nz', ho'⟩ := c_fresh h'
  rw [show mN SM s (fK SM s) = nS SM s from rfl] at ho nz
  rw [show mN SM u (fK SM u) = nS SM u from rfl] at ho' nz'
  have k1 := fK_b h.1
  have k2 := fK_b h'.1
  have c1 := m_all (S := SM) hs k1.2.1
  have c2 := m_all (S := SM) hu k2.2.1
  rw [show mN SM s (fK SM s) = nS SM s from rfl] at c1
  rw [show mN SM u (fK SM u) = nS SM u from rfl] at c2
  obtain ⟨r, r1, r2, r3⟩ := c_number_L h h' h0 h1 FU 0 (by omega) (by have := FUs (n := 12) (by omega); omega)
  obtain ⟨q, q1, q2, q3⟩ := m_unlike_L h.1 hs h'.1 hu h0 h1 FU 0 0 (by omega) (by have := FUs (n := 12) (by omega); omega) (Or.inl rfl)
  have e : (r = 0 ↔ q = 0) := by
    rw [r3, q3]
    constructor
    · intro w
      have := pV_all ho ho' hb hb' (fun i hi => w i (Nat.zero_le i) hi)
      refine ⟨rfl, fun k _ k2 => ⟨w k (Nat.zero_le k) k2, ?_⟩⟩
      have v2 := vA_b (i := k) hb' k2
      have := this (vA (lvS SM u x) k).toNat (by omega)
      rw [show ((vA (lvS SM u x) k).toNat : Int) = vA (lvS SM u x) k by omega] at this
      exact this
    · intro w k k1 k2
      exact (w.2 k k1 k2).1
  have er : r = q := by
    rcases r1 with z | z <;> rcases q1 with y | y
    · omega
    · have := e.mp z; omega
    · have := e.mpr y; omega
    · omega
  rw [show ((0 : Nat) : Int) - 5 = -5 from rfl] at r2 q2
  refine ⟨r, r1, ?_, ?_⟩
  · unfold gX11_numberParts
    simp only [J_0, J_1, J_2, J_3, J_4, J_5, J_6, J_7, J_8, J_9, J_10, J_11, J_12, J_14, J_15, J_16, J_19, J_20, J_21, J_22, J_23, J_24, J_25, J_28, J_30, J_31, J_32, J_40, J_44, J_47, J_48, J_49, J_50, J_53, J_54, J_57, J_59, J_74, J_75, J_78, J_84, J_97, J_99, J_100, J_120, J_122, J_126, J_132, J_138, J_144, J_150, J_156, J_162, J_198, J_200, J_202, J_206, J_210, J_214, J_218, J_222, J_226, J_230, J_234, J_238, J_239, J_240, J_241, J_242, J_243, J_255, J_263, J_283, J_303, J_399, J_400, J_401, J_463, J_700, J_701, J_999, J_1000, J_2048, J_4095, J_4096, J_6000, J_9999, J_10000, J_65536, J_65537, J_2147483647, J_neg, f1, f2, ckt, b1s, b2s, lts, un2s, un3s, un4s, un5s, lmr, lml, lgr, lgl]
    exact r2
  · unfold gX12_areUnlike
    simp only [J_0, J_1, J_2, J_3, J_4, J_5, J_6, J_7, J_8, J_9, J_10, J_11, J_12, J_14, J_15, J_16, J_19, J_20, J_21, J_22, J_23, J_24, J_25, J_28, J_30, J_31, J_32, J_40, J_44, J_47, J_48, J_49, J_50, J_53, J_54, J_57, J_59, J_74, J_75, J_78, J_84, J_97, J_99, J_100, J_120, J_122, J_126, J_132, J_138, J_144, J_150, J_156, J_162, J_198, J_200, J_202, J_206, J_210, J_214, J_218, J_222, J_226, J_230, J_234, J_238, J_239, J_240, J_241, J_242, J_243, J_255, J_263, J_283, J_303, J_399, J_400, J_401, J_463, J_700, J_701, J_999, J_1000, J_2048, J_4095, J_4096, J_6000, J_9999, J_10000, J_65536, J_65537, J_2147483647, J_neg]
    simp only [m_fullOf h.1 hs, m_fullOf h'.1 hu, c1, c2, ckt, b1s, b2s, lts, un2s, un3s, un4s, un5s, lmr, lml, lgr, lgl]
    rw [if_neg (show ¬ J 3 = J 1 by decide), er]
    exact q2
end
