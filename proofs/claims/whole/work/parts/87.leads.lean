/-! Leads compared. -/
def clp (l : Int) : Int := max (-11) (min 11 l)
theorem pOd_b0 {o : Nat → Int} (ho : nOK o) (l : Int) : 0 ≤ pOd o l false 0 ∧ pOd o l false 0 ≤ 9801 := by
  have h1 := nPab_lo ho (-l - 1)
  have h2 := nPab_hi ho (-l - 1)
  have h5 := nSq_hi ho
  unfold pOd
  rw [if_pos rfl]
  omega
theorem pOd_cl {o : Nat → Int} {l : Int} : pOd o l false 0 = pOd o (clp l) false 0 ∧ pOd o l false 1 = pOd o (clp l) false 1 := by
  have d0 : ∀ l : Int, pOd o l false 0 = nAll o * nAll o - nPab o (-l - 1) := fun l => rfl
  have d1 : ∀ l : Int, pOd o l false 1 = nPab o (-l) := fun l => rfl
  simp only [d0, d1]
  by_cases a : 11 ≤ l
  · have e : clp l = 11 := by unfold clp; omega
    rw [e, nPab_far (v := -l - 1) (by omega), nPab_far (v := -l) (by omega), nPab_far (v := -11 - 1) (by omega), nPab_far (v := -11) (by omega)]
    exact ⟨rfl, rfl⟩
  · by_cases b : l ≤ -11
    · have e : clp l = -11 := by unfold clp; omega
      rw [e, nPab_none (v := -l - 1) (by omega), nPab_none (v := -l) (by omega), nPab_none (v := -(-11) - 1) (by omega), nPab_none (v := -(-11)) (by omega)]
      exact ⟨rfl, rfl⟩
    · have e : clp l = l := by unfold clp; omega
      rw [e]
      exact ⟨rfl, rfl⟩
/-- the odds of a lead agree -/
def lkE (o o' : Nat → Int) (l l' a : Int) : Prop := pOd o l false a * (nAll o' * nAll o') = pOd o' l' false a * (nAll o * nAll o)
def lkA (o o' : Nat → Int) (l l' : Int) : Prop := lkE o o' l l' 0 ∧ lkE o o' l l' 1
theorem lkA_cl {o o' : Nat → Int} {l l' : Int} : lkA o o' l l' ↔ lkA o o' (clp l) (clp l') := by
  unfold lkA lkE
  rw [pOd_cl.1, pOd_cl.2, (pOd_cl (o := o') (l := l')).1, (pOd_cl (o := o') (l := l')).2]
theorem sml2 {a b : Int} (ha : 0 ≤ a ∧ a ≤ 9801) (hb : 0 ≤ b ∧ b ≤ 9801) : 0 ≤ a * b ∧ a * b ≤ 96059601 := ⟨Int.mul_nonneg ha.1 hb.1, Int.mul_le_mul ha.2 hb.2 hb.1 (by omega)⟩
theorem pOd_b2 {o : Nat → Int} (ho : nOK o) (l : Int) {a : Int} (ha : a = 0 ∨ a = 1) : 0 ≤ pOd o l false a ∧ pOd o l false a ≤ 9801 := by
  rcases ha with z | z
  · subst z; exact pOd_b0 ho l
  · subst z; exact pOd_b ho l false
theorem c_leadPlace {l l' : Int} (h : -100000 ≤ l ∧ l ≤ 100000) (h' : -100000 ≤ l' ∧ l' ≤ 100000) : gX11_leadPlace (J l) (J l') = some (J ((clp l + 11) * 23 + (clp l' + 11))) := by
  unfold gX11_leadPlace
  simp only [J_0, J_1, J_2, J_3, J_4, J_5, J_6, J_7, J_8, J_9, J_10, J_11, J_12, J_14, J_15, J_16, J_19, J_20, J_21, J_22, J_23, J_24, J_25, J_28, J_30, J_31, J_32, J_40, J_44, J_47, J_48, J_49, J_50, J_53, J_54, J_57, J_59, J_74, J_75, J_78, J_84, J_97, J_99, J_100, J_120, J_122, J_126, J_132, J_138, J_144, J_150, J_156, J_162, J_198, J_200, J_202, J_206, J_210, J_214, J_218, J_222, J_226, J_230, J_234, J_238, J_239, J_240, J_241, J_242, J_243, J_255, J_263, J_283, J_303, J_399, J_400, J_401, J_463, J_700, J_701, J_999, J_1000, J_2048, J_4095, J_4096, J_6000, J_9999, J_10000, J_65536, J_65537, J_2147483647, J_neg, ckt, b1s, b2s, lts, un2s, un3s, un4s, un5s, lmr, lml, lgr, lgl]
  rw [jmin_J (by decide) (by decide) (by omega) (by omega), jmin_J (by decide) (by decide) (by omega) (by omega), jmax_J (by decide) (by decide) (by omega) (by omega), jmax_J (by decide) (by decide) (by omega) (by omega)]
  simp only [J_neg, J_add, J_sub, J_mul]
  rfl
section
variable {o o' : Nat → Int} {q q' : Nat}
theorem c_cmp_L {S : zM} (nz : nzC S q o) (ho : nOK o) (nz' : nzC S q' o') (ho' : nOK o') {l l' : Int} (h : -100000 ≤ l ∧ l ≤ 100000) (h' : -100000 ≤ l' ∧ l' ≤ 100000) : ∀ (n i : Nat) (g : Int), i ≤ 2 → 3 ≤ n + i → (g = 0 ∨ g = 1) → ∃ r : Int, (r = 0 ∨ r = 1) ∧ gX11_compareLeads_L26 S q q' (J l) (J l') n (J g) (J i) = some (J r) ∧ (r = 1 ↔ g = 1 ∧ ∀ k : Nat, i ≤ k → k < 2 → lkE o o' l l' k) := by
  have W1 := nSq_hi ho
  have W2 := nSq_hi ho'
  have V1 := nAll_lo ho
  have V2 := nAll_lo ho'
  have X1 : 0 ≤ nAll o * nAll o := Int.mul_nonneg (by omega) (by omega)
  have X2 : 0 ≤ nAll o' * nAll o' := Int.mul_nonneg (by omega) (by omega)
  intro n
  induction n with
  | zero => intro i g g1 g2; omega
  | succ n ih =>
    intro i g g1 g2 hg
    unfold gX11_compareLeads_L26
    simp only [J_0, J_1, J_2, J_3, J_4, J_5, J_6, J_7, J_8, J_9, J_10, J_11, J_12, J_14, J_15, J_16, J_19, J_20, J_21, J_22, J_23, J_24, J_25, J_28, J_30, J_31, J_32, J_40, J_44, J_47, J_48, J_49, J_50, J_53, J_54, J_57, J_59, J_74, J_75, J_78, J_84, J_97, J_99, J_100, J_120, J_122, J_126, J_132, J_138, J_144, J_150, J_156, J_162, J_198, J_200, J_202, J_206, J_210, J_214, J_218, J_222, J_226, J_230, J_234, J_238, J_239, J_240, J_241, J_242, J_243, J_255, J_263, J_283, J_303, J_399, J_400, J_401, J_463, J_700, J_701, J_999, J_1000, J_2048, J_4095, J_4096, J_6000, J_9999, J_10000, J_65536, J_65537, J_2147483647, J_neg]
    rw [iLT (by decide) (by decide) (by omega) (by omega)]
    by_cases e : i = 2
    · subst e
      rw [if_pos (by decide)]
      exact ⟨g, hg, rfl, ⟨fun z => ⟨z, fun k k1 k2 => by omega⟩, fun z => z.1⟩⟩
    · have hi : (i : Int) = 0 ∨ (i : Int) = 1 := by omega
      have p1 := c_pairOdds (v := l) (g := 0) (a := i) nz (by omega) (by omega) (Or.inl rfl) (by omega) (by omega)
      have p2 := c_pairOdds (v := l') (g := 0) (a := i) nz' (by omega) (by omega) (Or.inl rfl) (by omega) (by omega)
      rw [show decide ((0 : Int) = 1) = false from rfl] at p1 p2
      have b1' := pOd_b2 ho l hi
      have b2' := pOd_b2 ho' l' hi
      have c1 := sml2 b1' ⟨X2, W2⟩
      have c2 := sml2 b2' ⟨X1, W1⟩
      rw [if_neg (show ¬ (1 : Int) < i by omega), p1, b1s, c_pairs nz', b1s, p2, b1s, c_pairs nz, b1s, J_toL (by omega) (by omega), J_toL (by omega) (by omega), J_toL (by omega) (by omega), J_toL (by omega) (by omega)]
      simp only [J_neg, J_add, J_sub, J_mul, JL_neg, JL_add, JL_sub, JL_mul]
      rw [iEQ (by omega) (by omega) (by decide) (by decide), iEQl (by omega) (by omega) (by omega) (by omega), show (i : Int) + 1 = ((i + 1 : Nat) : Int) by omega]
      obtain ⟨r, a1, a2, a3⟩ := ih (i + 1) 0 (by omega) (by omega) (Or.inl rfl)
      have ar : ¬ r = 1 := fun w => absurd (a3.mp w).1 (by decide)
      by_cases z : g = 0
      · rw [if_pos z]
        exact ⟨r, a1, a2, fun w => absurd w ar, fun w => absurd w.1 (by omega)⟩
      · rw [if_neg z]
        by_cases y : lkE o o' l l' i
        · have y' := y
          unfold lkE at y'
          rw [if_pos y']
          obtain ⟨r, a1, a2, a3⟩ := ih (i + 1) 1 (by omega) (by omega) (Or.inr rfl)
          refine ⟨r, a1, a2, a3.trans ⟨fun w => ⟨by omega, fun k k1 k2 => ?_⟩, fun w => ⟨rfl, fun k k1 k2 => w.2 k (by omega) k2⟩⟩⟩
          by_cases x : k = i
          · rw [x]; exact y
          · exact w.2 k (by omega) k2
        · have y' := y
          unfold lkE at y'
          rw [if_neg y']
          exact ⟨r, a1, a2, fun w => absurd w ar, fun w => absurd (w.2 i (Nat.le_refl i) (by omega)) y⟩
theorem c_cmp {S : zM} (nz : nzC S q o) (ho : nOK o) (nz' : nzC S q' o') (ho' : nOK o') {l l' : Int} (h : -100000 ≤ l ∧ l ≤ 100000) (h' : -100000 ≤ l' ∧ l' ≤ 100000) : ∃ r : Int, (r = 0 ∨ r = 1) ∧ gX11_compareLeads_L26 S q q' (J l) (J l') FU (J 1) (J 0) = some (J r) ∧ (r = 1 ↔ lkA o o' l l') := by
  obtain ⟨r, r1, r2, r3⟩ := c_cmp_L nz ho nz' ho' h h' FU 0 1 (by omega) (by have := FUs (n := 3) (by omega); omega) (Or.inr rfl)
  refine ⟨r, r1, r2, r3.trans ⟨fun w => ⟨w.2 0 (by omega) (by omega), w.2 1 (by omega) (by omega)⟩, fun w => ⟨rfl, fun k k1 k2 => ?_⟩⟩⟩
  have : k = 0 ∨ k = 1 := by omega
  rcases this with z | z
  · subst z; exact w.1
  · subst z; exact w.2
def f242 (q _k : Nat) : Prop := q = 242
theorem nz_242 {S S' : zM} (nz : nzC S q o) (f : fr f242 S S') (hq : q + 3 < 242 ∨ 242 < q) : nzC S' q o := by
  unfold f242 at f
  exact nzC_c nz (f.1 _ _ (by omega)) (fun k => f.1 _ _ (by omega)) (fun k => f.1 _ _ (by omega)) (fun k => f.1 _ _ (by omega))
/-- a place of the table -/
def tbE (S : zM) (o o' : Nat → Int) (a b : Nat) : Prop := ∃ r : Int, (r = 0 ∨ r = 1) ∧ gI S 242 (23 * a + b) = J r ∧ (r = 1 ↔ lkA o o' ((a : Int) - 11) ((b : Int) - 11))
theorem c_tab_L (hq : q + 3 < 242 ∨ 242 < q) (hq' : q' + 3 < 242 ∨ 242 < q') (ho : nOK o) (ho' : nOK o') {a : Nat} (ha : a < 23) : ∀ (n b : Nat) (S : zM), b ≤ 23 → 24 ≤ n + b → nzC S q o → nzC S q' o' → ∃ S', gX11_compareLeads_L13 q q' (J ((a : Int) - 11)) n S (J ((b : Int) - 11)) = some S' ∧ fr f242 S S' ∧ (∀ k, b ≤ k → k < 23 → tbE S' o o' a k) ∧ ∀ m, m < 23 * a + b → gI S' 242 m = gI S 242 m := by
  intro n
  induction n with
  | zero => intro b S g1 g2; omega
  | succ n ih =>
    intro b S g1 g2 nz nz'
    unfold gX11_compareLeads_L13
    simp only [J_0, J_1, J_2, J_3, J_4, J_5, J_6, J_7, J_8, J_9, J_10, J_11, J_12, J_14, J_15, J_16, J_19, J_20, J_21, J_22, J_23, J_24, J_25, J_28, J_30, J_31, J_32, J_40, J_44, J_47, J_48, J_49, J_50, J_53, J_54, J_57, J_59, J_74, J_75, J_78, J_84, J_97, J_99, J_100, J_120, J_122, J_126, J_132, J_138, J_144, J_150, J_156, J_162, J_198, J_200, J_202, J_206, J_210, J_214, J_218, J_222, J_226, J_230, J_234, J_238, J_239, J_240, J_241, J_242, J_243, J_255, J_263, J_283, J_303, J_399, J_400, J_401, J_463, J_700, J_701, J_999, J_1000, J_2048, J_4095, J_4096, J_6000, J_9999, J_10000, J_65536, J_65537, J_2147483647, J_neg]
    rw [iLT (by decide) (by decide) (by omega) (by omega)]
    by_cases e : b = 23
    · rw [if_pos (by omega)]
      exact ⟨S, rfl, fr_r, fun k k1 k2 => by omega, fun m hm => rfl⟩
    · obtain ⟨r, r1, r2, r3⟩ := c_cmp (l := (a : Int) - 11) (l' := (b : Int) - 11) nz ho nz' ho' (by omega) (by omega)
      have hp := c_leadPlace (l := (a : Int) - 11) (l' := (b : Int) - 11) (by omega) (by omega)
      rw [show (clp ((a : Int) - 11) + 11) * 23 + (clp ((b : Int) - 11) + 11) = ((23 * a + b : Nat) : Int) by unfold clp; omega] at hp
      have hn : vp_nar .boolean (J r) = J r := by rcases r1 with z | z <;> subst z <;> decide
      rw [if_neg (show ¬ 11 < (b : Int) - 11 by omega), r2, b1s, hp, b1s, ixb_J (by omega) (by omega) (by decide), ckt, ix_J (by omega) (by omega), Int.toNat_natCast, J_add, hn, show (b : Int) - 11 + 1 = ((b + 1 : Nat) : Int) - 11 by omega]
      have f : fr f242 S (pI S 242 (23 * a + b) (J r)) := fr_pI rfl
      obtain ⟨S', s1, s2, s3, s4⟩ := ih (b + 1) _ (by omega) (by omega) (nz_242 nz f hq) (nz_242 nz' f hq')
      refine ⟨S', s1, fr_t f s2, fun k k1 k2 => ?_, fun m hm => ?_⟩
      · by_cases z : k = b
        · subst z
          refine ⟨r, r1, ?_, r3⟩
          rw [s4 _ (by omega), rII, if_pos ⟨rfl, rfl⟩]
        · exact s3 k (by omega) k2
      · rw [s4 m (by omega), rII, if_neg (by omega)]
theorem c_tabs_L (hq : q + 3 < 242 ∨ 242 < q) (hq' : q' + 3 < 242 ∨ 242 < q') (ho : nOK o) (ho' : nOK o') : ∀ (n a : Nat) (S : zM), a ≤ 23 → 24 ≤ n + a → nzC S q o → nzC S q' o' → ∃ S', gX11_compareLeads_L3 q q' n S (J ((a : Int) - 11)) = some S' ∧ fr f242 S S' ∧ (∀ k, a ≤ k → k < 23 → ∀ b, b < 23 → tbE S' o o' k b) ∧ ∀ m, m < 23 * a → gI S' 242 m = gI S 242 m := by
  have hf := FUs (n := 24) (by omega)
  intro n
  induction n with
  | zero => intro a S g1 g2; omega
  | succ n ih =>
    intro a S g1 g2 nz nz'
    unfold gX11_compareLeads_L3
    simp only [J_0, J_1, J_2, J_3, J_4, J_5, J_6, J_7, J_8, J_9, J_10, J_11, J_12, J_14, J_15, J_16, J_19, J_20, J_21, J_22, J_23, J_24, J_25, J_28, J_30, J_31, J_32, J_40, J_44, J_47, J_48, J_49, J_50, J_53, J_54, J_57, J_59, J_74, J_75, J_78, J_84, J_97, J_99, J_100, J_120, J_122, J_126, J_132, J_138, J_144, J_150, J_156, J_162, J_198, J_200, J_202, J_206, J_210, J_214, J_218, J_222, J_226, J_230, J_234, J_238, J_239, J_240, J_241, J_242, J_243, J_255, J_263, J_283, J_303, J_399, J_400, J_401, J_463, J_700, J_701, J_999, J_1000, J_2048, J_4095, J_4096, J_6000, J_9999, J_10000, J_65536, J_65537, J_2147483647, J_neg]
    rw [iLT (by decide) (by decide) (by omega) (by omega)]
    by_cases e : a = 23
    · rw [if_pos (by omega)]
      exact ⟨S, rfl, fr_r, fun k k1 k2 => by omega, fun m hm => rfl⟩
    · obtain ⟨S1, u1, u2, u3, u4⟩ := c_tab_L hq hq' ho ho' (a := a) (by omega) FU 0 S (by omega) (by omega) nz nz'
      rw [show ((0 : Nat) : Int) - 11 = -11 from rfl] at u1
      rw [if_neg (show ¬ 11 < (a : Int) - 11 by omega), u1, b1s, J_add, show (a : Int) - 11 + 1 = ((a + 1 : Nat) : Int) - 11 by omega]
      obtain ⟨S', s1, s2, s3, s4⟩ := ih (a + 1) S1 (by omega) (by omega) (nz_242 nz u2 hq) (nz_242 nz' u2 hq')
      refine ⟨S', s1, fr_t u2 s2, fun k k1 k2 b hb => ?_, fun m hm => ?_⟩
      · by_cases z : k = a
        · subst z
          obtain ⟨r, r1, r2, r3⟩ := u3 b (by omega) hb
          exact ⟨r, r1, (s4 _ (by omega)).trans r2, r3⟩
        · exact s3 k (by omega) k2 b hb
      · rw [s4 m (by omega), u4 m (by omega)]
theorem c_table {S : zM} (hq : q + 3 < 242 ∨ 242 < q) (hq' : q' + 3 < 242 ∨ 242 < q') (ho : nOK o) (ho' : nOK o') (nz : nzC S q o) (nz' : nzC S q' o') : ∃ S', gX11_compareLeads S q q' = some S' ∧ fr f242 S S' ∧ ∀ a b, a < 23 → b < 23 → tbE S' o o' a b := by
  obtain ⟨S', s1, s2, s3, -⟩ := c_tabs_L hq hq' ho ho' FU 0 S (by omega) (by have := FUs (n := 24) (by omega); omega) nz nz'
  rw [show ((0 : Nat) : Int) - 11 = -11 from rfl] at s1
  refine ⟨S', ?_, s2, fun a b ha hb => s3 a (by omega) ha b hb⟩
  unfold gX11_compareLeads
  simp only [J_0, J_1, J_2, J_3, J_4, J_5, J_6, J_7, J_8, J_9, J_10, J_11, J_12, J_14, J_15, J_16, J_19, J_20, J_21, J_22, J_23, J_24, J_25, J_28, J_30, J_31, J_32, J_40, J_44, J_47, J_48, J_49, J_50, J_53, J_54, J_57, J_59, J_74, J_75, J_78, J_84, J_97, J_99, J_100, J_120, J_122, J_126, J_132, J_138, J_144, J_150, J_156, J_162, J_198, J_200, J_202, J_206, J_210, J_214, J_218, J_222, J_226, J_230, J_234, J_238, J_239, J_240, J_241, J_242, J_243, J_255, J_263, J_283, J_303, J_399, J_400, J_401, J_463, J_700, J_701, J_999, J_1000, J_2048, J_4095, J_4096, J_6000, J_9999, J_10000, J_65536, J_65537, J_2147483647, J_neg]
  exact s1
end
