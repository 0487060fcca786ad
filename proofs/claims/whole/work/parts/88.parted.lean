/-! parted. -/
def f25 (q _k : Nat) : Prop := q = 25
theorem f25_q {S S' : zM} (f : fr f25 S S') : fr Em0 S S' := fr_w f (fun q k z => by unfold f25 at z; unfold Em0; omega)
theorem f242_q {S S' : zM} (f : fr f242 S S') : fr Eq0 S S' := fr_w f (fun q k z => by unfold f242 at z; unfold Eq0; omega)
section
variable {SC SM : zM} {H s u : Nat}
theorem m_pun (h : mSense SM s) (hs : s < 6) (h' : mSense SM u) (hu : u < 6) {x y : Int} (hx : 0 ≤ x ∧ x ≤ 400) (hy : 0 ≤ y ∧ y ≤ 400) : ∃ (r : Int) (SM' : zM), (r = 0 ∨ r = 1) ∧ gX12_arePairsUnlike SM (J s) (J u) (J x) (J y) = some (J r, SM') ∧ fr f25 SM SM' ∧ (r = 0 ↔ lkA (nS SM s) (nS SM u) (lvS SM s y - lvS SM s x) (lvS SM u y - lvS SM u x)) := by
  have k1 := fK_b h
  have k2 := fK_b h'
  have ho : nOK (nS SM s) := mN_ok h ⟨k1.1, k1.2.1⟩
  have ho' : nOK (nS SM u) := mN_ok h' ⟨k2.1, k2.2.1⟩
  have W1 := nAll_hi ho
  have W2 := nAll_hi ho'
  have V1 := nAll_lo ho
  have V2 := nAll_lo ho'
  have X1 := nSq_hi ho
  have X2 := nSq_hi ho'
  have Y1 : 0 ≤ nAll (nS SM s) * nAll (nS SM s) := Int.mul_nonneg (by omega) (by omega)
  have Y2 : 0 ≤ nAll (nS SM u) * nAll (nS SM u) := Int.mul_nonneg (by omega) (by omega)
  have c1 := m_all (S := SM) hs k1.2.1
  have c2 := m_all (S := SM) hu k2.2.1
  rw [show mN SM s (fK SM s) = nS SM s from rfl] at c1
  rw [show mN SM u (fK SM u) = nS SM u from rfl] at c2
  obtain ⟨S1, p1, p2, p3, p4⟩ := m_pairs h hs hx hy
  obtain ⟨h1, e1, e2, e3⟩ := mSense_25 h' p2
  obtain ⟨S2, q1, q2, q3, q4⟩ := m_pairs h1 hu hx hy
  rw [e2, e3, e3] at q3 q4
  have B1 := pOd_b2 ho (lvS SM s y - lvS SM s x) (Or.inl rfl)
  have B2 := pOd_b2 ho (lvS SM s y - lvS SM s x) (Or.inr rfl)
  have B3 := pOd_b2 ho' (lvS SM u y - lvS SM u x) (Or.inl rfl)
  have B4 := pOd_b2 ho' (lvS SM u y - lvS SM u x) (Or.inr rfl)
  have D1 := sml2 B1 ⟨Y2, X2⟩
  have D2 := sml2 B2 ⟨Y2, X2⟩
  have D3 := sml2 B3 ⟨Y1, X1⟩
  have D4 := sml2 B4 ⟨Y1, X1⟩
  have i0 : ix (J 0) = 0 := by decide
  have i1 : ix (J 1) = 1 := by decide
  have j0 : ixb (J 0) 3 = true := by decide
  have j1 : ixb (J 1) 3 = true := by decide
  have f : fr f25 SM S2 := fr_t p2 q2
  unfold gX12_arePairsUnlike
  simp only [J_0, J_1, J_2, J_3, J_4, J_5, J_6, J_7, J_8, J_9, J_10, J_11, J_12, J_14, J_15, J_16, J_19, J_20, J_21, J_22, J_23, J_24, J_25, J_28, J_30, J_31, J_32, J_40, J_44, J_47, J_48, J_49, J_50, J_53, J_54, J_57, J_59, J_74, J_75, J_78, J_84, J_97, J_99, J_100, J_120, J_122, J_126, J_132, J_138, J_144, J_150, J_156, J_162, J_198, J_200, J_202, J_206, J_210, J_214, J_218, J_222, J_226, J_230, J_234, J_238, J_239, J_240, J_241, J_242, J_243, J_255, J_263, J_283, J_303, J_399, J_400, J_401, J_463, J_700, J_701, J_999, J_1000, J_2048, J_4095, J_4096, J_6000, J_9999, J_10000, J_65536, J_65537, J_2147483647, J_neg, m_fullOf h hs, m_fullOf h' hu, c1, c2, ckt, b1s, b2s, lts, un2s, un3s, un4s, un5s, lmr, lml, lgr, lgl, p1, q1, i0, i1, j0, j1, p3, p4, q3, q4]
  rw [J_toL (by omega) (by omega), J_toL (by omega) (by omega), J_toL (by omega) (by omega), J_toL (by omega) (by omega), J_toL (by omega) (by omega), J_toL (by omega) (by omega)]
  simp only [JL_neg, JL_add, JL_sub, JL_mul, Int.mul_assoc]
  rw [iEQl (by omega) (by omega) (by omega) (by omega), iEQl (by omega) (by omega) (by omega) (by omega)]
  by_cases z : lkE (nS SM s) (nS SM u) (lvS SM s y - lvS SM s x) (lvS SM u y - lvS SM u x) 0
  · have z' := z
    unfold lkE at z'
    rw [if_pos z']
    by_cases w : lkE (nS SM s) (nS SM u) (lvS SM s y - lvS SM s x) (lvS SM u y - lvS SM u x) 1
    · have w' := w
      unfold lkE at w'
      rw [if_pos w']
      exact ⟨0, S2, Or.inl rfl, rfl, f, fun _ => ⟨z, w⟩, fun _ => rfl⟩
    · have w' := w
      unfold lkE at w'
      rw [if_neg w']
      exact ⟨1, S2, Or.inr rfl, rfl, f, fun v => absurd v (by decide), fun v => absurd v.2 w⟩
  · have z' := z
    unfold lkE at z'
    rw [if_neg z']
    exact ⟨1, S2, Or.inr rfl, rfl, f, fun v => absurd v (by decide), fun v => absurd v.1 z⟩
theorem pp_in {x fm to' : Int} (hx : 0 ≤ x ∧ x ≤ 400) (hto : 0 ≤ to' ∧ to' ≤ 400) {o o' : Nat → Int} (tb : ∀ a b, a < 23 → b < 23 → tbE SC o o' a b) : ∀ (n : Nat) (y : Int) (SM : zM), rHall SC SM H → (s : Int) < cnt SM 0 → (u : Int) < cnt SM 0 → nS SM s = o → nS SM u = o' → 0 ≤ y → y ≤ 401 → 402 ≤ n + y → ∃ SM', fr f25 SM SM' ∧ ((∃ r : Int32, gX11_pairParted_L25 SC (H + 7 + 31 * s) (H + 7 + 31 * u) (J fm) (J to') (J x) n (J y) = some (.inl (r, SC)) ∧ gX12_parted_L122 (J s) (J u) (J 0) (J fm) (J to') (J x) n SM (J y) = some (.inl (r, SM'))) ∨ (gX11_pairParted_L25 SC (H + 7 + 31 * s) (H + 7 + 31 * u) (J fm) (J to') (J x) n (J y) = some (.inr ()) ∧ gX12_parted_L122 (J s) (J u) (J 0) (J fm) (J to') (J x) n SM (J y) = some (.inr SM'))) := by
  intro n
  induction n with
  | zero => intro y SM _ _ _ _ _ h1 h2; omega
  | succ n ih =>
    intro y SM hh hs hu eo eo' h1 h2 h3
    have hS := hh.2.2.2.1 s hs
    have hU := hh.2.2.2.1 u hu
    have h6 := hh.2.1.1.2
    unfold gX11_pairParted_L25 gX12_parted_L122
    simp only [J_0, J_1, J_2, J_3, J_4, J_5, J_6, J_7, J_8, J_9, J_10, J_11, J_12, J_14, J_15, J_16, J_19, J_20, J_21, J_22, J_23, J_24, J_25, J_28, J_30, J_31, J_32, J_40, J_44, J_47, J_48, J_49, J_50, J_53, J_54, J_57, J_59, J_74, J_75, J_78, J_84, J_97, J_99, J_100, J_120, J_122, J_126, J_132, J_138, J_144, J_150, J_156, J_162, J_198, J_200, J_202, J_206, J_210, J_214, J_218, J_222, J_226, J_230, J_234, J_238, J_239, J_240, J_241, J_242, J_243, J_255, J_263, J_283, J_303, J_399, J_400, J_401, J_463, J_700, J_701, J_999, J_1000, J_2048, J_4095, J_4096, J_6000, J_9999, J_10000, J_65536, J_65537, J_2147483647, J_neg, if_true]
    rw [iLT (by omega) (by omega) (by omega) (by omega), iLT (by omega) (by omega) (by omega) (by omega)]
    by_cases e : to' < y
    · rw [if_pos e, if_pos e]
      exact ⟨SM, fr_r, Or.inr ⟨rfl, rfl⟩⟩
    · obtain ⟨r, SM', r1, r2, r3, r4⟩ := m_pun hS.1 (by omega) hU.1 (by omega) hx (y := y) ⟨h1, by omega⟩
      have b1' := lvS_b hS.1 hx.1 hx.2
      have b2' := lvS_b hU.1 hx.1 hx.2
      have b3' := lvS_b hS.1 h1 (by omega)
      have b4' := lvS_b hU.1 h1 (by omega)
      have lp := c_leadPlace (l := lvS SM s y - lvS SM s x) (l' := lvS SM u y - lvS SM u x) (by omega) (by omega)
      rw [eo, eo', lkA_cl] at r4
      obtain ⟨A, hA⟩ : ∃ A : Nat, clp (lvS SM s y - lvS SM s x) + 11 = A := ⟨(clp (lvS SM s y - lvS SM s x) + 11).toNat, by unfold clp; omega⟩
      obtain ⟨B, hB⟩ : ∃ B : Nat, clp (lvS SM u y - lvS SM u x) + 11 = B := ⟨(clp (lvS SM u y - lvS SM u x) + 11).toNat, by unfold clp; omega⟩
      have hA3 : A < 23 := by unfold clp at hA; omega
      have hB3 : B < 23 := by unfold clp at hB; omega
      rw [hA, hB, show (A : Int) * 23 + B = ((23 * A + B : Nat) : Int) by omega] at lp
      obtain ⟨v, v1, v2, v3⟩ := tb A B hA3 hB3
      rw [show (A : Int) - 11 = clp (lvS SM s y - lvS SM s x) by omega, show (B : Int) - 11 = clp (lvS SM u y - lvS SM u x) by omega] at v3
      have vr : v = 0 ↔ ¬ r = 0 := by
        rw [r4, ← v3]
        omega
      rw [if_neg e, if_neg e, r2, b2s]
      simp only [lvS_C hS hx.1 hx.2, lvS_C hU hx.1 hx.2, lvS_C hS h1 (show y ≤ 400 by omega), lvS_C hU h1 (show y ≤ 400 by omega), ckt, b1s, b2s, lts, un2s, un3s, un4s, un5s, lmr, lml, lgr, lgl]
      rw [J_sub, J_sub, lp, b1s, ixb_J (by omega) (by omega) (by decide), ckt, ix_J (by omega) (by omega), Int.toNat_natCast, v2, iEQ (by omega) (by omega) (by decide) (by decide), iEQ (by omega) (by omega) (by decide) (by decide)]
      by_cases z : r = 0
      · rw [if_pos z, if_neg (fun w => (vr.mp w) z), J_add]
        obtain ⟨h1', e1, e2, e3⟩ := mSense_25 hS.1 r3
        obtain ⟨h2', d1, d2, d3⟩ := mSense_25 hU.1 r3
        obtain ⟨SM'', w1, w2⟩ := ih (y + 1) SM' (rHall_q hh fr_r (f25_q r3)) (by rw [cnt_q (f25_q r3)]; exact hs) (by rw [cnt_q (f25_q r3)]; exact hu) (e2.trans eo) (d2.trans eo') (by omega) (by omega) (by omega)
        exact ⟨SM'', fr_t r3 w1, w2⟩
      · rw [if_neg z, if_pos (vr.mpr z)]
        exact ⟨SM', r3, Or.inl ⟨_, rfl, rfl⟩⟩
theorem pp_out {fm to' : Int} (hf : 0 ≤ fm) (hto : 0 ≤ to' ∧ to' ≤ 400) {o o' : Nat → Int} (tb : ∀ a b, a < 23 → b < 23 → tbE SC o o' a b) : ∀ (n : Nat) (x : Int) (SM : zM), rHall SC SM H → (s : Int) < cnt SM 0 → (u : Int) < cnt SM 0 → nS SM s = o → nS SM u = o' → fm ≤ x → x ≤ 401 → 402 ≤ n + x → ∃ (r : Int32) (SM' : zM), fr f25 SM SM' ∧ gX11_pairParted_L15 SC (H + 7 + 31 * s) (H + 7 + 31 * u) (J fm) (J to') n (J x) = some (r, SC) ∧ gX12_parted_L88 (J s) (J u) (J 0) (J fm) (J to') n SM (J x) = some (r, SM') := by
  intro n
  induction n with
  | zero => intro x SM _ _ _ _ _ h1 h2; omega
  | succ n ih =>
    intro x SM hh hs hu eo eo' h1 h2 h3
    have hS := hh.2.2.2.1 s hs
    have hU := hh.2.2.2.1 u hu
    unfold gX11_pairParted_L15 gX12_parted_L88
    simp only [J_0, J_1, J_2, J_3, J_4, J_5, J_6, J_7, J_8, J_9, J_10, J_11, J_12, J_14, J_15, J_16, J_19, J_20, J_21, J_22, J_23, J_24, J_25, J_28, J_30, J_31, J_32, J_40, J_44, J_47, J_48, J_49, J_50, J_53, J_54, J_57, J_59, J_74, J_75, J_78, J_84, J_97, J_99, J_100, J_120, J_122, J_126, J_132, J_138, J_144, J_150, J_156, J_162, J_198, J_200, J_202, J_206, J_210, J_214, J_218, J_222, J_226, J_230, J_234, J_238, J_239, J_240, J_241, J_242, J_243, J_255, J_263, J_283, J_303, J_399, J_400, J_401, J_463, J_700, J_701, J_999, J_1000, J_2048, J_4095, J_4096, J_6000, J_9999, J_10000, J_65536, J_65537, J_2147483647, J_neg, if_true]
    rw [iLT (by omega) (by omega) (by omega) (by omega), iLT (by omega) (by omega) (by omega) (by omega)]
    by_cases e : to' < x
    · rw [if_pos e, if_pos e]
      exact ⟨_, SM, fr_r, rfl, rfl⟩
    · rw [if_neg e, if_neg e]
      obtain ⟨SM', w1, w2⟩ := pp_in (x := x) (fm := fm) ⟨by omega, by omega⟩ hto tb FU fm SM hh hs hu eo eo' hf (by omega) (by have := FUs (n := 402) (by omega); omega)
      rcases w2 with ⟨r, w2, w3⟩ | ⟨w2, w3⟩
      · rw [w2, w3, lml, lml]
        exact ⟨r, SM', w1, rfl, rfl⟩
      · rw [w2, w3, lmr, lmr, J_add]
        obtain ⟨h1', e1, e2, e3⟩ := mSense_25 hS.1 w1
        obtain ⟨h2', d1, d2, d3⟩ := mSense_25 hU.1 w1
        obtain ⟨r, SM'', q1, q2, q3⟩ := ih (x + 1) SM' (rHall_q hh fr_r (f25_q w1)) (by rw [cnt_q (f25_q w1)]; exact hs) (by rw [cnt_q (f25_q w1)]; exact hu) (e2.trans eo) (d2.trans eo') (by omega) (by omega) (by omega)
        exact ⟨r, SM'', fr_t w1 q1, q2, q3⟩
/-- kind 0 -/
theorem part_0 {fm to' : Int} (hh : rHall SC SM H) (hs : (s : Int) < cnt SM 0) (hu : (u : Int) < cnt SM 0) (hf : 0 ≤ fm) (hft : fm ≤ to') (hto : to' ≤ 400) : ∃ (r : Int32) (SC' SM' : zM), fr f242 SC SC' ∧ fr f25 SM SM' ∧ gX11_pairParted SC (H + 7 + 31 * s) (H + 7 + 31 * u) (J fm) (J to') = some (r, SC') ∧ gX12_parted_L88 (J s) (J u) (J 0) (J fm) (J to') FU SM (J fm) = some (r, SM') := by
  have hS := hh.2.2.2.1 s hs
  have hU := hh.2.2.2.1 u hu
  have h6 := hh.2.1.1.2
  have hH := hh.1.1
  have k1 := fK_b hS.1
  have k2 := fK_b hU.1
  obtain ⟨f1, nz, ho⟩ := c_fresh hS
  obtain ⟨f2, nz', ho'⟩ := c_fresh hU
  obtain ⟨SC', t1, t2, t3⟩ := c_table (by omega) (by omega) ho ho' nz nz'
  obtain ⟨r, SM', q1, q2, q3⟩ := pp_out hf ⟨by omega, hto⟩ t3 FU fm SM (rHall_q hh (f242_q t2) fr_r) hs hu rfl rfl (Int.le_refl fm) (by omega) (by have := FUs (n := 402) (by omega); omega)
  refine ⟨r, SC', SM', t2, q1, ?_, q3⟩
  unfold gX11_pairParted
  rw [f1, b1s, f2, b1s, t1, b1s]
  exact q2
/-- the other kinds -/
theorem part_13 {fm to' kd : Int} (hk : kd = 1 ∨ kd = 3) (hh : rHall SC SM H) (hs : (s : Int) < cnt SM 0) (hu : (u : Int) < cnt SM 0) (hf : 0 ≤ fm) (hto : 0 ≤ to' ∧ to' ≤ 400) : ∀ (n : Nat) (x : Int), fm ≤ x → x ≤ 401 → 402 ≤ n + x → ∃ r : Int32, gX11_parted_L145 SC (J kd) (J to') (H + 7 + 31 * s) (H + 7 + 31 * u) n (J x) = some (r, SC) ∧ gX12_parted_L88 (J s) (J u) (J kd) (J fm) (J to') n SM (J x) = some (r, SM) := by
  have hS := hh.2.2.2.1 s hs
  have hU := hh.2.2.2.1 u hu
  have h6 := hh.2.1.1.2
  have k0 : ¬ J kd = J 0 := by rcases hk with z | z <;> subst z <;> decide
  intro n
  induction n with
  | zero => intro x h1 h2; omega
  | succ n ih =>
    intro x h1 h2 h3
    unfold gX11_parted_L145 gX12_parted_L88
    simp only [J_0, J_1, J_2, J_3, J_4, J_5, J_6, J_7, J_8, J_9, J_10, J_11, J_12, J_14, J_15, J_16, J_19, J_20, J_21, J_22, J_23, J_24, J_25, J_28, J_30, J_31, J_32, J_40, J_44, J_47, J_48, J_49, J_50, J_53, J_54, J_57, J_59, J_74, J_75, J_78, J_84, J_97, J_99, J_100, J_120, J_122, J_126, J_132, J_138, J_144, J_150, J_156, J_162, J_198, J_200, J_202, J_206, J_210, J_214, J_218, J_222, J_226, J_230, J_234, J_238, J_239, J_240, J_241, J_242, J_243, J_255, J_263, J_283, J_303, J_399, J_400, J_401, J_463, J_700, J_701, J_999, J_1000, J_2048, J_4095, J_4096, J_6000, J_9999, J_10000, J_65536, J_65537, J_2147483647, J_neg]
    rw [iLT (by omega) (by omega) (by omega) (by omega), iLT (by omega) (by omega) (by omega) (by omega), if_neg k0]
    by_cases e : to' < x
    · rw [if_pos e, if_pos e]
      exact ⟨_, rfl, rfl⟩
    · rw [if_neg e, if_neg e]
      have nx : ∀ S : zM, gX12_parted_L122 (J s) (J u) (J kd) (J fm) (J to') (J x) FU S (J fm) = some (.inr S) := by
        intro S
        obtain ⟨m, hm⟩ : ∃ m, FU = m + 1 := ⟨FU - 1, by have := FUs (n := 402) (by omega); omega⟩
        rw [hm]
        unfold gX12_parted_L122
        simp only [J_0, J_1, J_2, J_3, J_4, J_5, J_6, J_7, J_8, J_9, J_10, J_11, J_12, J_14, J_15, J_16, J_19, J_20, J_21, J_22, J_23, J_24, J_25, J_28, J_30, J_31, J_32, J_40, J_44, J_47, J_48, J_49, J_50, J_53, J_54, J_57, J_59, J_74, J_75, J_78, J_84, J_97, J_99, J_100, J_120, J_122, J_126, J_132, J_138, J_144, J_150, J_156, J_162, J_198, J_200, J_202, J_206, J_210, J_214, J_218, J_222, J_226, J_230, J_234, J_238, J_239, J_240, J_241, J_242, J_243, J_255, J_263, J_283, J_303, J_399, J_400, J_401, J_463, J_700, J_701, J_999, J_1000, J_2048, J_4095, J_4096, J_6000, J_9999, J_10000, J_65536, J_65537, J_2147483647, J_neg]
        rw [if_neg k0]
        split <;> rfl
      obtain ⟨r, r1, r2⟩ := ih (x + 1) (by omega) (by omega) (by omega)
      rcases hk with z | z
      · subst z
        obtain ⟨v, v1, v2, v3⟩ := alone_un hS (by omega) hU (by omega) (x := x) (by omega) (by omega)
        rw [if_pos rfl, v2, b1s, v3, b1s, iEQ (by omega) (by omega) (by decide) (by decide), iEQ (by omega) (by omega) (by decide) (by decide)]
        by_cases y : v = 0
        · rw [if_pos y, if_pos y, nx, lmr, J_add]
          exact ⟨r, r1, r2⟩
        · rw [if_neg y, if_neg y]
          exact ⟨_, rfl, rfl⟩
      · subst z
        obtain ⟨v, v1, v2, v3⟩ := number_un hS (by omega) hU (by omega) (x := x) (by omega) (by omega)
        rw [if_neg (show ¬ J 3 = J 1 by decide), v2, b1s, v3, b1s, iEQ (by omega) (by omega) (by decide) (by decide), iEQ (by omega) (by omega) (by decide) (by decide)]
        by_cases y : v = 0
        · rw [if_pos y, if_pos y, nx, lmr, J_add]
          exact ⟨r, r1, r2⟩
        · rw [if_neg y, if_neg y]
          exact ⟨_, rfl, rfl⟩
end
