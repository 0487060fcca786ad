/-! Which seconds the book lets, by the class. -/
def tpG (g : Int) : Nat := if g = 0 then 2 else 1
theorem pOd_all {o : Nat → Int} (ho : nOK o) (l : Int) (g : Bool) (a : Int) : 0 ≤ pOd o l g a ∧ pOd o l g a ≤ nAll o * nAll o := by
  have h1 := nPab_lo ho (-l - 1)
  have h2 := nPab_hi ho (-l - 1)
  have h3 := nPab_lo ho (-l)
  have h4 := nPab_hi ho (-l)
  have h5 := nPab_anti ho (show -l - 1 ≤ -l by omega)
  unfold pOd
  repeat' split
  all_goals omega
theorem c_sc_in {q N c : Nat} {v g : Int} {o : Nat → Int} (ho : nOK o) (hq : q + 3 < 233 ∨ 238 < q) (hc : c < 1000) (hv : -900000 ≤ v ∧ v ≤ 900000) (hg : g = 0 ∨ g = 1) (hN : 1 ≤ N ∧ N ≤ 40) {K : Nat → Nat} (hK : ∀ a, a ≤ tpG g → K a ≤ N) {v1 v3 : Int32} {v2 : Nat} : ∀ (n j : Nat) (S : zM), j ≤ tpG g + 1 → 4 ≤ n + j → nzC S q o → gI S 227 c = J N → (∀ a, a ≤ tpG g → gI S 228 (3 * c + a) = J (K a)) → rSpans S → ∃ S', fr fC S S' ∧ rSpans S' ∧ ((gX2_secondLets_L81 v1 v2 v3 (J g) q (J (tpG g)) (J c) (J v) n S (J j) = some (.inl (J 0, S')) ∧ ¬ ∀ a, j ≤ a → a ≤ tpG g → spI N (pOd o v (decide (g = 1)) a) (nAll o * nAll o) (K a)) ∨ (gX2_secondLets_L81 v1 v2 v3 (J g) q (J (tpG g)) (J c) (J v) n S (J j) = some (.inr S') ∧ ∀ a, j ≤ a → a ≤ tpG g → spI N (pOd o v (decide (g = 1)) a) (nAll o * nAll o) (K a))) := by
  have hW := nSq_hi ho
  have hW1 := nAll_lo ho
  have hW0 : 1 * 1 ≤ nAll o * nAll o := Int.mul_le_mul hW1 hW1 (by omega) (by omega)
  have ht : tpG g = 2 ∨ tpG g = 1 := by unfold tpG; split <;> omega
  intro n
  induction n with
  | zero => intro j S g1 g2; omega
  | succ n ih =>
    intro j S g1 g2 nz h7 h8 hs
    unfold gX2_secondLets_L81
    simp only [J_0, J_1, J_2, J_3, J_4, J_5, J_6, J_7, J_8, J_9, J_10, J_11, J_12, J_14, J_15, J_16, J_19, J_20, J_21, J_22, J_23, J_24, J_25, J_28, J_30, J_31, J_32, J_40, J_44, J_47, J_48, J_49, J_50, J_53, J_54, J_57, J_59, J_74, J_75, J_78, J_84, J_97, J_99, J_100, J_120, J_122, J_126, J_132, J_138, J_144, J_150, J_156, J_162, J_198, J_200, J_202, J_206, J_210, J_214, J_218, J_222, J_226, J_230, J_234, J_238, J_239, J_240, J_241, J_242, J_243, J_255, J_263, J_283, J_303, J_399, J_400, J_401, J_463, J_700, J_701, J_999, J_1000, J_2048, J_4095, J_4096, J_6000, J_9999, J_10000, J_65536, J_65537, J_2147483647, J_neg]
    rw [iLT (by omega) (by omega) (by omega) (by omega)]
    by_cases e : j = tpG g + 1
    · rw [if_pos (by omega)]
      exact ⟨S, fr_r, hs, Or.inr ⟨rfl, fun a a1 a2 => by omega⟩⟩
    · have x1 : ixb (J (c : Int)) 1000 = true := ixb_J (by omega) (by omega) (by decide)
      have y1 : ix (J (c : Int)) = c := by rw [ix_J (by omega) (by omega)]; omega
      have x2 : ixb (J ((c : Int) * 3 + j)) 3000 = true := ixb_J (by omega) (by omega) (by decide)
      have y2 : ix (J ((c : Int) * 3 + j)) = 3 * c + j := by rw [ix_J (by omega) (by omega)]; omega
      have od := c_pairOdds (v := v) (g := g) (a := (j : Int)) nz (by omega) (by omega) hg (by omega) (by omega)
      have wb := pOd_all ho v (decide (g = 1)) j
      obtain ⟨S1, r1, r2, r3⟩ := c_spHolds (n := N) (x := pOd o v (decide (g = 1)) j) (y := nAll o * nAll o) (k := K j) hs hN wb.1 wb.2 (by omega) (hK j (by omega))
      rw [if_neg (by omega), x1, ckt, od, b1s, c_pairs nz, b1s, J_mul, J_add, x2, ckt, y1, y2, h7, h8 j (by omega), r1, b2s, iB0]
      by_cases z : N - spH N (nAll o * nAll o - pOd o v (decide (g = 1)) j) (pOd o v (decide (g = 1)) j) ≤ K j ∧ K j ≤ spH N (pOd o v (decide (g = 1)) j) (nAll o * nAll o - pOd o v (decide (g = 1)) j)
      · rw [if_pos z, J_add, show (j : Int) + 1 = ((j + 1 : Nat) : Int) by omega]
        obtain ⟨S', q1, q2, q3⟩ := ih (j + 1) S1 (by omega) (by omega) (nz_fC nz r2 hq) ((r2.1 227 c (by unfold fC; omega)).trans h7) (fun a ha => (r2.1 228 _ (by unfold fC; omega)).trans (h8 a ha)) r3
        refine ⟨S', fr_t r2 q1, q2, ?_⟩
        rcases q3 with ⟨w1, w2⟩ | ⟨w1, w2⟩
        · exact Or.inl ⟨w1, fun w => w2 (fun a a1 a2 => w a (by omega) a2)⟩
        · refine Or.inr ⟨w1, fun a a1 a2 => ?_⟩
          by_cases y : a = j
          · rw [y]; exact z
          · exact w2 a (by omega) a2
      · rw [if_neg z]
        exact ⟨S1, r2, r3, Or.inl ⟨rfl, fun w => z (w j (Nat.le_refl j) (by omega))⟩⟩
/-- a second line is let, by one row's key -/
def scR (SM : zM) (s : Nat) (x g : Int) (i : Nat) : Prop := ∀ a : Nat, a ≤ tpG g → spI (nK SM (bkn SM) (iI SM 8 i) (iI SM 9 i) (iI SM 10 i) (iI SM 11 i)).toNat (pOd (nS SM s) (lvS SM s (iI SM 11 i) + x - lvS SM s (iI SM 10 i)) (decide (g = 1)) a) (nAll (nS SM s) * nAll (nS SM s)) (nKA SM (bkn SM) (iI SM 8 i) (iI SM 9 i) (iI SM 10 i) (iI SM 11 i) a).toNat
def secOK (SM : zM) (p : Int) (s : Nat) (x g : Int) : Prop := ∀ i : Nat, i < bkn SM → iI SM 8 i = p → iI SM 9 i = 0 → scR SM s x g i
theorem c_sc_L {SC SM : zM} {H s u : Nat} {p : Int} {l g : Int} (hse : rSense SC SM H s) (hH : H = 6 ∨ H = 243) (hs6 : s < 6) (hp : 0 ≤ p ∧ p < 6) (hl : -1000 ≤ l ∧ l ≤ 1000) (hg : g = 0 ∨ g = 1) (hcl : clP SC SM u p) (hnf : notFull SM p) : ∀ (n c : Nat) (S : zM), c ≤ u → u < n + c → fr fC SC S → rSpans S → ∃ (r : Int) (S' : zM), (r = 0 ∨ r = 1) ∧ gX2_secondLets_L21 (J p) (H + 7 + 31 * s) (J l) (J g) (H + 7 + 31 * s + 7 + 4 * (fK SM s - 1)) (J (tpG g)) n S (J c) = some (J r, S') ∧ fr fC SC S' ∧ rSpans S' ∧ (r = 1 ↔ ∀ d : Nat, c ≤ d → d < u → ∀ i : Nat, i < bkn SM → sameK SC SM d i → iI SM 8 i = p → iI SM 9 i = 0 → scR SM s l g i) := by
  obtain ⟨f1, nz0, ho⟩ := c_fresh hse
  rw [show mN SM s (fK SM s) = nS SM s from rfl] at ho nz0
  have hk := fK_b hse.1
  obtain ⟨h7, hu, hcs⟩ := hcl
  intro n
  induction n with
  | zero => intro c S g1 g2; omega
  | succ n ih =>
    intro c S g1 g2 f hs
    unfold gX2_secondLets_L21
    simp only [J_0, J_1, J_2, J_3, J_4, J_5, J_6, J_7, J_8, J_9, J_10, J_11, J_12, J_14, J_15, J_16, J_19, J_20, J_21, J_22, J_23, J_24, J_25, J_28, J_30, J_31, J_32, J_40, J_44, J_47, J_48, J_49, J_50, J_53, J_54, J_57, J_59, J_74, J_75, J_78, J_84, J_97, J_99, J_100, J_120, J_122, J_126, J_132, J_138, J_144, J_150, J_156, J_162, J_198, J_200, J_202, J_206, J_210, J_214, J_218, J_222, J_226, J_230, J_234, J_238, J_239, J_240, J_241, J_242, J_243, J_255, J_263, J_283, J_303, J_399, J_400, J_401, J_463, J_700, J_701, J_999, J_1000, J_2048, J_4095, J_4096, J_6000, J_9999, J_10000, J_65536, J_65537, J_2147483647, J_neg]
    rw [f.1 221 7 (by unfold fC; omega), h7, iLE (by omega) (by omega) (by omega) (by omega)]
    by_cases e : c = u
    · subst e
      rw [if_pos (by omega)]
      exact ⟨1, S, Or.inr rfl, rfl, f, hs, fun _ d d1 d2 => by omega, fun _ => rfl⟩
    · obtain ⟨i, i1, i2, i3, i4, i5, i6⟩ := hcs c (by omega)
      have x1 : ixb (J (c : Int)) 1000 = true := ixb_J (by omega) (by omega) (by decide)
      have y1 : ix (J (c : Int)) = c := by rw [ix_J (by omega) (by omega)]; omega
      have m8 := i4.1
      have m9 := i4.2.1
      have m10 := i4.2.2.1
      have m11 := i4.2.2.2.1
      have uq : ∀ i' : Nat, sameK SC SM c i' → iI SM 8 i' = iI SM 8 i ∧ iI SM 9 i' = iI SM 9 i ∧ iI SM 10 i' = iI SM 10 i ∧ iI SM 11 i' = iI SM 11 i := fun i' q => ⟨(iI_c q.1).symm.trans (iI_c i3.1), (iI_c q.2.1).symm.trans (iI_c i3.2.1), (iI_c q.2.2.1).symm.trans (iI_c i3.2.2.1), (iI_c q.2.2.2).symm.trans (iI_c i3.2.2.2)⟩
      rw [if_neg (by omega), x1, ckt, ckt, ckt, y1, f.1 223 c (by unfold fC; omega), f.1 224 c (by unfold fC; omega), f.1 226 c (by unfold fC; omega), f.1 225 c (by unfold fC; omega), i3.1, i3.2.1, i3.2.2.2, i3.2.2.1, gI_J SM 8, gI_J SM 9, gI_J SM 11, gI_J SM 10, iEQ (by omega) (by omega) (by omega) (by omega), iEQ (by omega) (by omega) (by decide) (by decide), J_add, show (c : Int) + 1 = ((c + 1 : Nat) : Int) by omega]
      have skip : (iI SM 8 i = p → ¬ iI SM 9 i = 0) → ∃ (r : Int) (S' : zM), (r = 0 ∨ r = 1) ∧ gX2_secondLets_L21 (J p) (H + 7 + 31 * s) (J l) (J g) (H + 7 + 31 * s + 7 + 4 * (fK SM s - 1)) (J (tpG g)) n S (J ((c + 1 : Nat) : Int)) = some (J r, S') ∧ fr fC SC S' ∧ rSpans S' ∧ (r = 1 ↔ ∀ d : Nat, c ≤ d → d < u → ∀ i : Nat, i < bkn SM → sameK SC SM d i → iI SM 8 i = p → iI SM 9 i = 0 → scR SM s l g i) := by
        intro no
        obtain ⟨r, S', a1, a2, a3, a4, a5⟩ := ih (c + 1) S (by omega) (by omega) f hs
        refine ⟨r, S', a1, a2, a3, a4, a5.trans ⟨fun w d d1 d2 i' b1 b2 b3 b4 => ?_, fun w d d1 d2 => w d (by omega) d2⟩⟩
        by_cases y : d = c
        · rw [y] at b2
          have := uq i' b2
          exact absurd (by rw [← this.2.1]; exact b4) (no (by rw [← this.1]; exact b3))
        · exact w d (by omega) d2 i' b1 b2 b3 b4
      by_cases z : iI SM 8 i = p
      · rw [if_pos z]
        by_cases w : iI SM 9 i = 0
        · have hN1 := nK_pos (n := bkn SM) i1 (show isK SM i (iI SM 8 i) (iI SM 9 i) (iI SM 10 i) (iI SM 11 i) from ⟨rfl, rfl, rfl, rfl⟩)
          have hN2 := hnf i i1 z i2
          rw [← z] at hN2
          have lb := lvS_b hse.1 m10.1 m10.2
          have lb2 := lvS_b hse.1 m11.1 m11.2
          have nb : ∀ a : Nat, _ := fun a => nKA_bd (S := SM) (n := bkn SM) (p := iI SM 8 i) (k := iI SM 9 i) (a := iI SM 10 i) (b := iI SM 11 i) (an := a)
          have nz : nzC S (H + 7 + 31 * s + 7 + 4 * (fK SM s - 1)) (nS SM s) := nz_fC nz0 f (by omega)
          have lv : gX9_levelAt S (H + 7 + 31 * s) (J (iI SM 10 i)) = some (J (lvS SM s (iI SM 10 i))) := by
            rw [c_levelAt m10.1 m10.2, f.1 _ _ (by unfold fC; omega), hse.2.2.1 _ (by omega), gI_J]
            rfl
          have lv2 : gX9_levelAt S (H + 7 + 31 * s) (J (iI SM 11 i)) = some (J (lvS SM s (iI SM 11 i))) := by
            rw [c_levelAt m11.1 m11.2, f.1 _ _ (by unfold fC; omega), hse.2.2.1 _ (by omega), gI_J]
            rfl
          obtain ⟨S1, q1, q2, q3⟩ := c_sc_in (c := c) (g := g) (N := (nK SM (bkn SM) (iI SM 8 i) (iI SM 9 i) (iI SM 10 i) (iI SM 11 i)).toNat) (v := lvS SM s (iI SM 11 i) + l - lvS SM s (iI SM 10 i)) ho (q := H + 7 + 31 * s + 7 + 4 * (fK SM s - 1)) (by omega) (by omega) (by omega) hg (by omega) (K := fun a => (nKA SM (bkn SM) (iI SM 8 i) (iI SM 9 i) (iI SM 10 i) (iI SM 11 i) a).toNat) (fun a ha => by have := nb a; omega) (v1 := J p) (v3 := J l) (v2 := H + 7 + 31 * s) FU 0 S (by omega) (by have := FUs (n := 10) (by omega); omega) nz (by rw [f.1 227 c (by unfold fC; omega), i5]; congr 1; omega) (fun a ha => by have ht : tpG g = 2 ∨ tpG g = 1 := (by unfold tpG; split <;> omega); rw [f.1 228 _ (by unfold fC; omega), i6 a (by omega)]; congr 1; have := nb a; omega) hs
          rw [show J ((0 : Nat) : Int) = J 0 from rfl] at q3
          rw [if_pos w, lv2, b1s, ckt, lv, b1s, J_add, J_sub]
          rcases q3 with ⟨w1, w2⟩ | ⟨w1, w2⟩
          · rw [w1, lml]
            exact ⟨0, S1, Or.inl rfl, rfl, fr_t f q1, q2, fun v => absurd v (by decide), fun v => absurd (fun a _ a2 => v c (Nat.le_refl c) (by omega) i i1 i3 z w a a2) w2⟩
          · rw [w1, lmr]
            obtain ⟨r, S', a1, a2, a3, a4, a5⟩ := ih (c + 1) S1 (by omega) (by omega) (fr_t f q1) q2
            refine ⟨r, S', a1, a2, a3, a4, a5.trans ⟨fun v d d1 d2 i' b1 b2 b3 b4 => ?_, fun v d d1 d2 => v d (by omega) d2⟩⟩
            by_cases y : d = c
            · rw [y] at b2
              obtain ⟨k1, k2, k3, k4⟩ := uq i' b2
              intro a ha
              rw [k1, k2, k3, k4]
              exact w2 a (Nat.zero_le a) ha
            · exact v d (by omega) d2 i' b1 b2 b3 b4
        · rw [if_neg w]
          exact skip (fun _ => w)
      · rw [if_neg z]
        exact skip (fun v => absurd v z)
theorem c_secondLets {SC SM S : zM} {H s : Nat} {p l g : Int} (hse : rSense SC SM H s) (hH : H = 6 ∨ H = 243) (hs6 : s < 6) (hp : 0 ≤ p ∧ p < 6) (hl : -1000 ≤ l ∧ l ≤ 1000) (hg : g = 0 ∨ g = 1) (hC : rCells SC SM) (hB : rBook SC SM) (hnf : notFull SM p) (f : fr fC SC S) (hs : rSpans S) : ∃ (r : Int) (S' : zM), (r = 0 ∨ r = 1) ∧ gX2_secondLets S (J p) (H + 7 + 31 * s) (J l) (J g) = some (J r, S') ∧ fr fC SC S' ∧ rSpans S' ∧ (r = 1 ↔ secOK SM p s l g) := by
  obtain ⟨u, hcl, hr⟩ := clP_of hC hB p
  have hk := fK_b hse.1
  obtain ⟨r, S', r1, r2, r3, r4, r5⟩ := c_sc_L hse hH hs6 hp hl hg hcl hnf FU 0 S (Nat.zero_le u) (by have := hcl.2.1; have := FUs (n := 1002) (by omega); omega) f hs
  rw [show J ((0 : Nat) : Int) = J 0 from rfl] at r2
  have w := hse.2.1
  rw [gI_J SM] at w
  have ef : gX9_fresh S (H + 7 + 31 * s) = some (H + 7 + 31 * s + 7 + 4 * (fK SM s - 1)) := by
    unfold gX9_fresh
    simp only [J_0, J_1, J_2, J_3, J_4, J_5, J_6, J_7, J_8, J_9, J_10, J_11, J_12, J_14, J_15, J_16, J_19, J_20, J_21, J_22, J_23, J_24, J_25, J_28, J_30, J_31, J_32, J_40, J_44, J_47, J_48, J_49, J_50, J_53, J_54, J_57, J_59, J_74, J_75, J_78, J_84, J_97, J_99, J_100, J_120, J_122, J_126, J_132, J_138, J_144, J_150, J_156, J_162, J_198, J_200, J_202, J_206, J_210, J_214, J_218, J_222, J_226, J_230, J_234, J_238, J_239, J_240, J_241, J_242, J_243, J_255, J_263, J_283, J_303, J_399, J_400, J_401, J_463, J_700, J_701, J_999, J_1000, J_2048, J_4095, J_4096, J_6000, J_9999, J_10000, J_65536, J_65537, J_2147483647, J_neg]
    rw [c_noiseWithout (w := iI SM 3 (78 + s)) ((f.1 _ _ (by unfold fC; omega)).trans w) (by omega), b1s, show (iI SM 3 (78 + s) - 1 - 0).toNat = fK SM s - 1 by omega]
  refine ⟨r, S', r1, ?_, r3, r4, r5.trans ⟨fun v i i1 i2 i3 => ?_, fun v d d1 d2 i i1 i2 i3 i4 => v i i1 i3 i4⟩⟩
  · unfold gX2_secondLets
    simp only [J_0, J_1, J_2, J_3, J_4, J_5, J_6, J_7, J_8, J_9, J_10, J_11, J_12, J_14, J_15, J_16, J_19, J_20, J_21, J_22, J_23, J_24, J_25, J_28, J_30, J_31, J_32, J_40, J_44, J_47, J_48, J_49, J_50, J_53, J_54, J_57, J_59, J_74, J_75, J_78, J_84, J_97, J_99, J_100, J_120, J_122, J_126, J_132, J_138, J_144, J_150, J_156, J_162, J_198, J_200, J_202, J_206, J_210, J_214, J_218, J_222, J_226, J_230, J_234, J_238, J_239, J_240, J_241, J_242, J_243, J_255, J_263, J_283, J_303, J_399, J_400, J_401, J_463, J_700, J_701, J_999, J_1000, J_2048, J_4095, J_4096, J_6000, J_9999, J_10000, J_65536, J_65537, J_2147483647, J_neg]
    rw [ef, b1s]
    rcases hg with z | z
    · subst z
      rw [if_pos rfl]
      exact r2
    · subst z
      rw [if_neg (show ¬ J 1 = J 0 by decide)]
      exact r2
  · obtain ⟨c, c1, c2⟩ := hr i i1 (by omega)
    exact v c (Nat.zero_le c) c1 i i1 c2 i2 i3
