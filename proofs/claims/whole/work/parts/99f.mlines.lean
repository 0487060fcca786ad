/-! Which lines the book lets, by the model: the loop. -/
section
variable {B S0 : zM} {s m : Nat} {p l : Int}
theorem m_ln_0 {S : zM} {v1 v2 v3 : Int32} {d n : Nat} : gX12_letsLine_L17 v1 v2 v3 (n + 1) S (J 0) (J d) = some (J 0, S) := by
  unfold gX12_letsLine_L17
  simp only [J_0, J_1, J_2, J_3, J_4, J_5, J_6, J_7, J_8, J_9, J_10, J_11, J_12, J_14, J_15, J_16, J_19, J_20, J_21, J_22, J_23, J_24, J_25, J_28, J_30, J_31, J_32, J_40, J_44, J_47, J_48, J_49, J_50, J_53, J_54, J_57, J_59, J_74, J_75, J_78, J_84, J_97, J_99, J_100, J_120, J_122, J_126, J_132, J_138, J_144, J_150, J_156, J_162, J_198, J_200, J_202, J_206, J_210, J_214, J_218, J_222, J_226, J_230, J_234, J_238, J_239, J_240, J_241, J_242, J_243, J_255, J_263, J_283, J_303, J_399, J_400, J_401, J_463, J_700, J_701, J_999, J_1000, J_2048, J_4095, J_4096, J_6000, J_9999, J_10000, J_65536, J_65537, J_2147483647, J_neg, if_true, show isB (J 0) = true by decide, ckt, b1s, b2s, lts, un2s, un3s, un4s, un5s, lmr, lml, lgr, lgl]
  split <;> rfl
theorem m_ln_L (hse : mSense S0 s) (hs6 : s < 6) (hl : -1000 ≤ l ∧ l ≤ 1000) (hm : mlP S0 B p m) (hns : nS S0 s = nS B s) (hlv : ∀ x, lvS S0 s x = lvS B s x) (hnf : notFull B p) : ∀ (n d : Nat) (S : zM), d ≤ m → m < n + d → fr fM S0 S → ∃ (r : Int) (S' : zM), (r = 0 ∨ r = 1) ∧ gX12_letsLine_L17 (J s) (J l) (J (nAll (nS B s))) n S (J 1) (J d) = some (J r, S') ∧ fr fM S0 S' ∧ (r = 1 ↔ ∀ e : Nat, d ≤ e → e < m → ∀ i : Nat, i < bkn B → lkey S0 e B i → iI B 8 i = p → iI B 9 i = 1 → lnR B s l i) := by
  have hk := fK_b hse
  have ho : nOK (nS S0 s) := mN_ok hse ⟨hk.1, hk.2.1⟩
  have W1 := nAll_hi ho
  have W0 := nAll_lo ho
  obtain ⟨h34, hm2, hcs, -⟩ := hm
  intro n
  induction n with
  | zero => intro d S g1 g2; omega
  | succ n ih =>
    intro d S g1 g2 f
    have c : ∀ q k, ¬ (15 ≤ q ∧ q ≤ 19) → gI S q k = gI S0 q k := f.1
    unfold gX12_letsLine_L17
    simp only [J_0, J_1, J_2, J_3, J_4, J_5, J_6, J_7, J_8, J_9, J_10, J_11, J_12, J_14, J_15, J_16, J_19, J_20, J_21, J_22, J_23, J_24, J_25, J_28, J_30, J_31, J_32, J_40, J_44, J_47, J_48, J_49, J_50, J_53, J_54, J_57, J_59, J_74, J_75, J_78, J_84, J_97, J_99, J_100, J_120, J_122, J_126, J_132, J_138, J_144, J_150, J_156, J_162, J_198, J_200, J_202, J_206, J_210, J_214, J_218, J_222, J_226, J_230, J_234, J_238, J_239, J_240, J_241, J_242, J_243, J_255, J_263, J_283, J_303, J_399, J_400, J_401, J_463, J_700, J_701, J_999, J_1000, J_2048, J_4095, J_4096, J_6000, J_9999, J_10000, J_65536, J_65537, J_2147483647, J_neg]
    rw [c 0 34 (by omega), h34, iLE (by omega) (by omega) (by omega) (by omega)]
    by_cases e : d = m
    · subst e
      rw [if_pos (by omega), show isB (J 1) = true by decide, ckt]
      exact ⟨1, S, Or.inr rfl, rfl, f, fun _ d d1 d2 => by omega, fun _ => rfl⟩
    · obtain ⟨i, i1, i8, i2, i3, i4, i5, i6⟩ := hcs d (by omega)
      have x1 : ixb (J (d : Int)) 1000 = true := ixb_J (by omega) (by omega) (by decide)
      have y1 : ix (J (d : Int)) = d := by rw [ix_J (by omega) (by omega)]; omega
      have x2 : ixb (J (3 * (d : Int) + 1)) 3000 = true := ixb_J (by omega) (by omega) (by decide)
      have y2 : ix (J (3 * (d : Int) + 1)) = 3 * d + 1 := by rw [ix_J (by omega) (by omega)]; omega
      have x3 : ixb (J (3 * (d : Int))) 3000 = true := ixb_J (by omega) (by omega) (by decide)
      have y3 : ix (J (3 * (d : Int))) = 3 * d := by rw [ix_J (by omega) (by omega)]; omega
      have m9 := i4.2.1
      have m10 := i4.2.2.1
      have uq : ∀ i' : Nat, lkey S0 d B i' → iI B 9 i' = iI B 9 i ∧ iI B 10 i' = iI B 10 i ∧ iI B 11 i' = iI B 11 i := fun i' q => ⟨(iI_c q.1).symm.trans (iI_c i3.1), (iI_c q.2.1).symm.trans (iI_c i3.2.1), (iI_c q.2.2).symm.trans (iI_c i3.2.2)⟩
      rw [if_neg (by omega), if_neg (show ¬ J 1 = J 0 by decide), x1, ckt, y1, c 20 d (by omega), i3.1, gI_J B 9, iEQ (by omega) (by omega) (by decide) (by decide), J_add, show (d : Int) + 1 = ((d + 1 : Nat) : Int) by omega]
      by_cases w : iI B 9 i = 1
      · have hN1 := nK_pos (n := bkn B) i1 (show isK B i (iI B 8 i) (iI B 9 i) (iI B 10 i) (iI B 11 i) from ⟨rfl, rfl, rfl, rfl⟩)
        have hN2 := hnf i i1 i8 i2
        rw [← i8] at hN2
        have nb : ∀ a : Nat, _ := fun a => nKA_bd (S := B) (n := bkn B) (p := iI B 8 i) (k := iI B 9 i) (a := iI B 10 i) (b := iI B 11 i) (an := a)
        have hS : mSense S s := mSense_c hse (fun k => c 3 k (by omega)) (fun k => c 5 k (by omega))
        have en : nS S s = nS B s := by
          rw [← hns]
          unfold nS
          rw [show fK S s = fK S0 s by unfold fK iI; rw [c 3 _ (by omega)], mN_c (fun k => c 3 k (by omega))]
        have el : lvS S s (iI B 10 i) = lvS B s (iI B 10 i) := by
          rw [← hlv]
          unfold lvS iI
          rw [c 5 _ (by omega)]
        have od := m_lnodd hS hs6 m10.1 m10.2 hl (show d < 1000 by omega) (show gI S 21 d = J (iI B 10 i) by rw [c 21 d (by omega), i3.2.1, gI_J B 10]) (v3 := J (nAll (nS B s)))
        rw [en, el] at od
        have wb := wAl_b ho (lvS B s (iI B 10 i) - l) 1
        rw [hns] at wb W1 W0
        have w0 : wAl (nS B s) (lvS B s (iI B 10 i) - l) 0 = nAll (nS B s) - wAl (nS B s) (lvS B s (iI B 10 i) - l) 1 := rfl
        have nb1 := nb 1
        have nb0 := nb 0
        obtain ⟨N, hN⟩ : ∃ N : Nat, nK B (bkn B) (iI B 8 i) (iI B 9 i) (iI B 10 i) (iI B 11 i) = N := ⟨(nK B (bkn B) (iI B 8 i) (iI B 9 i) (iI B 10 i) (iI B 11 i)).toNat, by omega⟩
        obtain ⟨K1, hK1⟩ : ∃ N : Nat, nKA B (bkn B) (iI B 8 i) (iI B 9 i) (iI B 10 i) (iI B 11 i) ((1 : Nat) : Int) = N := ⟨(nKA B (bkn B) (iI B 8 i) (iI B 9 i) (iI B 10 i) (iI B 11 i) ((1 : Nat) : Int)).toNat, by omega⟩
        obtain ⟨K0, hK0⟩ : ∃ N : Nat, nKA B (bkn B) (iI B 8 i) (iI B 9 i) (iI B 10 i) (iI B 11 i) ((0 : Nat) : Int) = N := ⟨(nKA B (bkn B) (iI B 8 i) (iI B 9 i) (iI B 10 i) (iI B 11 i) ((0 : Nat) : Int)).toNat, by omega⟩
        have iff : lnR B s l i ↔ (spI N (wAl (nS B s) (lvS B s (iI B 10 i) - l) 1) (nAll (nS B s)) K1 ∧ spI N (nAll (nS B s) - wAl (nS B s) (lvS B s (iI B 10 i) - l) 1) (nAll (nS B s)) K0) := by
          unfold lnR
          rw [hN]
          constructor
          · intro v
            have v1 := v 1 (by omega)
            have v0 := v 0 (by omega)
            rw [hK1] at v1
            rw [hK0, w0] at v0
            exact ⟨v1, v0⟩
          · intro v a ha
            have : a = 0 ∨ a = 1 := by omega
            rcases this with z | z
            · subst z; rw [hK0, w0]; exact v.2
            · subst z; rw [hK1]; exact v.1
        have e23 : gI S0 23 d = J N := by rw [i5, hN]
        have e1 : gI S0 24 (3 * d + 1) = J K1 := by rw [i6 1 (by omega), hK1]
        have e0 : gI S0 24 (3 * d) = J K0 := by
          have := i6 0 (by omega)
          rw [hK0] at this
          exact this
        obtain ⟨S1, q1, q2⟩ := m_isIn (S := S) (n := N) (k := K1) (x := wAl (nS B s) (lvS B s (iI B 10 i) - l) 1) (y := nAll (nS B s)) (by omega) (by omega) wb.1 wb.2 (by omega)
        have c1 : ∀ q k, ¬ (15 ≤ q ∧ q ≤ 19) → gI S1 q k = gI S0 q k := fun q k z => (q2.1 q k z).trans (c q k z)
        obtain ⟨S2, r1, r2⟩ := m_isIn (S := S1) (n := N) (k := K0) (x := nAll (nS B s) - wAl (nS B s) (lvS B s (iI B 10 i) - l) 1) (y := nAll (nS B s)) (by omega) (by omega) (by omega) (by omega) (by omega)
        obtain ⟨n', hn'⟩ : ∃ n', n = n' + 1 := ⟨n - 1, by omega⟩
        have out : ∀ S', fr fM S0 S' → ¬ lnR B s l i → ∃ (r : Int) (S'' : zM), (r = 0 ∨ r = 1) ∧ gX12_letsLine_L17 (J s) (J l) (J (nAll (nS B s))) n S' (J 0) (J ((d + 1 : Nat) : Int)) = some (J r, S'') ∧ fr fM S0 S'' ∧ (r = 1 ↔ ∀ e : Nat, d ≤ e → e < m → ∀ i : Nat, i < bkn B → lkey S0 e B i → iI B 8 i = p → iI B 9 i = 1 → lnR B s l i) := by
          intro S' f' no
          rw [hn', m_ln_0]
          exact ⟨0, S', Or.inl rfl, rfl, f', fun v => absurd v (by decide), fun v => absurd (v d (Nat.le_refl d) (by omega) i i1 i3 i8 w) no⟩
        rw [if_pos w, od, b1s, ckt, J_mul, J_add, x2, ckt, y2, c 23 d (by omega), e23, c 24 _ (by omega), e1, q1, b2s, iB0]
        by_cases z1 : N - spH N (nAll (nS B s) - wAl (nS B s) (lvS B s (iI B 10 i) - l) 1) (wAl (nS B s) (lvS B s (iI B 10 i) - l) 1) ≤ K1 ∧ K1 ≤ spH N (wAl (nS B s) (lvS B s (iI B 10 i) - l) 1) (nAll (nS B s) - wAl (nS B s) (lvS B s (iI B 10 i) - l) 1)
        · rw [if_pos z1, ckt, x3, ckt, y3, J_sub, c1 23 d (by omega), e23, c1 24 _ (by omega), e0, r1, b2s, iB0]
          by_cases z0 : N - spH N (nAll (nS B s) - (nAll (nS B s) - wAl (nS B s) (lvS B s (iI B 10 i) - l) 1)) (nAll (nS B s) - wAl (nS B s) (lvS B s (iI B 10 i) - l) 1) ≤ K0 ∧ K0 ≤ spH N (nAll (nS B s) - wAl (nS B s) (lvS B s (iI B 10 i) - l) 1) (nAll (nS B s) - (nAll (nS B s) - wAl (nS B s) (lvS B s (iI B 10 i) - l) 1))
          · rw [if_pos z0]
            obtain ⟨r, S', a1, a2, a3, a4⟩ := ih (d + 1) S2 (by omega) (by omega) (fr_t (fr_t f q2) r2)
            refine ⟨r, S', a1, a2, a3, a4.trans ⟨fun v e' d1 d2 i' b1 b2 b3 b4 => ?_, fun v e' d1 d2 => v e' (by omega) d2⟩⟩
            by_cases y : e' = d
            · rw [y] at b2
              obtain ⟨k1, k2, k3⟩ := uq i' b2
              have := iff.mpr ⟨z1, z0⟩
              intro a ha
              rw [b3, k1, k2, k3, ← i8]
              exact this a ha
            · exact v e' (by omega) d2 i' b1 b2 b3 b4
          · rw [if_neg z0]
            exact out S2 (fr_t (fr_t f q2) r2) (fun v => z0 (iff.mp v).2)
        · rw [if_neg z1]
          exact out S1 (fr_t f q2) (fun v => z1 (iff.mp v).1)
      · rw [if_neg w]
        obtain ⟨r, S', a1, a2, a3, a4⟩ := ih (d + 1) S (by omega) (by omega) f
        refine ⟨r, S', a1, a2, a3, a4.trans ⟨fun v e' d1 d2 i' b1 b2 b3 b4 => ?_, fun v e' d1 d2 => v e' (by omega) d2⟩⟩
        by_cases y : e' = d
        · rw [y] at b2
          exact absurd ((uq i' b2).1.symm.trans b4) w
        · exact v e' (by omega) d2 i' b1 b2 b3 b4
end
