/-! rest, seed, restore, clear. -/
def EqU (H q k : Nat) : Prop := E456 q k ∨ (q = 0 ∧ k = 11) ∨ sy89 H q k
def EmU (q k : Nat) : Prop := (q = 0 ∧ (k = 0 ∨ k = 11 ∨ k = 20)) ∨ q = 6 ∨ q = 7
theorem Inv_u {SC SC' SM SM' : zM} {H t : Nat} (h : Inv SC SM t) (hh : rHall SC SM H) (fC : fr (EqU H) SC SC') (fM : fr EmU SM SM') (hS : ∀ p : Nat, (p : Int) < cnt SM 1 → p < 6 → gI SC (H + 193 + 2 * p) 8 = gI SM 6 p → gI SC (H + 193 + 2 * p) 9 = gI SM 7 p → gI SC' (H + 193 + 2 * p) 8 = gI SM' 6 p ∧ gI SC' (H + 193 + 2 * p) 9 = gI SM' 7 p) (hT : rTot SM' (t + 1)) (sd : gI SC' 0 11 = gI SM' 0 20 ∧ 0 ≤ iI SM' 0 20 ∧ iI SM' 0 20 < 65537) (tr : gI SC' 0 12 = gI SM' 0 11) (h4 : ¬ iI SM' 0 11 = 4) : Inv SC' SM' (t + 1) := by
  have hH := hh.1.1
  obtain ⟨-, -, h3, h5, h6, h7, h8⟩ := h
  have c : ∀ q k, ¬ EqU H q k → gI SC' q k = gI SC q k := fC.1
  have m : ∀ q k, ¬ EmU q k → gI SM' q k = gI SM q k := fM.1
  refine ⟨⟨H, rHall_u hh (fun q k a b z => c q k ?_) (fC.2.2 0 8 (by unfold EqU E456 sy89; omega)) (fC.2.2 2 6 (by unfold EqU E456 sy89; omega)) (m 0 14 (by unfold EmU; omega)) (fun k => m 3 k (by unfold EmU; omega)) (fun k => m 5 k (by unfold EmU; omega)) hS⟩, hT, rBook_c h3 (c 219 2 (by unfold EqU E456 sy89; omega)) (fun k => c 220 k (by unfold EqU E456 sy89; omega)) (m 0 21 (by unfold EmU; omega)) (fun q k _ _ => m q k (by unfold EmU; omega)), rCells_c h5 (c 221 7 (by unfold EqU E456 sy89; omega)) (fun q k _ _ => c q k (by unfold EqU E456 sy89; omega)) (m 0 21 (by unfold EmU; omega)) (fun q k _ _ => m q k (by unfold EmU; omega)), rSpans_c h6 (fun k => fC.2.1 237 k (by unfold EqU E456 sy89; omega)) (fun k => c 238 k (by unfold EqU E456 sy89; omega)), rTape_c h7 (c 0 10 (by unfold EqU E456 sy89; omega)) (fun k => c 1 k (by unfold EqU E456 sy89; omega)) (m 0 2 (by unfold EmU; omega)) (fun k => m 1 k (by unfold EmU; omega)), sd, tr, ?_, fun z => absurd z h4, fun z => ?_⟩
  · unfold EqU E456
    intro w
    rcases w with w | w | w
    · omega
    · omega
    · exact z w
  · rw [c 0 13 (by unfold EqU E456 sy89; omega), m 0 9 (by unfold EmU; omega)]
    exact h8.2.2.1
  · rw [m 0 14 (by unfold EmU; omega)] at z
    unfold bkn
    rw [fr_i fM (by unfold EmU; omega)]
    exact h8.2.2.2.2 z
theorem fEq_456 {H : Nat} {S S' : zM} (h : fr E456 S S') : fr (EqU H) S S' := fr_w h (fun _ _ z => Or.inl z)
theorem fEm_mgd {S : zM} : fr EmU S (mgd S) := fr_w fr_mgd (fun q k z => by unfold EmU; omega)
theorem mgd_o {S : zM} {q k : Nat} (h : ¬ (q = 0 ∧ (k = 0 ∨ k = 11))) : gI (mgd S) q k = gI S q k := by
  unfold mgd
  rw [rII, if_neg (by omega), rII, if_neg (by omega)]
theorem mgd_11 {S : zM} : gI (mgd S) 0 11 = J 0 := by
  unfold mgd
  rw [rII, if_pos ⟨rfl, rfl⟩]
section
variable {SC SM : zM} {t : Nat}
theorem st_seed (h : Inv SC SM t) (x : Int32) : stp (gX11_seed SC x) (gX12_seed SM x) t := by
  have hInv := h
  obtain ⟨⟨H, hh⟩, hT, -⟩ := h
  obtain ⟨v, rfl, v1, v2⟩ := J_of x
  unfold gX11_seed gX12_seed
  simp only [J_0, J_1, J_2, J_3, J_4, J_5, J_6, J_7, J_8, J_9, J_10, J_11, J_12, J_14, J_15, J_16, J_19, J_20, J_21, J_22, J_23, J_24, J_25, J_28, J_30, J_31, J_32, J_40, J_44, J_47, J_48, J_49, J_50, J_53, J_54, J_57, J_59, J_74, J_75, J_78, J_84, J_97, J_99, J_100, J_120, J_122, J_126, J_132, J_138, J_144, J_150, J_156, J_162, J_198, J_200, J_202, J_206, J_210, J_214, J_218, J_222, J_226, J_230, J_234, J_238, J_239, J_240, J_241, J_242, J_243, J_255, J_263, J_283, J_303, J_399, J_400, J_401, J_463, J_700, J_701, J_999, J_1000, J_2048, J_4095, J_4096, J_6000, J_9999, J_10000, J_65536, J_65537, J_2147483647, J_neg, m_good, ckt, b1s, b2s, lts, un2s, un3s, un4s, un5s, lmr, lml, lgr, lgl, m_isNot, c_passes0, c_passesN (w := 2) (by decide)]
  rw [m_within v1 v2 (by decide) (by decide) (by decide) (by decide), b1s, iB0, iLT v1 v2 (by decide) (by decide), iLT v1 v2 (by decide) (by decide), show isB (J 0) = true by decide, ckt]
  by_cases e : 0 ≤ v ∧ v ≤ 65536
  · rw [if_pos e, if_neg (show ¬ v < 0 by omega), if_pos (show v < 65537 by omega), if_neg (show ¬ J 1 = J 0 by decide)]
    refine ⟨_, _, _, rfl, rfl, Inv_u hInv hh (fr_t (fEq_456 fr_cps) (fr_pI (Or.inr (Or.inl ⟨rfl, rfl⟩)))) (fr_t fEm_mgd (fr_pI (Or.inl ⟨rfl, by omega⟩))) (fun p hp hp6 e8 e9 => ?_) ?_ ⟨?_, ?_⟩ ?_ ?_⟩
    · rw [rII, if_neg (by omega), rII, if_neg (by omega), rII, if_neg (by omega), rII, if_neg (by omega), cps_o (by omega), cps_o (by omega), mgd_o (by omega), mgd_o (by omega)]
      exact ⟨e8, e9⟩
    · exact rTot_w hT (fun k => by rw [rII, if_neg (by omega), mgd_o (by omega)]) (fun k => by rw [rII, if_neg (by omega), mgd_o (by omega)])
    · rw [rII, if_pos ⟨rfl, rfl⟩, rII, if_pos ⟨rfl, rfl⟩]
    · rw [iI_of (a := v) (by rw [rII, if_pos ⟨rfl, rfl⟩]) v1 v2]; omega
    · rw [rII, if_neg (by omega), cps_12, rII, if_neg (by omega), mgd_11]
    · rw [iI_of (a := 0) (by rw [rII, if_neg (by omega), mgd_11]) (by decide) (by decide)]; decide
  · rw [if_neg e]
    have bad : stp (some (J 0, cps SC 2)) (some (J 0, mno SM 2)) t := ⟨_, _, _, rfl, rfl, Inv_w hInv fr_cps (by decide) cps_12⟩
    by_cases z : v < 0
    · rw [if_pos z, if_pos trivial]; exact bad
    · rw [if_neg z, if_neg (by omega), if_pos trivial]; exact bad
theorem st_rest (h : Inv SC SM t) (x : Int32) : stp (gX11_rest SC x) (gX12_rest SM x) t := by
  have hInv := h
  have hms := h.2.2.2.2.2.2.1
  obtain ⟨⟨H, hh⟩, hT, -⟩ := h
  obtain ⟨p, rfl, p1, p2⟩ := J_of x
  have hg := rHall_q hh fr_r (fmgd (S := SM))
  have hg' := hg
  obtain ⟨⟨hH, hr, -⟩, ⟨-, m0, -⟩, ⟨-, c0, -⟩, -⟩ := hg'
  have a1 := c_isSayer p1 p2 hH hr c0 m0
  have b1' := m_isSayer (S := mgd SM) p1 p2 m0
  unfold gX11_rest gX12_rest gX11_rest_J14
  simp only [J_0, J_1, J_2, J_3, J_4, J_5, J_6, J_7, J_8, J_9, J_10, J_11, J_12, J_14, J_15, J_16, J_19, J_20, J_21, J_22, J_23, J_24, J_25, J_28, J_30, J_31, J_32, J_40, J_44, J_47, J_48, J_49, J_50, J_53, J_54, J_57, J_59, J_74, J_75, J_78, J_84, J_97, J_99, J_100, J_120, J_122, J_126, J_132, J_138, J_144, J_150, J_156, J_162, J_198, J_200, J_202, J_206, J_210, J_214, J_218, J_222, J_226, J_230, J_234, J_238, J_239, J_240, J_241, J_242, J_243, J_255, J_263, J_283, J_303, J_399, J_400, J_401, J_463, J_700, J_701, J_999, J_1000, J_2048, J_4095, J_4096, J_6000, J_9999, J_10000, J_65536, J_65537, J_2147483647, J_neg, m_good, ckt, b1s, b2s, lts, un2s, un3s, un4s, un5s, lmr, lml, lgr, lgl, a1, b1', iB0, m_isNot, c_passes0, c_passesN (w := 1) (by decide), show isB (J 0) = true by decide]
  by_cases e : 0 ≤ p ∧ p < cnt (mgd SM) 1
  · obtain ⟨P, rfl⟩ : ∃ P : Nat, p = P := ⟨p.toNat, by omega⟩
    have x1 : ixb (J (P : Int)) 6 = true := ixb_J (by omega) (by omega) (by decide)
    have y1 : ix (J (P : Int)) = P := by rw [ix_J (by omega) (by omega)]; omega
    have R8 : gR (cps SC 0) 0 8 = H := by rw [cps_R]; exact hr
    rw [if_pos e, if_pos e, if_neg (show ¬ J 1 = J 0 by decide), R8, zb3 hH, ckt, x1, ckt, ckt, y1]
    refine ⟨_, _, _, rfl, rfl, Inv_u hInv hh (fr_t (fEq_456 fr_cps) (fr_pI (Or.inr (Or.inr (by unfold sy89; omega))))) (fr_t fEm_mgd (fr_pI (Or.inr (Or.inr rfl)))) (fun q hq hq6 e8 e9 => ?_) ?_ ⟨?_, ?_⟩ ?_ ?_⟩
    · rw [rII, if_neg (by omega), cps_o (by omega), rII, if_neg (by omega), mgd_o (by omega)]
      refine ⟨e8, ?_⟩
      by_cases z : q = P
      · subst z
        rw [rII, if_pos ⟨rfl, rfl⟩, rII, if_pos ⟨rfl, rfl⟩]
      · rw [rII, if_neg (by omega), cps_o (by omega), rII, if_neg (by omega), mgd_o (by omega)]
        exact e9
    · intro q hq
      have h1 := hT q hq
      have e6 : iI (pI (mgd SM) 7 P (J 0)) 6 q = iI SM 6 q := iI_c (by rw [rII, if_neg (by omega), mgd_o (by omega)])
      have e7 : iI (pI (mgd SM) 7 P (J 0)) 7 q = if q = P then 0 else iI SM 7 q := by
        by_cases z : q = P
        · rw [if_pos z]
          exact iI_of (by rw [rII, if_pos ⟨rfl, z⟩]) (by decide) (by decide)
        · rw [if_neg z]
          exact iI_c (by rw [rII, if_neg (by omega), mgd_o (by omega)])
      rw [e6, e7]
      split <;> omega
    · rw [rII, if_neg (by omega), cps_o (by omega), rII, if_neg (by omega), mgd_o (by omega)]
      exact hms.1
    · rw [iI_c (S' := SM) (q' := 0) (k' := 20) (by rw [rII, if_neg (by omega), mgd_o (by omega)])]
      exact hms.2
    · rw [rII, if_neg (by omega), cps_12, rII, if_neg (by omega), mgd_11]
    · rw [iI_of (a := 0) (by rw [rII, if_neg (by omega), mgd_11]) (by decide) (by decide)]; decide
  · rw [if_neg e, if_neg e, if_pos trivial]
    exact ⟨_, _, _, rfl, rfl, Inv_w hInv fr_cps (by decide) cps_12⟩
end
/-- a row is filled -/
theorem c_fill_L {q n : Nat} {v : Int32} (hn : n ≤ 10000) : ∀ (m i : Nat) (S T : zM), i ≤ n → n < m + i → fr (fun a _ => a = q) S T → (∀ k, k < i → gI T q k = v) → ∃ T', gJ7_fill_53178_L5 q n v (J n) m T (J i) = some T' ∧ fr (fun a _ => a = q) S T' ∧ ∀ k, k < n → gI T' q k = v := by
  intro m
  induction m with
  | zero => intro i S T g1 g2; omega
  | succ m ih =>
    intro i S T g1 g2 fT hk
    unfold gJ7_fill_53178_L5
    simp only [J_0, J_1, J_2, J_3, J_4, J_5, J_6, J_7, J_8, J_9, J_10, J_11, J_12, J_14, J_15, J_16, J_19, J_20, J_21, J_22, J_23, J_24, J_25, J_28, J_30, J_31, J_32, J_40, J_44, J_47, J_48, J_49, J_50, J_53, J_54, J_57, J_59, J_74, J_75, J_78, J_84, J_97, J_99, J_100, J_120, J_122, J_126, J_132, J_138, J_144, J_150, J_156, J_162, J_198, J_200, J_202, J_206, J_210, J_214, J_218, J_222, J_226, J_230, J_234, J_238, J_239, J_240, J_241, J_242, J_243, J_255, J_263, J_283, J_303, J_399, J_400, J_401, J_463, J_700, J_701, J_999, J_1000, J_2048, J_4095, J_4096, J_6000, J_9999, J_10000, J_65536, J_65537, J_2147483647, J_neg, J_neg, J_add, J_sub, J_mul]
    rw [iLE (by omega) (by omega) (by omega) (by omega)]
    by_cases e : i = n
    · rw [if_pos (by omega)]
      exact ⟨T, rfl, fT, fun k hk' => hk k (by omega)⟩
    · rw [if_neg (by omega), ixb_J (by omega) (by omega) (by omega), ckt, ix_J (by omega) (by omega), Int.toNat_natCast, show (i : Int) + 1 = ((i + 1 : Nat) : Int) by omega]
      refine ih (i + 1) S _ (by omega) (by omega) (fr_t fT (fr_pI rfl)) (fun k hk' => ?_)
      rw [rII]
      by_cases z : k = i
      · rw [if_pos ⟨rfl, z⟩]
      · rw [if_neg (fun w => z w.2)]
        exact hk k (by omega)
theorem c_fill {q n : Nat} {v : Int32} {S : zM} (hn : n ≤ 10000) : ∃ T', gJ7_fill_53178 S q n v = some T' ∧ fr (fun a _ => a = q) S T' ∧ ∀ k, k < n → gI T' q k = v := by
  unfold gJ7_fill_53178
  simp only [J_0, J_1, J_2, J_3, J_4, J_5, J_6, J_7, J_8, J_9, J_10, J_11, J_12, J_14, J_15, J_16, J_19, J_20, J_21, J_22, J_23, J_24, J_25, J_28, J_30, J_31, J_32, J_40, J_44, J_47, J_48, J_49, J_50, J_53, J_54, J_57, J_59, J_74, J_75, J_78, J_84, J_97, J_99, J_100, J_120, J_122, J_126, J_132, J_138, J_144, J_150, J_156, J_162, J_198, J_200, J_202, J_206, J_210, J_214, J_218, J_222, J_226, J_230, J_234, J_238, J_239, J_240, J_241, J_242, J_243, J_255, J_263, J_283, J_303, J_399, J_400, J_401, J_463, J_700, J_701, J_999, J_1000, J_2048, J_4095, J_4096, J_6000, J_9999, J_10000, J_65536, J_65537, J_2147483647, J_neg]
  have e : Int32.ofNat n = J (n : Int) := (Int32.ofInt_eq_ofNat (n := n)).symm
  rw [e]
  exact c_fill_L hn FU 0 S S (Nat.zero_le n) (by have := FUs (n := 10002) (by omega); omega) fr_r (fun k hk => by omega)
/-- the class' book is emptied -/
theorem c_empty {S : zM} : ∃ S', gX1_empty S = some S' ∧ fr (fun q k => (q = 219 ∧ k = 2) ∨ (q = 221 ∧ k = 7) ∨ q = 222) S S' ∧ gI S' 219 2 = J 0 ∧ gI S' 221 7 = J 0 ∧ ∀ k, k < 2048 → gI S' 222 k = J 0 := by
  obtain ⟨T, h1, h2, h3⟩ := c_fill (q := 222) (n := 2048) (v := J 0) (S := pI (pI S 219 2 (J 0)) 221 7 (J 0)) (by decide)
  refine ⟨T, ?_, ?_, ?_, ?_, h3⟩
  · unfold gX1_empty gX2_empty
    simp only [J_0, J_1, J_2, J_3, J_4, J_5, J_6, J_7, J_8, J_9, J_10, J_11, J_12, J_14, J_15, J_16, J_19, J_20, J_21, J_22, J_23, J_24, J_25, J_28, J_30, J_31, J_32, J_40, J_44, J_47, J_48, J_49, J_50, J_53, J_54, J_57, J_59, J_74, J_75, J_78, J_84, J_97, J_99, J_100, J_120, J_122, J_126, J_132, J_138, J_144, J_150, J_156, J_162, J_198, J_200, J_202, J_206, J_210, J_214, J_218, J_222, J_226, J_230, J_234, J_238, J_239, J_240, J_241, J_242, J_243, J_255, J_263, J_283, J_303, J_399, J_400, J_401, J_463, J_700, J_701, J_999, J_1000, J_2048, J_4095, J_4096, J_6000, J_9999, J_10000, J_65536, J_65537, J_2147483647, J_neg]
    rw [h1, b1s, b1s]
  · exact fr_t (fr_t (fr_pI (Or.inl ⟨rfl, rfl⟩)) (fr_pI (Or.inr (Or.inl ⟨rfl, rfl⟩)))) (fr_w h2 (fun q k z => Or.inr (Or.inr z)))
  · rw [h2.1 219 2 (by omega), rII, if_neg (by omega), rII, if_pos ⟨rfl, rfl⟩]
  · rw [h2.1 221 7 (by omega), rII, if_pos ⟨rfl, rfl⟩]
/-- an empty book has no cells -/
theorem rCells_0 {SC SM : zM} (h7 : gI SC 221 7 = J 0) (h2 : ∀ k, k < 2048 → gI SC 222 k = J 0) (hb : bkn SM = 0) : rCells SC SM := by
  refine ⟨0, h7, Nat.zero_le _, fun c hc => by omega, fun i hi => by omega, fun c d hc => by omega, fun c hc => by omega, fun s hs => Or.inl (h2 s hs), fun c hc => by omega, sm_zero (fun s hs => if_pos (h2 s hs))⟩
theorem rBook_0 {SC SM : zM} (h2 : gI SC 219 2 = J 0) (hb : gI SM 0 21 = J 0) : rBook SC SM ∧ bkn SM = 0 := by
  have e : iI SM 0 21 = 0 := iI_of hb (by decide) (by decide)
  have e2 : bkn SM = 0 := by unfold bkn; rw [e]; rfl
  exact ⟨⟨h2.trans hb.symm, by omega, fun i hi => by omega⟩, e2⟩
section
variable {SC SM : zM} {t : Nat}
theorem st_clear (h : Inv SC SM t) : stp (gX11_clear SC) (gX12_clear SM) t := by
  obtain ⟨⟨H, hh⟩, hT, hB, hC, hS, hTp, hM⟩ := h
  have hH := hh.1.1
  obtain ⟨S', g1, g2, g3, g4, g5⟩ := c_empty (S := SC)
  have c : ∀ q k, ¬ ((q = 219 ∧ k = 2) ∨ (q = 221 ∧ k = 7) ∨ q = 222) → gI S' q k = gI SC q k := g2.1
  generalize hSM : pI (mth SM) 0 21 (J 0) = SM'
  have m : ∀ q k, ¬ (q = 0 ∧ (k = 0 ∨ k = 21)) → gI SM' q k = gI SM q k := by
    intro q k z
    rw [← hSM, rII, if_neg (by omega), gI_th (by omega)]
  have mi : ∀ q k, ¬ (q = 0 ∧ (k = 0 ∨ k = 21)) → iI SM' q k = iI SM q k := fun q k z => iI_c (m q k z)
  have m21 : gI SM' 0 21 = J 0 := by rw [← hSM, rII, if_pos ⟨rfl, rfl⟩]
  obtain ⟨hB', hb0⟩ := rBook_0 g3 m21
  refine ⟨gI SC 219 2, S', SM', ?_, ?_, ⟨H, rHall_c hh (fun q k a b => c q k (by omega)) (g2.2.2 0 8 (by omega)) (g2.2.2 2 6 (by omega)) (m 0 14 (by omega)) (fun k => m 3 k (by omega)) (fun k => m 5 k (by omega)) (fun k => m 6 k (by omega)) (fun k => m 7 k (by omega))⟩, rTot_w hT (fun k => m 6 k (by omega)) (fun k => m 7 k (by omega)), hB', rCells_0 g4 g5 hb0, rSpans_c hS (fun k => g2.2.1 237 k (by omega)) (fun k => c 238 k (by omega)), rTape_c hTp (c 0 10 (by omega)) (fun k => c 1 k (by omega)) (m 0 2 (by omega)) (fun k => m 1 k (by omega)), ?_⟩
  · unfold gX11_clear
    rw [g1, b1s]
  · unfold gX12_clear
    simp (disch := omega) only [J_0, J_1, J_2, J_3, J_4, J_5, J_6, J_7, J_8, J_9, J_10, J_11, J_12, J_14, J_15, J_16, J_19, J_20, J_21, J_22, J_23, J_24, J_25, J_28, J_30, J_31, J_32, J_40, J_44, J_47, J_48, J_49, J_50, J_53, J_54, J_57, J_59, J_74, J_75, J_78, J_84, J_97, J_99, J_100, J_120, J_122, J_126, J_132, J_138, J_144, J_150, J_156, J_162, J_198, J_200, J_202, J_206, J_210, J_214, J_218, J_222, J_226, J_230, J_234, J_238, J_239, J_240, J_241, J_242, J_243, J_255, J_263, J_283, J_303, J_399, J_400, J_401, J_463, J_700, J_701, J_999, J_1000, J_2048, J_4095, J_4096, J_6000, J_9999, J_10000, J_65536, J_65537, J_2147483647, J_neg, mth_e, ckt, b1s, b2s, lts, un2s, un3s, un4s, un5s, lmr, lml, lgr, lgl, gI_th, hSM]
    rw [hB.1]
  · obtain ⟨⟨q1, q2⟩, q3, q4, q5, q6⟩ := hM
    refine ⟨⟨?_, by rw [mi 0 20 (by omega)]; exact q2⟩, ?_, ?_, fun z => ?_, fun _ => hb0⟩
    · rw [c 0 11 (by omega), m 0 20 (by omega)]; exact q1
    · rw [c 0 12 (by omega), m 0 11 (by omega)]; exact q3
    · rw [c 0 13 (by omega), m 0 9 (by omega)]; exact q4
    · rw [mi 0 11 (by omega)] at z
      rw [c 0 14 (by omega), m 0 10 (by omega)]; exact q5 z
end
