/-! climb. -/
theorem InvB_l {SC SC' SM SM' : zM} {B : Nat} (h : InvB SC SM B) (fC : fr (fun q _ => q = 456 ∨ q = 239) SC SC') (fM : fr (fun q _ => q = 14) SM SM') : InvB SC' SM' B := by
  obtain ⟨⟨H, hh⟩, h2, h3, h5, h6, h7, h8⟩ := h
  have hH := hh.1.1
  have c : ∀ q k, ¬ (q = 456 ∨ q = 239) → gI SC' q k = gI SC q k := fC.1
  have m : ∀ q k, ¬ q = 14 → gI SM' q k = gI SM q k := fM.1
  refine ⟨⟨H, rHall_c hh (fun q k a b => c q k (by omega)) (fC.2.2 0 8 (by omega)) (fC.2.2 2 6 (by omega)) (m 0 14 (by omega)) (fun k => m 3 k (by omega)) (fun k => m 5 k (by omega)) (fun k => m 6 k (by omega)) (fun k => m 7 k (by omega))⟩, ?_, rBook_c h3 (c 219 2 (by omega)) (fun k => c 220 k (by omega)) (m 0 21 (by omega)) (fun q k _ _ => m q k (by omega)), rCells_c h5 (c 221 7 (by omega)) (fun q k _ _ => c q k (by omega)) (m 0 21 (by omega)) (fun q k _ _ => m q k (by omega)), rSpans_c h6 (fun k => fC.2.1 237 k (by omega)) (fun k => c 238 k (by omega)), rTape_c h7 (c 0 10 (by omega)) (fun k => c 1 k (by omega)) (m 0 2 (by omega)) (fun k => m 1 k (by omega)), ?_⟩
  · intro p hp
    rw [fr_i fM (q := 6) (by omega), fr_i fM (q := 7) (by omega)]
    exact h2 p hp
  · obtain ⟨⟨g1, g2⟩, g3, g4, g5, g6⟩ := h8
    have e20 : iI SM' 0 20 = iI SM 0 20 := fr_i fM (by omega)
    have e11 : iI SM' 0 11 = iI SM 0 11 := fr_i fM (by omega)
    have e21 : iI SM' 0 21 = iI SM 0 21 := fr_i fM (by omega)
    refine ⟨⟨?_, by rw [e20]; exact g2⟩, ?_, ?_, fun z => ?_, fun z => ?_⟩
    · rw [c 0 11 (by omega), m 0 20 (by omega)]; exact g1
    · rw [c 0 12 (by omega), m 0 11 (by omega)]; exact g3
    · rw [c 0 13 (by omega), m 0 9 (by omega)]; exact g4
    · rw [e11] at z
      rw [c 0 14 (by omega), m 0 10 (by omega)]; exact g5 z
    · rw [m 0 14 (by omega)] at z
      unfold bkn
      rw [e21]
      exact g6 z
theorem rHall_l {SC SC' SM SM' : zM} {H : Nat} (hh : rHall SC SM H) (fC : fr (fun q _ => q = 456 ∨ q = 239) SC SC') (fM : fr (fun q _ => q = 14) SM SM') : rHall SC' SM' H := by
  have hH := hh.1.1
  have c : ∀ q k, ¬ (q = 456 ∨ q = 239) → gI SC' q k = gI SC q k := fC.1
  have m : ∀ q k, ¬ q = 14 → gI SM' q k = gI SM q k := fM.1
  exact rHall_c hh (fun q k a b => c q k (by omega)) (fC.2.2 0 8 (by omega)) (fC.2.2 2 6 (by omega)) (m 0 14 (by omega)) (fun k => m 3 k (by omega)) (fun k => m 5 k (by omega)) (fun k => m 6 k (by omega)) (fun k => m 7 k (by omega))
/-- what a trial of the kind ALONE may write -/
def EcA (H q k : Nat) : Prop := EcW H q k ∨ (q = 0 ∧ k = 11) ∨ q = 456
def EmA (q k : Nat) : Prop := EmW q k ∨ (q = 0 ∧ k = 20)
section
variable {SC SM : zM} {H p t : Nat}
theorem alone_eq {B : Nat} {x : Int} (h : InvB SC SM B) (hh : rHall SC SM H) (hB : B + 1 ≤ 4095 + 1000 * t) (ht : t ≤ 512) (hp : (p : Int) < cnt SM 1) (hx : 0 ≤ x ∧ x ≤ 400) (hbk : bkn SM < 1000) : ∃ (r : Int) (SC' SM' : zM), (0 ≤ r ∧ r ≤ 100000) ∧ gX11_sayAlone SC (J p) (J x) = some (J r, SC') ∧ gX12_draws SM (J p) (J 1) (J x) (J 0) (J 0) = some (J r, SM') ∧ InvB SC' SM' (B + 1) ∧ rHall SC' SM' H ∧ fr (EcA H) SC SC' ∧ fr EmA SM SM' ∧ bkn SM' = bkn SM + 1 := by
  have hH := hh.1.1
  have n1 := hh.2.1.2.1
  have hp6 : p < 6 := by omega
  obtain ⟨hmS, s1, -⟩ := hh.2.2.2.2.1 p hp
  rw [gI_J SM] at s1
  have x1 : ixb (J (p : Int)) 6 = true := ixb_J (by omega) (by omega) (by decide)
  have y1 : ix (J (p : Int)) = p := by rw [ix_J (by omega) (by omega)]; omega
  have hput := c_put (S := SC) (p := p) (kd := 1) (a := x) (b := 0) (c := 0) (by decide)
  rw [show (if (1 : Int) = 1 ∨ (1 : Int) = 3 then (0 : Int) else 0) = 0 from rfl, show (if (1 : Int) = 2 ∨ (1 : Int) = 5 then (0 : Int) else 0) = 0 from rfl] at hput
  generalize hS5 : pI (pI (pI (pI (pI SC 456 3 (J p)) 456 4 (J 1)) 456 5 (J x)) 456 6 (J 0)) 456 7 (J 0) = S5 at hput
  have f5 : fr (fun q _ => q = 456 ∨ q = 239) SC S5 := by
    rw [← hS5]
    exact fr_t (fr_t (fr_t (fr_t (fr_pI (Or.inl rfl)) (fr_pI (Or.inl rfl))) (fr_pI (Or.inl rfl))) (fr_pI (Or.inl rfl))) (fr_pI (Or.inl rfl))
  have h55 : rHall S5 SM H := rHall_l hh f5 fr_r
  have k3 : gI S5 456 3 = J p := by rw [← hS5]; simp [rII]
  have k4 : gI S5 456 4 = J 1 := by rw [← hS5]; simp [rII]
  have k5 : gI S5 456 5 = J x := by rw [← hS5]; simp [rII]
  have k6 : gI S5 456 6 = J 0 := by rw [← hS5]; simp [rII]
  have k7 : gI S5 456 7 = J 0 := by rw [← hS5]; simp [rII]
  have y5 : gI S5 (H + 193 + 2 * p) 1 = J (iI SM 3 (120 + p)) := (f5.1 _ 1 (by omega)).trans s1
  obtain ⟨S6, g1, g2, g3, g4, g5, g6⟩ := c_askOf hH h55.1.2.1 h55.2.2.1.1 h55.2.1.1 hp6 y5 hmS.1 k6 (by decide)
  have f6 : fr (fun q _ => q = 456 ∨ q = 239) SC S6 := fr_t f5 (fr_w g2 (fun q k z => Or.inl z))
  have ask : rAsk S6 SM H p 1 x 0 0 := ⟨by rw [Int.toNat_natCast]; exact g4, by rw [Int.toNat_natCast]; exact g5, fun z => absurd z (by decide), (g3 _ _).trans k3, (g3 _ _).trans k4, (g3 _ _).trans k5, (g3 _ _).trans k6, (g3 _ _).trans k7⟩
  obtain ⟨r, SC', SM', r1, r2, r3, r4, r5, r6, r7, r8⟩ := draw_eq (kd := 1) (a := x) (b := 0) (c := 0) (InvB_l h f6 fr_r) (rHall_l hh f6 fr_r) hB ht hp ask (by decide) (by unfold okB; rw [if_pos rfl]; exact ⟨hx.1, hx.2, fun z => by omega, fun z => by omega, fun z => by omega⟩) (fun z => absurd z (by decide)) ⟨by decide, by decide⟩ ⟨by decide, by decide⟩ hbk
  refine ⟨r, SC', SM', r1, ?_, r3, r4, r5, ?_, r7, r8⟩
  · unfold gX11_sayAlone
    simp only [J_0, J_1, J_2, J_3, J_4, J_5, J_6, J_7, J_8, J_9, J_10, J_11, J_12, J_14, J_15, J_16, J_19, J_20, J_21, J_22, J_23, J_24, J_25, J_28, J_30, J_31, J_32, J_40, J_44, J_47, J_48, J_49, J_50, J_53, J_54, J_57, J_59, J_74, J_75, J_78, J_84, J_97, J_99, J_100, J_120, J_122, J_126, J_132, J_138, J_144, J_150, J_156, J_162, J_198, J_200, J_202, J_206, J_210, J_214, J_218, J_222, J_226, J_230, J_234, J_238, J_239, J_240, J_241, J_242, J_243, J_255, J_263, J_283, J_303, J_399, J_400, J_401, J_463, J_700, J_701, J_999, J_1000, J_2048, J_4095, J_4096, J_6000, J_9999, J_10000, J_65536, J_65537, J_2147483647, J_neg]
    rw [hput, b1s, h55.1.2.1, zb3 hH, ckt, x1, ckt, y1, g1, b1s, r2, b2s]
  · refine fr_t (E := EcA H) (fr_t (E := EcA H) ?_ (fr_w g2 (fun q k z => Or.inr (Or.inr z)))) (fr_w r6 (fun q k z => ?_))
    · rw [← hS5]
      exact fr_t (fr_t (fr_t (fr_t (fr_pI (Or.inr (Or.inr rfl))) (fr_pI (Or.inr (Or.inr rfl)))) (fr_pI (Or.inr (Or.inr rfl)))) (fr_pI (Or.inr (Or.inr rfl)))) (fr_pI (Or.inr (Or.inr rfl)))
    · rcases z with z | z
      · exact Or.inl z
      · exact Or.inr (Or.inl z)
/-- a size on a stair -/
def hel (x : Int) : Int := if x < 1 then 1 else if 400 < x then 400 else x
theorem m_held {x : Int} (h : -100000 ≤ x ∧ x ≤ 100000) : gX12_held (J x) = some (J (hel x)) := by
  unfold gX12_held hel
  simp (disch := omega) only [J_0, J_1, J_2, J_3, J_4, J_5, J_6, J_7, J_8, J_9, J_10, J_11, J_12, J_14, J_15, J_16, J_19, J_20, J_21, J_22, J_23, J_24, J_25, J_28, J_30, J_31, J_32, J_40, J_44, J_47, J_48, J_49, J_50, J_53, J_54, J_57, J_59, J_74, J_75, J_78, J_84, J_97, J_99, J_100, J_120, J_122, J_126, J_132, J_138, J_144, J_150, J_156, J_162, J_198, J_200, J_202, J_206, J_210, J_214, J_218, J_222, J_226, J_230, J_234, J_238, J_239, J_240, J_241, J_242, J_243, J_255, J_263, J_283, J_303, J_399, J_400, J_401, J_463, J_700, J_701, J_999, J_1000, J_2048, J_4095, J_4096, J_6000, J_9999, J_10000, J_65536, J_65537, J_2147483647, J_neg, J_lt, J_le, J_inj]
  repeat' split
  all_goals first | rfl | (exfalso; omega)
theorem c_stepped {x r s : Int} (hx : 1 ≤ x ∧ x ≤ 400) (hs : 1 ≤ s ∧ s ≤ 400) (hr : 0 ≤ r ∧ r ≤ 100000) : gX11_stepped (J x) (J r) (J s) = some (J (if r = 1 then hel (x - s) else hel (x + s))) := by
  unfold gX11_stepped hel
  simp (disch := omega) only [J_0, J_1, J_2, J_3, J_4, J_5, J_6, J_7, J_8, J_9, J_10, J_11, J_12, J_14, J_15, J_16, J_19, J_20, J_21, J_22, J_23, J_24, J_25, J_28, J_30, J_31, J_32, J_40, J_44, J_47, J_48, J_49, J_50, J_53, J_54, J_57, J_59, J_74, J_75, J_78, J_84, J_97, J_99, J_100, J_120, J_122, J_126, J_132, J_138, J_144, J_150, J_156, J_162, J_198, J_200, J_202, J_206, J_210, J_214, J_218, J_222, J_226, J_230, J_234, J_238, J_239, J_240, J_241, J_242, J_243, J_255, J_263, J_283, J_303, J_399, J_400, J_401, J_463, J_700, J_701, J_999, J_1000, J_2048, J_4095, J_4096, J_6000, J_9999, J_10000, J_65536, J_65537, J_2147483647, J_neg, J_neg, J_add, J_sub, J_mul, J_lt, J_le, J_inj, jmax_J, jmin_J]
  split
  · congr 2
    split
    · omega
    · split <;> omega
  · congr 2
    split
    · omega
    · split <;> omega
theorem hel_b (x : Int) : 1 ≤ hel x ∧ hel x ≤ 400 := by unfold hel; split; omega; split <;> omega
theorem climb_L {N : Nat} {s : Int} (hs : 1 ≤ s ∧ s ≤ 400) (hN : N ≤ 50) (ht : t ≤ 512) : ∀ (m i B : Nat) (SC SM : zM) (x : Int), i ≤ N → N < m + i → (1 ≤ x ∧ x ≤ 400) → InvB SC SM B → rHall SC SM H → B + (N - i) ≤ 4095 + 1000 * t → (p : Int) < cnt SM 1 → bkn SM + (N - i) ≤ 1000 → ∃ (r : Int32) (SC' SM' : zM), gX11_climb_L80 (J p) (J s) (J N) m SC (J x) (J i) = some (r, SC') ∧ gX12_climb_L82 (J p) (J s) (J N) m SM (J x) (J i) = some (r, SM') ∧ InvB SC' SM' (B + (N - i)) := by
  intro m
  induction m with
  | zero => intro i B SC SM x h1 h2; omega
  | succ m ih =>
    intro i B SC SM x h1 h2 hx hI hh hB hp hbk
    unfold gX11_climb_L80 gX12_climb_L82
    simp only [J_0, J_1, J_2, J_3, J_4, J_5, J_6, J_7, J_8, J_9, J_10, J_11, J_12, J_14, J_15, J_16, J_19, J_20, J_21, J_22, J_23, J_24, J_25, J_28, J_30, J_31, J_32, J_40, J_44, J_47, J_48, J_49, J_50, J_53, J_54, J_57, J_59, J_74, J_75, J_78, J_84, J_97, J_99, J_100, J_120, J_122, J_126, J_132, J_138, J_144, J_150, J_156, J_162, J_198, J_200, J_202, J_206, J_210, J_214, J_218, J_222, J_226, J_230, J_234, J_238, J_239, J_240, J_241, J_242, J_243, J_255, J_263, J_283, J_303, J_399, J_400, J_401, J_463, J_700, J_701, J_999, J_1000, J_2048, J_4095, J_4096, J_6000, J_9999, J_10000, J_65536, J_65537, J_2147483647, J_neg]
    rw [iLE (by omega) (by omega) (by omega) (by omega), iLE (by omega) (by omega) (by omega) (by omega)]
    by_cases e : i = N
    · rw [if_pos (show (N : Int) ≤ i by omega), if_pos (show (N : Int) ≤ i by omega)]
      refine ⟨_, _, _, rfl, rfl, ?_⟩
      rw [e, Nat.sub_self]
      exact hI
    · obtain ⟨r, SC', SM', r1, r2, r3, r4, r5, r6, r7, r8⟩ := alone_eq hI hh (by omega) ht hp (x := x) (by omega) (by omega)
      have hp' : (p : Int) < cnt SM' 1 := by
        rw [fr_cnt r7 (by unfold EmA EmW; omega) (by unfold EmA EmW; omega)]
        exact hp
      have h1' := hel_b (x - s)
      have h2' := hel_b (x + s)
      rw [if_neg (show ¬ (N : Int) ≤ i by omega), if_neg (show ¬ (N : Int) ≤ i by omega), r2, b2s, r3, b2s, c_stepped hx hs r1, b1s, iEQ (by omega) (by omega) (by decide) (by decide)]
      simp only [J_neg, J_add, J_sub, J_mul]
      rw [m_held (by omega), b1s, m_held (by omega), b1s, show (i : Int) + 1 = ((i + 1 : Nat) : Int) by omega, show B + (N - i) = B + 1 + (N - (i + 1)) by omega]
      by_cases z : r = 1
      · rw [if_pos z, if_pos z]
        exact ih (i + 1) (B + 1) SC' SM' _ (by omega) (by omega) h1' r4 r5 (by omega) hp' (by omega)
      · rw [if_neg z, if_neg z]
        exact ih (i + 1) (B + 1) SC' SM' _ (by omega) (by omega) h2' r4 r5 (by omega) hp' (by omega)
theorem st_climb (h : Inv SC SM t) (ht : t < 512) (x1 x2 x3 x4 : Int32) : stp (gX11_climb SC x1 x2 x3 x4) (gX12_climb SM x1 x2 x3 x4) t := by
  have hInv := h
  have hB := h.2.2.1
  obtain ⟨⟨H, hh⟩, -⟩ := h
  obtain ⟨p, rfl, p1, p2⟩ := J_of x1
  obtain ⟨x, rfl, v1, v2⟩ := J_of x2
  obtain ⟨s, rfl, s1, s2⟩ := J_of x3
  obtain ⟨n, rfl, n1, n2⟩ := J_of x4
  have hg := rHall_q hh fr_r (fmgd (S := SM))
  have hg' := hg
  obtain ⟨⟨hH, hr, -⟩, ⟨-, m0, -⟩, ⟨-, c0, -⟩, -⟩ := hg'
  have a1 := c_isSayer p1 p2 hH hr c0 m0
  have b1' := m_isSayer (S := mgd SM) p1 p2 m0
  unfold gX11_climb gX12_climb gX11_climb_J14
  simp only [J_0, J_1, J_2, J_3, J_4, J_5, J_6, J_7, J_8, J_9, J_10, J_11, J_12, J_14, J_15, J_16, J_19, J_20, J_21, J_22, J_23, J_24, J_25, J_28, J_30, J_31, J_32, J_40, J_44, J_47, J_48, J_49, J_50, J_53, J_54, J_57, J_59, J_74, J_75, J_78, J_84, J_97, J_99, J_100, J_120, J_122, J_126, J_132, J_138, J_144, J_150, J_156, J_162, J_198, J_200, J_202, J_206, J_210, J_214, J_218, J_222, J_226, J_230, J_234, J_238, J_239, J_240, J_241, J_242, J_243, J_255, J_263, J_283, J_303, J_399, J_400, J_401, J_463, J_700, J_701, J_999, J_1000, J_2048, J_4095, J_4096, J_6000, J_9999, J_10000, J_65536, J_65537, J_2147483647, J_neg, m_good, ckt, b1s, b2s, lts, un2s, un3s, un4s, un5s, lmr, lml, lgr, lgl, a1, b1', iB0, m_no, c_passes0, c_passesN (w := 1) (by decide)]
  rw [m_within v1 v2 (by decide) (by decide) (by decide) (by decide), b1s, iB0, m_within s1 s2 (by decide) (by decide) (by decide) (by decide), b1s, iB0, m_within n1 n2 (by decide) (by decide) (by decide) (by decide), b1s, iB0, c_isSize v1 v2, b1s, iB0, c_isSize s1 s2, b1s, iB0, iLT n1 n2 (by decide) (by decide), iLT (by decide) (by decide) n1 n2]
  by_cases e1 : 0 ≤ p ∧ p < cnt (mgd SM) 1
  · rw [if_pos e1, if_pos e1, if_neg (show ¬ J 1 = J 0 by decide)]
    unfold gX11_climb_J53
    simp only [J_0, J_1, J_2, J_3, J_4, J_5, J_6, J_7, J_8, J_9, J_10, J_11, J_12, J_14, J_15, J_16, J_19, J_20, J_21, J_22, J_23, J_24, J_25, J_28, J_30, J_31, J_32, J_40, J_44, J_47, J_48, J_49, J_50, J_53, J_54, J_57, J_59, J_74, J_75, J_78, J_84, J_97, J_99, J_100, J_120, J_122, J_126, J_132, J_138, J_144, J_150, J_156, J_162, J_198, J_200, J_202, J_206, J_210, J_214, J_218, J_222, J_226, J_230, J_234, J_238, J_239, J_240, J_241, J_242, J_243, J_255, J_263, J_283, J_303, J_399, J_400, J_401, J_463, J_700, J_701, J_999, J_1000, J_2048, J_4095, J_4096, J_6000, J_9999, J_10000, J_65536, J_65537, J_2147483647, J_neg]
    have no2 : ∀ X, X = (some (J (-1), cps (cps SC 0) 2) : Option (Int32 × zM)) → stp X (some (J (-1), mno SM 2)) t := fun X hX => ⟨_, _, _, hX, rfl, Inv_w hInv cps_2 (by decide) cps_12⟩
    have bad : (b2 (gX11_passes (cps SC 0) (J 2)) fun r5 S6 => if r5 = J 0 then some (J (-1), S6) else b1 (gX11_whyNoRoom S6 (J n)) fun r7 => b2 (gX11_passes S6 r7) fun r8 S9 => if r8 = J 0 then some (J (-1), S9) else gX11_climb_L80 (J p) (J s) (J n) FU S9 (J x) (J 0)) = some (J (-1), cps (cps SC 0) 2) := by
      rw [c_passesN (by decide), b2s, if_pos rfl]
    rw [bad]
    by_cases e2 : 1 ≤ x ∧ x ≤ 400
    · rw [if_pos e2, if_pos e2]
      by_cases e3 : 1 ≤ s ∧ s ≤ 400
      · rw [if_pos e3, if_pos e3]
        by_cases e4 : 1 ≤ n ∧ n ≤ 50
        · rw [if_pos e4, if_neg (show ¬ n < 1 by omega), if_neg (show ¬ 50 < n by omega), c_passes0, b2s, if_neg (show ¬ J 1 = J 0 by decide)]
          obtain ⟨P, rfl⟩ : ∃ P : Nat, p = P := ⟨p.toNat, by omega⟩
          obtain ⟨N, rfl⟩ : ∃ N : Nat, n = N := ⟨n.toNat, by omega⟩
          have hB2 := rBook_q hB (fr456q (cps_2 (S := SC) (v := 0) (w := 0))) (fmgd (S := SM))
          obtain ⟨w1, w2, w3⟩ := bkn_e hB2
          generalize hn : bkn (mgd SM) = nb at w1 w2 w3
          rw [c_whyNoRoom w2 w3 (by omega), b1s, w1, J_add, iLE (by omega) (by omega) (by decide) (by decide)]
          by_cases e5 : (nb : Int) + N ≤ 1000
          · rw [if_pos e5, if_pos e5, c_passes0, b2s, if_neg (show ¬ J 1 = J 0 by decide)]
            have f3 : fr E456 SC (cps (cps (cps SC 0) 0) 0) := fr_t cps_2 fr_cps
            have hI := InvB_0 hInv f3 cps_12
            have hg3 := rHall_q hh (fr456q f3) (fmgd (S := SM))
            obtain ⟨r, SC', SM', r1, r2, r3⟩ := climb_L (p := P) (t := t + 1) e3 (by omega) (by omega) FU 0 _ _ _ x (Nat.zero_le N) (by have := FUs (n := 52) (by omega); omega) e2 hI hg3 (by omega) e1.2 (by omega)
            exact ⟨_, _, _, r1, r2, Inv_of r3 (by omega)⟩
          · rw [if_neg e5, if_neg e5, c_passesN (by decide), b2s, if_pos rfl]
            exact ⟨_, _, _, rfl, rfl, Inv_w hInv (fr_t cps_2 fr_cps) (by decide) cps_12⟩
        · rw [if_neg e4]
          refine no2 _ ?_
          by_cases z : n < 1
          · rw [if_pos z]
          · rw [if_neg z, if_pos (by omega)]
      · rw [if_neg e3, if_neg e3]
        exact no2 _ rfl
    · rw [if_neg e2, if_neg e2]
      exact no2 _ rfl
  · rw [if_neg e1, if_neg e1, if_pos trivial]
    exact ⟨_, _, _, rfl, rfl, Inv_w hInv fr_cps (by decide) cps_12⟩
end
