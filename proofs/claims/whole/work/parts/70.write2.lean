/-! A trial is written: it holds again. -/
def EcW (H q k : Nat) : Prop := (q = 219 ∧ k = 2) ∨ q = 220 ∨ (q = 221 ∧ k = 7) ∨ (222 ≤ q ∧ q ≤ 228) ∨ sy89 H q k
/-- a row that is no cell's leaves the cells -/
theorem rCells_more {SC SM SM' : zM} {n : Nat} {p k a b an : Int} (hc : rCells SC SM) (h1 : plus1 SM SM' n p k a b an) (hr : inI p ∧ inI k ∧ inI a ∧ inI b) (hr5 : inI an) (hk : 2 ≤ k) : rCells SC SM' := by
  obtain ⟨u, c1, c2, c3, c4, c5, c6, c7, c8, c9⟩ := hc
  have hnn := h1.1
  rw [hnn] at c2 c3 c4 c6
  have e9 : ∀ i, i < n → iI SM' 9 i = iI SM 9 i := fun i hi => congrArg Int32.toInt (h1.2.2.1 9 i (by decide) (by decide) hi)
  have k9 : iI SM' 9 n = k := iI_of h1.2.2.2.2.1 hr.2.1.1 hr.2.1.2
  have sk : ∀ d i, i < n → sameK SC SM d i → sameK SC SM' d i := by
    intro d i hi hs
    unfold sameK
    rw [h1.2.2.1 8 i (by decide) (by decide) hi, h1.2.2.1 9 i (by decide) (by decide) hi, h1.2.2.1 10 i (by decide) (by decide) hi, h1.2.2.1 11 i (by decide) (by decide) hi]
    exact hs
  refine ⟨u, c1, by rw [h1.2.1]; omega, ?_, ?_, c5, ?_, c7, c8, c9⟩
  · intro d hd
    obtain ⟨i, i1, i2, i3⟩ := c3 d hd
    exact ⟨i, by rw [h1.2.1]; omega, by rw [e9 i i1]; exact i2, sk d i i1 i3⟩
  · intro i hi hi9
    rw [h1.2.1] at hi
    by_cases e : i = n
    · rw [e, k9] at hi9
      omega
    · rw [e9 i (by omega)] at hi9
      obtain ⟨d, d1, d2⟩ := c4 i (by omega) hi9
      exact ⟨d, d1, sk d i (by omega) d2⟩
  · intro d hd
    obtain ⟨i, i1, i2, i3⟩ := c3 d hd
    have hkd : iI SC 224 d ≤ 1 := by rw [iI_c i3.2.1]; exact i2
    have hm : ¬ (p = iI SC 223 d ∧ k = iI SC 224 d ∧ a = iI SC 225 d ∧ b = iI SC 226 d) := fun z => by omega
    obtain ⟨t1, t2⟩ := c6 d hd
    rw [h1.2.1, nK_new h1 hr, if_neg hm, Int.add_zero]
    refine ⟨t1, fun x hx => ?_⟩
    rw [nKA_new h1 hr hr5, if_neg (fun z => hm z.1), Int.add_zero]
    exact t2 x hx
theorem cells_put {SC SM SM' : zM} {n : Nat} {p kd a b c an : Int} (hc : rCells SC SM) (hn : n < 1000) (h1 : plus1 SM SM' n p kd a (if kd = 1 ∨ kd = 3 then 0 else b) an) (hp : 0 ≤ p ∧ p < 6) (hk : 0 ≤ kd ∧ kd ≤ 5) (ha : 0 ≤ a ∧ a ≤ 400) (hb : 0 ≤ b ∧ b ≤ 400 ∨ kd = 1 ∨ kd = 3) (han : inI an ∧ 0 ≤ an ∧ (kd ≤ 1 → an ≤ 2)) (a3 : gI SC 456 3 = J p) (a4 : gI SC 456 4 = J kd) (a5 : gI SC 456 5 = J a) (a6 : gI SC 456 6 = J (if kd = 1 ∨ kd = 3 then 0 else b)) : ∃ SC', (if kd ≤ 1 then gX2_put SC (J an) else some SC) = some SC' ∧ fr Epc SC SC' ∧ rCells SC' SM' := by
  have hb' : 0 ≤ (if kd = 1 ∨ kd = 3 then 0 else b) ∧ (if kd = 1 ∨ kd = 3 then 0 else b) ≤ 400 := by split <;> omega
  by_cases e : kd ≤ 1
  · rw [if_pos e]
    exact c_put2 hc hn h1 hp ⟨hk.1, e⟩ ha hb' ⟨han.2.1, by have := han.2.2 e; omega⟩ a3 a4 a5 a6
  · rw [if_neg e]
    exact ⟨SC, rfl, fr_r, rCells_more hc h1 ⟨⟨by omega, by omega⟩, ⟨by omega, by omega⟩, ⟨by omega, by omega⟩, ⟨by omega, by omega⟩⟩ han.1 (by omega)⟩
theorem write_eq {SC SM : zM} {H p B : Nat} {kd a b c an : Int} (h : InvB SC SM B) (hh : rHall SC SM H) (hB : B ≤ 1000000) (hp : (p : Int) < cnt SM 1) (ask : rAsk SC SM H p kd a b c) (hk : 0 ≤ kd ∧ kd ≤ 5) (hok : okB kd a b c) (hb4 : kd = 4 → 0 ≤ b ∧ b < cnt SM 0) (han : inI an ∧ 0 ≤ an ∧ (kd ≤ 1 → an ≤ 2)) (hbk : bkn SM < 1000) : ∃ SC' SM', gX11_write SC (J an) = some SC' ∧ gX12_books SM (J p) (J kd) (J a) (J b) (J c) (J an) = some SM' ∧ InvB SC' SM' (B + 1) ∧ rHall SC' SM' H ∧ fr (EcW H) SC SC' ∧ fr EmW SM SM' ∧ bkn SM' = bkn SM + 1 := by
  obtain ⟨-, hT, hBk, hC, hSp, hTp, hM⟩ := h
  have hH := hh.1.1
  have n1 := hh.2.1.2.1
  have n0 := hh.2.1.1
  have hp6 : p < 6 := by omega
  obtain ⟨a0, -, -, a3, a4, a5, a6, a7⟩ := ask
  rw [Int.toNat_natCast] at a0
  generalize hn : bkn SM = n at hbk
  have hn21 : gI SM 0 21 = J n := by
    have := hBk.2.1
    rw [gI_J, ← hn]
    unfold bkn
    congr 1
    omega
  have hn2 : gI SC 219 2 = J n := hBk.1.trans hn21
  have hm := m_books (a := a) (b := b) (c := c) (an := an) hn21 hbk hp6 hk
  generalize hSM' : mbk SM n p kd a b c an = SM' at hm
  have n21 : gI SM' 0 21 = J ((n + 1 : Nat) : Int) := by rw [← hSM', mbk_21]; rfl
  have hbk' : bkn SM' = n + 1 := by
    unfold bkn
    rw [iI_of n21 (by omega) (by omega)]
    omega
  have fM : fr EmW SM SM' := by rw [← hSM']; exact fr_mbk
  have hpl : plus1 SM SM' n p kd a (if kd = 1 ∨ kd = 3 then 0 else b) an := ⟨hn, hbk', fun q i q1 q2 hi => by rw [← hSM', mbk_old q1 q2 hi], by rw [← hSM']; exact ⟨mbk_8, mbk_9, mbk_10, mbk_11, mbk_13⟩⟩
  have hok' := hok
  unfold okB at hok'
  have ha : 0 ≤ a ∧ a ≤ 400 := by
    refine ⟨?_, hok'.2.1⟩
    have := hok'.1
    split at this <;> omega
  -- the class' row and cells
  have hp1 := c_put1 (an := an) hn2 hbk a4 hk
  rw [a3, a4, a5, a6, a7] at hp1
  generalize hS1 : crw SC n (J p) (J kd) (J a) (J (if kd = 1 ∨ kd = 3 then 0 else b)) (J (if kd = 2 ∨ kd = 5 then c else 0)) (J an) = S1 at hp1
  have f1 : fr Erw SC S1 := by rw [← hS1]; exact fr_crw
  have o1 : ∀ q k, ¬ Erw q k → gI S1 q k = gI SC q k := f1.1
  have hC1 : rCells S1 SM := rCells_c hC (o1 221 7 (by unfold Erw; omega)) (fun q k q1 q2 => o1 q k (by unfold Erw; omega)) rfl (fun q k _ _ => rfl)
  obtain ⟨S2, g1, g2, g3⟩ := cells_put (c := c) hC1 hbk hpl ⟨by omega, by omega⟩ hk ha (by omega) han ((o1 456 3 (by unfold Erw; omega)).trans a3) ((o1 456 4 (by unfold Erw; omega)).trans a4) ((o1 456 5 (by unfold Erw; omega)).trans a5) ((o1 456 6 (by unfold Erw; omega)).trans a6)
  rw [g1] at hp1
  have f2 : fr (fun q k => Erw q k ∨ Epc q k) SC S2 := fr_t (fr_w f1 (fun _ _ z => Or.inl z)) (fr_w g2 (fun _ _ z => Or.inr z))
  have o2 : ∀ q k, ¬ (Erw q k ∨ Epc q k) → gI S2 q k = gI SC q k := f2.1
  have R2 : gR S2 456 0 = H + 193 + 2 * p := (f2.2.2 456 0 (by unfold Erw Epc; omega)).trans a0
  generalize hy : H + 193 + 2 * p = y at R2
  have hz8 : zobb cW 8 y = true := by rw [← hy]; exact zb8 hH hp6
  obtain ⟨-, -, -, -, -, -, -, -, -, s8, s9⟩ := hh.2.2.2.2.1 p hp
  rw [hy] at s8 s9
  have y8 : gI S2 y 8 = gI SM 6 p := (o2 y 8 (by unfold Erw Epc; omega)).trans s8
  have y9 : gI S2 y 9 = gI SM 7 p := (o2 y 9 (by unfold Erw Epc; omega)).trans s9
  have hw : gX11_write SC (J an) = some (pI (pI S2 y 8 (gI SM 6 p + J 1)) y 9 (gI SM 7 p + J 1)) := by
    unfold gX11_write
    rw [hp1, b1s]
    simp (disch := omega) only [J_0, J_1, J_2, J_3, J_4, J_5, J_6, J_7, J_8, J_9, J_10, J_11, J_12, J_14, J_15, J_16, J_19, J_20, J_21, J_22, J_23, J_24, J_25, J_28, J_30, J_31, J_32, J_40, J_44, J_47, J_48, J_49, J_50, J_53, J_54, J_57, J_59, J_74, J_75, J_78, J_84, J_97, J_99, J_100, J_120, J_122, J_126, J_132, J_138, J_144, J_150, J_156, J_162, J_198, J_200, J_202, J_206, J_210, J_214, J_218, J_222, J_226, J_230, J_234, J_238, J_239, J_240, J_241, J_242, J_243, J_255, J_263, J_283, J_303, J_399, J_400, J_401, J_463, J_700, J_701, J_999, J_1000, J_2048, J_4095, J_4096, J_6000, J_9999, J_10000, J_65536, J_65537, J_2147483647, J_neg, R2, hz8, rRI, ckt, b1s, b2s, lts, un2s, un3s, un4s, un5s, lmr, lml, lgr, lgl, y8, y9, rII, if_neg]
  generalize hSC' : pI (pI S2 y 8 (gI SM 6 p + J 1)) y 9 (gI SM 7 p + J 1) = SC' at hw
  have hsy : ∀ k, k = 8 ∨ k = 9 → sy89 H y k := fun k z => by unfold sy89; omega
  have f3 : fr (fun q k => Erw q k ∨ Epc q k ∨ (q = y ∧ (k = 8 ∨ k = 9))) SC SC' := by
    rw [← hSC']
    exact fr_t (fr_t (fr_w f2 (fun q k z => by rcases z with z | z; exact Or.inl z; exact Or.inr (Or.inl z))) (fr_pI (Or.inr (Or.inr ⟨rfl, Or.inl rfl⟩)))) (fr_pI (Or.inr (Or.inr ⟨rfl, Or.inr rfl⟩)))
  have o3 : ∀ q k, ¬ (Erw q k ∨ Epc q k ∨ (q = y ∧ (k = 8 ∨ k = 9))) → gI SC' q k = gI SC q k := f3.1
  have m3 : ∀ q k, ¬ EmW q k → gI SM' q k = gI SM q k := fM.1
  have hHall : rHall SC' SM' H := by
    refine rHall_u hh (fun q k q1 q2 q3 => o3 q k ?_) (f3.2.2 0 8 (by unfold Erw Epc; omega)) (f3.2.2 2 6 (by unfold Erw Epc; omega)) (m3 0 14 (by unfold EmW; omega)) (fun k => m3 3 k (by unfold EmW; omega)) (fun k => m3 5 k (by unfold EmW; omega)) (fun q hq hq6 e8 e9 => ?_)
    · unfold sy89 at q3
      unfold Erw Epc
      omega
    · rw [← hSM', mbk_6, mbk_7]
      by_cases e : q = p
      · subst e
        rw [hy, if_pos rfl, if_pos rfl, ← hSC']
        refine ⟨?_, ?_⟩
        · rw [rII, if_neg (by omega), rII, if_pos ⟨rfl, rfl⟩]
        · rw [rII, if_pos ⟨rfl, rfl⟩]
      · rw [if_neg e, if_neg e, o3 _ 8 (by unfold Erw Epc; omega), o3 _ 9 (by unfold Erw Epc; omega)]
        exact ⟨e8, e9⟩
  refine ⟨SC', SM', hw, hm, ⟨⟨H, hHall⟩, ?_, ?_, ?_, ?_, ?_, ?_⟩, hHall, ?_, fM, hbk'⟩
  · intro q hq
    have hTq := hT q hq
    have hTp' := hT p hp6
    have w6 : iI SM' 6 q = if q = p then iI SM 6 p + 1 else iI SM 6 q := by
      by_cases e : q = p
      · rw [if_pos e]
        refine iI_of ?_ (by omega) (by omega)
        rw [← hSM', mbk_6, if_pos e, gI_J, J_add]
      · rw [if_neg e]
        exact iI_c (by rw [← hSM', mbk_6, if_neg e])
    have w7 : iI SM' 7 q = if q = p then iI SM 7 p + 1 else iI SM 7 q := by
      by_cases e : q = p
      · rw [if_pos e]
        refine iI_of ?_ (by omega) (by omega)
        rw [← hSM', mbk_7, if_pos e, gI_J, J_add]
      · rw [if_neg e]
        exact iI_c (by rw [← hSM', mbk_7, if_neg e])
    rw [w6, w7]
    by_cases e : q = p
    · rw [if_pos e, if_pos e]; omega
    · rw [if_neg e, if_neg e]; omega
  · -- the book
    have b2 : gI S2 219 2 = J ((n + 1 : Nat) : Int) := by
      rw [g2.1 219 2 (by unfold Epc; omega), ← hS1, crw_2]
      rfl
    have b2' : gI SC' 219 2 = J ((n + 1 : Nat) : Int) := by
      rw [← hSC', rII, if_neg (by omega), rII, if_neg (by omega)]
      exact b2
    have br : ∀ m, gI SC' 220 m = gI S1 220 m := by
      intro m
      rw [← hSC', rII, if_neg (by omega), rII, if_neg (by omega)]
      exact g2.1 220 m (by unfold Epc; omega)
    refine ⟨b2'.trans n21.symm, by rw [iI_of n21 (by omega) (by omega)]; omega, fun i hi => ?_⟩
    rw [hbk'] at hi
    by_cases e : i = n
    · subst e
      have w8 : gI SM' 8 i = J p := by rw [← hSM', mbk_8]
      have w9 : gI SM' 9 i = J kd := by rw [← hSM', mbk_9]
      have w10 : gI SM' 10 i = J a := by rw [← hSM', mbk_10]
      have w11 : gI SM' 11 i = J (if kd = 1 ∨ kd = 3 then 0 else b) := by rw [← hSM', mbk_11]
      have w12 : gI SM' 12 i = J (if kd = 2 ∨ kd = 5 then c else 0) := by rw [← hSM', mbk_12]
      have w13 : gI SM' 13 i = J an := by rw [← hSM', mbk_13]
      have hbb : 0 ≤ (if kd = 1 ∨ kd = 3 then 0 else b) ∧ (if kd = 1 ∨ kd = 3 then 0 else b) ≤ 400 := by split <;> omega
      have hcc : 0 ≤ (if kd = 2 ∨ kd = 5 then c else 0) ∧ (if kd = 2 ∨ kd = 5 then c else 0) ≤ 2 := by split <;> omega
      refine ⟨?_, fun j hj => ?_⟩
      · unfold mRow
        rw [iI_of w8 (by omega) (by omega), iI_of w9 (by omega) (by omega), iI_of w10 (by omega) (by omega), iI_of w11 (by omega) (by omega), iI_of w12 (by omega) (by omega), iI_of w13 han.1.1 han.1.2]
        refine ⟨by omega, hk, ha, hbb, hcc, han.2.1, han.2.2, fun z => if_pos z, fun z => if_neg (by omega)⟩
      · obtain ⟨r0, r1, r2, r3, r4, r5⟩ := crw_new (S := SC) (n := i) (v3 := J p) (v4 := J kd) (v5 := J a) (v6 := J (if kd = 1 ∨ kd = 3 then 0 else b)) (v7 := J (if kd = 2 ∨ kd = 5 then c else 0)) (v := J an)
        rw [br, ← hS1]
        have hj6 : j = 0 ∨ j = 1 ∨ j = 2 ∨ j = 3 ∨ j = 4 ∨ j = 5 := by omega
        rcases hj6 with rfl | rfl | rfl | rfl | rfl | rfl
        · rw [Nat.add_zero, r0]; exact w8.symm
        · rw [r1]; exact w9.symm
        · rw [r2]; exact w10.symm
        · rw [r3]; exact w11.symm
        · rw [r4]; exact w12.symm
        · rw [r5]; exact w13.symm
    · have hi' : i < n := by omega
      obtain ⟨r1, r2⟩ := hBk.2.2 i (by rw [hn]; exact hi')
      have e' : ∀ q, 8 ≤ q → q ≤ 13 → gI SM' q i = gI SM q i := fun q q1 q2 => hpl.2.2.1 q i q1 q2 hi'
      have ei : ∀ q, 8 ≤ q → q ≤ 13 → iI SM' q i = iI SM q i := fun q q1 q2 => congrArg Int32.toInt (e' q q1 q2)
      refine ⟨?_, fun j hj => ?_⟩
      · unfold mRow
        rw [ei 8 (by decide) (by decide), ei 9 (by decide) (by decide), ei 10 (by decide) (by decide), ei 11 (by decide) (by decide), ei 12 (by decide) (by decide), ei 13 (by decide) (by decide)]
        exact r1
      · rw [br, ← hS1, crw_old (by omega), e' _ (by omega) (by omega)]
        exact r2 j hj
  · refine rCells_c g3 ?_ (fun q k q1 q2 => ?_) rfl (fun q k _ _ => rfl)
    · rw [← hSC', rII, if_neg (by omega), rII, if_neg (by omega)]
    · rw [← hSC', rII, if_neg (by omega), rII, if_neg (by omega)]
  · exact rSpans_c hSp (fun k => f3.2.1 237 k (by unfold Erw Epc; omega)) (fun k => o3 238 k (by unfold Erw Epc; omega))
  · exact rTape_c hTp (o3 0 10 (by unfold Erw Epc; omega)) (fun k => o3 1 k (by unfold Erw Epc; omega)) (m3 0 2 (by unfold EmW; omega)) (fun k => m3 1 k (by unfold EmW; omega))
  · obtain ⟨⟨q1, q2⟩, q3, q4, q5, q6⟩ := hM
    have e20 : iI SM' 0 20 = iI SM 0 20 := fr_i fM (by unfold EmW; omega)
    have e11 : iI SM' 0 11 = iI SM 0 11 := fr_i fM (by unfold EmW; omega)
    refine ⟨⟨?_, by rw [e20]; exact q2⟩, ?_, ?_, fun z => ?_, fun z => ?_⟩
    · rw [o3 0 11 (by unfold Erw Epc; omega), m3 0 20 (by unfold EmW; omega)]; exact q1
    · rw [o3 0 12 (by unfold Erw Epc; omega), m3 0 11 (by unfold EmW; omega)]; exact q3
    · rw [o3 0 13 (by unfold Erw Epc; omega), m3 0 9 (by unfold EmW; omega)]; exact q4
    · rw [e11] at z
      rw [o3 0 14 (by unfold Erw Epc; omega), m3 0 10 (by unfold EmW; omega)]; exact q5 z
    · exfalso
      rw [m3 0 14 (by unfold EmW; omega)] at z
      have : cnt SM 1 = 0 := if_pos z
      omega
  · refine fr_w f3 (fun q k z => ?_)
    unfold EcW
    rcases z with z | z | z
    · unfold Erw at z; omega
    · unfold Epc at z; omega
    · rw [z.1]
      have := hsy k z.2
      exact Or.inr (Or.inr (Or.inr (Or.inr this)))
