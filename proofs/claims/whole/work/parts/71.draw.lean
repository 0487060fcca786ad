/-! Drawing a trial. -/
def sC (S : zM) (d : Int) : zM := pI S 0 11 (J d)
def sM (S : zM) (d : Int) : zM := pI S 0 20 (J d)
theorem pI_pI {S : zM} {q k : Nat} {v w : Int32} : pI (pI S q k v) q k w = pI S q k w := by
  unfold pI
  congr 1
  funext a b
  by_cases h : a = q ∧ b = k
  · rw [if_pos h, if_pos h]
  · rw [if_neg h, if_neg h]
    show (if a = q ∧ b = k then v else S.1 a b) = _
    rw [if_neg h]
theorem sC_o {S : zM} {d : Int} {q k : Nat} (h : ¬ (q = 0 ∧ k = 11)) : gI (sC S d) q k = gI S q k := by
  unfold sC
  rw [rII, if_neg h]
theorem sC_R {S : zM} {d : Int} {q k : Nat} : gR (sC S d) q k = gR S q k := by
  unfold sC
  rw [rRI]
theorem sC_s {S : zM} {d : Int} : gI (sC S d) 0 11 = J d := by
  unfold sC
  rw [rII, if_pos ⟨rfl, rfl⟩]
theorem sM_o {S : zM} {d : Int} {q k : Nat} (h : ¬ (q = 0 ∧ k = 20)) : gI (sM S d) q k = gI S q k := by
  unfold sM
  rw [rII, if_neg h]
theorem sM_s {S : zM} {d : Int} : gI (sM S d) 0 20 = J d := by
  unfold sM
  rw [rII, if_pos ⟨rfl, rfl⟩]
theorem fr_sC {S : zM} {d : Int} : fr (fun q k => q = 0 ∧ k = 11) S (sC S d) := fr_pI ⟨rfl, rfl⟩
theorem fr_sM {S : zM} {d : Int} : fr (fun q k => q = 0 ∧ k = 20) S (sM S d) := fr_pI ⟨rfl, rfl⟩
theorem sM_i {S : zM} {d : Int} {q k : Nat} (h : ¬ (q = 0 ∧ k = 20)) : iI (sM S d) q k = iI S q k := iI_c (sM_o h)
theorem sM_mN {S : zM} {d : Int} {s k : Nat} : mN (sM S d) s k = mN S s k := mN_c (fun k => sM_o (by omega)) s k
theorem sM_mS {S : zM} {d : Int} {p : Nat} : mS (sM S d) p = mS S p := by unfold mS; rw [sM_i (by omega)]
theorem sM_mT {S : zM} {d : Int} {p : Nat} : mT (sM S d) p = mT S p := by unfold mT; rw [sM_i (by omega), sM_i (by omega)]
theorem sM_mLe {S : zM} {d : Int} {p : Nat} : mLe (sM S d) p = mLe S p := by unfold mLe; rw [sM_mS, sM_i (by omega), sM_i (by omega), sM_i (by omega)]
theorem sM_mK {S : zM} {d : Int} {p : Nat} : mK (sM S d) p = mK S p := by unfold mK; rw [sM_mS, sM_mLe, sM_i (by omega)]
theorem sM_cnt {S : zM} {d : Int} {i : Nat} : cnt (sM S d) i = cnt S i := cnt_c (sM_o (by omega)) (fun k => sM_o (by omega)) i
theorem sM_lvk {S : zM} {d : Int} {s : Nat} {kd a b c k : Int} : lvk (sM S d) s kd a b c k = lvk S s kd a b c k := by unfold lvk; rw [sM_i (by omega)]
theorem rHall_s {SC SM : zM} {H : Nat} {d : Int} (h : rHall SC SM H) : rHall (sC SC d) (sM SM d) H := by
  have hH := h.1.1
  exact rHall_c h (fun q k a b => sC_o (by omega)) sC_R sC_R (sM_o (by omega)) (fun k => sM_o (by omega)) (fun k => sM_o (by omega)) (fun k => sM_o (by omega)) (fun k => sM_o (by omega))
theorem rTb_s {SM : zM} {B : Nat} {d : Int} (h : rTb SM B) : rTb (sM SM d) B := by
  intro p hp
  rw [sM_i (by omega), sM_i (by omega)]
  exact h p hp
theorem InvB_s {SC SM : zM} {B : Nat} {d : Int} (h : InvB SC SM B) (hd : 0 ≤ d ∧ d < 65537) : InvB (sC SC d) (sM SM d) B := by
  obtain ⟨⟨H, hh⟩, h2, h3, h5, h6, h7, h8⟩ := h
  refine ⟨⟨H, rHall_s hh⟩, rTb_s h2, rBook_c h3 (sC_o (by omega)) (fun k => sC_o (by omega)) (sM_o (by omega)) (fun q k _ _ => sM_o (by omega)), rCells_c h5 (sC_o (by omega)) (fun q k _ _ => sC_o (by omega)) (sM_o (by omega)) (fun q k _ _ => sM_o (by omega)), rSpans_c h6 (fun k => by unfold sC; rw [rLI]) (fun k => sC_o (by omega)), rTape_c h7 (sC_o (by omega)) (fun k => sC_o (by omega)) (sM_o (by omega)) (fun k => sM_o (by omega)), ?_⟩
  obtain ⟨-, g3, g4, g5, g6⟩ := h8
  refine ⟨⟨sC_s.trans sM_s.symm, by rw [iI_of sM_s (by omega) (by omega)]; exact hd⟩, ?_, ?_, fun z => ?_, fun z => ?_⟩
  · rw [sC_o (by omega), sM_o (by omega)]; exact g3
  · rw [sC_o (by omega), sM_o (by omega)]; exact g4
  · rw [sM_i (by omega)] at z
    rw [sC_o (by omega), sM_o (by omega)]; exact g5 z
  · rw [sM_o (by omega)] at z
    unfold bkn
    rw [sM_i (by omega)]
    exact g6 z
theorem rAsk_s {SC SM : zM} {H : Nat} {p kd a b c d : Int} (h : rAsk SC SM H p kd a b c) : rAsk (sC SC d) (sM SM d) H p kd a b c := by
  obtain ⟨h0, h1, h2, h3, h4, h5, h6, h7⟩ := h
  refine ⟨by rw [sC_R]; exact h0, ?_, fun z => by rw [sC_R]; exact h2 z, ?_, ?_, ?_, ?_, ?_⟩
  · rw [sC_R, sM_i (by omega)]; exact h1
  · rw [sC_o (by omega)]; exact h3
  · rw [sC_o (by omega)]; exact h4
  · rw [sC_o (by omega)]; exact h5
  · rw [sC_o (by omega)]; exact h6
  · rw [sC_o (by omega)]; exact h7
section
variable {SC SM : zM} {H p t : Nat} {kd a b c : Int}
theorem okP_s {d : Int} (h : rHall SC SM H) (hT : rTot SM t) (ht : t ≤ 512) (hp : (p : Int) < cnt SM 1) : okP (sC SC d) (sM SM d) H p t := by
  refine okP_of (rHall_s h) (by rw [sM_cnt]; exact hp) ht (fun q hq => ?_)
  rw [sM_i (by omega), sM_i (by omega)]
  exact hT q hq
/-- a noise is drawn, by both -/
theorem fd_eq {d k : Int} (hh : rHall SC SM H) (hT : rTot SM t) (ht : t ≤ 512) (hp : (p : Int) < cnt SM 1) (ask : rAsk SC SM H p kd a b c) (hok : okB kd a b c) (hk : 0 ≤ kd ∧ kd ≤ 5) (hb4 : kd = 4 → 0 ≤ b ∧ b < cnt SM 0) (hd : 0 ≤ d ∧ d < 65537) (h0 : 0 ≤ k ∧ k ≤ 2) (h1 : k < fe kd) : ∃ v d' : Int, (-5 ≤ v ∧ v ≤ 5) ∧ (0 ≤ d' ∧ d' < 65537) ∧ gX11_feelingDrawn (sC SC d) (H + 7 + 31 * mS SM p + 7 + 4 * (mK SM p - 1)) (J k) = some (J (lvk SM (mS SM p) kd a b c k + v), sC SC d') ∧ gX12_drawnNoise (sM SM d) (J (mS SM p)) (J (mK SM p)) = some (J v, sM SM d') := by
  have ok : okP (sC SC d) (sM SM d) H p t := okP_s hh hT ht hp
  have ok0 : okP SC SM H p t := okP_of hh hp ht hT
  have ask' := rAsk_s (d := d) ask
  have hs := mS_b ok0
  have hkk := mK_b ok0
  obtain ⟨nz1, nz2⟩ := nzP ok0
  have hl := nAll_lo nz2
  have hu := nAll_hi nz2
  generalize hq : H + 7 + 31 * mS SM p + 7 + 4 * (mK SM p - 1) = q at nz1 ⊢
  have hq0 : q ≠ 0 := by omega
  obtain ⟨l, l1, l2, l3⟩ := c_levelOf (k := k) ok ask' hok hk (by rw [sM_cnt]; exact hb4) h0
  rw [sM_mS, sM_lvk] at l3
  have nzd : ∀ e, nzC (sC SC e) q (mN SM (mS SM p) (mK SM p)) := fun e => nzC_c nz1 (sC_o (by omega)) (fun k => sC_o (by omega)) (fun k => sC_o (by omega)) (fun k => sC_o (by omega))
  obtain ⟨e1, e2⟩ := drawn_eq (SC := sC SC d) (SM := sM SM d) (a := nAll (mN SM (mS SM p) (mK SM p))) sC_s sM_s hd ⟨hl, by omega⟩
  have w1 : pI (sC SC d) 0 11 (J ((75 * d + 74) % 65537)) = sC SC ((75 * d + 74) % 65537) := pI_pI
  have w2 : pI (sM SM d) 0 20 (J ((75 * d + 74) % 65537)) = sM SM ((75 * d + 74) % 65537) := pI_pI
  rw [w1] at e1
  rw [w2] at e2
  have hr0 : 0 ≤ (75 * d + 74) % 65537 % nAll (mN SM (mS SM p) (mK SM p)) := Int.emod_nonneg _ (by omega)
  have hr1 : (75 * d + 74) % 65537 % nAll (mN SM (mS SM p) (mK SM p)) < nAll (mN SM (mS SM p) (mK SM p)) := Int.emod_lt_of_pos _ (by omega)
  generalize hr : (75 * d + 74) % 65537 % nAll (mN SM (mS SM p) (mK SM p)) = r at e1 e2 hr0 hr1
  generalize hd' : (75 * d + 74) % 65537 = d' at e1 e2
  have hd2 : 0 ≤ d' ∧ d' < 65537 := by omega
  have nzM : nzC (sC SC d') q (mN (sM SM d') (mS SM p) (mK SM p)) := by rw [sM_mN]; exact nzd d'
  obtain ⟨j, j1, j2, j3⟩ := pick (SM := sM SM d') (r := r) nzM (by rw [sM_mN]; exact nz2) hs.1 hkk.2.1 hr0 (by rw [sM_mN]; exact hr1)
  refine ⟨(j : Int) - 5, d', by omega, hd2, ?_, ?_⟩
  · unfold gX11_feelingDrawn
    rw [c_feelings ask'.2.2.2.2.1 hk, b1s, iLE (by have := fe_b kd; omega) (by have := fe_b kd; omega) (by omega) (by omega), if_neg (by omega), l2, b1s, (nzd d).1, e1, b2s, j2, b1s, J_add, l3 h1]
  · have al : gX12_all (sM SM d) (J (mS SM p)) (J (mK SM p)) = some (J (nAll (mN SM (mS SM p) (mK SM p)))) := by
      rw [m_all hs.1 hkk.2.1, sM_mN]
    unfold gX12_drawnNoise
    rw [al, b1s, e2, b2s, j3]
theorem fd_no {S : zM} {q : Nat} {k : Int} (h4 : gI S 456 4 = J kd) (hk : 0 ≤ kd ∧ kd ≤ 5) (h0 : 0 ≤ k ∧ k ≤ 2) (h1 : fe kd ≤ k) : gX11_feelingDrawn S q (J k) = some (J 0, S) := by
  have := fe_b kd
  unfold gX11_feelingDrawn
  simp only [J_0, J_1, J_2, J_3, J_4, J_5, J_6, J_7, J_8, J_9, J_10, J_11, J_12, J_14, J_15, J_16, J_19, J_20, J_21, J_22, J_23, J_24, J_25, J_28, J_30, J_31, J_32, J_40, J_44, J_47, J_48, J_49, J_50, J_53, J_54, J_57, J_59, J_74, J_75, J_78, J_84, J_97, J_99, J_100, J_120, J_122, J_126, J_132, J_138, J_144, J_150, J_156, J_162, J_198, J_200, J_202, J_206, J_210, J_214, J_218, J_222, J_226, J_230, J_234, J_238, J_239, J_240, J_241, J_242, J_243, J_255, J_263, J_283, J_303, J_399, J_400, J_401, J_463, J_700, J_701, J_999, J_1000, J_2048, J_4095, J_4096, J_6000, J_9999, J_10000, J_65536, J_65537, J_2147483647, J_neg]
  rw [c_feelings h4 hk, b1s, iLE (by omega) (by omega) (by omega) (by omega), if_pos h1]
/-- a trial is drawn and written -/
theorem draw_eq {B : Nat} (h : InvB SC SM B) (hh : rHall SC SM H) (hB : B + 1 ≤ 4095 + 1000 * t) (ht : t ≤ 512) (hp : (p : Int) < cnt SM 1) (ask : rAsk SC SM H p kd a b c) (hk : 0 ≤ kd ∧ kd ≤ 5) (hok : okB kd a b c) (hb4 : kd = 4 → 0 ≤ b ∧ b < cnt SM 0) (hbi : inI b) (hci : inI c) (hbk : bkn SM < 1000) : ∃ (r : Int) (SC' SM' : zM), (0 ≤ r ∧ r ≤ 100000) ∧ gX11_sayDrawn SC = some (J r, SC') ∧ gX12_draws SM (J p) (J kd) (J a) (J b) (J c) = some (J r, SM') ∧ InvB SC' SM' (B + 1) ∧ rHall SC' SM' H ∧ fr (fun q k => EcW H q k ∨ (q = 0 ∧ k = 11)) SC SC' ∧ fr (fun q k => EmW q k ∨ (q = 0 ∧ k = 20)) SM SM' ∧ bkn SM' = bkn SM + 1 := by
  have hT : rTot SM t := rTot_of h.2.1 (by omega)
  have ok := okP_of hh hp ht hT
  have hs := mS_b ok
  have hkk := mK_b ok
  have hp6 := ok.2.1.1
  have hms := h.2.2.2.2.2.2.1
  generalize hd0 : iI SM 0 20 = d0 at hms
  have hC0 : sC SC d0 = SC := by
    unfold sC pI
    congr 1
    funext q k
    by_cases z : q = 0 ∧ k = 11
    · rw [if_pos z, z.1, z.2]
      exact (hms.1.trans (by rw [gI_J, hd0])).symm
    · rw [if_neg z]
  have hM0 : sM SM d0 = SM := by
    unfold sM pI
    congr 1
    funext q k
    by_cases z : q = 0 ∧ k = 20
    · rw [if_pos z, z.1, z.2, ← hd0]
      exact (gI_J SM 0 20).symm
    · rw [if_neg z]
  have hci5 : kd = 5 → 0 ≤ c ∧ c ≤ 1 := hok.2.2.2.2
  have hc2 := fe_b kd
  have x1 : ixb (J (120 + (p : Int))) 463 = true := ixb_J (by omega) (by omega) (by decide)
  have y1 : ix (J (120 + (p : Int))) = 120 + p := by rw [ix_J (by omega) (by omega)]; omega
  have g120 : gI SM 3 (120 + p) = J (mS SM p) := by rw [gI_J, hs.2.2]
  have R0 : gR SC 456 0 = H + 193 + 2 * p := ask.1
  -- behind the feelings
  have fin : ∀ (f g hh' g' h' d : Int), (0 ≤ d ∧ d < 65537) → inF f → inF g → inF hh' → inF g' → inF h' → (kd = 0 ∨ kd = 2 ∨ kd = 5 → g' = g) → (kd = 2 → h' = hh') → ∃ (r : Int) (SC' SM' : zM), (0 ≤ r ∧ r ≤ 100000) ∧ (b1 (gX0_said (sC SC d) (J f) (J g') (J h')) fun r9 => b1 (gX11_write (sC SC d) r9) fun S11 => some (r9, S11)) = some (J r, SC') ∧ gX12_draws_J114 (sM SM d) (J p) (J kd) (J a) (J b) (J c) (J f) (J g) (J hh') = some (J r, SM') ∧ InvB SC' SM' (B + 1) ∧ rHall SC' SM' H ∧ fr (fun q k => EcW H q k ∨ (q = 0 ∧ k = 11)) SC SC' ∧ fr (fun q k => EmW q k ∨ (q = 0 ∧ k = 20)) SM SM' ∧ bkn SM' = bkn SM + 1 := by
    intro f g hh' g' h' d hd hf hg hh'' hg' hh''' z1 z2
    have okd : okP (sC SC d) (sM SM d) H p t := okP_s hh hT ht hp
    have askd := rAsk_s (d := d) ask
    obtain ⟨A, A1, A2, A3⟩ := ansEx okd askd hk (by rw [sM_cnt]; exact hb4) hbi hci hci5
    have hA := A2 f g hh'
    have hle : kd ≤ 1 → A f g hh' ≤ 2 := by
      intro e
      have := (A1 f g hh' hf hg hh'').1
      rw [m_ans okd.2.1.1 okd.2.2.1.1 hk hf hg hh'' ⟨(mT_b okd).1, by have := (mT_b okd).2; omega⟩ hci] at this
      by_cases e0 : kd = 0
      · rw [if_pos e0] at this
        have q := anP_b (g + iI (sM SM d) 3 (132 + p) + mT (sM SM d) p - f) (iI (sM SM d) 3 (150 + p))
        rw [Option.some.injEq, J_inj (by omega) (by omega) (by omega) (by omega)] at this
        omega
      · rw [if_neg e0, if_pos (show kd = 1 by omega)] at this
        have q := b01 (q := f ≤ iI (sM SM d) 3 (126 + p) + mT (sM SM d) p)
        rw [Option.some.injEq, J_inj (by omega) (by omega) (by omega) (by omega)] at this
        omega
    have hbkn : bkn (sM SM d) = bkn SM := by unfold bkn; rw [sM_i (by omega)]
    obtain ⟨SC', SM', w1, w2, w3, w4, w5, w6, w7⟩ := write_eq (an := A f g hh') (InvB_s h hd) (rHall_s hh) (by omega) (by rw [sM_cnt]; exact hp) askd hk hok (by rw [sM_cnt]; exact hb4) ⟨inI_of hA.1 hA.2, hA.1, hle⟩ (by rw [hbkn]; exact hbk)
    refine ⟨A f g hh', SC', SM', hA, ?_, ?_, w3, w4, fr_t (fr_w fr_sC (fun _ _ z => Or.inr z)) (fr_w w5 (fun _ _ z => Or.inl z)), fr_t (fr_w fr_sM (fun _ _ z => Or.inr z)) (fr_w w6 (fun _ _ z => Or.inl z)), by rw [w7, hbkn]⟩
    · rw [A3 f g hh' hf hg hh'' g' h' hg' hh''' z1 z2, b1s, w1, b1s]
    · unfold gX12_draws_J114
      rw [m_tired okd, b1s, (A1 f g hh' hf hg hh'').1, b1s, w2, b1s]
  have fd := fun (d k : Int) (hd : 0 ≤ d ∧ d < 65537) (h0 : 0 ≤ k ∧ k ≤ 2) (h1 : k < fe kd) => fd_eq (d := d) (k := k) hh hT ht hp ask hok hk hb4 hd h0 h1
  have lv := fun (k : Int) (h0 : 0 ≤ k) (h1 : k < fe kd) => lvk_b (k := k) (okS ok).1 hok hk h0 h1
  have la := fun (d k : Int) (h0 : 0 ≤ k) (h1 : k < fe kd) => m_levelAt (SM := sM SM d) (k := k) hs.1 hok hk hci h0 h1
  have h4 : ∀ d, gI (sC SC d) 456 4 = J kd := fun d => by rw [sC_o (by omega)]; exact ask.2.2.2.2.1
  obtain ⟨v0, d1, v0b, d1b, p0, q0⟩ := fd d0 0 (by omega) (by omega) (by omega)
  rw [hC0] at p0
  rw [hM0] at q0
  have l0 := lv 0 (by omega) (by omega)
  have la0 := la d0 0 (by omega) (by omega)
  rw [hM0] at la0
  have hn7 : zobb cW 8 (H + 193 + 2 * p) = true := zb8 ok.1 hp6
  unfold gX11_sayDrawn gX12_draws
  simp only [J_0, J_1, J_2, J_3, J_4, J_5, J_6, J_7, J_8, J_9, J_10, J_11, J_12, J_14, J_15, J_16, J_19, J_20, J_21, J_22, J_23, J_24, J_25, J_28, J_30, J_31, J_32, J_40, J_44, J_47, J_48, J_49, J_50, J_53, J_54, J_57, J_59, J_74, J_75, J_78, J_84, J_97, J_99, J_100, J_120, J_122, J_126, J_132, J_138, J_144, J_150, J_156, J_162, J_198, J_200, J_202, J_206, J_210, J_214, J_218, J_222, J_226, J_230, J_234, J_238, J_239, J_240, J_241, J_242, J_243, J_255, J_263, J_283, J_303, J_399, J_400, J_401, J_463, J_700, J_701, J_999, J_1000, J_2048, J_4095, J_4096, J_6000, J_9999, J_10000, J_65536, J_65537, J_2147483647, J_neg, J_neg, J_add, J_sub, J_mul, hn7, ckt, b1s, b2s, lts, un2s, un3s, un4s, un5s, lmr, lml, lgr, lgl, R0, c_noiseOf ok, p0, x1, y1, g120, m_wholesNow ok, m_feelings hk, la0, q0]
  by_cases e1 : fe kd = 1
  · have n02 : ¬ (kd = 0 ∨ kd = 2 ∨ kd = 5) := by unfold fe at e1; intro z; split at e1 <;> omega
    rw [fd_no (h4 d1) hk (by omega) (by omega), b2s, fd_no (h4 d1) hk (by omega) (by omega), b2s, e1, if_pos (show J 1 ≤ J 1 by decide)]
    unfold gX12_draws_J80
    simp only [J_0, J_1, J_2, J_3, J_4, J_5, J_6, J_7, J_8, J_9, J_10, J_11, J_12, J_14, J_15, J_16, J_19, J_20, J_21, J_22, J_23, J_24, J_25, J_28, J_30, J_31, J_32, J_40, J_44, J_47, J_48, J_49, J_50, J_53, J_54, J_57, J_59, J_74, J_75, J_78, J_84, J_97, J_99, J_100, J_120, J_122, J_126, J_132, J_138, J_144, J_150, J_156, J_162, J_198, J_200, J_202, J_206, J_210, J_214, J_218, J_222, J_226, J_230, J_234, J_238, J_239, J_240, J_241, J_242, J_243, J_255, J_263, J_283, J_303, J_399, J_400, J_401, J_463, J_700, J_701, J_999, J_1000, J_2048, J_4095, J_4096, J_6000, J_9999, J_10000, J_65536, J_65537, J_2147483647, J_neg]
    rw [if_pos (show J 1 ≤ J 2 by decide)]
    exact fin (lvk SM (mS SM p) kd a b c 0 + v0) 0 0 0 0 d1 d1b ⟨by omega, by omega⟩ ⟨by omega, by omega⟩ ⟨by omega, by omega⟩ ⟨by omega, by omega⟩ ⟨by omega, by omega⟩ (fun z => rfl) (fun z => rfl)
  · obtain ⟨v1, d2, v1b, d2b, p1, q1⟩ := fd d1 1 d1b (by omega) (by omega)
    have l1 := lv 1 (by omega) (by omega)
    have la1 := la d1 1 (by omega) (by omega)
    rw [sM_lvk] at la1
    by_cases e2 : fe kd = 2
    · rw [p1, b2s, fd_no (h4 d2) hk (by omega) (by omega), b2s, e2, if_neg (show ¬ J 2 ≤ J 1 by decide), la1, b1s, q1, b2s, J_add]
      unfold gX12_draws_J80
      simp only [J_0, J_1, J_2, J_3, J_4, J_5, J_6, J_7, J_8, J_9, J_10, J_11, J_12, J_14, J_15, J_16, J_19, J_20, J_21, J_22, J_23, J_24, J_25, J_28, J_30, J_31, J_32, J_40, J_44, J_47, J_48, J_49, J_50, J_53, J_54, J_57, J_59, J_74, J_75, J_78, J_84, J_97, J_99, J_100, J_120, J_122, J_126, J_132, J_138, J_144, J_150, J_156, J_162, J_198, J_200, J_202, J_206, J_210, J_214, J_218, J_222, J_226, J_230, J_234, J_238, J_239, J_240, J_241, J_242, J_243, J_255, J_263, J_283, J_303, J_399, J_400, J_401, J_463, J_700, J_701, J_999, J_1000, J_2048, J_4095, J_4096, J_6000, J_9999, J_10000, J_65536, J_65537, J_2147483647, J_neg]
      rw [if_pos (show J 2 ≤ J 2 by decide)]
      have n2 : ¬ kd = 2 := by unfold fe at e2; intro z; rw [if_pos z] at e2; omega
      exact fin (lvk SM (mS SM p) kd a b c 0 + v0) (lvk SM (mS SM p) kd a b c 1 + v1) 0 (lvk SM (mS SM p) kd a b c 1 + v1) 0 d2 d2b ⟨by omega, by omega⟩ ⟨by omega, by omega⟩ ⟨by omega, by omega⟩ ⟨by omega, by omega⟩ ⟨by omega, by omega⟩ (fun z => rfl) (fun z => rfl)
    · obtain ⟨v2, d3, v2b, d3b, p2, q2⟩ := fd d2 2 d2b (by omega) (by omega)
      have l2 := lv 2 (by omega) (by omega)
      have la2 := la d2 2 (by omega) (by omega)
      rw [sM_lvk] at la2
      rw [p1, b2s, p2, b2s, show fe kd = 3 by omega, if_neg (show ¬ J 3 ≤ J 1 by decide), la1, b1s, q1, b2s, J_add]
      unfold gX12_draws_J80
      simp only [J_0, J_1, J_2, J_3, J_4, J_5, J_6, J_7, J_8, J_9, J_10, J_11, J_12, J_14, J_15, J_16, J_19, J_20, J_21, J_22, J_23, J_24, J_25, J_28, J_30, J_31, J_32, J_40, J_44, J_47, J_48, J_49, J_50, J_53, J_54, J_57, J_59, J_74, J_75, J_78, J_84, J_97, J_99, J_100, J_120, J_122, J_126, J_132, J_138, J_144, J_150, J_156, J_162, J_198, J_200, J_202, J_206, J_210, J_214, J_218, J_222, J_226, J_230, J_234, J_238, J_239, J_240, J_241, J_242, J_243, J_255, J_263, J_283, J_303, J_399, J_400, J_401, J_463, J_700, J_701, J_999, J_1000, J_2048, J_4095, J_4096, J_6000, J_9999, J_10000, J_65536, J_65537, J_2147483647, J_neg]
      rw [if_neg (show ¬ J 3 ≤ J 2 by decide), la2, b1s, q2, b2s, J_add]
      exact fin (lvk SM (mS SM p) kd a b c 0 + v0) (lvk SM (mS SM p) kd a b c 1 + v1) (lvk SM (mS SM p) kd a b c 2 + v2) (lvk SM (mS SM p) kd a b c 1 + v1) (lvk SM (mS SM p) kd a b c 2 + v2) d3 d3b ⟨by omega, by omega⟩ ⟨by omega, by omega⟩ ⟨by omega, by omega⟩ ⟨by omega, by omega⟩ ⟨by omega, by omega⟩ (fun z => rfl) (fun z => rfl)
end
