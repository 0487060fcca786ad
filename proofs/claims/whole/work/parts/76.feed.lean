/-! feed. -/
theorem and255 (w : Int32) : (w &&& J 255).toInt = w.toInt % 256 := by
  have h1 : (w &&& J 255).toBitVec.toNat = w.toBitVec.toNat % 256 := by
    rw [Int32.toBitVec_and, BitVec.toNat_and]
    exact Nat.and_two_pow_sub_one_eq_mod _ 8
  have h2 : (w &&& J 255).toInt = (w &&& J 255).toBitVec.toInt := rfl
  have h3 : w.toInt = w.toBitVec.toInt := rfl
  rw [h2, h3, BitVec.toInt_eq_toNat_cond, BitVec.toInt_eq_toNat_cond, h1]
  have := w.toBitVec.isLt
  split <;> split <;> omega
theorem nar8 (w : Int32) : vp_nar .byte (w.toInt8.toInt32) = J (if w.toInt % 256 < 128 then w.toInt % 256 else w.toInt % 256 - 256) := by
  have e1 : vp_nar .byte (w.toInt8.toInt32) = (w.toInt8.toInt32).toInt8.toInt32 := rfl
  rw [e1, Int8.toInt8_toInt32, J_self (w.toInt8.toInt32), Int8.toInt_toInt32, Int32.toInt_toInt8]
  congr 1
def bw (w : Int32) : Int32 := vp_nar .byte (w.toInt8.toInt32)
/-- a byte is put -/
def fb (S : zM) (q t : Nat) (b : Int32) : zM := pI (pI S 1 t b) 0 q (J ((t : Int) + 1))
def cF (S : zM) (t : Nat) (w : Nat → Int32) : Nat → zM
  | 0 => S
  | n + 1 => fb (cF S t w n) 10 (t + n) (bw (w n))
def mF (S : zM) (t : Nat) (w : Nat → Int32) : Nat → zM
  | 0 => S
  | n + 1 => fb (mF S t w n) 2 (t + n) (w n &&& J 255)
theorem cF_t {S : zM} {t : Nat} {w : Nat → Int32} (h : gI S 0 10 = J t) : ∀ n, gI (cF S t w n) 0 10 = J ((t + n : Nat) : Int) := by
  intro n
  cases n with
  | zero => exact h
  | succ n =>
    unfold cF fb
    rw [rII, if_pos ⟨rfl, rfl⟩]
    congr 1
theorem mF_t {S : zM} {t : Nat} {w : Nat → Int32} (h : gI S 0 2 = J t) : ∀ n, gI (mF S t w n) 0 2 = J ((t + n : Nat) : Int) := by
  intro n
  cases n with
  | zero => exact h
  | succ n =>
    unfold mF fb
    rw [rII, if_pos ⟨rfl, rfl⟩]
    congr 1
theorem fr_cF {S : zM} {t : Nat} {w : Nat → Int32} : ∀ n, fr (fun q k => q = 1 ∨ (q = 0 ∧ k = 10)) S (cF S t w n) := by
  intro n
  induction n with
  | zero => exact fr_r
  | succ n ih => exact fr_t ih (fr_t (fr_pI (Or.inl rfl)) (fr_pI (Or.inr ⟨rfl, rfl⟩)))
theorem fr_mF {S : zM} {t : Nat} {w : Nat → Int32} : ∀ n, fr (fun q k => q = 1 ∨ (q = 0 ∧ k = 2)) S (mF S t w n) := by
  intro n
  induction n with
  | zero => exact fr_r
  | succ n ih => exact fr_t ih (fr_t (fr_pI (Or.inl rfl)) (fr_pI (Or.inr ⟨rfl, rfl⟩)))
/-- the tapes stay alike -/
theorem tape_F {SC SM : zM} {t : Nat} {w : Nat → Int32} (h : rTape SC SM) (ht : gI SM 0 2 = J t) : ∀ n, t + n ≤ 700 → rTape (cF SC t w n) (mF SM t w n) := by
  intro n
  induction n with
  | zero => exact fun _ => h
  | succ n ih =>
    intro hn
    obtain ⟨h1, h2, h3⟩ := ih (by omega)
    have hc := cF_t (S := SC) (w := w) (h.1.trans ht) n
    have hm := mF_t (S := SM) (w := w) ht n
    have hm' := mF_t (S := SM) (w := w) ht (n + 1)
    have hc' := cF_t (S := SC) (w := w) (h.1.trans ht) (n + 1)
    refine ⟨hc'.trans hm'.symm, by rw [iI_of hm' (by omega) (by omega)]; omega, fun k hk => ?_⟩
    rw [iI_of hm' (by omega) (by omega)] at hk
    have em : gI (mF SM t w (n + 1)) 1 k = if k = t + n then w n &&& J 255 else gI (mF SM t w n) 1 k := by
      show gI (fb (mF SM t w n) 2 (t + n) (w n &&& J 255)) 1 k = _
      unfold fb
      rw [rII, if_neg (by omega), rII]
      by_cases z : k = t + n
      · rw [if_pos ⟨rfl, z⟩, if_pos z]
      · rw [if_neg (fun q => z q.2), if_neg z]
    have ec : gI (cF SC t w (n + 1)) 1 k = if k = t + n then bw (w n) else gI (cF SC t w n) 1 k := by
      show gI (fb (cF SC t w n) 10 (t + n) (bw (w n))) 1 k = _
      unfold fb
      rw [rII, if_neg (by omega), rII]
      by_cases z : k = t + n
      · rw [if_pos ⟨rfl, z⟩, if_pos z]
      · rw [if_neg (fun q => z q.2), if_neg z]
    by_cases z : k = t + n
    · rw [if_pos z] at em ec
      have ei : iI (mF SM t w (n + 1)) 1 k = (w n).toInt % 256 := by
        unfold iI
        rw [em, and255]
      rw [ec, ei]
      refine ⟨by omega, ?_⟩
      unfold bw
      rw [nar8]
    · rw [if_neg z] at em ec
      rw [ec, iI_c em]
      exact h3 k (by rw [iI_of hm (by omega) (by omega)]; omega)
/-- four bytes -/
theorem c_put4 {S : zM} {t i : Nat} {v : Int32} {w : Nat → Int32} (h : gI S 0 10 = J t) (ht : t + i + 4 ≤ 700) (h0 : w (i + 0) = v >>> (J 24 &&& J 31)) (h1 : w (i + 1) = v >>> (J 16 &&& J 31)) (h2 : w (i + 2) = v >>> (J 8 &&& J 31)) (h3 : w (i + 3) = v >>> (J 0 &&& J 31)) : gX11_putBytes (cF S t w i) v = some (cF S t w (i + 4)) := by
  obtain ⟨m, hm⟩ : ∃ m, FU = m + 1 + 1 + 1 + 1 + 1 := ⟨1048571, rfl⟩
  have step : ∀ (n j : Nat) (s : Int), j < 4 → (0 ≤ s ∧ s ≤ 24) → w (i + j) = v >>> (J s &&& J 31) → gX11_putBytes_L3 v (n + 1) (cF S t w (i + j)) (J s) = gX11_putBytes_L3 v n (cF S t w (i + (j + 1))) (J (s + -8)) := by
    intro n j s hj hs hw
    have g := cF_t (S := S) (w := w) h (i + j)
    have x1 : ixb (J ((t + (i + j) : Nat) : Int)) 700 = true := ixb_J (by omega) (by omega) (by decide)
    have y1 : ix (J ((t + (i + j) : Nat) : Int)) = t + (i + j) := by rw [ix_J (by omega) (by omega)]; omega
    have e : cF S t w (i + (j + 1)) = fb (cF S t w (i + j)) 10 (t + (i + j)) (bw (w (i + j))) := rfl
    rw [e]
    unfold fb bw
    rw [gX11_putBytes_L3]
    simp (disch := omega) only [J_0, J_1, J_2, J_3, J_4, J_5, J_6, J_7, J_8, J_9, J_10, J_11, J_12, J_14, J_15, J_16, J_19, J_20, J_21, J_22, J_23, J_24, J_25, J_28, J_30, J_31, J_32, J_40, J_44, J_47, J_48, J_49, J_50, J_53, J_54, J_57, J_59, J_74, J_75, J_78, J_84, J_97, J_99, J_100, J_120, J_122, J_126, J_132, J_138, J_144, J_150, J_156, J_162, J_198, J_200, J_202, J_206, J_210, J_214, J_218, J_222, J_226, J_230, J_234, J_238, J_239, J_240, J_241, J_242, J_243, J_255, J_263, J_283, J_303, J_399, J_400, J_401, J_463, J_700, J_701, J_999, J_1000, J_2048, J_4095, J_4096, J_6000, J_9999, J_10000, J_65536, J_65537, J_2147483647, J_neg, g, x1, y1, ckt, b1s, b2s, lts, un2s, un3s, un4s, un5s, lmr, lml, lgr, lgl, rII, if_neg, hw, J_neg, J_add, J_sub, J_mul]
    rw [iLT (by omega) (by omega) (by decide) (by decide), if_neg (show ¬ s < 0 by omega), iLE (by decide) (by decide) (by omega) (by omega), if_neg (show ¬ (700 : Int) ≤ ((t + (i + j) : Nat) : Int) by omega)]
  unfold gX11_putBytes
  rw [hm, J_24]
  have s0 : gX11_putBytes_L3 v (m + 1 + 1 + 1 + 1 + 1) (cF S t w i) (J 24) = gX11_putBytes_L3 v (m + 1 + 1 + 1 + 1) (cF S t w (i + (0 + 1))) (J (24 + -8)) := step (m + 1 + 1 + 1 + 1) 0 24 (by decide) (by decide) h0
  have s1 := step (m + 1 + 1 + 1) 1 16 (by decide) (by decide) h1
  have s2 := step (m + 1 + 1) 2 8 (by decide) (by decide) h2
  have s3 := step (m + 1) 3 0 (by decide) (by decide) h3
  rw [s0]
  rw [show (24 : Int) + -8 = 16 by decide, show i + (0 + 1) = i + 1 from rfl, s1, show (16 : Int) + -8 = 8 by decide, show i + (1 + 1) = i + 2 from rfl, s2, show (8 : Int) + -8 = 0 by decide, show i + (2 + 1) = i + 3 from rfl, s3, gX11_putBytes_L3, J_0, if_pos (by decide)]
/-- the twenty bytes, shifted -/
def wds (a b c d e : Int32) (j : Nat) : Int32 := (if j < 4 then a else if j < 8 then b else if j < 12 then c else if j < 16 then d else e) >>> (J (24 - 8 * ((j : Int) % 4)) &&& J 31)
theorem m_feed_L {S : zM} {t : Nat} {a b c d e : Int32} (h : gI S 0 2 = J t) (ht : t + 20 ≤ 700) : ∀ (m j : Nat), j ≤ 20 → 20 < m + j → gX12_feed_L23 a b c d e m (mF S t (wds a b c d e) j) (J j) = some (J ((t + 20 : Nat) : Int), mF S t (wds a b c d e) 20) := by
  intro m
  induction m with
  | zero => intro j h1 h2; omega
  | succ m ih =>
    intro j h1 h2
    have g := mF_t (S := S) (w := wds a b c d e) h j
    unfold gX12_feed_L23
    simp (disch := omega) only [J_0, J_1, J_2, J_3, J_4, J_5, J_6, J_7, J_8, J_9, J_10, J_11, J_12, J_14, J_15, J_16, J_19, J_20, J_21, J_22, J_23, J_24, J_25, J_28, J_30, J_31, J_32, J_40, J_44, J_47, J_48, J_49, J_50, J_53, J_54, J_57, J_59, J_74, J_75, J_78, J_84, J_97, J_99, J_100, J_120, J_122, J_126, J_132, J_138, J_144, J_150, J_156, J_162, J_198, J_200, J_202, J_206, J_210, J_214, J_218, J_222, J_226, J_230, J_234, J_238, J_239, J_240, J_241, J_242, J_243, J_255, J_263, J_283, J_303, J_399, J_400, J_401, J_463, J_700, J_701, J_999, J_1000, J_2048, J_4095, J_4096, J_6000, J_9999, J_10000, J_65536, J_65537, J_2147483647, J_neg, J_le]
    by_cases e0 : j = 20
    · subst e0
      rw [if_pos (by omega), g]
    · have x1 : ixb (J ((t + j : Nat) : Int)) 700 = true := ixb_J (by omega) (by omega) (by decide)
      have y1 : ix (J ((t + j : Nat) : Int)) = t + j := by rw [ix_J (by omega) (by omega)]; omega
      have sh : J 24 - J 8 * (J (j : Int) - J (j : Int) / J 4 * J 4) = J (24 - 8 * ((j : Int) % 4)) := by
        rw [J_div (by omega) (by omega) (by omega) (by omega)]
        simp only [J_neg, J_add, J_sub, J_mul]
        congr 1
        omega
      have go : ∀ v : Int32, v >>> (J (24 - 8 * ((j : Int) % 4)) &&& J 31) = wds a b c d e j → lm (gX12_feed_J76 (mF S t (wds a b c d e) j) a b c d e (J j) v) (un2 fun v6 S' => gX12_feed_L23 a b c d e m S' v6) = some (J ((t + 20 : Nat) : Int), mF S t (wds a b c d e) 20) := by
        intro v hv
        unfold gX12_feed_J76
        simp (disch := omega) only [J_0, J_1, J_2, J_3, J_4, J_5, J_6, J_7, J_8, J_9, J_10, J_11, J_12, J_14, J_15, J_16, J_19, J_20, J_21, J_22, J_23, J_24, J_25, J_28, J_30, J_31, J_32, J_40, J_44, J_47, J_48, J_49, J_50, J_53, J_54, J_57, J_59, J_74, J_75, J_78, J_84, J_97, J_99, J_100, J_120, J_122, J_126, J_132, J_138, J_144, J_150, J_156, J_162, J_198, J_200, J_202, J_206, J_210, J_214, J_218, J_222, J_226, J_230, J_234, J_238, J_239, J_240, J_241, J_242, J_243, J_255, J_263, J_283, J_303, J_399, J_400, J_401, J_463, J_700, J_701, J_999, J_1000, J_2048, J_4095, J_4096, J_6000, J_9999, J_10000, J_65536, J_65537, J_2147483647, J_neg, g, x1, y1, ckt, b1s, b2s, lts, un2s, un3s, un4s, un5s, lmr, lml, lgr, lgl, rII, if_neg, sh, hv, J_neg, J_add, J_sub, J_mul]
        have := ih (j + 1) (by omega) (by omega)
        exact this
      rw [if_neg (by omega)]
      unfold wds at go ⊢
      by_cases c4 : j < 4
      · rw [if_neg (by omega)]
        exact go a (by rw [if_pos c4])
      · rw [if_pos (by omega)]
        by_cases c8 : j < 8
        · rw [if_neg (by omega)]
          exact go b (by rw [if_neg c4, if_pos c8])
        · rw [if_pos (by omega)]
          by_cases c12 : j < 12
          · rw [if_neg (by omega)]
            exact go c (by rw [if_neg c4, if_neg c8, if_pos c12])
          · rw [if_pos (by omega)]
            by_cases c16 : j < 16
            · rw [if_neg (by omega)]
              exact go d (by rw [if_neg c4, if_neg c8, if_neg c12, if_pos c16])
            · rw [if_pos (by omega)]
              exact go e (by rw [if_neg c4, if_neg c8, if_neg c12, if_neg c16])
section
variable {SC SM : zM} {t : Nat}
theorem st_feed (h : Inv SC SM t) (a b c d e : Int32) : stp (gX11_feed SC a b c d e) (gX12_feed SM a b c d e) t := by
  have hTh := Inv_th h
  obtain ⟨⟨H, hh⟩, hT, hB, hC, hS, hTp, hM⟩ := h
  have hH := hh.1.1
  have hm0 : gI SM 0 2 = J (iI SM 0 2) := gI_J _ _ _
  have hc0 : gI SC 0 10 = J (iI SM 0 2) := hTp.1.trans hm0
  have hb := hTp.2.1
  unfold gX11_feed gX12_feed
  simp (disch := omega) only [J_0, J_1, J_2, J_3, J_4, J_5, J_6, J_7, J_8, J_9, J_10, J_11, J_12, J_14, J_15, J_16, J_19, J_20, J_21, J_22, J_23, J_24, J_25, J_28, J_30, J_31, J_32, J_40, J_44, J_47, J_48, J_49, J_50, J_53, J_54, J_57, J_59, J_74, J_75, J_78, J_84, J_97, J_99, J_100, J_120, J_122, J_126, J_132, J_138, J_144, J_150, J_156, J_162, J_198, J_200, J_202, J_206, J_210, J_214, J_218, J_222, J_226, J_230, J_234, J_238, J_239, J_240, J_241, J_242, J_243, J_255, J_263, J_283, J_303, J_399, J_400, J_401, J_463, J_700, J_701, J_999, J_1000, J_2048, J_4095, J_4096, J_6000, J_9999, J_10000, J_65536, J_65537, J_2147483647, J_neg, mth_e, gI_th, hm0, hc0, J_neg, J_add, J_sub, J_mul]
  rw [iLE (by omega) (by omega) (by decide) (by decide), iLE (by omega) (by omega) (by decide) (by decide)]
  by_cases z : iI SM 0 2 + 20 ≤ 700
  · obtain ⟨T, hTT⟩ : ∃ T : Nat, iI SM 0 2 = T := ⟨(iI SM 0 2).toNat, by omega⟩
    rw [hTT] at hm0 hc0 z
    have hm1 : gI (mth SM) 0 2 = J T := (gI_th (by omega)).trans hm0
    generalize hw : wds a b c d e = w
    have mm := m_feed_L (a := a) (b := b) (c := c) (d := d) (e := e) hm1 (by omega) FU 0 (by omega) (by have := FUs (n := 22) (by omega); omega)
    rw [hw] at mm
    have p0 := c_put4 (i := 0) (v := a) (w := w) hc0 (by omega) (by rw [← hw]; rfl) (by rw [← hw]; rfl) (by rw [← hw]; rfl) (by rw [← hw]; rfl)
    have p1 := c_put4 (i := 4) (v := b) (w := w) hc0 (by omega) (by rw [← hw]; rfl) (by rw [← hw]; rfl) (by rw [← hw]; rfl) (by rw [← hw]; rfl)
    have p2 := c_put4 (i := 8) (v := c) (w := w) hc0 (by omega) (by rw [← hw]; rfl) (by rw [← hw]; rfl) (by rw [← hw]; rfl) (by rw [← hw]; rfl)
    have p3 := c_put4 (i := 12) (v := d) (w := w) hc0 (by omega) (by rw [← hw]; rfl) (by rw [← hw]; rfl) (by rw [← hw]; rfl) (by rw [← hw]; rfl)
    have p4 := c_put4 (i := 16) (v := e) (w := w) hc0 (by omega) (by rw [← hw]; rfl) (by rw [← hw]; rfl) (by rw [← hw]; rfl) (by rw [← hw]; rfl)
    rw [show cF SC T w 0 = SC from rfl] at p0
    rw [if_pos (by omega), if_pos (by omega), p0, b1s, p1, b1s, p2, b1s, p3, b1s, p4, b1s, cF_t hc0]
    have fC := fr_cF (S := SC) (t := T) (w := w) 20
    have fM : fr (fun q k => q = 1 ∨ (q = 0 ∧ (k = 0 ∨ k = 2))) SM (mF (mth SM) T w 20) := fr_t (fr_pI (Or.inr ⟨rfl, Or.inl rfl⟩)) (fr_w (fr_mF (t := T) (w := w) 20) (fun q k u => by omega))
    have cc : ∀ q k, ¬ (q = 1 ∨ (q = 0 ∧ k = 10)) → gI (cF SC T w 20) q k = gI SC q k := fC.1
    have m : ∀ q k, ¬ (q = 1 ∨ (q = 0 ∧ (k = 0 ∨ k = 2))) → gI (mF (mth SM) T w 20) q k = gI SM q k := fM.1
    have hTm : rTape SC (mth SM) := rTape_c hTp rfl (fun k => rfl) (gI_th (by omega)) (fun k => gI_th (by omega))
    refine ⟨_, _, _, rfl, mm, ⟨H, rHall_c hh (fun q k a b => cc q k (by omega)) (fC.2.2 0 8 (by omega)) (fC.2.2 2 6 (by omega)) (m 0 14 (by omega)) (fun k => m 3 k (by omega)) (fun k => m 5 k (by omega)) (fun k => m 6 k (by omega)) (fun k => m 7 k (by omega))⟩, rTot_w hT (fun k => m 6 k (by omega)) (fun k => m 7 k (by omega)), rBook_c hB (cc 219 2 (by omega)) (fun k => cc 220 k (by omega)) (m 0 21 (by omega)) (fun q k _ _ => m q k (by omega)), rCells_c hC (cc 221 7 (by omega)) (fun q k _ _ => cc q k (by omega)) (m 0 21 (by omega)) (fun q k _ _ => m q k (by omega)), rSpans_c hS (fun k => fC.2.1 237 k (by omega)) (fun k => cc 238 k (by omega)), tape_F hTm hm1 20 (by omega), ?_⟩
    obtain ⟨⟨q1, q2⟩, q3, q4, q5, q6⟩ := hM
    have e20 : iI (mF (mth SM) T w 20) 0 20 = iI SM 0 20 := iI_c (m 0 20 (by omega))
    have e11 : iI (mF (mth SM) T w 20) 0 11 = iI SM 0 11 := iI_c (m 0 11 (by omega))
    have e21 : iI (mF (mth SM) T w 20) 0 21 = iI SM 0 21 := iI_c (m 0 21 (by omega))
    refine ⟨⟨?_, by rw [e20]; exact q2⟩, ?_, ?_, fun z => ?_, fun z => ?_⟩
    · rw [cc 0 11 (by omega), m 0 20 (by omega)]; exact q1
    · rw [cc 0 12 (by omega), m 0 11 (by omega)]; exact q3
    · rw [cc 0 13 (by omega), m 0 9 (by omega)]; exact q4
    · rw [e11] at z
      rw [cc 0 14 (by omega), m 0 10 (by omega)]; exact q5 z
    · rw [m 0 14 (by omega)] at z
      unfold bkn
      rw [e21]
      exact q6 z
  · rw [if_neg z, if_neg z]
    exact ⟨_, _, _, rfl, rfl, hTh⟩
end
