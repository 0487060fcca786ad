/-! A trial is written, by both. -/
def rTb (SM : zM) (B : Nat) : Prop := ∀ p : Nat, p < 6 → (0 ≤ iI SM 6 p ∧ iI SM 6 p ≤ B) ∧ 0 ≤ iI SM 7 p ∧ iI SM 7 p ≤ B
theorem rTb_of {SM : zM} {t : Nat} (h : rTot SM t) : rTb SM (4095 + 1000 * t) := fun p hp => by have := h p hp; omega
theorem rTot_of {SM : zM} {B t : Nat} (h : rTb SM B) (hB : B ≤ 4095 + 1000 * t) : rTot SM t := fun p hp => by have := h p hp; omega
noncomputable def InvB (SC SM : zM) (B : Nat) : Prop := (∃ H, rHall SC SM H) ∧ rTb SM B ∧ rBook SC SM ∧ rCells SC SM ∧ rSpans SC ∧ rTape SC SM ∧ rMisc SC SM
theorem InvB_of {SC SM : zM} {t : Nat} (h : Inv SC SM t) : InvB SC SM (4095 + 1000 * t) := ⟨h.1, rTb_of h.2.1, h.2.2⟩
theorem Inv_of {SC SM : zM} {B t : Nat} (h : InvB SC SM B) (hB : B ≤ 4095 + 1000 * t) : Inv SC SM t := ⟨h.1, rTot_of h.2.1 hB, h.2.2⟩
/-- the sayers' trials may differ -/
def sy89 (H q k : Nat) : Prop := H + 193 ≤ q ∧ q ≤ H + 204 ∧ (k = 8 ∨ k = 9)
theorem rHall_u {SC SC' SM SM' : zM} {H : Nat} (h : rHall SC SM H) (hI : ∀ q k, H ≤ q → q ≤ H + 212 → ¬ sy89 H q k → gI SC' q k = gI SC q k) (hR1 : gR SC' 0 8 = gR SC 0 8) (hR2 : gR SC' 2 6 = gR SC 2 6) (m14 : gI SM' 0 14 = gI SM 0 14) (m3 : ∀ k, gI SM' 3 k = gI SM 3 k) (m5 : ∀ k, gI SM' 5 k = gI SM 5 k) (hS : ∀ p : Nat, (p : Int) < cnt SM 1 → p < 6 → gI SC (H + 193 + 2 * p) 8 = gI SM 6 p → gI SC (H + 193 + 2 * p) 9 = gI SM 7 p → gI SC' (H + 193 + 2 * p) 8 = gI SM' 6 p ∧ gI SC' (H + 193 + 2 * p) 9 = gI SM' 7 p) : rHall SC' SM' H := by
  have e3 : ∀ k, iI SM' 3 k = iI SM 3 k := fun k => congrArg Int32.toInt (m3 k)
  have ec : ∀ i, cnt SM' i = cnt SM i := cnt_c m14 m3
  obtain ⟨⟨hH, hr1, hr2⟩, hb, ⟨c0, c1, c2, c3⟩, hse, hsa, hpl, hpa⟩ := h
  have n1 := hb.2.1
  unfold sy89 at hI
  refine ⟨⟨hH, hR1.trans hr1, hR2.trans hr2⟩, ?_, ⟨?_, ?_, ?_, ?_⟩, ?_, ?_, ?_, ?_⟩
  · simp only [ec]; exact hb
  · rw [hI _ _ (by omega) (by omega) (by omega), ec]; exact c0
  · rw [hI _ _ (by omega) (by omega) (by omega), ec]; exact c1
  · rw [hI _ _ (by omega) (by omega) (by omega), ec]; exact c2
  · rw [hI _ _ (by omega) (by omega) (by omega), ec]; exact c3
  · intro s hs
    rw [ec] at hs
    obtain ⟨g1, g2, g3, g4⟩ := hse s hs
    refine ⟨mSense_c g1 m3 m5, ?_, fun x hx => ?_, fun j hj => ?_⟩
    · rw [hI _ _ (by omega) (by omega) (by omega), m3]; exact g2
    · rw [hI _ _ (by omega) (by omega) (by omega), m5]; exact g3 x hx
    · rw [e3] at hj
      have hb6 := g1.1.2
      rw [mN_c m3]
      exact nzC_c (g4 j hj) (hI _ _ (by omega) (by omega) (by omega)) (fun k => hI _ _ (by omega) (by omega) (by omega)) (fun k => hI _ _ (by omega) (by omega) (by omega)) (fun k => hI _ _ (by omega) (by omega) (by omega))
  · intro p hp
    rw [ec] at hp
    obtain ⟨g1, g2, g3, g4, g5, g6, g7, g8, g9, g10, g11⟩ := hsa p hp
    have g12 := g1.2.2.2.2.2.2.1
    refine ⟨?_, ?_, ?_, ?_, ?_, ?_, ?_, ?_, fun j hj => ?_, ?_, ?_⟩
    · unfold mSayer
      simp only [e3, ec]
      exact g1
    · rw [hI _ _ (by omega) (by omega) (by omega), m3]; exact g2
    · rw [hI _ _ (by omega) (by omega) (by omega), m3]; exact g3
    · rw [hI _ _ (by omega) (by omega) (by omega), m3]; exact g4
    · rw [hI _ _ (by omega) (by omega) (by omega), m3]; exact g5
    · rw [hI _ _ (by omega) (by omega) (by omega), m3]; exact g6
    · rw [hI _ _ (by omega) (by omega) (by omega), m3]; exact g7
    · rw [hI _ _ (by omega) (by omega) (by omega), m3]; exact g8
    · rw [e3] at hj
      rw [hI _ _ (by omega) (by omega) (by omega), m3]; exact g9 j hj
    · exact (hS p hp (by omega) g10 g11).1
    · exact (hS p hp (by omega) g10 g11).2
  · intro n hn
    rw [ec] at hn
    obtain ⟨g1, g2, g3, g4, g5, g6⟩ := hpl n hn
    refine ⟨?_, ?_, ?_, ?_, ?_, ?_⟩
    · simp only [e3]
      exact g1
    · rw [hI _ _ (by omega) (by omega) (by omega), m3]; exact g2
    · rw [hI _ _ (by omega) (by omega) (by omega), m3]; exact g3
    · rw [hI _ _ (by omega) (by omega) (by omega), m3]; exact g4
    · rw [hI _ _ (by omega) (by omega) (by omega), m3]; exact g5
    · rw [hI _ _ (by omega) (by omega) (by omega), m3]; exact g6
  · intro n hn
    rw [ec] at hn
    obtain ⟨g1, g2, g3, g4, g5, g6⟩ := hpa n hn
    refine ⟨?_, ?_, ?_, ?_, ?_, ?_⟩
    · simp only [e3]
      exact g1
    · rw [hI _ _ (by omega) (by omega) (by omega), m3]; exact g2
    · rw [hI _ _ (by omega) (by omega) (by omega), m3]; exact g3
    · rw [hI _ _ (by omega) (by omega) (by omega), m3]; exact g4
    · rw [hI _ _ (by omega) (by omega) (by omega), m3]; exact g5
    · rw [hI _ _ (by omega) (by omega) (by omega), m3]; exact g6
/-! the model's row -/
def mbk (S : zM) (n p : Nat) (kd a b c an : Int) : zM := pI (pI (pI (pI (pI (pI (pI (pI (pI S 8 n (J p)) 9 n (J kd)) 10 n (J a)) 11 n (J (if kd = 1 ∨ kd = 3 then 0 else b))) 12 n (J (if kd = 2 ∨ kd = 5 then c else 0))) 13 n (J an)) 0 21 (J ((n : Int) + 1))) 6 p (gI S 6 p + J 1)) 7 p (gI S 7 p + J 1)
theorem m_books {S : zM} {n p : Nat} {kd a b c an : Int} (hn : gI S 0 21 = J n) (h1 : n < 1000) (hp : p < 6) (hk : 0 ≤ kd ∧ kd ≤ 5) : gX12_books S (J p) (J kd) (J a) (J b) (J c) (J an) = some (mbk S n p kd a b c an) := by
  have x1 : ixb (J (n : Int)) 1000 = true := ixb_J (by omega) (by omega) (by decide)
  have y1 : ix (J (n : Int)) = n := by rw [ix_J (by omega) (by omega)]; omega
  have x2 : ixb (J (p : Int)) 6 = true := ixb_J (by omega) (by omega) (by decide)
  have y2 : ix (J (p : Int)) = p := by rw [ix_J (by omega) (by omega)]; omega
  have hk6 : kd = 0 ∨ kd = 1 ∨ kd = 2 ∨ kd = 3 ∨ kd = 4 ∨ kd = 5 := by omega
  unfold gX12_books gX12_books_J54 gX12_books_J79 mbk
  rcases hk6 with rfl | rfl | rfl | rfl | rfl | rfl <;> simp (disch := omega) only [J_0, J_1, J_2, J_3, J_4, J_5, J_6, J_7, J_8, J_9, J_10, J_11, J_12, J_14, J_15, J_16, J_19, J_20, J_21, J_22, J_23, J_24, J_25, J_28, J_30, J_31, J_32, J_40, J_44, J_47, J_48, J_49, J_50, J_53, J_54, J_57, J_59, J_74, J_75, J_78, J_84, J_97, J_99, J_100, J_120, J_122, J_126, J_132, J_138, J_144, J_150, J_156, J_162, J_198, J_200, J_202, J_206, J_210, J_214, J_218, J_222, J_226, J_230, J_234, J_238, J_239, J_240, J_241, J_242, J_243, J_255, J_263, J_283, J_303, J_399, J_400, J_401, J_463, J_700, J_701, J_999, J_1000, J_2048, J_4095, J_4096, J_6000, J_9999, J_10000, J_65536, J_65537, J_2147483647, J_neg, rII, if_neg, hn, x1, y1, x2, y2, ckt, b1s, b2s, lts, un2s, un3s, un4s, un5s, lmr, lml, lgr, lgl, J_inj, J_lt, J_le, Int.reduceEq, Int.reduceLT, Int.reduceLE, Int.reduceNeg, ↓reduceIte, true_or, or_true, false_or, or_false, true_and, and_true, false_and, and_false, not_true_eq_false, not_false_eq_true, forall_const, implies_true, true_implies, false_implies, J_add]
def EmW (q k : Nat) : Prop := (q = 0 ∧ k = 21) ∨ (6 ≤ q ∧ q ≤ 13)
theorem fr_mbk {S : zM} {n p : Nat} {kd a b c an : Int} : fr EmW S (mbk S n p kd a b c an) := by
  unfold mbk
  exact fr_t (fr_t (fr_t (fr_t (fr_t (fr_t (fr_t (fr_t (fr_pI (Or.inr (by omega))) (fr_pI (Or.inr (by omega)))) (fr_pI (Or.inr (by omega)))) (fr_pI (Or.inr (by omega)))) (fr_pI (Or.inr (by omega)))) (fr_pI (Or.inr (by omega)))) (fr_pI (Or.inl ⟨rfl, rfl⟩))) (fr_pI (Or.inr (by omega)))) (fr_pI (Or.inr (by omega)))
section
variable {S : zM} {n p : Nat} {kd a b c an : Int}
theorem mbk_21 : gI (mbk S n p kd a b c an) 0 21 = J ((n : Int) + 1) := by
  unfold mbk
  rw [rII, if_neg (by omega), rII, if_neg (by omega), rII, if_pos ⟨rfl, rfl⟩]
theorem mbk_old {q i : Nat} (h1 : 8 ≤ q) (h2 : q ≤ 13) (h3 : i < n) : gI (mbk S n p kd a b c an) q i = gI S q i := by
  unfold mbk
  rw [rII, if_neg (by omega), rII, if_neg (by omega), rII, if_neg (by omega), rII, if_neg (by omega), rII, if_neg (by omega), rII, if_neg (by omega), rII, if_neg (by omega), rII, if_neg (by omega), rII, if_neg (by omega)]
theorem mbk_8 : gI (mbk S n p kd a b c an) 8 n = J p := by
  unfold mbk
  rw [rII, if_neg (by omega), rII, if_neg (by omega), rII, if_neg (by omega), rII, if_neg (by omega), rII, if_neg (by omega), rII, if_neg (by omega), rII, if_neg (by omega), rII, if_neg (by omega), rII, if_pos ⟨rfl, rfl⟩]
theorem mbk_9 : gI (mbk S n p kd a b c an) 9 n = J kd := by
  unfold mbk
  rw [rII, if_neg (by omega), rII, if_neg (by omega), rII, if_neg (by omega), rII, if_neg (by omega), rII, if_neg (by omega), rII, if_neg (by omega), rII, if_neg (by omega), rII, if_pos ⟨rfl, rfl⟩]
theorem mbk_10 : gI (mbk S n p kd a b c an) 10 n = J a := by
  unfold mbk
  rw [rII, if_neg (by omega), rII, if_neg (by omega), rII, if_neg (by omega), rII, if_neg (by omega), rII, if_neg (by omega), rII, if_neg (by omega), rII, if_pos ⟨rfl, rfl⟩]
theorem mbk_11 : gI (mbk S n p kd a b c an) 11 n = J (if kd = 1 ∨ kd = 3 then 0 else b) := by
  unfold mbk
  rw [rII, if_neg (by omega), rII, if_neg (by omega), rII, if_neg (by omega), rII, if_neg (by omega), rII, if_neg (by omega), rII, if_pos ⟨rfl, rfl⟩]
theorem mbk_12 : gI (mbk S n p kd a b c an) 12 n = J (if kd = 2 ∨ kd = 5 then c else 0) := by
  unfold mbk
  rw [rII, if_neg (by omega), rII, if_neg (by omega), rII, if_neg (by omega), rII, if_neg (by omega), rII, if_pos ⟨rfl, rfl⟩]
theorem mbk_13 : gI (mbk S n p kd a b c an) 13 n = J an := by
  unfold mbk
  rw [rII, if_neg (by omega), rII, if_neg (by omega), rII, if_neg (by omega), rII, if_pos ⟨rfl, rfl⟩]
theorem mbk_6 {i : Nat} : gI (mbk S n p kd a b c an) 6 i = if i = p then gI S 6 p + J 1 else gI S 6 i := by
  unfold mbk
  rw [rII, if_neg (by omega), rII]
  by_cases e : i = p
  · rw [if_pos ⟨rfl, e⟩, if_pos e]
  · rw [if_neg (fun z => e z.2), if_neg e, rII, if_neg (by omega), rII, if_neg (by omega), rII, if_neg (by omega), rII, if_neg (by omega), rII, if_neg (by omega), rII, if_neg (by omega), rII, if_neg (by omega)]
theorem mbk_7 {i : Nat} : gI (mbk S n p kd a b c an) 7 i = if i = p then gI S 7 p + J 1 else gI S 7 i := by
  unfold mbk
  rw [rII]
  by_cases e : i = p
  · rw [if_pos ⟨rfl, e⟩, if_pos e]
  · rw [if_neg (fun z => e z.2), if_neg e, rII, if_neg (by omega), rII, if_neg (by omega), rII, if_neg (by omega), rII, if_neg (by omega), rII, if_neg (by omega), rII, if_neg (by omega), rII, if_neg (by omega), rII, if_neg (by omega)]
/-! the class' row -/
def crw (S : zM) (n : Nat) (v3 v4 v5 v6 v7 v : Int32) : zM := pI (pI (pI (pI (pI (pI (pI S 220 (6 * n) v3) 220 (6 * n + 1) v4) 220 (6 * n + 2) v5) 220 (6 * n + 3) v6) 220 (6 * n + 4) v7) 220 (6 * n + 5) v) 219 2 (J ((n : Int) + 1))
def Erw (q k : Nat) : Prop := (q = 219 ∧ k = 2) ∨ q = 220
theorem fr_crw {v3 v4 v5 v6 v7 v : Int32} : fr Erw S (crw S n v3 v4 v5 v6 v7 v) := by
  unfold crw
  exact fr_t (fr_t (fr_t (fr_t (fr_t (fr_t (fr_pI (Or.inr rfl)) (fr_pI (Or.inr rfl))) (fr_pI (Or.inr rfl))) (fr_pI (Or.inr rfl))) (fr_pI (Or.inr rfl))) (fr_pI (Or.inr rfl))) (fr_pI (Or.inl ⟨rfl, rfl⟩))
theorem crw_2 {v3 v4 v5 v6 v7 v : Int32} : gI (crw S n v3 v4 v5 v6 v7 v) 219 2 = J ((n : Int) + 1) := by
  unfold crw
  rw [rII, if_pos ⟨rfl, rfl⟩]
theorem crw_old {v3 v4 v5 v6 v7 v : Int32} {m : Nat} (h : m < 6 * n) : gI (crw S n v3 v4 v5 v6 v7 v) 220 m = gI S 220 m := by
  unfold crw
  rw [rII, if_neg (by omega), rII, if_neg (by omega), rII, if_neg (by omega), rII, if_neg (by omega), rII, if_neg (by omega), rII, if_neg (by omega), rII, if_neg (by omega)]
theorem crw_new {v3 v4 v5 v6 v7 v : Int32} : gI (crw S n v3 v4 v5 v6 v7 v) 220 (6 * n) = v3 ∧ gI (crw S n v3 v4 v5 v6 v7 v) 220 (6 * n + 1) = v4 ∧ gI (crw S n v3 v4 v5 v6 v7 v) 220 (6 * n + 2) = v5 ∧ gI (crw S n v3 v4 v5 v6 v7 v) 220 (6 * n + 3) = v6 ∧ gI (crw S n v3 v4 v5 v6 v7 v) 220 (6 * n + 4) = v7 ∧ gI (crw S n v3 v4 v5 v6 v7 v) 220 (6 * n + 5) = v := by
  unfold crw
  refine ⟨?_, ?_, ?_, ?_, ?_, ?_⟩
  · rw [rII, if_neg (by omega), rII, if_neg (by omega), rII, if_neg (by omega), rII, if_neg (by omega), rII, if_neg (by omega), rII, if_neg (by omega), rII, if_pos ⟨rfl, rfl⟩]
  · rw [rII, if_neg (by omega), rII, if_neg (by omega), rII, if_neg (by omega), rII, if_neg (by omega), rII, if_neg (by omega), rII, if_pos ⟨rfl, rfl⟩]
  · rw [rII, if_neg (by omega), rII, if_neg (by omega), rII, if_neg (by omega), rII, if_neg (by omega), rII, if_pos ⟨rfl, rfl⟩]
  · rw [rII, if_neg (by omega), rII, if_neg (by omega), rII, if_neg (by omega), rII, if_pos ⟨rfl, rfl⟩]
  · rw [rII, if_neg (by omega), rII, if_neg (by omega), rII, if_pos ⟨rfl, rfl⟩]
  · rw [rII, if_neg (by omega), rII, if_pos ⟨rfl, rfl⟩]
theorem c_put1 (hn : gI S 219 2 = J n) (h1 : n < 1000) (h4 : gI S 456 4 = J kd) (hk : 0 ≤ kd ∧ kd ≤ 5) : gX1_put S (J an) = if kd ≤ 1 then gX2_put (crw S n (gI S 456 3) (gI S 456 4) (gI S 456 5) (gI S 456 6) (gI S 456 7) (J an)) (J an) else some (crw S n (gI S 456 3) (gI S 456 4) (gI S 456 5) (gI S 456 6) (gI S 456 7) (J an)) := by
  have x0 : ixb (J ((n : Int) * 6)) 6000 = true := ixb_J (by omega) (by omega) (by decide)
  have y0 : ix (J ((n : Int) * 6)) = 6 * n := by rw [ix_J (by omega) (by omega)]; omega
  have x1 : ixb (J ((n : Int) * 6 + 1)) 6000 = true := ixb_J (by omega) (by omega) (by decide)
  have y1 : ix (J ((n : Int) * 6 + 1)) = 6 * n + 1 := by rw [ix_J (by omega) (by omega)]; omega
  have x2 : ixb (J ((n : Int) * 6 + 2)) 6000 = true := ixb_J (by omega) (by omega) (by decide)
  have y2 : ix (J ((n : Int) * 6 + 2)) = 6 * n + 2 := by rw [ix_J (by omega) (by omega)]; omega
  have x3 : ixb (J ((n : Int) * 6 + 3)) 6000 = true := ixb_J (by omega) (by omega) (by decide)
  have y3 : ix (J ((n : Int) * 6 + 3)) = 6 * n + 3 := by rw [ix_J (by omega) (by omega)]; omega
  have x4 : ixb (J ((n : Int) * 6 + 4)) 6000 = true := ixb_J (by omega) (by omega) (by decide)
  have y4 : ix (J ((n : Int) * 6 + 4)) = 6 * n + 4 := by rw [ix_J (by omega) (by omega)]; omega
  have x5 : ixb (J ((n : Int) * 6 + 5)) 6000 = true := ixb_J (by omega) (by omega) (by decide)
  have y5 : ix (J ((n : Int) * 6 + 5)) = 6 * n + 5 := by rw [ix_J (by omega) (by omega)]; omega
  have hh : gX1_holds S (J 1) = some (J 1) := by
    unfold gX1_holds
    simp only [J_0, J_1, J_2, J_3, J_4, J_5, J_6, J_7, J_8, J_9, J_10, J_11, J_12, J_14, J_15, J_16, J_19, J_20, J_21, J_22, J_23, J_24, J_25, J_28, J_30, J_31, J_32, J_40, J_44, J_47, J_48, J_49, J_50, J_53, J_54, J_57, J_59, J_74, J_75, J_78, J_84, J_97, J_99, J_100, J_120, J_122, J_126, J_132, J_138, J_144, J_150, J_156, J_162, J_198, J_200, J_202, J_206, J_210, J_214, J_218, J_222, J_226, J_230, J_234, J_238, J_239, J_240, J_241, J_242, J_243, J_255, J_263, J_283, J_303, J_399, J_400, J_401, J_463, J_700, J_701, J_999, J_1000, J_2048, J_4095, J_4096, J_6000, J_9999, J_10000, J_65536, J_65537, J_2147483647, J_neg, hn, J_add]
    rw [iLT (by decide) (by decide) (by omega) (by omega), if_neg (show ¬ (1000 : Int) < (n : Int) + 1 by omega)]
  unfold gX1_put
  simp (disch := omega) only [J_0, J_1, J_2, J_3, J_4, J_5, J_6, J_7, J_8, J_9, J_10, J_11, J_12, J_14, J_15, J_16, J_19, J_20, J_21, J_22, J_23, J_24, J_25, J_28, J_30, J_31, J_32, J_40, J_44, J_47, J_48, J_49, J_50, J_53, J_54, J_57, J_59, J_74, J_75, J_78, J_84, J_97, J_99, J_100, J_120, J_122, J_126, J_132, J_138, J_144, J_150, J_156, J_162, J_198, J_200, J_202, J_206, J_210, J_214, J_218, J_222, J_226, J_230, J_234, J_238, J_239, J_240, J_241, J_242, J_243, J_255, J_263, J_283, J_303, J_399, J_400, J_401, J_463, J_700, J_701, J_999, J_1000, J_2048, J_4095, J_4096, J_6000, J_9999, J_10000, J_65536, J_65537, J_2147483647, J_neg, hh, ckt, b1s, b2s, lts, un2s, un3s, un4s, un5s, lmr, lml, lgr, lgl, rII, if_neg, hn, J_neg, J_add, J_sub, J_mul, x0, y0, x1, y1, x2, y2, x3, y3, x4, y4, x5, y5]
  rw [if_neg (show ¬ J 1 = J 0 by decide)]
  unfold crw
  rw [h4, iEQ (by omega) (by omega) (by decide) (by decide), iEQ (by omega) (by omega) (by decide) (by decide)]
  by_cases e0 : kd = 0
  · rw [if_pos e0, if_pos (show kd ≤ 1 by omega)]
    cases gX2_put _ (J an) <;> rfl
  · rw [if_neg e0]
    by_cases e1 : kd = 1
    · rw [if_pos e1, if_pos (show kd ≤ 1 by omega)]
      cases gX2_put _ (J an) <;> rfl
    · rw [if_neg e1, if_neg (show ¬ kd ≤ 1 by omega)]
end
