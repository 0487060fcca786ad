/-! The cells of the class: a trial comes in. -/
def Epc (q k : Nat) : Prop := (q = 221 ∧ k = 7) ∨ (222 ≤ q ∧ q ≤ 228)
/-- the two books: the second has one row more, of this key and answer -/
def plus1 (SM SM' : zM) (n : Nat) (p k a b an : Int) : Prop := bkn SM = n ∧ bkn SM' = n + 1 ∧ (∀ q i, 8 ≤ q → q ≤ 13 → i < n → gI SM' q i = gI SM q i) ∧ (gI SM' 8 n = J p ∧ gI SM' 9 n = J k ∧ gI SM' 10 n = J a ∧ gI SM' 11 n = J b ∧ gI SM' 13 n = J an)
section
variable {SC SM SM' : zM} {p k a b an : Int} {n : Nat}
theorem isK_old (h : plus1 SM SM' n p k a b an) {i : Nat} (hi : i < n) (p' k' a' b' : Int) : isK SM' i p' k' a' b' ↔ isK SM i p' k' a' b' := by
  have e : ∀ q, 8 ≤ q → q ≤ 13 → iI SM' q i = iI SM q i := fun q h1 h2 => congrArg Int32.toInt (h.2.2.1 q i h1 h2 hi)
  unfold isK
  rw [e 8 (by decide) (by decide), e 9 (by decide) (by decide), e 10 (by decide) (by decide), e 11 (by decide) (by decide)]
theorem nK_new (h : plus1 SM SM' n p k a b an) (hr : inI p ∧ inI k ∧ inI a ∧ inI b) (p' k' a' b' : Int) : nK SM' (n + 1) p' k' a' b' = nK SM n p' k' a' b' + @ite Int (p = p' ∧ k = k' ∧ a = a' ∧ b = b') (Classical.propDecidable _) 1 0 := by
  have e1 : nK SM' (n + 1) p' k' a' b' = nK SM' n p' k' a' b' + @ite Int (isK SM' n p' k' a' b') (Classical.propDecidable _) 1 0 := rfl
  rw [e1, nK_c (fun i hi => isK_old h hi p' k' a' b')]
  congr 1
  obtain ⟨r1, r2, r3, r4⟩ := hr
  have k8 : iI SM' 8 n = p := iI_of h.2.2.2.1 r1.1 r1.2
  have k9 : iI SM' 9 n = k := iI_of h.2.2.2.2.1 r2.1 r2.2
  have k10 : iI SM' 10 n = a := iI_of h.2.2.2.2.2.1 r3.1 r3.2
  have k11 : iI SM' 11 n = b := iI_of h.2.2.2.2.2.2.1 r4.1 r4.2
  unfold isK
  rw [k8, k9, k10, k11]
theorem nKA_new (h : plus1 SM SM' n p k a b an) (hr : inI p ∧ inI k ∧ inI a ∧ inI b) (hr5 : inI an) (p' k' a' b' x : Int) : nKA SM' (n + 1) p' k' a' b' x = nKA SM n p' k' a' b' x + @ite Int ((p = p' ∧ k = k' ∧ a = a' ∧ b = b') ∧ an = x) (Classical.propDecidable _) 1 0 := by
  have e1 : nKA SM' (n + 1) p' k' a' b' x = nKA SM' n p' k' a' b' x + @ite Int (isK SM' n p' k' a' b' ∧ iI SM' 13 n = x) (Classical.propDecidable _) 1 0 := rfl
  rw [e1, nKA_c (fun i hi => isK_old h hi p' k' a' b') (fun i hi => congrArg Int32.toInt (h.2.2.1 13 i (by decide) (by decide) hi))]
  congr 1
  obtain ⟨r1, r2, r3, r4⟩ := hr
  have k8 : iI SM' 8 n = p := iI_of h.2.2.2.1 r1.1 r1.2
  have k9 : iI SM' 9 n = k := iI_of h.2.2.2.2.1 r2.1 r2.2
  have k10 : iI SM' 10 n = a := iI_of h.2.2.2.2.2.1 r3.1 r3.2
  have k11 : iI SM' 11 n = b := iI_of h.2.2.2.2.2.2.1 r4.1 r4.2
  have k13 : iI SM' 13 n = an := iI_of h.2.2.2.2.2.2.2 hr5.1 hr5.2
  unfold isK
  rw [k8, k9, k10, k11, k13]
/-- no row has a key: none is counted -/
theorem nK_none (h : ∀ i, i < n → ¬ isK SM i p k a b) : nK SM n p k a b = 0 := sm_zero (fun i hi => if_neg (h i hi))
theorem nKA_none (h : ∀ i, i < n → ¬ isK SM i p k a b) (x : Int) : nKA SM n p k a b x = 0 := sm_zero (fun i hi => if_neg (fun z => h i hi z.1))
theorem nK_b : ∀ n : Nat, 0 ≤ nK SM n p k a b ∧ nK SM n p k a b ≤ n := fun n => ⟨sm_nn (fun i _ => by split <;> omega), by
  have := sm_bd (n := n) (c := 1) (f := fun i => @ite Int (isK SM i p k a b) (Classical.propDecidable _) 1 0) (fun i _ => by split <;> omega)
  unfold nK
  omega⟩
theorem nKA_b (x : Int) : ∀ n : Nat, 0 ≤ nKA SM n p k a b x ∧ nKA SM n p k a b x ≤ n := fun n => ⟨sm_nn (fun i _ => by split <;> omega), by
  have := sm_bd (n := n) (c := 1) (f := fun i => @ite Int (isK SM i p k a b ∧ iI SM 13 i = x) (Classical.propDecidable _) 1 0) (fun i _ => by split <;> omega)
  unfold nKA
  omega⟩
/-- a cell of the key and a row of the cell: the row has the key -/
theorem key_row {c i : Nat} (h : sameK SC SM c i) (hr : inI p ∧ inI k ∧ inI a ∧ inI b) : keyIs SC c p k a b ↔ isK SM i p k a b := by
  obtain ⟨s1, s2, s3, s4⟩ := h
  unfold keyIs isK
  rw [s1, s2, s3, s4, gI_J SM 8, gI_J SM 9, gI_J SM 10, gI_J SM 11, J_inj (iI_lo _ _ _) (iI_hi _ _ _) hr.1.1 hr.1.2, J_inj (iI_lo _ _ _) (iI_hi _ _ _) hr.2.1.1 hr.2.1.2, J_inj (iI_lo _ _ _) (iI_hi _ _ _) hr.2.2.1.1 hr.2.2.1.2, J_inj (iI_lo _ _ _) (iI_hi _ _ _) hr.2.2.2.1 hr.2.2.2.2]
theorem keyIs_i {c : Nat} (h : keyIs SC c p k a b) (hr : inI p ∧ inI k ∧ inI a ∧ inI b) : iI SC 223 c = p ∧ iI SC 224 c = k ∧ iI SC 225 c = a ∧ iI SC 226 c = b := ⟨iI_of h.1 hr.1.1 hr.1.2, iI_of h.2.1 hr.2.1.1 hr.2.1.2, iI_of h.2.2.1 hr.2.2.1.1 hr.2.2.1.2, iI_of h.2.2.2 hr.2.2.2.1 hr.2.2.2.2⟩
theorem keyIs_o {c : Nat} (hr : inI p ∧ inI k ∧ inI a ∧ inI b) (h : p = iI SC 223 c ∧ k = iI SC 224 c ∧ a = iI SC 225 c ∧ b = iI SC 226 c) : keyIs SC c p k a b := by
  obtain ⟨rfl, rfl, rfl, rfl⟩ := h
  exact ⟨gI_J _ _ _, gI_J _ _ _, gI_J _ _ _, gI_J _ _ _⟩
/-- counting up one cell -/
def incr (S : zM) (c : Nat) (m : Nat) : zM := pI (pI S 227 c (gI S 227 c + J 1)) 228 m (gI S 228 m + J 1)
theorem fr_incr {S : zM} {c m : Nat} : fr Epc S (incr S c m) := fr_t (fr_pI (Or.inr (by omega))) (fr_pI (Or.inr (by omega)))
theorem incr_o {S : zM} {c m q j : Nat} (h : ¬ (q = 227 ∧ j = c)) (h2 : ¬ (q = 228 ∧ j = m)) : gI (incr S c m) q j = gI S q j := by
  unfold incr
  rw [rII, if_neg h2, rII, if_neg h]
theorem incr_t {S : zM} {c m : Nat} : gI (incr S c m) 227 c = gI S 227 c + J 1 := by
  unfold incr
  rw [rII, if_neg (by omega), rII, if_pos ⟨rfl, rfl⟩]
theorem incr_g {S : zM} {c m : Nat} : gI (incr S c m) 228 m = gI S 228 m + J 1 := by
  unfold incr
  rw [rII, if_pos ⟨rfl, rfl⟩]
/-- the key stands already -/
theorem put_old (hc : rCells SC SM) (hn : n < 1000) (h1 : plus1 SM SM' n p k a b an) (hr : inI p ∧ inI k ∧ inI a ∧ inI b) (han : 0 ≤ an ∧ an < 3) {c : Nat} (hk1 : k ≤ 1) (hk : keyIs SC c p k a b) (hcu : ∀ u : Nat, gI SC 221 7 = J u → u ≤ 1000 → c < u) : rCells (incr SC c (3 * c + an.toNat)) SM' := by
  obtain ⟨u, c1, c2, c3, c4, c5, c6, c7, c8, c9⟩ := hc
  have hcu' : c < u := hcu u c1 (by rw [h1.1] at c2; omega)
  have hnn := h1.1
  rw [hnn] at c2 c3 c4 c6
  have o : ∀ q j, q ≠ 227 → q ≠ 228 → gI (incr SC c (3 * c + an.toNat)) q j = gI SC q j := fun q j z1 z2 => incr_o (fun w => z1 w.1) (fun w => z2 w.1)
  have oi : ∀ q j, q ≠ 227 → q ≠ 228 → iI (incr SC c (3 * c + an.toNat)) q j = iI SC q j := fun q j z1 z2 => congrArg Int32.toInt (o q j z1 z2)
  have sk : ∀ d i, i < n → sameK SC SM d i → sameK (incr SC c (3 * c + an.toNat)) SM' d i := by
    intro d i hi hs
    unfold sameK
    rw [o 223 d (by decide) (by decide), o 224 d (by decide) (by decide), o 225 d (by decide) (by decide), o 226 d (by decide) (by decide), h1.2.2.1 8 i (by decide) (by decide) hi, h1.2.2.1 9 i (by decide) (by decide) hi, h1.2.2.1 10 i (by decide) (by decide) hi, h1.2.2.1 11 i (by decide) (by decide) hi]
    exact hs
  refine ⟨u, by rw [o 221 7 (by decide) (by decide)]; exact c1, by rw [h1.2.1]; omega, ?_, ?_, ?_, ?_, ?_, ?_, ?_⟩
  · intro d hd
    obtain ⟨i, i1, i2, i3⟩ := c3 d hd
    exact ⟨i, by rw [h1.2.1]; omega, by rw [show iI SM' 9 i = iI SM 9 i from congrArg Int32.toInt (h1.2.2.1 9 i (by decide) (by decide) i1)]; exact i2, sk d i i1 i3⟩
  · intro i hi hi9
    rw [h1.2.1] at hi
    by_cases e : i = n
    · subst e
      refine ⟨c, hcu', ?_⟩
      unfold sameK
      rw [o 223 c (by decide) (by decide), o 224 c (by decide) (by decide), o 225 c (by decide) (by decide), o 226 c (by decide) (by decide), h1.2.2.2.1, h1.2.2.2.2.1, h1.2.2.2.2.2.1, h1.2.2.2.2.2.2.1]
      exact hk
    · have hi' : i < n := by omega
      rw [show iI SM' 9 i = iI SM 9 i from congrArg Int32.toInt (h1.2.2.1 9 i (by decide) (by decide) hi')] at hi9
      obtain ⟨d, d1, d2⟩ := c4 i hi' hi9
      exact ⟨d, d1, sk d i hi' d2⟩
  · intro d e hd he
    rw [o 223 d (by decide) (by decide), o 224 d (by decide) (by decide), o 225 d (by decide) (by decide), o 226 d (by decide) (by decide), o 223 e (by decide) (by decide), o 224 e (by decide) (by decide), o 225 e (by decide) (by decide), o 226 e (by decide) (by decide)]
    exact c5 d e hd he
  · intro d hd
    rw [h1.2.1, oi 223 d (by decide) (by decide), oi 224 d (by decide) (by decide), oi 225 d (by decide) (by decide), oi 226 d (by decide) (by decide), nK_new h1 hr]
    obtain ⟨t1, t2⟩ := c6 d hd
    by_cases e : d = c
    · subst e
      have hi := keyIs_i hk hr
      have hm : p = iI SC 223 d ∧ k = iI SC 224 d ∧ a = iI SC 225 d ∧ b = iI SC 226 d := ⟨hi.1.symm, hi.2.1.symm, hi.2.2.1.symm, hi.2.2.2.symm⟩
      refine ⟨?_, fun x hx => ?_⟩
      · rw [incr_t, t1, J_add, if_pos hm]
      · rw [nKA_new h1 hr (inI_of han.1 (by omega))]
        by_cases ex : x = an.toNat
        · subst ex
          rw [incr_g, t2 _ hx, J_add, if_pos ⟨hm, by omega⟩]
        · rw [incr_o (by omega) (by omega), t2 x hx, if_neg (fun z => ex (by omega)), Int.add_zero]
    · have hm : ¬ (p = iI SC 223 d ∧ k = iI SC 224 d ∧ a = iI SC 225 d ∧ b = iI SC 226 d) := by
        intro z
        have hkd : keyIs SC d p k a b := keyIs_o hr z
        exact e (c5 d c hd hcu' (hkd.1.trans hk.1.symm) (hkd.2.1.trans hk.2.1.symm) (hkd.2.2.1.trans hk.2.2.1.symm) (hkd.2.2.2.trans hk.2.2.2.symm))
      refine ⟨?_, fun x hx => ?_⟩
      · rw [incr_o (fun w => e w.2) (by omega), t1, if_neg hm, Int.add_zero]
      · rw [nKA_new h1 hr (inI_of han.1 (by omega)), incr_o (by omega) (fun w => e (by omega)), t2 x hx, if_neg (fun z => hm z.1), Int.add_zero]
  · intro s hs
    rw [o 222 s (by decide) (by decide)]
    exact c7 s hs
  · intro d hd
    rw [oi 223 d (by decide) (by decide), oi 224 d (by decide) (by decide), oi 225 d (by decide) (by decide), oi 226 d (by decide) (by decide)]
    obtain ⟨f, f1, f2, f3⟩ := c8 d hd
    refine ⟨f, f1, ?_, fun e he => ?_⟩
    · rw [o 222 _ (by decide) (by decide)]; exact f2
    · rw [o 222 _ (by decide) (by decide)]; exact f3 e he
  · rw [← c9]
    refine sm_c (fun s hs => ?_)
    rw [o 222 s (by decide) (by decide)]
/-- a cell is opened at a slot -/
def opn (S : zM) (u s : Nat) : zM := pI (pI (pI (pI (pI (pI (pI (pI (pI (pI S 221 7 (J ((u : Int) + 1))) 222 s (J ((u : Int) + 1))) 223 u (gI S 456 3)) 224 u (gI S 456 4)) 225 u (gI S 456 5)) 226 u (gI S 456 6)) 227 u (J 0)) 228 (3 * u) (J 0)) 228 (3 * u + 1) (J 0)) 228 (3 * u + 2) (J 0)
theorem c_open {S : zM} {u s : Nat} (hu : u < 1000) (hs : s < 2048) (h7 : gI S 221 7 = J u) : gX2_open S (J s) = some (opn S u s) := by
  have x1 : ixb (J (s : Int)) 2048 = true := ixb_J (by omega) (by omega) (by decide)
  have y1 : ix (J (s : Int)) = s := by rw [ix_J (by omega) (by omega)]; omega
  have x2 : ixb (J (u : Int)) 1000 = true := ixb_J (by omega) (by omega) (by decide)
  have y2 : ix (J (u : Int)) = u := by rw [ix_J (by omega) (by omega)]; omega
  have x3 : ixb (J ((u : Int) * 3 + 0)) 3000 = true := ixb_J (by omega) (by omega) (by decide)
  have y3 : ix (J ((u : Int) * 3 + 0)) = 3 * u := by rw [ix_J (by omega) (by omega)]; omega
  have x4 : ixb (J ((u : Int) * 3 + (0 + 1))) 3000 = true := ixb_J (by omega) (by omega) (by decide)
  have y4 : ix (J ((u : Int) * 3 + (0 + 1))) = 3 * u + 1 := by rw [ix_J (by omega) (by omega)]; omega
  have x5 : ixb (J ((u : Int) * 3 + (0 + 1 + 1))) 3000 = true := ixb_J (by omega) (by omega) (by decide)
  have y5 : ix (J ((u : Int) * 3 + (0 + 1 + 1))) = 3 * u + 2 := by rw [ix_J (by omega) (by omega)]; omega
  obtain ⟨m, hm⟩ : ∃ m, FU = m + 1 + 1 + 1 + 1 := ⟨1048572, rfl⟩
  have n1 : ¬ J 3 ≤ J 0 := by decide
  have n2 : ¬ J 3 ≤ J (0 + 1) := by decide
  have n3 : ¬ J 3 ≤ J (0 + 1 + 1) := by decide
  have n4 : J 3 ≤ J (0 + 1 + 1 + 1) := by decide
  unfold gX2_open opn
  rw [hm]
  simp only [J_0, J_1, J_2, J_3, J_4, J_5, J_6, J_7, J_8, J_9, J_10, J_11, J_12, J_14, J_15, J_16, J_19, J_20, J_21, J_22, J_23, J_24, J_25, J_28, J_30, J_31, J_32, J_40, J_44, J_47, J_48, J_49, J_50, J_53, J_54, J_57, J_59, J_74, J_75, J_78, J_84, J_97, J_99, J_100, J_120, J_122, J_126, J_132, J_138, J_144, J_150, J_156, J_162, J_198, J_200, J_202, J_206, J_210, J_214, J_218, J_222, J_226, J_230, J_234, J_238, J_239, J_240, J_241, J_242, J_243, J_255, J_263, J_283, J_303, J_399, J_400, J_401, J_463, J_700, J_701, J_999, J_1000, J_2048, J_4095, J_4096, J_6000, J_9999, J_10000, J_65536, J_65537, J_2147483647, J_neg, J_neg, J_add, J_sub, J_mul, h7, x1, y1, x2, y2, ckt, b1s, b2s, lts, un2s, un3s, un4s, un5s, lmr, lml, lgr, lgl, gX2_open_L86, if_neg n1, if_neg n2, if_neg n3, if_pos n4, x3, y3, x4, y4, x5, y5]
  rw [iLT (by omega) (by omega) (by decide) (by decide), if_pos (show (u : Int) < 1000 by omega)]
  congr 1
theorem opn_o {S : zM} {u s q j : Nat} (h : ¬ (q = 221 ∧ j = 7)) (h1 : ¬ (q = 222 ∧ j = s)) (h2 : ¬ (223 ≤ q ∧ q ≤ 227 ∧ j = u)) (h3 : ¬ (q = 228 ∧ (j = 3 * u ∨ j = 3 * u + 1 ∨ j = 3 * u + 2))) : gI (opn S u s) q j = gI S q j := by
  unfold opn
  rw [rII, if_neg (by omega), rII, if_neg (by omega), rII, if_neg (by omega), rII, if_neg (by omega), rII, if_neg (by omega), rII, if_neg (by omega), rII, if_neg (by omega), rII, if_neg (by omega), rII, if_neg (by omega), rII, if_neg (by omega)]
theorem opn_7 {S : zM} {u s : Nat} : gI (opn S u s) 221 7 = J ((u : Int) + 1) := by
  unfold opn
  rw [rII, if_neg (by omega), rII, if_neg (by omega), rII, if_neg (by omega), rII, if_neg (by omega), rII, if_neg (by omega), rII, if_neg (by omega), rII, if_neg (by omega), rII, if_neg (by omega), rII, if_neg (by omega), rII, if_pos ⟨rfl, rfl⟩]
theorem opn_s {S : zM} {u s : Nat} : gI (opn S u s) 222 s = J ((u : Int) + 1) := by
  unfold opn
  rw [rII, if_neg (by omega), rII, if_neg (by omega), rII, if_neg (by omega), rII, if_neg (by omega), rII, if_neg (by omega), rII, if_neg (by omega), rII, if_neg (by omega), rII, if_neg (by omega), rII, if_pos ⟨rfl, rfl⟩]
theorem opn_k {S : zM} {u s : Nat} (a3 : gI S 456 3 = J p) (a4 : gI S 456 4 = J k) (a5 : gI S 456 5 = J a) (a6 : gI S 456 6 = J b) : keyIs (opn S u s) u p k a b := by
  unfold opn keyIs
  simp (disch := omega) only [rII, a3, a4, a5, a6, if_neg, Nat.reduceEqDiff, false_and, and_true, if_true, if_false]
theorem opn_t {S : zM} {u s : Nat} : gI (opn S u s) 227 u = J 0 := by
  unfold opn
  rw [rII, if_neg (by omega), rII, if_neg (by omega), rII, if_neg (by omega), rII, if_pos ⟨rfl, rfl⟩]
theorem opn_g {S : zM} {u s x : Nat} (hx : x < 3) : gI (opn S u s) 228 (3 * u + x) = J 0 := by
  have h3 : x = 0 ∨ x = 1 ∨ x = 2 := by omega
  unfold opn
  rcases h3 with rfl | rfl | rfl
  · rw [rII, if_neg (by omega), rII, if_neg (by omega), rII, if_pos ⟨rfl, rfl⟩]
  · rw [rII, if_neg (by omega), rII, if_pos ⟨rfl, rfl⟩]
  · rw [rII, if_pos ⟨rfl, rfl⟩]
theorem fr_opn {S : zM} {u s : Nat} : fr Epc S (opn S u s) := by
  unfold opn
  refine fr_t (fr_t (fr_t (fr_t (fr_t (fr_t (fr_t (fr_t (fr_t (fr_pI (Or.inl ⟨rfl, rfl⟩)) (fr_pI (Or.inr (by omega)))) (fr_pI (Or.inr (by omega)))) (fr_pI (Or.inr (by omega)))) (fr_pI (Or.inr (by omega)))) (fr_pI (Or.inr (by omega)))) (fr_pI (Or.inr (by omega)))) (fr_pI (Or.inr (by omega)))) (fr_pI (Or.inr (by omega)))) (fr_pI (Or.inr (by omega)))
/-- the key is new -/
theorem put_new {u D : Nat} (c1 : gI SC 221 7 = J u) (c2 : u ≤ n) (c3 : ∀ c : Nat, c < u → ∃ i : Nat, i < n ∧ iI SM 9 i ≤ 1 ∧ sameK SC SM c i) (c4 : ∀ i : Nat, i < n → iI SM 9 i ≤ 1 → ∃ c : Nat, c < u ∧ sameK SC SM c i) (c5 : ∀ c d : Nat, c < u → d < u → gI SC 223 c = gI SC 223 d → gI SC 224 c = gI SC 224 d → gI SC 225 c = gI SC 225 d → gI SC 226 c = gI SC 226 d → c = d) (c6 : ∀ c : Nat, c < u → gI SC 227 c = J (nK SM n (iI SC 223 c) (iI SC 224 c) (iI SC 225 c) (iI SC 226 c)) ∧ ∀ a : Nat, a < 3 → gI SC 228 (3 * c + a) = J (nKA SM n (iI SC 223 c) (iI SC 224 c) (iI SC 225 c) (iI SC 226 c) a)) (c7 : ∀ s : Nat, s < 2048 → gI SC 222 s = J 0 ∨ ∃ c : Nat, c < u ∧ gI SC 222 s = J ((c : Int) + 1)) (c8 : ∀ c : Nat, c < u → ∃ d : Nat, d < 2048 ∧ gI SC 222 ((hsh (iI SC 223 c) (iI SC 224 c) (iI SC 225 c) (iI SC 226 c) + d) % 2048) = J ((c : Int) + 1) ∧ ∀ e : Nat, e < d → ¬ gI SC 222 ((hsh (iI SC 223 c) (iI SC 224 c) (iI SC 225 c) (iI SC 226 c) + e) % 2048) = J 0) (c9 : sm 2048 (fun s => if gI SC 222 s = J 0 then 0 else 1) = u) (hn : n < 1000) (h1 : plus1 SM SM' n p k a b an) (hr : inI p ∧ inI k ∧ inI a ∧ inI b) (han : 0 ≤ an ∧ an < 3) (hk1 : k ≤ 1) (hD : D < 2048) (hz : gI SC 222 ((hsh p k a b + D) % 2048) = J 0) (hno : ∀ e, e < D → ¬ stopAt SC u p k a b ((hsh p k a b + e) % 2048)) (a3 : gI SC 456 3 = J p) (a4 : gI SC 456 4 = J k) (a5 : gI SC 456 5 = J a) (a6 : gI SC 456 6 = J b) : rCells (incr (opn SC u ((hsh p k a b + D) % 2048)) u (3 * u + an.toNat)) SM' := by
  generalize hs0 : (hsh p k a b + D) % 2048 = s0 at hz
  have hs1 : s0 < 2048 := by omega
  -- no cell has the key
  have none : ∀ c, c < u → ¬ keyIs SC c p k a b := by
    intro c hc hk
    obtain ⟨d, d1, d2, d3⟩ := c8 c hc
    obtain ⟨i1, i2, i3, i4⟩ := keyIs_i hk hr
    rw [i1, i2, i3, i4] at d2 d3
    rcases Nat.lt_trichotomy d D with z | z | z
    · exact hno d z (Or.inr ⟨c, hc, d2, hk⟩)
    · subst z
      rw [hs0, hz, J_inj (by decide) (by decide) (by omega) (by omega)] at d2
      omega
    · exact d3 D z (by rw [hs0]; exact hz)
  have norow : ∀ i, i < n → ¬ isK SM i p k a b := by
    intro i hi hk
    obtain ⟨c, g1, g2⟩ := c4 i hi (by rw [hk.2.1]; exact hk1)
    exact none c g1 ((key_row g2 hr).mpr hk)
  generalize hS : incr (opn SC u s0) u (3 * u + an.toNat) = S
  have o : ∀ q j, ¬ (q = 221 ∧ j = 7) → ¬ (q = 222 ∧ j = s0) → ¬ (223 ≤ q ∧ q ≤ 227 ∧ j = u) → ¬ (q = 228 ∧ (j = 3 * u ∨ j = 3 * u + 1 ∨ j = 3 * u + 2)) → gI S q j = gI SC q j := by
    intro q j z1 z2 z3 z4
    rw [← hS, incr_o (by omega) (by omega), opn_o z1 z2 z3 z4]
  have ok : ∀ q c, 223 ≤ q → q ≤ 227 → c < u → gI S q c = gI SC q c := fun q c q1 q2 hc => o q c (by omega) (by omega) (by omega) (by omega)
  have oki : ∀ q c, 223 ≤ q → q ≤ 227 → c < u → iI S q c = iI SC q c := fun q c q1 q2 hc => congrArg Int32.toInt (ok q c q1 q2 hc)
  have S7 : gI S 221 7 = J ((u + 1 : Nat) : Int) := by
    rw [← hS, incr_o (by omega) (by omega), opn_7]
    rfl
  have Ss : gI S 222 s0 = J ((u : Int) + 1) := by rw [← hS, incr_o (by omega) (by omega), opn_s]
  have So : ∀ s, s ≠ s0 → gI S 222 s = gI SC 222 s := fun s z => o 222 s (by omega) (by omega) (by omega) (by omega)
  have Sk : keyIs S u p k a b := by
    have := opn_k (S := SC) (u := u) (s := s0) a3 a4 a5 a6
    unfold keyIs at this ⊢
    rw [← hS, incr_o (by omega) (by omega), incr_o (by omega) (by omega), incr_o (by omega) (by omega), incr_o (by omega) (by omega)]
    exact this
  have Ski := keyIs_i Sk hr
  have St : gI S 227 u = J 1 := by
    rw [← hS, incr_t, opn_t]
    rfl
  have Sg : ∀ x : Nat, x < 3 → gI S 228 (3 * u + x) = J (if x = an.toNat then 1 else 0) := by
    intro x hx
    by_cases e : x = an.toNat
    · subst e
      rw [← hS, incr_g, opn_g hx, if_pos rfl]
      rfl
    · rw [← hS, incr_o (by omega) (by omega), opn_g hx, if_neg e]
  have sk : ∀ d i, d < u → i < n → sameK SC SM d i → sameK S SM' d i := by
    intro d i hd hi hs
    unfold sameK
    rw [ok 223 d (by decide) (by decide) hd, ok 224 d (by decide) (by decide) hd, ok 225 d (by decide) (by decide) hd, ok 226 d (by decide) (by decide) hd, h1.2.2.1 8 i (by decide) (by decide) hi, h1.2.2.1 9 i (by decide) (by decide) hi, h1.2.2.1 10 i (by decide) (by decide) hi, h1.2.2.1 11 i (by decide) (by decide) hi]
    exact hs
  have skn : sameK S SM' u n := by
    unfold sameK
    rw [h1.2.2.2.1, h1.2.2.2.2.1, h1.2.2.2.2.2.1, h1.2.2.2.2.2.2.1]
    exact Sk
  have k9 : iI SM' 9 n = k := iI_of h1.2.2.2.2.1 hr.2.1.1 hr.2.1.2
  refine ⟨u + 1, S7, by rw [h1.2.1]; omega, ?_, ?_, ?_, ?_, ?_, ?_, ?_⟩
  · intro d hd
    by_cases e : d = u
    · rw [e]
      exact ⟨n, by rw [h1.2.1]; omega, by rw [k9]; exact hk1, skn⟩
    · obtain ⟨i, i1, i2, i3⟩ := c3 d (by omega)
      exact ⟨i, by rw [h1.2.1]; omega, by rw [show iI SM' 9 i = iI SM 9 i from congrArg Int32.toInt (h1.2.2.1 9 i (by decide) (by decide) i1)]; exact i2, sk d i (by omega) i1 i3⟩
  · intro i hi hi9
    rw [h1.2.1] at hi
    by_cases e : i = n
    · rw [e]
      exact ⟨u, by omega, skn⟩
    · have hi' : i < n := by omega
      rw [show iI SM' 9 i = iI SM 9 i from congrArg Int32.toInt (h1.2.2.1 9 i (by decide) (by decide) hi')] at hi9
      obtain ⟨d, d1, d2⟩ := c4 i hi' hi9
      exact ⟨d, by omega, sk d i d1 hi' d2⟩
  · intro d e hd he q1 q2 q3 q4
    by_cases z1 : d = u
    · by_cases z2 : e = u
      · omega
      · exfalso
        have he' : e < u := by omega
        subst z1
        rw [ok 223 e (by decide) (by decide) he', Sk.1] at q1
        rw [ok 224 e (by decide) (by decide) he', Sk.2.1] at q2
        rw [ok 225 e (by decide) (by decide) he', Sk.2.2.1] at q3
        rw [ok 226 e (by decide) (by decide) he', Sk.2.2.2] at q4
        exact none e he' ⟨q1.symm, q2.symm, q3.symm, q4.symm⟩
    · by_cases z2 : e = u
      · exfalso
        have hd' : d < u := by omega
        subst z2
        rw [ok 223 d (by decide) (by decide) hd', Sk.1] at q1
        rw [ok 224 d (by decide) (by decide) hd', Sk.2.1] at q2
        rw [ok 225 d (by decide) (by decide) hd', Sk.2.2.1] at q3
        rw [ok 226 d (by decide) (by decide) hd', Sk.2.2.2] at q4
        exact none d hd' ⟨q1, q2, q3, q4⟩
      · have hd' : d < u := by omega
        have he' : e < u := by omega
        rw [ok 223 d (by decide) (by decide) hd', ok 223 e (by decide) (by decide) he'] at q1
        rw [ok 224 d (by decide) (by decide) hd', ok 224 e (by decide) (by decide) he'] at q2
        rw [ok 225 d (by decide) (by decide) hd', ok 225 e (by decide) (by decide) he'] at q3
        rw [ok 226 d (by decide) (by decide) hd', ok 226 e (by decide) (by decide) he'] at q4
        exact c5 d e hd' he' q1 q2 q3 q4
  · intro d hd
    rw [h1.2.1, nK_new h1 hr]
    by_cases e : d = u
    · subst e
      rw [Ski.1, Ski.2.1, Ski.2.2.1, Ski.2.2.2, St, nK_none norow, if_pos ⟨rfl, rfl, rfl, rfl⟩]
      refine ⟨rfl, fun x hx => ?_⟩
      rw [Sg x hx, nKA_new h1 hr (inI_of han.1 (by omega)), nKA_none norow]
      by_cases ex : x = an.toNat
      · rw [if_pos ex, if_pos ⟨⟨rfl, rfl, rfl, rfl⟩, by omega⟩]; rfl
      · rw [if_neg ex, if_neg (fun z => ex (by omega))]; rfl
    · have hd' : d < u := by omega
      obtain ⟨t1, t2⟩ := c6 d hd'
      rw [oki 223 d (by decide) (by decide) hd', oki 224 d (by decide) (by decide) hd', oki 225 d (by decide) (by decide) hd', oki 226 d (by decide) (by decide) hd', ok 227 d (by decide) (by decide) hd']
      have hm : ¬ (p = iI SC 223 d ∧ k = iI SC 224 d ∧ a = iI SC 225 d ∧ b = iI SC 226 d) := fun z => none d hd' (keyIs_o hr z)
      refine ⟨?_, fun x hx => ?_⟩
      · rw [t1, if_neg hm, Int.add_zero]
      · rw [nKA_new h1 hr (inI_of han.1 (by omega)), o 228 _ (by omega) (by omega) (by omega) (by omega), t2 x hx, if_neg (fun z => hm z.1), Int.add_zero]
  · intro s hs
    by_cases e : s = s0
    · rw [e, Ss]
      exact Or.inr ⟨u, by omega, rfl⟩
    · rw [So s e]
      rcases c7 s hs with z | ⟨c, z1, z2⟩
      · exact Or.inl z
      · exact Or.inr ⟨c, by omega, z2⟩
  · intro d hd
    by_cases e : d = u
    · subst e
      rw [Ski.1, Ski.2.1, Ski.2.2.1, Ski.2.2.2]
      refine ⟨D, hD, by rw [hs0]; exact Ss, fun f hf => ?_⟩
      have := hno f hf
      by_cases z : (hsh p k a b + f) % 2048 = s0
      · rw [z, Ss, J_inj (by omega) (by omega) (by decide) (by decide)]
        omega
      · rw [So _ z]
        exact fun w => this (Or.inl w)
    · have hd' : d < u := by omega
      rw [oki 223 d (by decide) (by decide) hd', oki 224 d (by decide) (by decide) hd', oki 225 d (by decide) (by decide) hd', oki 226 d (by decide) (by decide) hd']
      obtain ⟨f, f1, f2, f3⟩ := c8 d hd'
      refine ⟨f, f1, ?_, fun g hg => ?_⟩
      · by_cases z : (hsh (iI SC 223 d) (iI SC 224 d) (iI SC 225 d) (iI SC 226 d) + f) % 2048 = s0
        · rw [z, hz, J_inj (by decide) (by decide) (by omega) (by omega)] at f2
          omega
        · rw [So _ z]; exact f2
      · by_cases z : (hsh (iI SC 223 d) (iI SC 224 d) (iI SC 225 d) (iI SC 226 d) + g) % 2048 = s0
        · rw [z, Ss, J_inj (by omega) (by omega) (by decide) (by decide)]
          omega
        · rw [So _ z]; exact f3 g hg
  · rw [sm_upd hs1 (fun s hs z => by rw [So s z]), c9, hz, Ss, if_pos rfl, if_neg (by rw [J_inj (by omega) (by omega) (by decide) (by decide)]; omega)]
    omega
theorem c_put2 (hc : rCells SC SM) (hn : n < 1000) (h1 : plus1 SM SM' n p k a b an) (hp : 0 ≤ p ∧ p < 6) (hk : 0 ≤ k ∧ k ≤ 1) (ha : 0 ≤ a ∧ a ≤ 400) (hb : 0 ≤ b ∧ b ≤ 400) (han : 0 ≤ an ∧ an < 3) (a3 : gI SC 456 3 = J p) (a4 : gI SC 456 4 = J k) (a5 : gI SC 456 5 = J a) (a6 : gI SC 456 6 = J b) : ∃ SC', gX2_put SC (J an) = some SC' ∧ fr Epc SC SC' ∧ rCells SC' SM' := by
  have hc0 := hc
  obtain ⟨u, c1, c2, c3, c4, c5, c6, c7, c8, c9⟩ := hc
  rw [h1.1] at c2 c3 c4 c6
  have hr : inI p ∧ inI k ∧ inI a ∧ inI b := ⟨⟨by omega, by omega⟩, ⟨by omega, by omega⟩, ⟨by omega, by omega⟩, ⟨by omega, by omega⟩⟩
  obtain ⟨D, d1, d2, d3, d4⟩ := c_slotOf a3 a4 a5 a6 hp hk ha hb (by omega) c7 c9
  generalize hs0 : (hsh p k a b + D) % 2048 = s0 at d2 d4
  have hs1 : s0 < 2048 := by omega
  have x1 : ixb (J (s0 : Int)) 2048 = true := ixb_J (by omega) (by omega) (by decide)
  have y1 : ix (J (s0 : Int)) = s0 := by rw [ix_J (by omega) (by omega)]; omega
  -- what counting up gives
  have up : ∀ (S : zM) (c : Nat), c < 1000 → gI S 222 s0 = J ((c : Int) + 1) → gX2_put_J35 S (J an) (J s0) = some (incr S c (3 * c + an.toNat)) := by
    intro S c hc hS
    have x2 : ixb (J (c : Int)) 1000 = true := ixb_J (by omega) (by omega) (by decide)
    have y2 : ix (J (c : Int)) = c := by rw [ix_J (by omega) (by omega)]; omega
    have x3 : ixb (J ((c : Int) * 3 + an)) 3000 = true := ixb_J (by omega) (by omega) (by decide)
    have y3 : ix (J ((c : Int) * 3 + an)) = 3 * c + an.toNat := by rw [ix_J (by omega) (by omega)]; omega
    unfold gX2_put_J35 incr
    simp only [J_0, J_1, J_2, J_3, J_4, J_5, J_6, J_7, J_8, J_9, J_10, J_11, J_12, J_14, J_15, J_16, J_19, J_20, J_21, J_22, J_23, J_24, J_25, J_28, J_30, J_31, J_32, J_40, J_44, J_47, J_48, J_49, J_50, J_53, J_54, J_57, J_59, J_74, J_75, J_78, J_84, J_97, J_99, J_100, J_120, J_122, J_126, J_132, J_138, J_144, J_150, J_156, J_162, J_198, J_200, J_202, J_206, J_210, J_214, J_218, J_222, J_226, J_230, J_234, J_238, J_239, J_240, J_241, J_242, J_243, J_255, J_263, J_283, J_303, J_399, J_400, J_401, J_463, J_700, J_701, J_999, J_1000, J_2048, J_4095, J_4096, J_6000, J_9999, J_10000, J_65536, J_65537, J_2147483647, J_neg, J_neg, J_add, J_sub, J_mul, x1, y1, ckt, b1s, b2s, lts, un2s, un3s, un4s, un5s, lmr, lml, lgr, lgl, hS, show (c : Int) + 1 - 1 = c by omega, x2, y2, x3, y3]
    rw [iLT (by omega) (by omega) (by decide) (by decide), if_neg (show ¬ (c : Int) < 0 by omega)]
    rw [rII, if_neg (show ¬ ((228 : Nat) = 227 ∧ 3 * c + an.toNat = c) by omega)]
  unfold gX2_put
  simp only [J_0, J_1, J_2, J_3, J_4, J_5, J_6, J_7, J_8, J_9, J_10, J_11, J_12, J_14, J_15, J_16, J_19, J_20, J_21, J_22, J_23, J_24, J_25, J_28, J_30, J_31, J_32, J_40, J_44, J_47, J_48, J_49, J_50, J_53, J_54, J_57, J_59, J_74, J_75, J_78, J_84, J_97, J_99, J_100, J_120, J_122, J_126, J_132, J_138, J_144, J_150, J_156, J_162, J_198, J_200, J_202, J_206, J_210, J_214, J_218, J_222, J_226, J_230, J_234, J_238, J_239, J_240, J_241, J_242, J_243, J_255, J_263, J_283, J_303, J_399, J_400, J_401, J_463, J_700, J_701, J_999, J_1000, J_2048, J_4095, J_4096, J_6000, J_9999, J_10000, J_65536, J_65537, J_2147483647, J_neg, d4, ckt, b1s, b2s, lts, un2s, un3s, un4s, un5s, lmr, lml, lgr, lgl, x1, y1]
  rw [iLT (by omega) (by omega) (by decide) (by decide), if_neg (show ¬ (s0 : Int) < 0 by omega), iLT (by omega) (by omega) (by decide) (by decide), if_neg (show ¬ an < 0 by omega), iLT (by omega) (by omega) (by decide) (by decide), if_pos han.2]
  rcases d2 with z | ⟨c, z1, z2, z3⟩
  · have hu : u < 1000 := by omega
    rw [if_pos z, c_open hu hs1 c1, b1s, up _ u hu opn_s]
    refine ⟨_, rfl, fr_t fr_opn fr_incr, ?_⟩
    have := put_new c1 c2 c3 c4 c5 c6 c7 c8 c9 hn h1 hr han hk.2 d1 (by rw [hs0]; exact z) d3 a3 a4 a5 a6
    rw [hs0] at this
    exact this
  · have hne : ¬ gI SC 222 s0 = J 0 := by
      rw [z2, J_inj (by omega) (by omega) (by decide) (by decide)]
      omega
    have hup := up SC c (by omega) z2
    unfold gX2_put_J35 at hup
    simp only [J_0, J_1, J_2, J_3, J_4, J_5, J_6, J_7, J_8, J_9, J_10, J_11, J_12, J_14, J_15, J_16, J_19, J_20, J_21, J_22, J_23, J_24, J_25, J_28, J_30, J_31, J_32, J_40, J_44, J_47, J_48, J_49, J_50, J_53, J_54, J_57, J_59, J_74, J_75, J_78, J_84, J_97, J_99, J_100, J_120, J_122, J_126, J_132, J_138, J_144, J_150, J_156, J_162, J_198, J_200, J_202, J_206, J_210, J_214, J_218, J_222, J_226, J_230, J_234, J_238, J_239, J_240, J_241, J_242, J_243, J_255, J_263, J_283, J_303, J_399, J_400, J_401, J_463, J_700, J_701, J_999, J_1000, J_2048, J_4095, J_4096, J_6000, J_9999, J_10000, J_65536, J_65537, J_2147483647, J_neg, ckt, b1s, b2s, lts, un2s, un3s, un4s, un5s, lmr, lml, lgr, lgl, x1, y1] at hup
    rw [if_neg hne]
    refine ⟨_, hup, fr_incr, put_old hc0 hn h1 hr han hk.2 z3 (fun u' h1' h2' => ?_)⟩
    rw [c1, J_inj (by omega) (by omega) (by omega) (by omega)] at h1'
    omega
end
