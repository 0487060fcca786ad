/-! Steps, by both. -/
def sSt (C M : zM) (q s j : Nat) : Prop := ∃ kd a c : Int, gI C (q + 1) j = J kd ∧ gI C (q + 2) j = J a ∧ gI C (q + 3) j = J c ∧ gI M 4 (6 + 4 * s + j) = J kd ∧ gI M 4 (30 + 4 * s + j) = J a ∧ ((kd = 0 ∧ 2 ≤ a ∧ a ≤ 99) ∨ (kd = 1 ∧ (1 ≤ a ∧ a ≤ 3) ∧ (1 ≤ c ∧ c ≤ 3) ∧ gI M 4 (54 + 4 * s + j) = J c) ∨ (kd = 2 ∧ (1 ≤ a ∧ a ≤ 99) ∧ (1 ≤ c ∧ c ≤ 99) ∧ gI M 4 (54 + 4 * s + j) = J c) ∨ (kd = 3 ∧ 0 ≤ a ∧ a ≤ 399))
def sP (C M : zM) (q s m : Nat) : Prop := m ≤ 4 ∧ gI C q 6 = J m ∧ gI M 4 s = J m ∧ ∀ j, j < m → sSt C M q s j
def fSt (q0 q k : Nat) : Prop := fC2 q k ∨ (q = q0 ∧ k = 6) ∨ (q0 + 1 ≤ q ∧ q ≤ q0 + 3)
def kMt (s k : Nat) : Prop := k = s ∨ (6 + 4 * s ≤ k ∧ k < 10 + 4 * s) ∨ (30 + 4 * s ≤ k ∧ k < 34 + 4 * s) ∨ (54 + 4 * s ≤ k ∧ k < 58 + 4 * s)
def fMt (s q k : Nat) : Prop := fM2 q k ∨ (q = 4 ∧ kMt s k)
theorem bad_w {C C' M M' : zM} (h : bad C M) (c7 : gI C' 2 7 = gI C 2 7) (c8 : gI C' 2 8 = gI C 2 8) (m : ∀ k, gI M' 0 k = gI M 0 k) : bad C' M' := by
  obtain ⟨h1, h2, h3, f, h4, h5⟩ := h
  exact ⟨(m 13).trans h1, by rw [c7, m, h2], by rw [c8, m, h3], f, h4, (m 9).trans h5⟩
section
variable {b : Nat → Int} {n T k : Nat} {C M : zM} {q s m : Nat}
theorem sP_c {C' M' : zM} (h : sP C M q s m) (c6 : gI C' q 6 = gI C q 6) (c : ∀ a j, q + 1 ≤ a → a ≤ q + 3 → gI C' a j = gI C a j) (m4 : ∀ k, kMt s k → gI M' 4 k = gI M 4 k) : sP C' M' q s m := by
  obtain ⟨h1, h2, h3, h4⟩ := h
  refine ⟨h1, c6.trans h2, (m4 s (Or.inl rfl)).trans h3, fun j hj => ?_⟩
  obtain ⟨kd, a, e, g1, g2, g3, g4, g5, g6⟩ := h4 j hj
  have e6 := m4 (6 + 4 * s + j) (by unfold kMt; omega)
  have e30 := m4 (30 + 4 * s + j) (by unfold kMt; omega)
  have e54 := m4 (54 + 4 * s + j) (by unfold kMt; omega)
  refine ⟨kd, a, e, (c _ j (by omega) (by omega)).trans g1, (c _ j (by omega) (by omega)).trans g2, (c _ j (by omega) (by omega)).trans g3, e6.trans g4, e30.trans g5, ?_⟩
  rw [e54]
  exact g6
def stS (C : zM) (q m : Nat) (kd a c : Int) : zM := pI (pI (pI (pI C (q + 1) m (J kd)) (q + 2) m (J a)) (q + 3) m (J c)) q 6 (J ((m + 1 : Nat) : Int))
theorem c_addStep {kd a c : Int} (h : gI C q 6 = J m) (hm : m < 4) : gX9_addStep C q (J kd) (J a) (J c) = some (stS C q m kd a c) := by
  have x1 : ixb (J (m : Int)) 4 = true := ixb_J (by omega) (by omega) (by decide)
  have y1 : ix (J (m : Int)) = m := by rw [ix_J (by omega) (by omega)]; omega
  have e1 : gI (pI C (q + 1) m (J kd)) q 6 = J m := by rw [rII, if_neg (by omega), h]
  have e2 : gI (pI (pI C (q + 1) m (J kd)) (q + 2) m (J a)) q 6 = J m := by rw [rII, if_neg (by omega), e1]
  have e3 : gI (pI (pI (pI C (q + 1) m (J kd)) (q + 2) m (J a)) (q + 3) m (J c)) q 6 = J m := by rw [rII, if_neg (by omega), e2]
  unfold gX9_addStep
  simp only [J_0, J_1, J_2, J_3, J_4, J_5, J_6, J_7, J_8, J_9, J_10, J_11, J_12, J_14, J_15, J_16, J_19, J_20, J_21, J_22, J_23, J_24, J_25, J_28, J_30, J_31, J_32, J_40, J_44, J_47, J_48, J_49, J_50, J_53, J_54, J_57, J_59, J_74, J_75, J_78, J_84, J_97, J_99, J_100, J_120, J_122, J_126, J_132, J_138, J_144, J_150, J_156, J_162, J_198, J_200, J_202, J_206, J_210, J_214, J_218, J_222, J_226, J_230, J_234, J_238, J_239, J_240, J_241, J_242, J_243, J_255, J_263, J_283, J_303, J_399, J_400, J_401, J_463, J_700, J_701, J_999, J_1000, J_2048, J_4095, J_4096, J_6000, J_9999, J_10000, J_65536, J_65537, J_2147483647, J_neg, h, x1, y1, e1, e2, e3, ckt, b1s, b2s, lts, un2s, un3s, un4s, un5s, lmr, lml, lgr, lgl, J_add]
  rw [iLE (by decide) (by decide) (by omega) (by omega), if_neg (by omega)]
  rfl
theorem stS_o {kd a c : Int} {x j : Nat} (h : ¬ (q ≤ x ∧ x ≤ q + 3)) : gI (stS C q m kd a c) x j = gI C x j := by
  unfold stS
  rw [rII, if_neg (by omega), rII, if_neg (by omega), rII, if_neg (by omega), rII, if_neg (by omega)]
theorem fr_stS {kd a c : Int} : fr (fSt q) C (stS C q m kd a c) := fr_t (fr_t (fr_t (fr_pI (Or.inr (by omega))) (fr_pI (Or.inr (by omega)))) (fr_pI (Or.inr (by omega)))) (fr_pI (Or.inr (by omega)))
/-- the model's writing of a step's second part and count, whatever came before -/
theorem m_J190a {x : Nat} {kd v : Int} (hs : s < 6) (hx : x < 24) (hk : kd = 0 ∨ kd = 3) : gX12_stepOf_J190 M (J s) (J kd) (J x) (J v) (J ((30 + x : Nat) : Int)) = some (pI (pI M 4 (30 + x) (J v)) 4 s (gI (pI M 4 (30 + x) (J v)) 4 s + J 1)) := by
  have x1 : ixb (J ((30 + x : Nat) : Int)) 463 = true := ixb_J (by omega) (by omega) (by decide)
  have y1 : ix (J ((30 + x : Nat) : Int)) = 30 + x := by rw [ix_J (by omega) (by omega)]; omega
  have x2 : ixb (J (s : Int)) 463 = true := ixb_J (by omega) (by omega) (by decide)
  have y2 : ix (J (s : Int)) = s := by rw [ix_J (by omega) (by omega)]; omega
  have z : (0 : Int) + (s : Int) = s := by omega
  unfold gX12_stepOf_J190
  simp only [J_0, J_1, J_2, J_3, J_4, J_5, J_6, J_7, J_8, J_9, J_10, J_11, J_12, J_14, J_15, J_16, J_19, J_20, J_21, J_22, J_23, J_24, J_25, J_28, J_30, J_31, J_32, J_40, J_44, J_47, J_48, J_49, J_50, J_53, J_54, J_57, J_59, J_74, J_75, J_78, J_84, J_97, J_99, J_100, J_120, J_122, J_126, J_132, J_138, J_144, J_150, J_156, J_162, J_198, J_200, J_202, J_206, J_210, J_214, J_218, J_222, J_226, J_230, J_234, J_238, J_239, J_240, J_241, J_242, J_243, J_255, J_263, J_283, J_303, J_399, J_400, J_401, J_463, J_700, J_701, J_999, J_1000, J_2048, J_4095, J_4096, J_6000, J_9999, J_10000, J_65536, J_65537, J_2147483647, J_neg, J_neg, J_add, J_sub, J_mul, z, x1, y1, x2, y2, ckt, b1s, b2s, lts, un2s, un3s, un4s, un5s, lmr, lml, lgr, lgl]
  rw [iEQ (by omega) (by omega) (by decide) (by decide), if_neg (by omega), iEQ (by omega) (by omega) (by decide) (by decide), if_neg (by omega)]
theorem m_J190b {x : Nat} {kd v : Int} (hs : s < 6) (hx : x < 24) (hk : kd = 1 ∨ kd = 2) : gX12_stepOf_J190 M (J s) (J kd) (J x) (J v) (J ((30 + x : Nat) : Int)) = b1 (gX12_slash (pI M 4 (30 + x) (J v))) fun S => b2 (gX12_number S (J 1) (J (if kd = 1 then 3 else 99))) fun r S => some (pI (pI S 4 (54 + x) r) 4 s (gI (pI S 4 (54 + x) r) 4 s + J 1)) := by
  have x1 : ixb (J ((30 + x : Nat) : Int)) 463 = true := ixb_J (by omega) (by omega) (by decide)
  have y1 : ix (J ((30 + x : Nat) : Int)) = 30 + x := by rw [ix_J (by omega) (by omega)]; omega
  have x2 : ixb (J (s : Int)) 463 = true := ixb_J (by omega) (by omega) (by decide)
  have y2 : ix (J (s : Int)) = s := by rw [ix_J (by omega) (by omega)]; omega
  have x3 : ixb (J (54 + (x : Int))) 463 = true := ixb_J (by omega) (by omega) (by decide)
  have y3 : ix (J (54 + (x : Int))) = 54 + x := by rw [ix_J (by omega) (by omega)]; omega
  have z : (0 : Int) + (s : Int) = s := by omega
  unfold gX12_stepOf_J190 gX12_stepOf_J226 gX12_stepOf_J230
  simp only [J_0, J_1, J_2, J_3, J_4, J_5, J_6, J_7, J_8, J_9, J_10, J_11, J_12, J_14, J_15, J_16, J_19, J_20, J_21, J_22, J_23, J_24, J_25, J_28, J_30, J_31, J_32, J_40, J_44, J_47, J_48, J_49, J_50, J_53, J_54, J_57, J_59, J_74, J_75, J_78, J_84, J_97, J_99, J_100, J_120, J_122, J_126, J_132, J_138, J_144, J_150, J_156, J_162, J_198, J_200, J_202, J_206, J_210, J_214, J_218, J_222, J_226, J_230, J_234, J_238, J_239, J_240, J_241, J_242, J_243, J_255, J_263, J_283, J_303, J_399, J_400, J_401, J_463, J_700, J_701, J_999, J_1000, J_2048, J_4095, J_4096, J_6000, J_9999, J_10000, J_65536, J_65537, J_2147483647, J_neg, J_neg, J_add, J_sub, J_mul, z, x1, y1, x2, y2, x3, y3, ckt, b1s, b2s, lts, un2s, un3s, un4s, un5s, lmr, lml, lgr, lgl]
  rcases hk with y | y
  · subst y
    simp only [if_true]
  · subst y
    simp only [if_true, if_neg (show ¬ J 2 = J 1 by decide), if_neg (show ¬ (2 : Int) = 1 by decide)]
def f4s (s q k : Nat) : Prop := q = 4 ∧ kMt s k
theorem b_J190 {j : Nat} {kd v : Int} (hs : s < 6) (hj : j < 4) (hk : 0 ≤ kd ∧ kd ≤ 3) (h : gI M 0 13 = J 1) : ∃ M', gX12_stepOf_J190 M (J s) (J kd) (J ((4 * s + j : Nat) : Int)) (J v) (J ((30 + (4 * s + j) : Nat) : Int)) = some M' ∧ fr (f4s s) M M' := by
  have f1 : ∀ (A : zM) (w : Int32), fr (f4s s) A (pI A 4 (30 + (4 * s + j)) w) := fun A w => fr_pI (by unfold f4s kMt; omega)
  have f2 : ∀ (A : zM) (w : Int32), fr (f4s s) A (pI A 4 (54 + (4 * s + j)) w) := fun A w => fr_pI (by unfold f4s kMt; omega)
  have f3 : ∀ (A : zM) (w : Int32), fr (f4s s) A (pI A 4 s w) := fun A w => fr_pI (by unfold f4s kMt; omega)
  by_cases z : kd = 0 ∨ kd = 3
  · exact ⟨_, m_J190a hs (by omega) z, fr_t (f1 _ _) (f3 _ _)⟩
  · have h' : gI (pI M 4 (30 + (4 * s + j)) (J v)) 0 13 = J 1 := by rw [rII, if_neg (by omega), h]
    rw [m_J190b hs (by omega) (by omega), b_slash h', b1s, b_number h', b2s]
    exact ⟨_, rfl, fr_t (f1 _ _) (fr_t (f2 _ _) (f3 _ _))⟩
def kLo (kd : Int) : Int := if kd = 0 then 2 else if kd = 1 then 1 else if kd = 2 then 1 else 0
def kHi (kd : Int) : Int := if kd = 0 then 99 else if kd = 1 then 3 else if kd = 2 then 99 else 399
theorem m_J53 {kd : Int} {M1 : zM} (hs : s < 6) (hm : m < 4) (hk : 0 ≤ kd ∧ kd ≤ 3) (h13 : gI M 0 13 = J 0) (h4 : gI M 4 s = J m) (hn : gX12_next M = some M1) (h4' : gI M1 4 s = J m) : gX12_stepOf_J53 M (J s) (J kd) = b2 (gX12_number (pI M1 4 (6 + 4 * s + m) (J kd)) (J (kLo kd)) (J (kHi kd))) fun r S => gX12_stepOf_J190 S (J s) (J kd) (J ((4 * s + m : Nat) : Int)) r (J ((30 + (4 * s + m) : Nat) : Int)) := by
  have x2 : ixb (J (s : Int)) 463 = true := ixb_J (by omega) (by omega) (by decide)
  have y2 : ix (J (s : Int)) = s := by rw [ix_J (by omega) (by omega)]; omega
  have z : (0 : Int) + (s : Int) = s := by omega
  have z2 : (4 * (s : Int) + m) = ((4 * s + m : Nat) : Int) := by omega
  have z3 : (6 + ((4 * s + m : Nat) : Int)) = ((6 + 4 * s + m : Nat) : Int) := by omega
  have z4 : (30 + ((4 * s + m : Nat) : Int)) = ((30 + (4 * s + m) : Nat) : Int) := by omega
  have x3 : ixb (J ((6 + 4 * s + m : Nat) : Int)) 463 = true := ixb_J (by omega) (by omega) (by decide)
  have y3 : ix (J ((6 + 4 * s + m : Nat) : Int)) = 6 + 4 * s + m := by rw [ix_J (by omega) (by omega)]; omega
  unfold gX12_stepOf_J53
  simp only [J_0, J_1, J_2, J_3, J_4, J_5, J_6, J_7, J_8, J_9, J_10, J_11, J_12, J_14, J_15, J_16, J_19, J_20, J_21, J_22, J_23, J_24, J_25, J_28, J_30, J_31, J_32, J_40, J_44, J_47, J_48, J_49, J_50, J_53, J_54, J_57, J_59, J_74, J_75, J_78, J_84, J_97, J_99, J_100, J_120, J_122, J_126, J_132, J_138, J_144, J_150, J_156, J_162, J_198, J_200, J_202, J_206, J_210, J_214, J_218, J_222, J_226, J_230, J_234, J_238, J_239, J_240, J_241, J_242, J_243, J_255, J_263, J_283, J_303, J_399, J_400, J_401, J_463, J_700, J_701, J_999, J_1000, J_2048, J_4095, J_4096, J_6000, J_9999, J_10000, J_65536, J_65537, J_2147483647, J_neg, J_neg, J_add, J_sub, J_mul, z, x2, y2, h13, h4, h4', hn, z2, z3, z4, x3, y3, ckt, b1s, b2s, lts, un2s, un3s, un4s, un5s, lmr, lml, lgr, lgl, if_true]
  rw [iEQ (by omega) (by omega) (by decide) (by decide), if_neg (by omega), iEQ (by omega) (by omega) (by decide) (by decide), if_neg (by omega)]
  unfold kLo kHi
  have : kd = 0 ∨ kd = 1 ∨ kd = 2 ∨ kd = 3 := by omega
  rcases this with w | w | w | w
  · subst w
    rw [if_pos rfl, if_pos rfl, if_pos rfl]
  · subst w
    rw [if_neg (by decide), if_pos rfl, if_neg (by decide), if_pos rfl, if_neg (by decide), if_pos rfl]
  · subst w
    rw [if_neg (by decide), if_neg (by decide), if_pos rfl, if_neg (by decide), if_neg (by decide), if_pos rfl, if_neg (by decide), if_neg (by decide), if_pos rfl]
  · subst w
    rw [if_neg (by decide), if_neg (by decide), if_neg (by decide), if_neg (by decide), if_neg (by decide), if_neg (by decide), if_neg (by decide), if_neg (by decide), if_neg (by decide)]
theorem b_J96 {v2 : Int32} (h : gI M 0 13 = J 1) : gX12_stepOf_J96 M (J s) v2 = some M := by
  unfold gX12_stepOf_J96
  simp only [J_0, J_1, J_2, J_3, J_4, J_5, J_6, J_7, J_8, J_9, J_10, J_11, J_12, J_14, J_15, J_16, J_19, J_20, J_21, J_22, J_23, J_24, J_25, J_28, J_30, J_31, J_32, J_40, J_44, J_47, J_48, J_49, J_50, J_53, J_54, J_57, J_59, J_74, J_75, J_78, J_84, J_97, J_99, J_100, J_120, J_122, J_126, J_132, J_138, J_144, J_150, J_156, J_162, J_198, J_200, J_202, J_206, J_210, J_214, J_218, J_222, J_226, J_230, J_234, J_238, J_239, J_240, J_241, J_242, J_243, J_255, J_263, J_283, J_303, J_399, J_400, J_401, J_463, J_700, J_701, J_999, J_1000, J_2048, J_4095, J_4096, J_6000, J_9999, J_10000, J_65536, J_65537, J_2147483647, J_neg]
  rw [h, if_neg (by decide)]
theorem b_J68 {v2 : Int32} (h : gI M 0 13 = J 1) : gX12_stepOf_J68 M (J s) v2 = some M := by
  unfold gX12_stepOf_J68
  simp only [J_0, J_1, J_2, J_3, J_4, J_5, J_6, J_7, J_8, J_9, J_10, J_11, J_12, J_14, J_15, J_16, J_19, J_20, J_21, J_22, J_23, J_24, J_25, J_28, J_30, J_31, J_32, J_40, J_44, J_47, J_48, J_49, J_50, J_53, J_54, J_57, J_59, J_74, J_75, J_78, J_84, J_97, J_99, J_100, J_120, J_122, J_126, J_132, J_138, J_144, J_150, J_156, J_162, J_198, J_200, J_202, J_206, J_210, J_214, J_218, J_222, J_226, J_230, J_234, J_238, J_239, J_240, J_241, J_242, J_243, J_255, J_263, J_283, J_303, J_399, J_400, J_401, J_463, J_700, J_701, J_999, J_1000, J_2048, J_4095, J_4096, J_6000, J_9999, J_10000, J_65536, J_65537, J_2147483647, J_neg]
  rw [h, if_neg (by decide), if_neg (by decide)]
theorem fC2_St {C C' : zM} (f : fr fC2 C C') : fr (fSt q) C C' := fr_w f (fun _ _ z => Or.inl z)
theorem fM2_t {M M' : zM} (f : fr fM2 M M') : fr (fMt s) M M' := fr_w f (fun _ _ z => Or.inl z)
theorem f4s_t {M M' : zM} (f : fr (f4s s) M M') : fr (fMt s) M M' := fr_w f (fun _ _ z => Or.inr z)
/-- places away from the reader's own -/
theorem rdS_4 {M' : zM} (h : rdS b n T C M k) (f : fr (fun q _ => q = 4) M M') : rdS b n T C M' k := rdS_w h rfl rfl rfl (fun _ => ⟨rfl, rfl, rfl⟩) (fun e _ => f.1 0 e (by omega)) (fun e => f.1 1 e (by omega)) (fun e => f.1 2 e (by omega))
theorem rdS_c6 {C' : zM} (h : rdS b n T C M k) (f : fr (fun q _ => 6 ≤ q) C C') : rdS b n T C' M k := rdS_w h (f.1 2 3 (by omega)) (f.1 2 4 (by omega)) (f.1 2 7 (by omega)) (fun e => ⟨f.1 3 e (by omega), f.1 4 e (by omega), f.2.1 5 e (by omega)⟩) (fun _ _ => rfl) (fun _ => rfl) (fun _ => rfl)
theorem rd_stepOf (h : rdS b n T C M k) (hP : sP C M q s m) (hq : 6 ≤ q) (hs : s < 6) {kd : Int} (hk : 0 ≤ kd ∧ kd ≤ 3) : two b n T k (fSt q) (fMt s) C M (gX7_readStepOf C q (J kd) (J (kLo kd)) (J (kHi kd))) (gX12_stepOf_J53 M (J s) (J kd)) (fun C' M' => m < 4 ∧ sP C' M' q s (m + 1)) := by
  obtain ⟨hm, p6, p4, pj⟩ := hP
  have h13 := h.2.2.2.2.2.2
  have lo : 0 ≤ kLo kd ∧ kLo kd ≤ 1000 ∧ -1000 ≤ kHi kd ∧ kHi kd ≤ 1000 := by
    have : kd = 0 ∨ kd = 1 ∨ kd = 2 ∨ kd = 3 := by omega
    unfold kLo kHi
    rcases this with w | w | w | w <;> subst w <;> decide
  unfold gX7_readStepOf
  simp only [J_0, J_1, J_2, J_3, J_4, J_5, J_6, J_7, J_8, J_9, J_10, J_11, J_12, J_14, J_15, J_16, J_19, J_20, J_21, J_22, J_23, J_24, J_25, J_28, J_30, J_31, J_32, J_40, J_44, J_47, J_48, J_49, J_50, J_53, J_54, J_57, J_59, J_74, J_75, J_78, J_84, J_97, J_99, J_100, J_120, J_122, J_126, J_132, J_138, J_144, J_150, J_156, J_162, J_198, J_200, J_202, J_206, J_210, J_214, J_218, J_222, J_226, J_230, J_234, J_238, J_239, J_240, J_241, J_242, J_243, J_255, J_263, J_283, J_303, J_399, J_400, J_401, J_463, J_700, J_701, J_999, J_1000, J_2048, J_4095, J_4096, J_6000, J_9999, J_10000, J_65536, J_65537, J_2147483647, J_neg]
  rw [p6, iLT (by omega) (by omega) (by decide) (by decide)]
  by_cases e : m = 4
  · obtain ⟨C1, q1, q2, q3, q4, q5⟩ := rd_wrong h (f := 5) (by decide)
    have x2 : ixb (J (s : Int)) 463 = true := ixb_J (by omega) (by omega) (by decide)
    have y2 : ix (J (s : Int)) = s := by rw [ix_J (by omega) (by omega)]; omega
    have z : (0 : Int) + (s : Int) = s := by omega
    rw [if_neg (by omega), q1, b2s, show isB (J 0) = true by decide, ckt]
    unfold gX12_stepOf_J53
    simp only [J_0, J_1, J_2, J_3, J_4, J_5, J_6, J_7, J_8, J_9, J_10, J_11, J_12, J_14, J_15, J_16, J_19, J_20, J_21, J_22, J_23, J_24, J_25, J_28, J_30, J_31, J_32, J_40, J_44, J_47, J_48, J_49, J_50, J_53, J_54, J_57, J_59, J_74, J_75, J_78, J_84, J_97, J_99, J_100, J_120, J_122, J_126, J_132, J_138, J_144, J_150, J_156, J_162, J_198, J_200, J_202, J_206, J_210, J_214, J_218, J_222, J_226, J_230, J_234, J_238, J_239, J_240, J_241, J_242, J_243, J_255, J_263, J_283, J_303, J_399, J_400, J_401, J_463, J_700, J_701, J_999, J_1000, J_2048, J_4095, J_4096, J_6000, J_9999, J_10000, J_65536, J_65537, J_2147483647, J_neg, J_neg, J_add, J_sub, J_mul, z, x2, y2, h13, p4, q2, ckt, b1s, b2s, lts, un2s, un3s, un4s, un5s, lmr, lml, lgr, lgl, if_true, b_J96 mbad_13]
    rw [iEQ (by omega) (by omega) (by decide) (by decide), if_neg (by omega), iEQ (by omega) (by omega) (by decide) (by decide), if_pos (by omega)]
    exact ⟨0, _, _, rfl, rfl, fC2_St q4, fM2_t q5, Or.inr ⟨rfl, q3⟩⟩
  · obtain ⟨C1, M1, k1, a1, a2, a3, a4, a5, -, a6, -⟩ := rd_step h
    have p41 : gI M1 4 s = J m := (a5.1 4 s (by unfold fNx; omega)).trans p4
    rw [if_pos (by omega), a1, b1s, m_J53 hs (by omega) hk h13 p4 a2 p41]
    have f0 : fr (f4s s) M1 (pI M1 4 (6 + 4 * s + m) (J kd)) := fr_pI (by unfold f4s kMt; omega)
    obtain ⟨r, v, C2, M2, b1', b2', b3', b4', b5'⟩ := rd_number (rdS_4 a3 (fr_w f0 (fun _ _ z => z.1))) (lo := kLo kd) (hi := kHi kd) ⟨lo.1, lo.2.1⟩ ⟨lo.2.2.1, lo.2.2.2⟩
    rw [b1', b2s, b2', b2s]
    have FC : fr (fSt q) C C2 := fC2_St (fr_t a4 b3')
    have FM : fr (fMt s) M M2 := fr_t (fM2_t (fNx_2 a5)) (fr_t (f4s_t f0) (fM2_t b4'))
    have c6 : gI C2 q 6 = J m := by rw [b3'.1 q 6 (by unfold fC2; omega), a4.1 q 6 (by unfold fC2; omega), p6]
    have m6 : gI M2 4 (6 + 4 * s + m) = J kd := by rw [b4'.1 4 _ (by unfold fM2; omega), rII, if_pos ⟨rfl, rfl⟩]
    have ms : gI M2 4 s = J m := by rw [b4'.1 4 _ (by unfold fM2; omega), rII, if_neg (by omega), p41]
    have oldC : ∀ x j, 6 ≤ x → gI C2 x j = gI C x j := fun x j hx => (b3'.1 x j (by unfold fC2; omega)).trans (a4.1 x j (by unfold fC2; omega))
    have oldM : ∀ j, ¬ j = 6 + 4 * s + m → gI M2 4 j = gI M 4 j := fun j hj => by rw [b4'.1 4 _ (by unfold fM2; omega), rII, if_neg (fun w => hj w.2), a5.1 4 _ (by unfold fNx; omega)]
    rcases b5' with ⟨y, ⟨k2, y0, y2⟩, y3, y4, y5⟩ | ⟨y, y2⟩
    · subst y
      rw [if_neg (by decide), y3]
      by_cases z : kd = 0 ∨ kd = 3
      · rw [iEQ (by omega) (by omega) (by decide) (by decide), if_neg (by omega), iEQ (by omega) (by omega) (by decide) (by decide), if_neg (by omega), c_addStep c6 (by omega), b1s, m_J190a hs (by omega) z]
        have fA : fr (f4s s) M2 (pI (pI M2 4 (30 + (4 * s + m)) (J v)) 4 s (gI (pI M2 4 (30 + (4 * s + m)) (J v)) 4 s + J 1)) := fr_t (fr_pI (by unfold f4s kMt; omega)) (fr_pI (by unfold f4s kMt; omega))
        have f6 : fr (fun q _ => 6 ≤ q) C2 (stS C2 q m kd v 1) := fr_t (fr_t (fr_t (fr_pI (by omega)) (fr_pI (by omega))) (fr_pI (by omega))) (fr_pI (by omega))
        refine ⟨1, _, _, rfl, rfl, fr_t FC fr_stS, fr_t FM (f4s_t fA), Or.inl ⟨rfl, ⟨k2, by omega, rdS_c6 (rdS_4 y2 (fr_w fA (fun _ _ z => z.1))) f6⟩, by omega, by omega, ?_, ?_, fun j hj => ?_⟩⟩
        · unfold stS
          rw [rII, if_pos ⟨rfl, rfl⟩]
        · rw [rII, if_pos ⟨rfl, rfl⟩, rII, if_neg (by omega), ms, J_add]
          rfl
        · by_cases w : j = m
          · subst w
            refine ⟨kd, v, 1, ?_, ?_, ?_, ?_, ?_, ?_⟩
            · unfold stS
              rw [rII, if_neg (by omega), rII, if_neg (by omega), rII, if_neg (by omega), rII, if_pos ⟨rfl, rfl⟩]
            · unfold stS
              rw [rII, if_neg (by omega), rII, if_neg (by omega), rII, if_pos ⟨rfl, rfl⟩]
            · unfold stS
              rw [rII, if_neg (by omega), rII, if_pos ⟨rfl, rfl⟩]
            · rw [rII, if_neg (by omega), rII, if_neg (by omega), m6]
            · rw [rII, if_neg (by omega), rII, if_pos ⟨rfl, by omega⟩]
            · unfold kLo at y4
              unfold kHi at y5
              rcases z with z | z
              · subst z
                rw [if_pos rfl] at y4 y5
                exact Or.inl ⟨rfl, y4, y5⟩
              · subst z
                rw [if_neg (by decide), if_neg (by decide), if_neg (by decide)] at y4 y5
                exact Or.inr (Or.inr (Or.inr ⟨rfl, y4, y5⟩))
          · obtain ⟨kd', a', c', g1, g2, g3, g4, g5, g6⟩ := pj j (by omega)
            have mo : ∀ e, ¬ e = 30 + (4 * s + m) → ¬ e = s → ¬ e = 6 + 4 * s + m → gI (pI (pI M2 4 (30 + (4 * s + m)) (J v)) 4 s (gI (pI M2 4 (30 + (4 * s + m)) (J v)) 4 s + J 1)) 4 e = gI M 4 e := fun e e1 e2 e3 => by rw [rII, if_neg (fun w => e2 w.2), rII, if_neg (fun w => e1 w.2), oldM e e3]
            have co : ∀ x, x = q + 1 ∨ x = q + 2 ∨ x = q + 3 → gI (stS C2 q m kd v 1) x j = gI C x j := fun x hx => by
              unfold stS
              rw [rII, if_neg (by omega), rII, if_neg (by omega), rII, if_neg (by omega), rII, if_neg (by omega)]
              exact oldC x j (by omega)
            refine ⟨kd', a', c', (co _ (by omega)).trans g1, (co _ (by omega)).trans g2, (co _ (by omega)).trans g3, (mo _ (by omega) (by omega) (by omega)).trans g4, (mo _ (by omega) (by omega) (by omega)).trans g5, ?_⟩
            rw [mo _ (by omega) (by omega) (by omega)]
            exact g6
      · have k12 : kd = 1 ∨ kd = 2 := by omega
        have hi : kHi kd = if kd = 1 then 3 else 99 := by unfold kHi; rcases k12 with w | w <;> subst w <;> decide
        have lo1 : kLo kd = 1 := by unfold kLo; rcases k12 with w | w <;> subst w <;> decide
        rw [m_J190b hs (by omega) k12, ← hi]
        have fA : fr (f4s s) M2 (pI M2 4 (30 + (4 * s + m)) (J v)) := fr_pI (by unfold f4s kMt; omega)
        obtain ⟨r3, C3, M3, c1, c2, c3, c4, c5⟩ := rd_slash (rdS_4 y2 (fr_w fA (fun _ _ z => z.1)))
        have cls : ∀ X : Option (Int32 × zM), (if J kd = J 1 then X else if J kd = J 2 then X else b1 (gX9_addStep C2 q (J kd) (J v) (J 1)) fun S12 => some (J 1, S12)) = X := fun X => by
          rcases k12 with w | w
          · subst w; rw [if_pos rfl]
          · subst w; rw [if_neg (by decide), if_pos rfl]
        rw [cls, c1, b2s, c2, b1s]
        rcases c5 with ⟨w, ⟨k3, w0, w2⟩, -⟩ | ⟨w, w2⟩
        · subst w
          obtain ⟨r4, v4, C4, M4, d1, d2, d3, d4, d5⟩ := rd_number w2 (lo := kLo kd) (hi := kHi kd) ⟨lo.1, lo.2.1⟩ ⟨lo.2.2.1, lo.2.2.2⟩
          rw [lo1] at d1 d2
          rw [if_neg (by decide), lo1, d1, b2s, d2, b2s]
          have fB : fr (f4s s) M4 (pI (pI M4 4 (54 + (4 * s + m)) (J v4)) 4 s (gI (pI M4 4 (54 + (4 * s + m)) (J v4)) 4 s + J 1)) := fr_t (fr_pI (by unfold f4s kMt; omega)) (fr_pI (by unfold f4s kMt; omega))
          have FC4 : fr (fSt q) C C4 := fr_t FC (fC2_St (fr_t c3 d3))
          have FM4 : fr (fMt s) M M4 := fr_t FM (fr_t (f4s_t fA) (fM2_t (fr_t c4 d4)))
          rcases d5 with ⟨u, ⟨k4, u0, u2⟩, u3, u4, u5⟩ | ⟨u, u2⟩
          · subst u
            have c64 : gI C4 q 6 = J m := by rw [d3.1 q 6 (by unfold fC2; omega), c3.1 q 6 (by unfold fC2; omega), c6]
            rw [if_neg (by decide), u3, c_addStep c64 (by omega), b1s]
            have f6 : fr (fun q _ => 6 ≤ q) C4 (stS C4 q m kd v v4) := fr_t (fr_t (fr_t (fr_pI (by omega)) (fr_pI (by omega))) (fr_pI (by omega))) (fr_pI (by omega))
            have old4 : ∀ e, gI M4 4 e = if e = 30 + (4 * s + m) then J v else gI M2 4 e := fun e => by
              rw [d4.1 4 e (by unfold fM2; omega), c4.1 4 e (by unfold fM2; omega), rII]
              by_cases x : e = 30 + (4 * s + m)
              · rw [if_pos ⟨rfl, x⟩, if_pos x]
              · rw [if_neg (fun y => x y.2), if_neg x]
            refine ⟨1, _, _, rfl, rfl, fr_t FC4 fr_stS, fr_t FM4 (f4s_t fB), Or.inl ⟨rfl, ⟨k4, by omega, rdS_c6 (rdS_4 u2 (fr_w fB (fun _ _ z => z.1))) f6⟩, by omega, by omega, ?_, ?_, fun j hj => ?_⟩⟩
            · unfold stS
              rw [rII, if_pos ⟨rfl, rfl⟩]
            · rw [rII, if_pos ⟨rfl, rfl⟩, rII, if_neg (by omega), old4, if_neg (by omega), ms, J_add]
              rfl
            · by_cases x : j = m
              · subst x
                refine ⟨kd, v, v4, ?_, ?_, ?_, ?_, ?_, ?_⟩
                · unfold stS
                  rw [rII, if_neg (by omega), rII, if_neg (by omega), rII, if_neg (by omega), rII, if_pos ⟨rfl, rfl⟩]
                · unfold stS
                  rw [rII, if_neg (by omega), rII, if_neg (by omega), rII, if_pos ⟨rfl, rfl⟩]
                · unfold stS
                  rw [rII, if_neg (by omega), rII, if_pos ⟨rfl, rfl⟩]
                · rw [rII, if_neg (by omega), rII, if_neg (by omega), old4, if_neg (by omega), m6]
                · rw [rII, if_neg (by omega), rII, if_neg (by omega), old4, if_pos (by omega)]
                · have m54 : gI (pI (pI M4 4 (54 + (4 * s + j)) (J v4)) 4 s (gI (pI M4 4 (54 + (4 * s + j)) (J v4)) 4 s + J 1)) 4 (54 + 4 * s + j) = J v4 := by
                    rw [rII, if_neg (by omega), rII, if_pos ⟨rfl, by omega⟩]
                  rw [lo1] at y4 u4
                  rw [hi] at y5 u5
                  rcases k12 with x | x
                  · subst x
                    rw [if_pos rfl] at y5 u5
                    exact Or.inr (Or.inl ⟨rfl, ⟨y4, y5⟩, ⟨u4, u5⟩, m54⟩)
                  · subst x
                    rw [if_neg (by decide)] at y5 u5
                    exact Or.inr (Or.inr (Or.inl ⟨rfl, ⟨y4, y5⟩, ⟨u4, u5⟩, m54⟩))
              · obtain ⟨kd', a', c', g1, g2, g3, g4, g5, g6⟩ := pj j (by omega)
                have mo : ∀ e, ¬ e = 30 + (4 * s + m) → ¬ e = s → ¬ e = 6 + 4 * s + m → ¬ e = 54 + (4 * s + m) → gI (pI (pI M4 4 (54 + (4 * s + m)) (J v4)) 4 s (gI (pI M4 4 (54 + (4 * s + m)) (J v4)) 4 s + J 1)) 4 e = gI M 4 e := fun e e1 e2 e3 e4 => by rw [rII, if_neg (fun w => e2 w.2), rII, if_neg (fun w => e4 w.2), old4, if_neg e1, oldM e e3]
                have co : ∀ x, x = q + 1 ∨ x = q + 2 ∨ x = q + 3 → gI (stS C4 q m kd v v4) x j = gI C x j := fun x hx => by
                  unfold stS
                  rw [rII, if_neg (by omega), rII, if_neg (by omega), rII, if_neg (by omega), rII, if_neg (by omega), d3.1 x j (by unfold fC2; omega), c3.1 x j (by unfold fC2; omega)]
                  exact oldC x j (by omega)
                refine ⟨kd', a', c', (co _ (by omega)).trans g1, (co _ (by omega)).trans g2, (co _ (by omega)).trans g3, (mo _ (by omega) (by omega) (by omega) (by omega)).trans g4, (mo _ (by omega) (by omega) (by omega) (by omega)).trans g5, ?_⟩
                rw [mo _ (by omega) (by omega) (by omega) (by omega)]
                exact g6
          · subst u
            rw [if_pos rfl]
            exact ⟨0, _, _, rfl, rfl, FC4, fr_t FM4 (f4s_t fB), Or.inr ⟨rfl, bad_w u2 rfl rfl (fun e => fB.1 0 e (by unfold f4s; omega))⟩⟩
        · subst w
          have fB : fr (f4s s) M3 (pI (pI M3 4 (54 + (4 * s + m)) (J 1)) 4 s (gI (pI M3 4 (54 + (4 * s + m)) (J 1)) 4 s + J 1)) := fr_t (fr_pI (by unfold f4s kMt; omega)) (fr_pI (by unfold f4s kMt; omega))
          rw [if_pos rfl, b_number w2.1, b2s]
          exact ⟨0, _, _, rfl, rfl, fr_t FC (fC2_St c3), fr_t FM (fr_t (f4s_t fA) (fr_t (fM2_t c4) (f4s_t fB))), Or.inr ⟨rfl, bad_w w2 rfl rfl (fun e => fB.1 0 e (by unfold f4s; omega))⟩⟩
    · subst y
      obtain ⟨M3, z1, z2⟩ := b_J190 (j := m) (v := v) hs (by omega) hk y2.1
      rw [if_pos rfl, z1]
      exact ⟨0, _, _, rfl, rfl, FC, fr_t FM (f4s_t z2), Or.inr ⟨rfl, bad_w y2 rfl rfl (fun e => z2.1 0 e (by unfold f4s; omega))⟩⟩
end
