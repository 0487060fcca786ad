/-! stair. -/
theorem c_fillW_L {q n : Nat} {v : Int64} (hn : n ≤ 10000) : ∀ (m i : Nat) (S T : zM), i ≤ n → n < m + i → fr (fun a _ => a = q) S T → (∀ k, k < i → gL T q k = v) → ∃ T', gJ7_fill_d0a16_L6 q n v (J n) m T (J i) = some T' ∧ fr (fun a _ => a = q) S T' ∧ ∀ k, k < n → gL T' q k = v := by
  intro m
  induction m with
  | zero => intro i S T g1 g2; omega
  | succ m ih =>
    intro i S T g1 g2 fT hk
    unfold gJ7_fill_d0a16_L6
    simp only [J_0, J_1, J_2, J_3, J_4, J_5, J_6, J_7, J_8, J_9, J_10, J_11, J_12, J_14, J_15, J_16, J_19, J_20, J_21, J_22, J_23, J_24, J_25, J_28, J_30, J_31, J_32, J_40, J_44, J_47, J_48, J_49, J_50, J_53, J_54, J_57, J_59, J_74, J_75, J_78, J_84, J_97, J_99, J_100, J_120, J_122, J_126, J_132, J_138, J_144, J_150, J_156, J_162, J_198, J_200, J_202, J_206, J_210, J_214, J_218, J_222, J_226, J_230, J_234, J_238, J_239, J_240, J_241, J_242, J_243, J_255, J_263, J_283, J_303, J_399, J_400, J_401, J_463, J_700, J_701, J_999, J_1000, J_2048, J_4095, J_4096, J_6000, J_9999, J_10000, J_65536, J_65537, J_2147483647, J_neg, J_neg, J_add, J_sub, J_mul]
    rw [iLE (by omega) (by omega) (by omega) (by omega)]
    by_cases e : i = n
    · rw [if_pos (by omega)]
      exact ⟨T, rfl, fT, fun k hk' => hk k (by omega)⟩
    · rw [if_neg (by omega), ixb_J (by omega) (by omega) (by omega), ckt, ix_J (by omega) (by omega), Int.toNat_natCast, show (i : Int) + 1 = ((i + 1 : Nat) : Int) by omega]
      refine ih (i + 1) S _ (by omega) (by omega) (fr_t fT (fr_pL rfl)) (fun k hk' => ?_)
      rw [rLL]
      by_cases z : k = i
      · rw [if_pos ⟨rfl, z⟩]
      · rw [if_neg (fun w => z w.2)]
        exact hk k (by omega)
theorem c_fillW {q n : Nat} {v : Int64} {S : zM} (hn : n ≤ 10000) : ∃ T', gJ7_fill_d0a16 S q n v = some T' ∧ fr (fun a _ => a = q) S T' ∧ ∀ k, k < n → gL T' q k = v := by
  unfold gJ7_fill_d0a16
  simp only [J_0, J_1, J_2, J_3, J_4, J_5, J_6, J_7, J_8, J_9, J_10, J_11, J_12, J_14, J_15, J_16, J_19, J_20, J_21, J_22, J_23, J_24, J_25, J_28, J_30, J_31, J_32, J_40, J_44, J_47, J_48, J_49, J_50, J_53, J_54, J_57, J_59, J_74, J_75, J_78, J_84, J_97, J_99, J_100, J_120, J_122, J_126, J_132, J_138, J_144, J_150, J_156, J_162, J_198, J_200, J_202, J_206, J_210, J_214, J_218, J_222, J_226, J_230, J_234, J_238, J_239, J_240, J_241, J_242, J_243, J_255, J_263, J_283, J_303, J_399, J_400, J_401, J_463, J_700, J_701, J_999, J_1000, J_2048, J_4095, J_4096, J_6000, J_9999, J_10000, J_65536, J_65537, J_2147483647, J_neg]
  have e : Int32.ofNat n = J (n : Int) := (Int32.ofInt_eq_ofNat (n := n)).symm
  rw [e]
  exact c_fillW_L hn FU 0 S S (Nat.zero_le n) (by have := FUs (n := 10002) (by omega); omega) fr_r (fun k hk => by omega)
/-- the ways of both -/
def wR (SC SM : zM) (c m : Nat) : Prop := ∀ k : Nat, 1 ≤ k → k ≤ 400 → gL SC c k = gL SM m k
def fW (q _k : Nat) : Prop := q = 240 ∨ q = 241
def fV (q _k : Nat) : Prop := q = 28 ∨ q = 29
theorem wst {SC SM : zM} {a : Nat} {v v' : Int64} (h1 : wR SC SM 240 28) (h2 : wR SC SM 241 29) (hv : v = v') : wR (pL SC 241 a v) (pL SM 29 a v') 240 28 ∧ wR (pL SC 241 a v) (pL SM 29 a v') 241 29 := by
  refine ⟨fun k k1 k2 => ?_, fun k k1 k2 => ?_⟩
  · rw [rLL, if_neg (by omega), rLL, if_neg (by omega)]
    exact h1 k k1 k2
  · rw [rLL, rLL]
    by_cases z : k = a
    · rw [if_pos ⟨rfl, z⟩, if_pos ⟨rfl, z⟩, hv]
    · rw [if_neg (fun w => z w.2), if_neg (fun w => z w.2)]
      exact h2 k k1 k2
theorem fW_q {S S' : zM} (h : fr fW S S') : fr Eq0 S S' := fr_w h (fun q k z => by unfold fW at z; unfold Eq0; omega)
theorem fV_q {S S' : zM} (h : fr fV S S') : fr Em0 S S' := fr_w h (fun q k z => by unfold fV at z; unfold Em0; omega)
section
variable {SC SM : zM} {H p t : Nat}
theorem spread_L {s : Int} (hs : 1 ≤ s ∧ s ≤ 400) {W : Int} : ∀ (n i : Nat) (SC SM : zM), 1 ≤ i → i ≤ 401 → 402 ≤ n + i → rHall SC SM H → rTot SM t → t ≤ 512 → (p : Int) < cnt SM 1 → wR SC SM 240 28 → wR SC SM 241 29 → ∃ SC' SM', gX11_spreadWays_L23 (H + 193 + 2 * p) (J s) (J W) n SC (J i) = some (cqL SC' 241 240 401) ∧ (∀ v4 v5 v7 : Int32, gX12_stair_L172 (J p) (J s) v4 v5 (J W) v7 n SM (J i) = some SM') ∧ fr fW SC SC' ∧ fr fV SM SM' ∧ wR SC' SM' 241 29 := by
  intro n
  induction n with
  | zero => intro i SC SM g1 g2 g3; omega
  | succ n ih =>
    intro i SC SM g1 g2 g3 hh hT ht hp w1 w2
    unfold gX11_spreadWays_L23 gX12_stair_L172
    simp only [J_0, J_1, J_2, J_3, J_4, J_5, J_6, J_7, J_8, J_9, J_10, J_11, J_12, J_14, J_15, J_16, J_19, J_20, J_21, J_22, J_23, J_24, J_25, J_28, J_30, J_31, J_32, J_40, J_44, J_47, J_48, J_49, J_50, J_53, J_54, J_57, J_59, J_74, J_75, J_78, J_84, J_97, J_99, J_100, J_120, J_122, J_126, J_132, J_138, J_144, J_150, J_156, J_162, J_198, J_200, J_202, J_206, J_210, J_214, J_218, J_222, J_226, J_230, J_234, J_238, J_239, J_240, J_241, J_242, J_243, J_255, J_263, J_283, J_303, J_399, J_400, J_401, J_463, J_700, J_701, J_999, J_1000, J_2048, J_4095, J_4096, J_6000, J_9999, J_10000, J_65536, J_65537, J_2147483647, J_neg, JL_0, JL_1, JL_9, JL_10, JL_32, JL_40, JL_48, JL_64, JL_97, JL_100, JL_4095, JL_4096, JL_16384, JL_65537, JL_524287, JL_524288, JL_268435455, JL_1099511627775, JL_neg]
    rw [iLT (by decide) (by decide) (by omega) (by omega)]
    by_cases e : (400 : Int) < i
    · rw [if_pos e]
      refine ⟨SC, SM, rfl, fun _ _ _ => ?_, fr_r, fr_r, w2⟩
      rw [iLT (by decide) (by decide) (by omega) (by omega), if_pos e]
    · have x1 : ixb (J (i : Int)) 401 = true := ixb_J (by omega) (by omega) (by decide)
      have y1 : ix (J (i : Int)) = i := by rw [ix_J (by omega) (by omega)]; omega
      have ok := okP_of hh hp ht hT
      have eL := ok.2.2.1.2.2.1
      rw [gI_J SM] at eL
      have hl := ok.2.2.1.1.2.1
      rw [if_neg e, x1, ckt, y1]
      have hw := w1 i g1 (by omega)
      by_cases z : gL SM 28 i = JL 0
      · obtain ⟨SC', SM', r1, r2, r3, r4, r5⟩ := ih (i + 1) SC SM (by omega) (by omega) (by omega) hh hT ht hp w1 w2
        refine ⟨SC', SM', ?_, fun v4 v5 v7 => ?_, r3, r4, r5⟩
        · rw [hw, if_pos z, J_add, show (i : Int) + 1 = ((i + 1 : Nat) : Int) by omega]
          exact r1
        · rw [iLT (by decide) (by decide) (by omega) (by omega), if_neg e, ckt, if_pos z, J_add, show (i : Int) + 1 = ((i + 1 : Nat) : Int) by omega]
          exact r2 v4 v5 v7
      · have a1 := c_freshOnes ok (x := i) (l := iI SM 3 (126 + p)) (by omega) (by omega) (by omega)
        have a2 := m_fresh1 ok (x := (i : Int)) (by omega) (by omega)
        generalize nAb (nP SM p) (iI SM 3 (126 + p) - lvP SM p i) = r at a1 a2
        have b1' := c_stepped (x := i) (r := 1) (s := s) (by omega) hs (by decide)
        have b2' := c_stepped (x := i) (r := 0) (s := s) (by omega) hs (by decide)
        rw [if_pos rfl] at b1'
        rw [if_neg (by decide)] at b2'
        have c1 := m_held (x := (i : Int) - s) (by omega)
        have c2 := m_held (x := (i : Int) + s) (by omega)
        have d1 := hel_b ((i : Int) - s)
        have d2 := hel_b ((i : Int) + s)
        obtain ⟨A, hA⟩ : ∃ A : Nat, hel ((i : Int) - s) = A := ⟨(hel ((i : Int) - s)).toNat, by omega⟩
        obtain ⟨B, hB⟩ : ∃ B : Nat, hel ((i : Int) + s) = B := ⟨(hel ((i : Int) + s)).toNat, by omega⟩
        rw [hA] at b1' c1 d1
        rw [hB] at b2' c2 d2
        have xA : ixb (J (A : Int)) 401 = true := ixb_J (by omega) (by omega) (by decide)
        have yA : ix (J (A : Int)) = A := by rw [ix_J (by omega) (by omega)]; omega
        have xB : ixb (J (B : Int)) 401 = true := ixb_J (by omega) (by omega) (by decide)
        have yB : ix (J (B : Int)) = B := by rw [ix_J (by omega) (by omega)]; omega
        have s1 := wst (a := A) (v := gL SC 241 A + gL SC 240 i * (J r).toInt64) (v' := gL SM 29 A + gL SM 28 i * (J r).toInt64) w1 w2 (by rw [w1 i g1 (by omega), w2 A (by omega) (by omega)])
        have f1 : fr fW SC (pL SC 241 A (gL SC 241 A + gL SC 240 i * (J r).toInt64)) := fr_pL (Or.inr rfl)
        have f2 : fr fV SM (pL SM 29 A (gL SM 29 A + gL SM 28 i * (J r).toInt64)) := fr_pL (Or.inr rfl)
        obtain ⟨SC1, e1⟩ : ∃ X, X = pL SC 241 A (gL SC 241 A + gL SC 240 i * (J r).toInt64) := ⟨_, rfl⟩
        obtain ⟨SM1, e2⟩ : ∃ X, X = pL SM 29 A (gL SM 29 A + gL SM 28 i * (J r).toInt64) := ⟨_, rfl⟩
        rw [← e1, ← e2] at s1
        rw [← e1] at f1
        rw [← e2] at f2
        obtain ⟨u1, u2⟩ := s1
        have s2 := wst (a := B) (v := gL SC1 241 B + gL SC1 240 i * ((J W).toInt64 - (J r).toInt64)) (v' := gL SM1 29 B + gL SM1 28 i * ((J W).toInt64 - (J r).toInt64)) u1 u2 (by rw [u1 i g1 (by omega), u2 B (by omega) (by omega)])
        have f3 : fr fW SC (pL SC1 241 B (gL SC1 241 B + gL SC1 240 i * ((J W).toInt64 - (J r).toInt64))) := fr_t f1 (fr_pL (Or.inr rfl))
        have f4 : fr fV SM (pL SM1 29 B (gL SM1 29 B + gL SM1 28 i * ((J W).toInt64 - (J r).toInt64))) := fr_t f2 (fr_pL (Or.inr rfl))
        obtain ⟨SC', SM', r1, r2, r3, r4, r5⟩ := ih (i + 1) _ _ (by omega) (by omega) (by omega) (rHall_q hh (fW_q f3) (fV_q f4)) (rTot_q hT (fV_q f4)) ht (by rw [cnt_q (fV_q f4)]; exact hp) s2.1 s2.2
        refine ⟨SC', SM', ?_, fun v4 v5 v7 => ?_, fr_t f3 r3, fr_t f4 r4, r5⟩
        · rw [hw, if_neg z, eL, a1, b1s, b1', b1s, xA, ckt, ckt, ckt, b2', b1s, xB, ckt, ckt, ckt, lts, yA, yB, ← hw, ← e1, J_add, show (i : Int) + 1 = ((i + 1 : Nat) : Int) by omega]
          exact r1
        · rw [iLT (by decide) (by decide) (by omega) (by omega), if_neg e, ckt, if_neg z, a2, b1s, J_sub, c1, b1s, xA, ckt, ckt, ckt, J_add, c2, b1s, xB, ckt, ckt, ckt, lts, yA, yB, ← e2, J_add, show (i : Int) + 1 = ((i + 1 : Nat) : Int) by omega]
          exact r2 v4 v5 v7
theorem fr_cq {S : zM} : fr fW S (cqL S 241 240 401) := ⟨fun _ _ _ => rIc, fun q k z => by rw [rLc, if_neg (fun w => z (Or.inl w))], fun _ _ _ => rRc⟩
theorem m_zero_L {v1 v3 v4 v5 v6 v7 : Int32} : ∀ (n i : Nat) (S T : zM), 1 ≤ i → i ≤ 401 → 402 ≤ n + i → fr (fun q _ => q = 29) T S → (∀ k, 1 ≤ k → k < i → gL S 29 k = JL 0) → ∃ S', gX12_stair_L147 v1 v3 v4 v5 v6 v7 n S (J i) = some S' ∧ fr (fun q _ => q = 29) T S' ∧ ∀ k, 1 ≤ k → k ≤ 400 → gL S' 29 k = JL 0 := by
  intro n
  induction n with
  | zero => intro i S T g1 g2 g3; omega
  | succ n ih =>
    intro i S T g1 g2 g3 f hk
    unfold gX12_stair_L147
    simp only [J_0, J_1, J_2, J_3, J_4, J_5, J_6, J_7, J_8, J_9, J_10, J_11, J_12, J_14, J_15, J_16, J_19, J_20, J_21, J_22, J_23, J_24, J_25, J_28, J_30, J_31, J_32, J_40, J_44, J_47, J_48, J_49, J_50, J_53, J_54, J_57, J_59, J_74, J_75, J_78, J_84, J_97, J_99, J_100, J_120, J_122, J_126, J_132, J_138, J_144, J_150, J_156, J_162, J_198, J_200, J_202, J_206, J_210, J_214, J_218, J_222, J_226, J_230, J_234, J_238, J_239, J_240, J_241, J_242, J_243, J_255, J_263, J_283, J_303, J_399, J_400, J_401, J_463, J_700, J_701, J_999, J_1000, J_2048, J_4095, J_4096, J_6000, J_9999, J_10000, J_65536, J_65537, J_2147483647, J_neg, JL_0, JL_1, JL_9, JL_10, JL_32, JL_40, JL_48, JL_64, JL_97, JL_100, JL_4095, JL_4096, JL_16384, JL_65537, JL_524287, JL_524288, JL_268435455, JL_1099511627775, JL_neg]
    rw [iLT (by decide) (by decide) (by omega) (by omega)]
    by_cases e : (400 : Int) < i
    · rw [if_pos e]
      exact ⟨S, rfl, f, fun k k1 k2 => hk k k1 (by omega)⟩
    · rw [if_neg e, ixb_J (by omega) (by omega) (by decide), ckt, ix_J (by omega) (by omega), Int.toNat_natCast, J_add, show (i : Int) + 1 = ((i + 1 : Nat) : Int) by omega]
      refine ih (i + 1) _ T (by omega) (by omega) (by omega) (fr_t f (fr_pL rfl)) (fun k k1 k2 => ?_)
      rw [rLL]
      by_cases z : k = i
      · rw [if_pos ⟨rfl, z⟩]
      · rw [if_neg (fun w => z w.2)]
        exact hk k k1 (by omega)
theorem m_first_L {a : Nat} (ha : 1 ≤ a ∧ a ≤ 400) {v1 v3 v4 v5 v6 : Int32} : ∀ (n i : Nat) (S T : zM), 1 ≤ i → i ≤ 401 → 402 ≤ n + i → fr (fun q _ => q = 28) T S → (∀ k, 1 ≤ k → k < i → gL S 28 k = JL (if k = a then 1 else 0)) → ∃ S', gX12_stair_L102 v1 (J a) v3 v4 v5 v6 n S (J i) = some S' ∧ fr (fun q _ => q = 28) T S' ∧ ∀ k, 1 ≤ k → k ≤ 400 → gL S' 28 k = JL (if k = a then 1 else 0) := by
  intro n
  induction n with
  | zero => intro i S T g1 g2 g3; omega
  | succ n ih =>
    intro i S T g1 g2 g3 f hk
    unfold gX12_stair_L102
    simp only [J_0, J_1, J_2, J_3, J_4, J_5, J_6, J_7, J_8, J_9, J_10, J_11, J_12, J_14, J_15, J_16, J_19, J_20, J_21, J_22, J_23, J_24, J_25, J_28, J_30, J_31, J_32, J_40, J_44, J_47, J_48, J_49, J_50, J_53, J_54, J_57, J_59, J_74, J_75, J_78, J_84, J_97, J_99, J_100, J_120, J_122, J_126, J_132, J_138, J_144, J_150, J_156, J_162, J_198, J_200, J_202, J_206, J_210, J_214, J_218, J_222, J_226, J_230, J_234, J_238, J_239, J_240, J_241, J_242, J_243, J_255, J_263, J_283, J_303, J_399, J_400, J_401, J_463, J_700, J_701, J_999, J_1000, J_2048, J_4095, J_4096, J_6000, J_9999, J_10000, J_65536, J_65537, J_2147483647, J_neg, JL_0, JL_1, JL_9, JL_10, JL_32, JL_40, JL_48, JL_64, JL_97, JL_100, JL_4095, JL_4096, JL_16384, JL_65537, JL_524287, JL_524288, JL_268435455, JL_1099511627775, JL_neg]
    rw [iLT (by decide) (by decide) (by omega) (by omega)]
    by_cases e : (400 : Int) < i
    · rw [if_pos e]
      exact ⟨S, rfl, f, fun k k1 k2 => hk k k1 (by omega)⟩
    · rw [if_neg e, ixb_J (by omega) (by omega) (by decide), ckt, ckt, ix_J (by omega) (by omega), Int.toNat_natCast, J_add, show (i : Int) + 1 = ((i + 1 : Nat) : Int) by omega, iEQ (by omega) (by omega) (by omega) (by omega)]
      by_cases z0 : (i : Int) = a
      · rw [if_pos z0]
        refine ih (i + 1) _ T (by omega) (by omega) (by omega) (fr_t f (fr_pL rfl)) (fun k k1 k2 => ?_)
        rw [rLL]
        by_cases z : k = i
        · rw [if_pos ⟨rfl, z⟩, if_pos (by omega)]
        · rw [if_neg (fun w => z w.2)]
          exact hk k k1 (by omega)
      · rw [if_neg z0]
        refine ih (i + 1) _ T (by omega) (by omega) (by omega) (fr_t f (fr_pL rfl)) (fun k k1 k2 => ?_)
        rw [rLL]
        by_cases z : k = i
        · rw [if_pos ⟨rfl, z⟩, if_neg (by omega)]
        · rw [if_neg (fun w => z w.2)]
          exact hk k k1 (by omega)
theorem m_copy_L {v1 v3 v4 v5 v6 v7 : Int32} : ∀ (n i : Nat) (S T : zM), 1 ≤ i → i ≤ 401 → 402 ≤ n + i → fr (fun q _ => q = 28) T S → (∀ k, 1 ≤ k → k < i → gL S 28 k = gL T 29 k) → ∃ S', gX12_stair_L271 v1 v3 v4 v5 v6 v7 n S (J i) = some S' ∧ fr (fun q _ => q = 28) T S' ∧ ∀ k, 1 ≤ k → k ≤ 400 → gL S' 28 k = gL T 29 k := by
  intro n
  induction n with
  | zero => intro i S T g1 g2 g3; omega
  | succ n ih =>
    intro i S T g1 g2 g3 f hk
    unfold gX12_stair_L271
    simp only [J_0, J_1, J_2, J_3, J_4, J_5, J_6, J_7, J_8, J_9, J_10, J_11, J_12, J_14, J_15, J_16, J_19, J_20, J_21, J_22, J_23, J_24, J_25, J_28, J_30, J_31, J_32, J_40, J_44, J_47, J_48, J_49, J_50, J_53, J_54, J_57, J_59, J_74, J_75, J_78, J_84, J_97, J_99, J_100, J_120, J_122, J_126, J_132, J_138, J_144, J_150, J_156, J_162, J_198, J_200, J_202, J_206, J_210, J_214, J_218, J_222, J_226, J_230, J_234, J_238, J_239, J_240, J_241, J_242, J_243, J_255, J_263, J_283, J_303, J_399, J_400, J_401, J_463, J_700, J_701, J_999, J_1000, J_2048, J_4095, J_4096, J_6000, J_9999, J_10000, J_65536, J_65537, J_2147483647, J_neg]
    rw [iLT (by decide) (by decide) (by omega) (by omega)]
    by_cases e : (400 : Int) < i
    · rw [if_pos e]
      exact ⟨S, rfl, f, fun k k1 k2 => hk k k1 (by omega)⟩
    · rw [if_neg e, ixb_J (by omega) (by omega) (by decide), ckt, ckt, ix_J (by omega) (by omega), Int.toNat_natCast, J_add, show (i : Int) + 1 = ((i + 1 : Nat) : Int) by omega]
      refine ih (i + 1) _ T (by omega) (by omega) (by omega) (fr_t f (fr_pL rfl)) (fun k k1 k2 => ?_)
      rw [rLL]
      by_cases z : k = i
      · rw [if_pos ⟨rfl, z⟩, z]
        exact f.2.1 29 i (by omega)
      · rw [if_neg (fun w => z w.2)]
        exact hk k k1 (by omega)
/-- one step of a stair, by both -/
theorem spread_eq {s : Int} (hs : 1 ≤ s ∧ s ≤ 400) (hh : rHall SC SM H) (hT : rTot SM t) (ht : t ≤ 512) (hp : (p : Int) < cnt SM 1) (w1 : wR SC SM 240 28) {W : Int} (hW : W = nAll (nP SM p)) (v4 v5 v7 : Int32) : ∃ SC' SM1 SM2 SM', gX11_spreadWays SC (H + 193 + 2 * p) (J s) = some SC' ∧ gX12_stair_L147 (J p) (J s) v4 v5 (J W) v7 FU SM (J 1) = some SM1 ∧ gX12_stair_L172 (J p) (J s) v4 v5 (J W) v7 FU SM1 (J 1) = some SM2 ∧ gX12_stair_L271 (J p) (J s) v4 v5 (J W) v7 FU SM2 (J 1) = some SM' ∧ fr fW SC SC' ∧ fr fV SM SM' ∧ wR SC' SM' 240 28 := by
  have ok := okP_of hh hp ht hT
  obtain ⟨q1, q2, q3⟩ := c_fresh (okS ok)
  obtain ⟨T, t1, t2, t3⟩ := c_fillW (q := 241) (n := 401) (v := JL 0) (S := SC) (by decide)
  have ft : fr fW SC T := fr_w t2 (fun q k z => Or.inr z)
  have hf := FUs (n := 500) (by omega)
  obtain ⟨SM1, m1, m2, m3⟩ := m_zero_L (v1 := J p) (v3 := J s) (v4 := v4) (v5 := v5) (v6 := J W) (v7 := v7) FU 1 SM SM (by omega) (by omega) (by omega) fr_r (fun k k1 k2 => by omega)
  have fm : fr fV SM SM1 := fr_w m2 (fun q k z => Or.inr z)
  have u1 : wR T SM1 240 28 := fun k k1 k2 => by rw [t2.2.1 240 k (by omega), m2.2.1 28 k (by omega)]; exact w1 k k1 k2
  have u2 : wR T SM1 241 29 := fun k k1 k2 => by rw [t3 k (by omega), m3 k k1 k2]
  obtain ⟨SC2, SM2, r1, r2, r3, r4, r5⟩ := spread_L hs (W := W) FU 1 T SM1 (by omega) (by omega) (by omega) (rHall_q hh (fW_q ft) (fV_q fm)) (rTot_q hT (fV_q fm)) ht (by rw [cnt_q (fV_q fm)]; exact hp) u1 u2
  obtain ⟨SM3, n1, n2, n3⟩ := m_copy_L (v1 := J p) (v3 := J s) (v4 := v4) (v5 := v5) (v6 := J W) (v7 := v7) FU 1 SM2 SM2 (by omega) (by omega) (by omega) fr_r (fun k k1 k2 => by omega)
  refine ⟨cqL SC2 241 240 401, SM1, SM2, SM3, ?_, m1, r2 v4 v5 v7, n1, fr_t (fr_t ft r3) fr_cq, fr_t (fr_t fm r4) (fr_w n2 (fun q k z => Or.inl z)), fun k k1 k2 => ?_⟩
  · have gw : gI SC (H + 7 + 31 * mS SM p + 7 + 4 * (fK SM (mS SM p) - 1)) 3 = J W := by rw [hW]; exact q2.1
    unfold gX11_spreadWays
    simp only [J_0, J_1, J_2, J_3, J_4, J_5, J_6, J_7, J_8, J_9, J_10, J_11, J_12, J_14, J_15, J_16, J_19, J_20, J_21, J_22, J_23, J_24, J_25, J_28, J_30, J_31, J_32, J_40, J_44, J_47, J_48, J_49, J_50, J_53, J_54, J_57, J_59, J_74, J_75, J_78, J_84, J_97, J_99, J_100, J_120, J_122, J_126, J_132, J_138, J_144, J_150, J_156, J_162, J_198, J_200, J_202, J_206, J_210, J_214, J_218, J_222, J_226, J_230, J_234, J_238, J_239, J_240, J_241, J_242, J_243, J_255, J_263, J_283, J_303, J_399, J_400, J_401, J_463, J_700, J_701, J_999, J_1000, J_2048, J_4095, J_4096, J_6000, J_9999, J_10000, J_65536, J_65537, J_2147483647, J_neg, JL_0, JL_1, JL_9, JL_10, JL_32, JL_40, JL_48, JL_64, JL_97, JL_100, JL_4095, JL_4096, JL_16384, JL_65537, JL_524287, JL_524288, JL_268435455, JL_1099511627775, JL_neg]
    rw [c_senseP ok, b1s, q1, b1s, t1, b1s, gw]
    exact r1
  · rw [rLc, if_pos rfl, if_pos (by omega), n3 k k1 k2]
    exact r5 k k1 k2
theorem stair_L {s m x : Int} (hs : 1 ≤ s ∧ s ≤ 400) (hm : 1 ≤ m ∧ m ≤ 9) (hx : 1 ≤ x ∧ x ≤ 400) {W : Int} (hp6 : p < 6) : ∀ (n i : Nat) (SC SM : zM), (i : Int) ≤ m → 10 ≤ n + i → rHall SC SM H → rTot SM t → t ≤ 512 → (p : Int) < cnt SM 1 → wR SC SM 240 28 → W = nAll (nP SM p) → ∃ (r : Int64) (SC' SM' : zM), gX11_stair_L101 (J p) (J s) (J m) (J x) n SC (J i) = some (r, SC') ∧ gX12_stair_L137 (J p) (J s) (J m) (J x) (J W) n SM (J i) = some (r, SM') ∧ fr fW SC SC' ∧ fr fV SM SM' := by
  have x1 : ixb (J (p : Int)) 6 = true := ixb_J (by omega) (by omega) (by decide)
  have y1 : ix (J (p : Int)) = p := by rw [ix_J (by omega) (by omega)]; omega
  obtain ⟨X, rfl⟩ : ∃ X : Nat, x = X := ⟨x.toNat, by omega⟩
  have xX : ixb (J (X : Int)) 401 = true := ixb_J (by omega) (by omega) (by decide)
  have yX : ix (J (X : Int)) = X := by rw [ix_J (by omega) (by omega)]; omega
  intro n
  induction n with
  | zero => intro i SC SM g1 g2; omega
  | succ n ih =>
    intro i SC SM g1 g2 hh hT ht hp w1 hW
    have hH := hh.1.1
    unfold gX11_stair_L101 gX12_stair_L137
    simp only [J_0, J_1, J_2, J_3, J_4, J_5, J_6, J_7, J_8, J_9, J_10, J_11, J_12, J_14, J_15, J_16, J_19, J_20, J_21, J_22, J_23, J_24, J_25, J_28, J_30, J_31, J_32, J_40, J_44, J_47, J_48, J_49, J_50, J_53, J_54, J_57, J_59, J_74, J_75, J_78, J_84, J_97, J_99, J_100, J_120, J_122, J_126, J_132, J_138, J_144, J_150, J_156, J_162, J_198, J_200, J_202, J_206, J_210, J_214, J_218, J_222, J_226, J_230, J_234, J_238, J_239, J_240, J_241, J_242, J_243, J_255, J_263, J_283, J_303, J_399, J_400, J_401, J_463, J_700, J_701, J_999, J_1000, J_2048, J_4095, J_4096, J_6000, J_9999, J_10000, J_65536, J_65537, J_2147483647, J_neg]
    rw [iLE (by omega) (by omega) (by omega) (by omega), iLE (by omega) (by omega) (by omega) (by omega), xX, ckt, ckt, yX]
    by_cases e : m ≤ i
    · rw [if_pos e, if_pos e]
      refine ⟨_, SC, SM, rfl, ?_, fr_r, fr_r⟩
      rw [w1 X (by omega) (by omega)]
    · obtain ⟨SC', SM1, SM2, SM', r1, r2, r3, r4, r5, r6, r7⟩ := spread_eq hs hh hT ht hp w1 hW (J m) (J X) (J i)
      have hW' : W = nAll (nP SM' p) := by
        have e3 : ∀ k, gI SM' 3 k = gI SM 3 k := fun k => r6.1 3 k (by unfold fV; omega)
        have ei : ∀ k, iI SM' 3 k = iI SM 3 k := fun k => congrArg Int32.toInt (e3 k)
        have es : mS SM' p = mS SM p := by unfold mS; rw [ei]
        have ek : fK SM' (mS SM p) = fK SM (mS SM p) := by unfold fK; rw [ei]
        rw [hW]
        unfold nP
        rw [es, ek, mN_c e3]
      obtain ⟨r, SC'', SM'', q1, q2, q3, q4⟩ := ih (i + 1) SC' SM' (by omega) (by omega) (rHall_q hh (fW_q r5) (fV_q r6)) (rTot_q hT (fV_q r6)) ht (by rw [cnt_q (fV_q r6)]; exact hp) r7 hW'
      rw [if_neg e, if_neg e, hh.1.2.1, zb3 hH, ckt, x1, ckt, y1, r1, b1s, r2, b1s, r3, b1s, r4, b1s, J_add, show (i : Int) + 1 = ((i + 1 : Nat) : Int) by omega]
      exact ⟨r, SC'', SM'', q1, q2, fr_t r5 q3, fr_t r6 q4⟩
end
