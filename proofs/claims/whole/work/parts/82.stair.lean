/-! stair. -/
theorem c_fillW_L {q n : Nat} {v : Int64} (hn : n ≤ 10000) : ∀ (m i : Nat) (S T : zM), i ≤ n → n < m + i → fr (fun a _ => a = q) S T → (∀ k, k < i → gL T q k = v) → ∃ T', gJ7_fill_d0a16_L6 q n v (J n) m T (J i) = some T' ∧ fr (fun a _ => a = q) S T' ∧ ∀ k, k < n → gL T' q k = v := by
  intro m
  induction m with
  | zero => intro i S T g1 g2; omega
  | succ m ih =>
    intro i S T g1 g2 fT hk
    unfold gJ7_fill_d0a16_L6
    simp only [J_0, J_1, J_2, J_3, J_4, J_5, J_6, J_7, J_8, J_9, J_10, J_11, J_12, J_14, J_15, J_16, J_19, J_20, J_21, J_22, J_23, J_24, J_25, J_28, J_30, J_31, J_32, J_40, J_44, J_47, J_48, J_49, J_50, J_53, J_54, J_57, J_59, J_74, J_75, J_78, J_84, J_97, J_99, J_100, J_120, J_122, J_126, J_132, J_138, J_144, J_150, J_156, J_162, J_198, J_200, J_202, J_206, J_210, J_214, J_218, J_222, J_226, J_230, J_234, J_238, J_239, J_240, J_241, J_242, J_243, J_255, J_263, J_283, J_303, J_399, J_400, J_401, J_463, J_700, J_701, J_999, J_1000, J_2048, J_4095, J_4096, J_6000, J_9999, J_10000, J_65536, J_65537, J_2147483647, J_neg, J_neg, J_add, J_sub, J_mul]
    rw [iLE (by omega) (by omega) (by omega) (by omega)]
    by_cases e : i = n
    · rw [if_pos (by omega)]
      exact ⟨T, rfl, fT, fun k hk' => hk k (by omega)⟩
    · rw [if_neg (by omega), ixb_J (by omega) (by omega) (by omega), ckt, ix_J (by omega) (by omega), Int.toNat_natCast, show (i : Int) + 1 = ((i + 1 : Nat) : Int) by omega]
      refine ih (i + 1) S _ (by omega) (by omega) (fr_t fT (fr_pL rfl)) (fun k hk' => ?_)
      rw [rLL]
      by_cases z : k = i
      · rw [if_pos ⟨rfl, z⟩]
      · rw [if_neg (fun w => z w.2)]
        exact hk k (by omega)
theorem c_fillW {q n : Nat} {v : Int64} {S : zM} (hn : n ≤ 10000) : ∃ T', gJ7_fill_d0a16 S q n v = some T' ∧ fr (fun a _ => a = q) S T' ∧ ∀ k, k < n → gL T' q k = v := by
  unfold gJ7_fill_d0a16
  simp only [J_0, J_1, J_2, J_3, J_4, J_5, J_6, J_7, J_8, J_9, J_10, J_11, J_12, J_14, J_15, J_16, J_19, J_20, J_21, J_22, J_23, J_24, J_25, J_28, J_30, J_31, J_32, J_40, J_44, J_47, J_48, J_49, J_50, J_53, J_54, J_57, J_59, J_74, J_75, J_78, J_84, J_97, J_99, J_100, J_120, J_122, J_126, J_132, J_138, J_144, J_150, J_156, J_162, J_198, J_200, J_202, J_206, J_210, J_214, J_218, J_222, J_226, J_230, J_234, J_238, J_239, J_240, J_241, J_242, J_243, J_255, J_263, J_283, J_303, J_399, J_400, J_401, J_463, J_700, J_701, J_999, J_1000, J_2048, J_4095, J_4096, J_6000, J_9999, J_10000, J_65536, J_65537, J_2147483647, J_neg]
  have e : Int32.ofNat n = J (n : Int) := (Int32.ofInt_eq_ofNat (n := n)).symm
  rw [e]
  exact c_fillW_L hn FU 0 S S (Nat.zero_le n) (by have := FUs (n := 10002) (by omega); omega) fr_r (fun k hk => by omega)
/-- the ways of both -/
def wR (SC SM : zM) (c m : Nat) : Prop := ∀ k : Nat, 1 ≤ k → k ≤ 400 → gL SC c k = gL SM m k
def fW (q _k : Nat) : Prop := q = 240 ∨ q = 241
def fV (q _k : Nat) : Prop := q = 28 ∨ q = 29
theorem wst {SC SM : zM} {a : Nat} {v v' : Int64} (h1 : wR SC SM 240 28) (h2 : wR SC SM 241 29) (hv : v = v') : wR (pL SC 241 a v) (pL SM 29 a v') 240 28 ∧ wR (pL SC 241 a v) (pL SM 29 a v') 241 29 := by
  refine ⟨fun k k1 k2 => ?_, fun k k1 k2 => ?_⟩
  · rw [rLL, if_neg (by omega), rLL, if_neg (by omega)]
    exact h1 k k1 k2
  · rw [rLL, rLL]
    by_cases z : k = a
    · rw [if_pos ⟨rfl, z⟩, if_pos ⟨rfl, z⟩, hv]
    · rw [if_neg (fun w => z w.2), if_neg (fun w => z w.2)]
      exact h2 k k1 k2
theorem fW_q {S S' : zM} (h : fr fW S S') : fr Eq0 S S' := fr_w h (fun q k z => by unfold fW at z; unfold Eq0; omega)
theorem fV_q {S S' : zM} (h : fr fV S S') : fr Em0 S S' := fr_w h (fun q k z => by unfold fV at z; unfold Em0; omega)
section
variable {SC SM : zM} {H p t : Nat}
theorem spread_L {s : Int} (hs : 1 ≤ s ∧ s ≤ 400) {W : Int} : ∀ (n i : Nat) (SC SM : zM), 1 ≤ i → i ≤ 401 → 402 ≤ n + i → rHall SC SM H → rTot SM t → t ≤ 512 → (p : Int) < cnt SM 1 → wR SC SM 240 28 → wR SC SM 241 29 → ∃ SC' SM', gX11_spreadWays_L23 (H + 193 + 2 * p) (J s) (J W) n SC (J i) = some (cqL SC' 241 240 401) ∧ (∀ v4 v5 v7 : Int32, gX12_stair_L172 (J p) (J s) v4 v5 (J W) v7 n SM (J i) = some SM') ∧ fr fW SC SC' ∧ fr fV SM SM' ∧ wR SC' SM' 241 29 := by
  intro n
  induction n with
  | zero => intro i SC SM g1 g2 g3; omega
  | succ n ih =>
    intro i SC SM g1 g2 g3 hh hT ht hp w1 w2
    unfold gX11_spreadWays_L23 gX12_stair_L172
    simp only [J_0, J_1, J_2, J_3, J_4, J_5, J_6, J_7, J_8, J_9, J_10, J_11, J_12, J_14, J_15, J_16, J_19, J_20, J_21, J_22, J_23, J_24, J_25, J_28, J_30, J_31, J_32, J_40, J_44, J_47, J_48, J_49, J_50, J_53, J_54, J_57, J_59, J_74, J_75, J_78, J_84, J_97, J_99, J_100, J_120, J_122, J_126, J_132, J_138, J_144, J_150, J_156, J_162, J_198, J_200, J_202, J_206, J_210, J_214, J_218, J_222, J_226, J_230, J_234, J_238, J_239, J_240, J_241, J_242, J_243, J_255, J_263, J_283, J_303, J_399, J_400, J_401, J_463, J_700, J_701, J_999, J_1000, J_2048, J_4095, J_4096, J_6000, J_9999, J_10000, J_65536, J_65537, J_2147483647, J_neg, JL_0, JL_1, JL_9, JL_10, JL_32, JL_40, JL_48, JL_64, JL_97, JL_100, JL_4095, JL_4096, JL_16384, JL_65537, JL_524287, JL_524288, JL_268435455, JL_1099511627775, JL_neg]
    rw [iLT (by decide) (by decide) (by omega) (by omega)]
    by_cases e : (400 : Int) < i
    · rw [if_pos e]
      refine ⟨SC, SM, rfl, fun _ _ _ => ?_, fr_r, fr_r, w2⟩
      rw [iLT (by decide) (by decide) (by omega) (by omega), if_pos e]
    · have x1 : ixb (J (i : Int)) 401 = true := ixb_J (by omega) (by omega) (by decide)
      have y1 : ix (J (i : Int)) = i := by rw [ix_J (by omega) (by omega)]; omega
      have ok := okP_of hh hp ht hT
      have eL := ok.2.2.1.2.2.1
      rw [gI_J SM] at eL
      have hl := ok.2.2.1.1.2.1
      rw [if_neg e, x1, ckt, y1]
      have hw := w1 i g1 (by omega)
      by_cases z : gL SM 28 i = JL 0
      · obtain ⟨SC', SM', r1, r2, r3, r4, r5⟩ := ih (i + 1) SC SM (by omega) (by omega) (by omega) hh hT ht hp w1 w2
        refine ⟨SC', SM', ?_, fun v4 v5 v7 => ?_, r3, r4, r5⟩
        · rw [hw, if_pos z, J_add, show (i : Int) + 1 = ((i + 1 : Nat) : Int) by omega]
          exact r1
        · rw [iLT (by decide) (by decide) (by omega) (by omega), if_neg e, ckt, if_pos z, J_add, show (i : Int) + 1 = ((i + 1 : Nat) : Int) by omega]
          exact r2 v4 v5 v7
      · have a1 := c_freshOnes ok (x := i) (l := iI SM 3 (126 + p)) (by omega) (by omega) (by omega)
        have a2 := m_fresh1 ok (x := (i : Int)) (by omega) (by omega)
        generalize nAb (nP SM p) (iI SM 3 (126 + p) - lvP SM p i) = r at a1 a2
        have b1' := c_stepped (x := i) (r := 1) (s := s) (by omega) hs (by decide)
        have b2' := c_stepped (x := i) (r := 0) (s := s) (by omega) hs (by decide)
        rw [if_pos rfl] at b1'
        rw [if_neg (by decide)] at b2'
        have c1 := m_held (x := (i : Int) - s) (by omega)
        have c2 := m_held (x := (i : Int) + s) (by omega)
        have d1 := hel_b ((i : Int) - s)
        have d2 := hel_b ((i : Int) + s)
        obtain ⟨A, hA⟩ : ∃ A : Nat, hel ((i : Int) - s) = A := ⟨(hel ((i : Int) - s)).toNat, by omega⟩
        obtain ⟨B, hB⟩ : ∃ B : Nat, hel ((i : Int) + s) = B := ⟨(hel ((i : Int) + s)).toNat, by omega⟩
        rw [hA] at b1' c1 d1
        rw [hB] at b2' c2 d2
        have xA : ixb (J (A : Int)) 401 = true := ixb_J (by omega) (by omega) (by decide)
        have yA : ix (J (A : Int)) = A := by rw [ix_J (by omega) (by omega)]; omega
        have xB : ixb (J (B : Int)) 401 = true := ixb_J (by omega) (by omega) (by decide)
        have yB : ix (J (B : Int)) = B := by rw [ix_J (by omega) (by omega)]; omega
        have s1 := wst (a := A) (v := gL SC 241 A + gL SC 240 i * (J r).toInt64) (v' := gL SM 29 A + gL SM 28 i * (J r).toInt64) w1 w2 (by rw [w1 i g1 (by omega), w2 A (by omega) (by omega)])
        have f1 : fr fW SC (pL SC 241 A (gL SC 241 A + gL SC 240 i * (J r).toInt64)) := fr_pL (Or.inr rfl)
        have f2 : fr fV SM (pL SM 29 A (gL SM 29 A + gL SM 28 i * (J r).toInt64)) := fr_pL (Or.inr rfl)
        obtain ⟨SC1, e1⟩ : ∃ X, X = pL SC 241 A (gL SC 241 A + gL SC 240 i * (J r).toInt64) := ⟨_, rfl⟩
        obtain ⟨SM1, e2⟩ : ∃ X, X = pL SM 29 A (gL SM 29 A + gL SM 28 i * (J r).toInt64) := ⟨_, rfl⟩
        rw [← e1, ← e2] at s1
        rw [← e1] at f1
        rw [← e2] at f2
        obtain ⟨u1, u2⟩ := s1
        have s2 := wst (a := B) (v := gL SC1 241 B + gL SC1 240 i * ((J W).toInt64 - (J r).toInt64)) (v' := gL SM1 29 B + gL SM1 28 i * ((J W).toInt64 - (J r).toInt64)) u1 u2 (by rw [u1 i g1 (by omega), u2 B (by omega) (by omega)])
        have f3 : fr fW SC (pL SC1 241 B (gL SC1 241 B + gL SC1 240 i * ((J W).toInt64 - (J r).toInt64))) := fr_t f1 (fr_pL (Or.inr rfl))
        have f4 : fr fV SM (pL SM1 29 B (gL SM1 29 B + gL SM1 28 i * ((J W).toInt64 - (J r).toInt64))) := fr_t f2 (fr_pL (Or.inr rfl))
        obtain ⟨SC', SM', r1, r2, r3, r4, r5⟩ := ih (i + 1) _ _ (by omega) (by omega) (by omega) (rHall_q hh (fW_q f3) (fV_q f4)) (rTot_q hT (fV_q f4)) ht (by rw [cnt_q (fV_q f4)]; exact hp) s2.1 s2.2
        refine ⟨SC', SM', ?_, fun v4 v5 v7 => ?_, fr_t f3 r3, fr_t f4 r4, r5⟩
        · rw [hw, if_neg z, eL, a1, b1s, b1', b1s, xA, ckt, ckt, ckt, b2', b1s, xB, ckt, ckt, ckt, lts, yA, yB, ← hw, ← e1, J_add, show (i : Int) + 1 = ((i + 1 : Nat) : Int) by omega]
          exact r1
        · rw [iLT (by decide) (by decide) (by omega) (by omega), if_neg e, ckt, if_neg z, a2, b1s, J_sub, c1, b1s, xA, ckt, ckt, ckt, J_add, c2, b1s, xB, ckt, ckt, ckt, lts, yA, yB, ← e2, J_add, show (i : Int) + 1 = ((i + 1 : Nat) : Int) by omega]
          exact r2 v4 v5 v7
end
