/-! Pairs, by both. -/
def orN (x : Int) : Nat := if x ≤ 0 then (if 0 ≤ x then 2 else 0) else 1
theorem m_ordered {x : Int} (h : -1000000 ≤ x ∧ x ≤ 1000000) : gX12_ordered (J x) = some (J (orN x)) ∧ orN x < 3 := by
  unfold gX12_ordered orN
  simp (disch := omega) only [J_0, J_1, J_2, J_3, J_4, J_5, J_6, J_7, J_8, J_9, J_10, J_11, J_12, J_14, J_15, J_16, J_19, J_20, J_21, J_22, J_23, J_24, J_25, J_28, J_30, J_31, J_32, J_40, J_44, J_47, J_48, J_49, J_50, J_53, J_54, J_57, J_59, J_74, J_75, J_78, J_84, J_97, J_99, J_100, J_120, J_122, J_126, J_132, J_138, J_144, J_150, J_156, J_162, J_198, J_200, J_202, J_206, J_210, J_214, J_218, J_222, J_226, J_230, J_234, J_238, J_239, J_240, J_241, J_242, J_243, J_255, J_263, J_283, J_303, J_399, J_400, J_401, J_463, J_700, J_701, J_999, J_1000, J_2048, J_4095, J_4096, J_6000, J_9999, J_10000, J_65536, J_65537, J_2147483647, J_neg, J_lt, J_le, J_inj]
  by_cases z : x ≤ 0
  · by_cases y : 0 ≤ x
    · simp only [if_pos z, if_pos y]; exact ⟨rfl, by decide⟩
    · simp only [if_pos z, if_neg y]; exact ⟨rfl, by decide⟩
  · simp only [if_neg z]; exact ⟨rfl, by decide⟩
theorem m_zero25_L {v1 v2 v3 v4 : Int32} : ∀ (n i : Nat) (S T : zM), i ≤ 3 → 4 ≤ n + i → fr (fun q _ => q = 25) T S → (∀ k, k < i → gI S 25 k = J 0) → ∃ S', gX12_pairs_L3 v1 v2 v3 v4 n S (J i) = some S' ∧ fr (fun q _ => q = 25) T S' ∧ ∀ k, k < 3 → gI S' 25 k = J 0 := by
  intro n
  induction n with
  | zero => intro i S T g1 g2; omega
  | succ n ih =>
    intro i S T g1 g2 f hk
    unfold gX12_pairs_L3
    simp only [J_0, J_1, J_2, J_3, J_4, J_5, J_6, J_7, J_8, J_9, J_10, J_11, J_12, J_14, J_15, J_16, J_19, J_20, J_21, J_22, J_23, J_24, J_25, J_28, J_30, J_31, J_32, J_40, J_44, J_47, J_48, J_49, J_50, J_53, J_54, J_57, J_59, J_74, J_75, J_78, J_84, J_97, J_99, J_100, J_120, J_122, J_126, J_132, J_138, J_144, J_150, J_156, J_162, J_198, J_200, J_202, J_206, J_210, J_214, J_218, J_222, J_226, J_230, J_234, J_238, J_239, J_240, J_241, J_242, J_243, J_255, J_263, J_283, J_303, J_399, J_400, J_401, J_463, J_700, J_701, J_999, J_1000, J_2048, J_4095, J_4096, J_6000, J_9999, J_10000, J_65536, J_65537, J_2147483647, J_neg]
    rw [iLE (by decide) (by decide) (by omega) (by omega)]
    by_cases e : (3 : Int) ≤ i
    · rw [if_pos e]
      exact ⟨S, rfl, f, fun k k1 => hk k (by omega)⟩
    · rw [if_neg e, ixb_J (by omega) (by omega) (by decide), ckt, ix_J (by omega) (by omega), Int.toNat_natCast, J_add, show (i : Int) + 1 = ((i + 1 : Nat) : Int) by omega]
      refine ih (i + 1) _ T (by omega) (by omega) (fr_t f (fr_pI rfl)) (fun k k1 => ?_)
      rw [rII]
      by_cases z : k = i
      · rw [if_pos ⟨rfl, z⟩]
      · rw [if_neg (fun w => z w.2)]
        exact hk k (by omega)
section
variable {SM : zM} {s : Nat}
/-- one pair of noises, at a lead -/
def pF (o : Nat → Int) (lead : Int) (k i j : Nat) : Int := if orN (lead + ((j : Int) - i)) = k then o i * o j else 0
theorem mSense_25 {S S' : zM} (h : mSense S s) (f : fr (fun q _ => q = 25) S S') : mSense S' s ∧ fK S' s = fK S s ∧ nS S' s = nS S s ∧ ∀ x, lvS S' s x = lvS S s x := by
  have e3 : ∀ k, gI S' 3 k = gI S 3 k := fun k => f.1 3 k (by omega)
  have e5 : ∀ k, gI S' 5 k = gI S 5 k := fun k => f.1 5 k (by omega)
  have ek : fK S' s = fK S s := by unfold fK iI; rw [e3]
  refine ⟨mSense_c h e3 e5, ek, ?_, fun x => ?_⟩
  · unfold nS
    rw [ek, mN_c e3]
  · unfold lvS iI
    rw [e5]
theorem m_pair_L (hs : s < 6) {x y d : Int} (hdd : -1000 ≤ d ∧ d ≤ 1000) (hx : 0 ≤ x ∧ x ≤ 400) (hy : 0 ≤ y ∧ y ≤ 400) {i : Nat} (hi : i < 11) : ∀ (n j : Nat) (S T : zM) (acc : Nat → Int), mSense S s → j ≤ 11 → 12 ≤ n + j → fr (fun q _ => q = 25) T S → (∀ k, k < 3 → gI S 25 k = J (acc k)) → ∃ S', gX12_pairs_L37 (J s) (J x) (J y) (J d) (J ((i : Int) - 5)) n S (J ((j : Int) - 5)) = some S' ∧ fr (fun q _ => q = 25) T S' ∧ fr (fun q _ => q = 25) S S' ∧ ∀ k, k < 3 → gI S' 25 k = J (acc k + (sm 11 (pF (nS S s) (lvS S s y + d - lvS S s x) k i) - sm j (pF (nS S s) (lvS S s y + d - lvS S s x) k i))) := by
  intro n
  induction n with
  | zero => intro j S T acc h g1 g2; omega
  | succ n ih =>
    intro j S T acc h g1 g2 f hk
    have hb := lvS_b h hx.1 hx.2
    have hb' := lvS_b h hy.1 hy.2
    have hk6 := fK_b h
    unfold gX12_pairs_L37
    simp only [J_0, J_1, J_2, J_3, J_4, J_5, J_6, J_7, J_8, J_9, J_10, J_11, J_12, J_14, J_15, J_16, J_19, J_20, J_21, J_22, J_23, J_24, J_25, J_28, J_30, J_31, J_32, J_40, J_44, J_47, J_48, J_49, J_50, J_53, J_54, J_57, J_59, J_74, J_75, J_78, J_84, J_97, J_99, J_100, J_120, J_122, J_126, J_132, J_138, J_144, J_150, J_156, J_162, J_198, J_200, J_202, J_206, J_210, J_214, J_218, J_222, J_226, J_230, J_234, J_238, J_239, J_240, J_241, J_242, J_243, J_255, J_263, J_283, J_303, J_399, J_400, J_401, J_463, J_700, J_701, J_999, J_1000, J_2048, J_4095, J_4096, J_6000, J_9999, J_10000, J_65536, J_65537, J_2147483647, J_neg]
    rw [iLT (by decide) (by decide) (by omega) (by omega)]
    by_cases e : j = 11
    · subst e
      rw [if_pos (by omega)]
      refine ⟨S, rfl, f, fr_r, fun k k1 => ?_⟩
      rw [hk k k1]
      congr 1
      omega
    · have q1 := m_levelOf (S := S) hs hx.1 hx.2
      rw [show iI S 5 (401 * s + x.toNat) = lvS S s x from rfl] at q1
      have q2 := m_levelOf (S := S) hs hy.1 hy.2
      rw [show iI S 5 (401 * s + y.toNat) = lvS S s y from rfl] at q2
      have o1 := m_oftenI (S := S) (i := i) hs hk6.2.1 hi
      rw [show mN S s (fK S s) i = nS S s i from rfl] at o1
      have o2 := m_oftenI (S := S) (i := j) hs hk6.2.1 (by omega)
      rw [show mN S s (fK S s) j = nS S s j from rfl] at o2
      obtain ⟨r1, r2⟩ := m_ordered (x := lvS S s y + ((j : Int) - 5) + d - lvS S s x - ((i : Int) - 5)) (by omega)
      rw [if_neg (show ¬ 5 < (j : Int) - 5 by omega)]
      simp only [q1, q2, ckt, b1s, b2s, lts, un2s, un3s, un4s, un5s, lmr, lml, lgr, lgl, J_neg, J_add, J_sub, J_mul, r1, m_fullOf h hs, o1, o2]
      have hd : lvS S s y + ((j : Int) - 5) + d - lvS S s x - ((i : Int) - 5) = lvS S s y + d - lvS S s x + ((j : Int) - i) := by omega
      rw [hd] at r2 ⊢
      generalize hw : orN (lvS S s y + d - lvS S s x + ((j : Int) - i)) = w at r2 ⊢
      rw [ixb_J (by omega) (by omega) (by decide), ckt, ckt, ix_J (by omega) (by omega), Int.toNat_natCast, hk w r2, J_add, show (j : Int) - 5 + 1 = ((j + 1 : Nat) : Int) - 5 by omega]
      have f' : fr (fun q _ => q = 25) S (pI S 25 w (J (acc w + nS S s i * nS S s j))) := fr_pI rfl
      obtain ⟨h', e1, e2, e3⟩ := mSense_25 h f'
      obtain ⟨S', z1, z2, z3, z4⟩ := ih (j + 1) _ T (fun k => acc k + pF (nS S s) (lvS S s y + d - lvS S s x) k i j) h' (by omega) (by omega) (fr_t f f') (fun k k1 => by
        rw [rII]
        unfold pF
        rw [hw]
        by_cases z : k = w
        · rw [if_pos ⟨rfl, z⟩, if_pos z.symm, z]
        · rw [if_neg (fun u => z u.2), if_neg (fun u => z u.symm), hk k k1]
          congr 1
          omega)
      refine ⟨S', z1, z2, fr_t f' z3, fun k k1 => ?_⟩
      rw [z4 k k1, e2, e3, e3, sm_s (n := j)]
      congr 1
      omega
theorem m_pairs_L (hs : s < 6) {x y d : Int} (hdd : -1000 ≤ d ∧ d ≤ 1000) (hx : 0 ≤ x ∧ x ≤ 400) (hy : 0 ≤ y ∧ y ≤ 400) : ∀ (n i : Nat) (S T : zM) (acc : Nat → Int), mSense S s → i ≤ 11 → 12 ≤ n + i → fr (fun q _ => q = 25) T S → (∀ k, k < 3 → gI S 25 k = J (acc k)) → ∃ S', gX12_pairs_L27 (J s) (J x) (J y) (J d) n S (J ((i : Int) - 5)) = some S' ∧ fr (fun q _ => q = 25) T S' ∧ ∀ k, k < 3 → gI S' 25 k = J (acc k + (sm 11 (fun i => sm 11 (pF (nS S s) (lvS S s y + d - lvS S s x) k i)) - sm i (fun i => sm 11 (pF (nS S s) (lvS S s y + d - lvS S s x) k i)))) := by
  intro n
  induction n with
  | zero => intro i S T acc h g1 g2; omega
  | succ n ih =>
    intro i S T acc h g1 g2 f hk
    unfold gX12_pairs_L27
    simp only [J_0, J_1, J_2, J_3, J_4, J_5, J_6, J_7, J_8, J_9, J_10, J_11, J_12, J_14, J_15, J_16, J_19, J_20, J_21, J_22, J_23, J_24, J_25, J_28, J_30, J_31, J_32, J_40, J_44, J_47, J_48, J_49, J_50, J_53, J_54, J_57, J_59, J_74, J_75, J_78, J_84, J_97, J_99, J_100, J_120, J_122, J_126, J_132, J_138, J_144, J_150, J_156, J_162, J_198, J_200, J_202, J_206, J_210, J_214, J_218, J_222, J_226, J_230, J_234, J_238, J_239, J_240, J_241, J_242, J_243, J_255, J_263, J_283, J_303, J_399, J_400, J_401, J_463, J_700, J_701, J_999, J_1000, J_2048, J_4095, J_4096, J_6000, J_9999, J_10000, J_65536, J_65537, J_2147483647, J_neg]
    rw [iLT (by decide) (by decide) (by omega) (by omega)]
    by_cases e : i = 11
    · subst e
      rw [if_pos (by omega)]
      refine ⟨S, rfl, f, fun k k1 => ?_⟩
      rw [hk k k1]
      congr 1
      omega
    · obtain ⟨S1, u1, u2, u3, u4⟩ := m_pair_L hs hdd hx hy (i := i) (by omega) FU 0 S T acc h (by omega) (by have := FUs (n := 12) (by omega); omega) f hk
      rw [show ((0 : Nat) : Int) - 5 = -5 from rfl] at u1
      rw [if_neg (show ¬ 5 < (i : Int) - 5 by omega), u1, b1s, J_add, show (i : Int) - 5 + 1 = ((i + 1 : Nat) : Int) - 5 by omega]
      obtain ⟨h', e1, e2, e3⟩ := mSense_25 h u3
      obtain ⟨S', z1, z2, z3⟩ := ih (i + 1) S1 T (fun k => acc k + sm 11 (pF (nS S s) (lvS S s y + d - lvS S s x) k i)) h' (by omega) (by omega) u2 (fun k k1 => by
        rw [u4 k k1, sm_0]
        congr 1
        omega)
      refine ⟨S', z1, z2, fun k k1 => ?_⟩
      rw [z3 k k1, e2, e3, e3, sm_s (n := i)]
      congr 1
      omega
theorem pF_1 {o : Nat → Int} {lead : Int} : sm 11 (fun i => sm 11 (pF o lead 1 i)) = pOd o lead false 1 := by
  unfold pOd
  rw [if_neg (by decide), if_pos rfl, if_neg (by decide)]
  unfold nPab
  refine sm_c (fun i hi => sm_c (fun j hj => ?_))
  unfold pF orN
  by_cases z : -lead < (j : Int) - i
  · rw [if_pos z, if_neg (show ¬ lead + ((j : Int) - i) ≤ 0 by omega), if_pos rfl]
  · rw [if_neg z, if_pos (show lead + ((j : Int) - i) ≤ 0 by omega)]
    by_cases y : 0 ≤ lead + ((j : Int) - i)
    · rw [if_pos y, if_neg (by decide)]
    · rw [if_neg y, if_neg (by decide)]
theorem pF_0 {o : Nat → Int} {lead : Int} : sm 11 (fun i => sm 11 (pF o lead 0 i)) = pOd o lead false 0 := by
  unfold pOd
  rw [if_pos rfl, ← nSq]
  unfold nPab
  rw [← sm_sub]
  refine sm_c (fun i hi => ?_)
  rw [← sm_sub]
  refine sm_c (fun j hj => ?_)
  unfold pF orN
  by_cases z : -lead - 1 < (j : Int) - i
  · rw [if_pos z]
    by_cases y : lead + ((j : Int) - i) ≤ 0
    · rw [if_pos y, if_pos (show 0 ≤ lead + ((j : Int) - i) by omega), if_neg (by decide)]
      omega
    · rw [if_neg y, if_neg (by decide)]
      omega
  · rw [if_neg z, if_pos (show lead + ((j : Int) - i) ≤ 0 by omega), if_neg (show ¬ 0 ≤ lead + ((j : Int) - i) by omega), if_pos rfl]
    omega
theorem pF_2 {o : Nat → Int} {lead : Int} : sm 11 (fun i => sm 11 (pF o lead 2 i)) = pOd o lead false 2 := by
  have e : pOd o lead false 2 = nPab o (-lead - 1) - nPab o (-lead) := rfl
  rw [e]
  unfold nPab
  rw [← sm_sub]
  refine sm_c (fun i hi => ?_)
  rw [← sm_sub]
  refine sm_c (fun j hj => ?_)
  unfold pF orN
  by_cases y : lead + ((j : Int) - i) ≤ 0
  · by_cases w : 0 ≤ lead + ((j : Int) - i)
    · rw [if_pos y, if_pos w, if_pos rfl, if_pos (by omega), if_neg (by omega)]
      omega
    · rw [if_pos y, if_neg w, if_neg (by decide), if_neg (by omega), if_neg (by omega)]
      omega
  · rw [if_neg y, if_neg (by decide), if_pos (by omega), if_pos (by omega)]
    omega
theorem m_pairsD (h : mSense SM s) (hs : s < 6) {x y d : Int} (hdd : -1000 ≤ d ∧ d ≤ 1000) (hx : 0 ≤ x ∧ x ≤ 400) (hy : 0 ≤ y ∧ y ≤ 400) : ∃ S', gX12_pairs SM (J s) (J x) (J y) (J d) = some S' ∧ fr (fun q _ => q = 25) SM S' ∧ gI S' 25 0 = J (pOd (nS SM s) (lvS SM s y + d - lvS SM s x) false 0) ∧ gI S' 25 1 = J (pOd (nS SM s) (lvS SM s y + d - lvS SM s x) false 1) ∧ gI S' 25 2 = J (pOd (nS SM s) (lvS SM s y + d - lvS SM s x) false 2) := by
  have hf := FUs (n := 12) (by omega)
  obtain ⟨S0, u1, u2, u3⟩ := m_zero25_L (v1 := J s) (v2 := J x) (v3 := J y) (v4 := J d) FU 0 SM SM (by omega) (by omega) fr_r (fun k hk => by omega)
  obtain ⟨h', e1, e2, e3⟩ := mSense_25 h u2
  obtain ⟨S', z1, z2, z3⟩ := m_pairs_L hs hdd hx hy FU 0 S0 SM (fun _ => 0) h' (by omega) (by omega) u2 (fun k hk => u3 k hk)
  rw [show J ((0 : Nat) : Int) = J 0 from rfl] at u1
  rw [show ((0 : Nat) : Int) - 5 = -5 from rfl] at z1
  refine ⟨S', ?_, z2, ?_, ?_, ?_⟩
  · unfold gX12_pairs
    simp only [J_0, J_1, J_2, J_3, J_4, J_5, J_6, J_7, J_8, J_9, J_10, J_11, J_12, J_14, J_15, J_16, J_19, J_20, J_21, J_22, J_23, J_24, J_25, J_28, J_30, J_31, J_32, J_40, J_44, J_47, J_48, J_49, J_50, J_53, J_54, J_57, J_59, J_74, J_75, J_78, J_84, J_97, J_99, J_100, J_120, J_122, J_126, J_132, J_138, J_144, J_150, J_156, J_162, J_198, J_200, J_202, J_206, J_210, J_214, J_218, J_222, J_226, J_230, J_234, J_238, J_239, J_240, J_241, J_242, J_243, J_255, J_263, J_283, J_303, J_399, J_400, J_401, J_463, J_700, J_701, J_999, J_1000, J_2048, J_4095, J_4096, J_6000, J_9999, J_10000, J_65536, J_65537, J_2147483647, J_neg]
    rw [u1, b1s, z1]
  · rw [z3 0 (by decide), e2, e3, e3, sm_0, pF_0]
    congr 1
    omega
  · rw [z3 1 (by decide), e2, e3, e3, sm_0, pF_1]
    congr 1
    omega
  · rw [z3 2 (by decide), e2, e3, e3, sm_0, pF_2]
    congr 1
    omega
theorem m_pairs (h : mSense SM s) (hs : s < 6) {x y : Int} (hx : 0 ≤ x ∧ x ≤ 400) (hy : 0 ≤ y ∧ y ≤ 400) : ∃ S', gX12_pairs SM (J s) (J x) (J y) (J 0) = some S' ∧ fr (fun q _ => q = 25) SM S' ∧ gI S' 25 0 = J (pOd (nS SM s) (lvS SM s y - lvS SM s x) false 0) ∧ gI S' 25 1 = J (pOd (nS SM s) (lvS SM s y - lvS SM s x) false 1) := by
  obtain ⟨S', r1, r2, r3, r4, -⟩ := m_pairsD h hs (d := 0) (by decide) hx hy
  rw [Int.add_zero] at r3 r4
  exact ⟨S', r1, r2, r3, r4⟩
end
