/-! Both odds are the same. -/
def odN (n : Int) (o : Nat → Int) (A : Int → Int → Int → Int) (l : Int → Int) (an : Int) : Int := if n = 3 then od3 o A (l 0) (l 1) (l 2) an else if n = 2 then od2 o A (l 0) (l 1) an else od1 o A (l 0) an
theorem inF_ite {c : Prop} [Decidable c] {x : Int} (h1 : -20000 ≤ x) (h2 : x ≤ 20000) : inF (if c then x else 0) := by
  unfold inF
  split <;> omega
section
variable {SC SM : zM} {H p t s k : Nat} {kd a b c an tr : Int} {A : Int → Int → Int → Int}
theorem m_oddsOf (hp : p < 6) (hs : iI SM 3 (120 + p) = s) (hs6 : s < 6) (hk6 : k ≤ 6) (hl : mSense SM s) (ho : nOK (mN SM s k)) (hok : okB kd a b c) (hk : 0 ≤ kd ∧ kd ≤ 5) (hc : inI c) (han : inI an) (hA : isA SM p kd b c tr A) : gX12_oddsOf SM (J p) (J kd) (J a) (J b) (J c) (J an) (J tr) (J k) = some (J (odN (fe kd) (mN SM s k) A (lvk SM s kd a b c) an)) := by
  have x1 : ixb (J (120 + (p : Int))) 463 = true := ixb_J (by omega) (by omega) (by decide)
  have x2 : ix (J (120 + (p : Int))) = 120 + p := by rw [ix_J (by omega) (by omega)]; omega
  have hf := fe_b kd
  have l0 : gX12_levelAt SM (J s) (J kd) (J a) (J b) (J c) (J 0) = some (J (lvk SM s kd a b c 0)) := m_levelAt hs6 hok hk hc (by decide) (by omega)
  have b0 := lvk_b (k := 0) hl hok hk (by decide) (by omega)
  have hall := nAll_hi ho
  have hone : ∀ i, i < 11 → mN SM s k i ≤ 99 := fun i hi => by have := (ho.1 i hi).2; omega
  have key : ∀ (n3 : Int32) (F : Nat → Int), (n3 = J 1 ∨ n3 = J 2 ∨ n3 = J 3) → J (fe kd) = n3 → sm 11 F = odN (fe kd) (mN SM s k) A (lvk SM s kd a b c) an → (∀ i, i < 11 → mN SM s k i = 0 → F i = 0) → (∀ (i : Nat) (acc : Int), i < 11 → 0 < mN SM s k i → gX12_oddsOf_L82 SM (J p) (J kd) (J a) (J b) (J c) (J an) (J tr) (J k) (J s) n3 (J ((i : Int) - 5)) (J (mN SM s k i)) (J (lvk SM s kd a b c 0 + ((i : Int) - 5))) FU (J acc) (if n3 ≤ J 1 then J 5 else J (-5)) = some (J (acc + F i))) → gX12_oddsOf SM (J p) (J kd) (J a) (J b) (J c) (J an) (J tr) (J k) = some (J (odN (fe kd) (mN SM s k) A (lvk SM s kd a b c) an)) := by
    intro n3 F h1 h2 h3 h4 h5
    have := m_od_N h1 hs6 hk6 ho l0 b0 h4 h5 FU 0 0 (by omega) (FUs (n := 12) (by omega))
    rw [show (((0 : Nat) : Int) - 5) = -5 from rfl, sm_0] at this
    unfold gX12_oddsOf
    simp only [J_0, J_1, J_2, J_3, J_4, J_5, J_6, J_7, J_8, J_9, J_10, J_11, J_12, J_14, J_15, J_16, J_19, J_20, J_21, J_22, J_23, J_24, J_25, J_28, J_30, J_31, J_32, J_40, J_44, J_47, J_48, J_49, J_50, J_53, J_54, J_57, J_59, J_74, J_75, J_78, J_84, J_97, J_99, J_100, J_120, J_122, J_126, J_132, J_138, J_144, J_150, J_156, J_162, J_198, J_200, J_202, J_206, J_210, J_214, J_218, J_222, J_226, J_230, J_234, J_238, J_239, J_240, J_241, J_242, J_243, J_255, J_263, J_283, J_303, J_399, J_400, J_401, J_463, J_700, J_701, J_999, J_1000, J_2048, J_4095, J_4096, J_6000, J_9999, J_10000, J_65536, J_65537, J_2147483647, J_neg, J_neg, J_add, J_sub, J_mul, x1, x2, ckt, b1s, b2s, lts, un2s, un3s, un4s, un5s, lmr, lml, lgr, lgl, gI_J SM 3, hs, m_feelings hk, h2]
    rw [this, ← h3]
    congr 2
    omega
  by_cases e3 : fe kd = 3
  · have l1 : gX12_levelAt SM (J s) (J kd) (J a) (J b) (J c) (J 1) = some (J (lvk SM s kd a b c 1)) := m_levelAt hs6 hok hk hc (by decide) (by omega)
    have l2 : gX12_levelAt SM (J s) (J kd) (J a) (J b) (J c) (J 2) = some (J (lvk SM s kd a b c 2)) := m_levelAt hs6 hok hk hc (by decide) (by omega)
    have b1 := lvk_b (k := 1) hl hok hk (by decide) (by omega)
    have b2 := lvk_b (k := 2) hl hok hk (by decide) (by omega)
    refine key (J 3) (fun i => sm 11 (fun j => sm 11 (fun k' => if A (lvk SM s kd a b c 0 + ((i : Int) - 5)) (lvk SM s kd a b c 1 + ((j : Int) - 5)) (lvk SM s kd a b c 2 + ((k' : Int) - 5)) = an then mN SM s k i * mN SM s k j * mN SM s k k' else 0))) (Or.inr (Or.inr rfl)) (by rw [e3]) ?_ ?_ ?_
    · unfold odN
      rw [if_pos e3]
      rfl
    · intro i hi hz
      refine sm_zero (fun j _ => sm_zero (fun k' _ => ?_))
      rw [hz, Int.zero_mul, Int.zero_mul]
      split <;> rfl
    · intro i acc hi hpos
      rw [if_neg (by decide)]
      have := m_od_M3 (v12 := J ((i : Int) - 5)) hs6 hk6 ho hA han l1 b1 l2 b2 (f := lvk SM s kd a b c 0 + ((i : Int) - 5)) ⟨by omega, by omega⟩ ⟨hpos, hone i hi⟩ FU 0 acc (by omega) (FUs (n := 12) (by omega))
      rw [show (((0 : Nat) : Int) - 5) = -5 from rfl, sm_0] at this
      rw [this]
      congr 2
      omega
  · by_cases e2 : fe kd = 2
    · have l1 : gX12_levelAt SM (J s) (J kd) (J a) (J b) (J c) (J 1) = some (J (lvk SM s kd a b c 1)) := m_levelAt hs6 hok hk hc (by decide) (by omega)
      have b1 := lvk_b (k := 1) hl hok hk (by decide) (by omega)
      refine key (J 2) (fun i => sm 11 (fun j => if A (lvk SM s kd a b c 0 + ((i : Int) - 5)) (lvk SM s kd a b c 1 + ((j : Int) - 5)) 0 = an then mN SM s k i * mN SM s k j else 0)) (Or.inr (Or.inl rfl)) (by rw [e2]) ?_ ?_ ?_
      · unfold odN
        rw [if_neg e3, if_pos e2]
        rfl
      · intro i hi hz
        refine sm_zero (fun j _ => ?_)
        rw [hz, Int.zero_mul]
        split <;> rfl
      · intro i acc hi hpos
        rw [if_neg (by decide)]
        have := m_od_M2 (v12 := J ((i : Int) - 5)) hs6 hk6 ho hA han l1 b1 (f := lvk SM s kd a b c 0 + ((i : Int) - 5)) ⟨by omega, by omega⟩ ⟨hpos, hone i hi⟩ FU 0 acc (by omega) (FUs (n := 12) (by omega))
        rw [show (((0 : Nat) : Int) - 5) = -5 from rfl, sm_0] at this
        rw [this]
        congr 2
        omega
    · refine key (J 1) (fun i => if A (lvk SM s kd a b c 0 + ((i : Int) - 5)) 0 0 = an then mN SM s k i else 0) (Or.inl rfl) (by congr 1; omega) ?_ ?_ ?_
      · unfold odN
        rw [if_neg e3, if_neg e2]
        rfl
      · intro i hi hz
        show (if _ then mN SM s k i else 0) = 0
        rw [hz]
        split <;> rfl
      · intro i acc hi hpos
        rw [if_pos (by decide)]
        have := m_od_M1 (v12 := J ((i : Int) - 5)) (a := a) (s := s) (k := k) hA han (f := lvk SM s kd a b c 0 + ((i : Int) - 5)) ⟨by omega, by omega⟩ ⟨hpos, hone i hi⟩ acc
        rw [this]
/-- one noise, 0 -/
def dl (k : Nat) : Int := if k = 5 then 1 else 0
theorem c_oft {q : Nat} {o : Nat → Int} {m : Int} (h4 : gI SC 456 4 = J kd) (hk : 0 ≤ kd ∧ kd ≤ 5) (hn : nzC SC q o) (hm : 0 ≤ m ∧ m ≤ 2) : ∀ k : Nat, k < 11 → gX0_oftenAt SC q (J m) (J ((k : Int) - 5)) = some (J ((if m < fe kd then o else dl) k)) := by
  intro k hk'
  have hf := fe_b kd
  unfold gX0_oftenAt
  rw [c_feelings h4 hk, b1s, c_oftenAt hn (by omega) (by omega), b1s, nAt_i hk']
  simp (disch := omega) only [J_0, J_1, J_2, J_3, J_4, J_5, J_6, J_7, J_8, J_9, J_10, J_11, J_12, J_14, J_15, J_16, J_19, J_20, J_21, J_22, J_23, J_24, J_25, J_28, J_30, J_31, J_32, J_40, J_44, J_47, J_48, J_49, J_50, J_53, J_54, J_57, J_59, J_74, J_75, J_78, J_84, J_97, J_99, J_100, J_120, J_122, J_126, J_132, J_138, J_144, J_150, J_156, J_162, J_198, J_200, J_202, J_206, J_210, J_214, J_218, J_222, J_226, J_230, J_234, J_238, J_239, J_240, J_241, J_242, J_243, J_255, J_263, J_283, J_303, J_399, J_400, J_401, J_463, J_700, J_701, J_999, J_1000, J_2048, J_4095, J_4096, J_6000, J_9999, J_10000, J_65536, J_65537, J_2147483647, J_neg, J_lt, J_le, J_inj]
  by_cases e : m < fe kd
  · rw [if_neg (by omega), if_pos e]
  · rw [if_pos (by omega), if_neg e]
    unfold dl
    by_cases z : k = 5
    · rw [if_pos (by omega), if_pos z]
    · rw [if_neg (by omega), if_neg z]
theorem dl_b : ∀ k, k < 11 → 0 ≤ dl k ∧ dl k ≤ 9 := fun k _ => by unfold dl; split <;> omega
theorem sm_dl {f : Nat → Int} : sm 11 (fun k => dl k * f k) = f 5 := by
  have : ∀ k, k < 11 → dl k * f k = if k = 5 then f 5 else 0 := by
    intro k _
    unfold dl
    by_cases z : k = 5
    · rw [if_pos z, if_pos z, z, Int.one_mul]
    · rw [if_neg z, if_neg z, Int.zero_mul]
  rw [sm_c this, sm_one (by decide)]
theorem c_oddsOf (h : okP SC SM H p t) (ask : rAsk SC SM H p kd a b c) (hok : okB kd a b c) (hk : 0 ≤ kd ∧ kd ≤ 5) (hb4 : kd = 4 → 0 ≤ b ∧ b < cnt SM 0) {q : Nat} {o : Nat → Int} (hn : nzC SC q o) (ho : nOK o) (han : inI an) (hb : ∀ f g h, 0 ≤ A f g h ∧ A f g h ≤ 100000) (hA : ∀ f g h : Int, inF f → inF g → inF h → ∀ g' h' : Int, inF g' → inF h' → (kd = 0 ∨ kd = 2 ∨ kd = 5 → g' = g) → (kd = 2 → h' = h) → gX0_said SC (J f) (J g') (J h') = some (J (A f g h))) : gX0_oddsOf SC q (J an) = some (J (odN (fe kd) o A (lvk SM (mS SM p) kd a b c) an)) := by
  have h4 := ask.2.2.2.2.1
  have hf := fe_b kd
  obtain ⟨l0, b0, g0, z0⟩ := c_levelOf (k := 0) h ask hok hk hb4 (by decide)
  obtain ⟨l1, b1, g1, z1⟩ := c_levelOf (k := 1) h ask hok hk hb4 (by decide)
  obtain ⟨l2, b2, g2, z2⟩ := c_levelOf (k := 2) h ask hok hk hb4 (by decide)
  have hO := fun m (hm : 0 ≤ m ∧ m ≤ 2) => c_oft (m := m) h4 hk hn hm
  have hw : ∀ (m : Int) (k : Nat), k < 11 → 0 ≤ (if m < fe kd then o else dl) k ∧ (if m < fe kd then o else dl) k ≤ 9 := by
    intro m k hk'
    split
    · exact ho.1 k hk'
    · exact dl_b k hk'
  have hfe2 : kd = 0 ∨ kd = 2 ∨ kd = 5 ↔ 1 < fe kd := by unfold fe; repeat' split <;> omega
  have hfe3 : kd = 2 ↔ 2 < fe kd := by unfold fe; repeat' split <;> omega
  let G : Nat → Int := fun j => if 1 < fe kd then l1 + ((j : Int) - 5) else 0
  let K : Nat → Int := fun k => if 2 < fe kd then l2 + ((k : Int) - 5) else 0
  have hG : ∀ j, j < 11 → inF (G j) := fun j hj => inF_ite (by omega) (by omega)
  have hK : ∀ j, j < 11 → inF (K j) := fun j hj => inF_ite (by omega) (by omega)
  have hlast : ∀ i j : Nat, i < 11 → j < 11 → gX0_lastOdds SC q (J an) (J (l0 + ((i : Int) - 5))) (J (l1 + ((j : Int) - 5))) = some (J (sm 11 (fun k => if A (l0 + ((i : Int) - 5)) (G j) (K k) = an then (if 2 < fe kd then o else dl) k else 0))) := by
    intro i j hi hj
    refine c_last (hO 2 (by decide)) (hw 2) g2 han (fun k hk' => ⟨?_, ?_⟩)
    · refine hA _ _ _ ⟨by omega, by omega⟩ (hG j hj) (hK k hk') _ _ ⟨by omega, by omega⟩ ⟨by omega, by omega⟩ (fun z => ?_) (fun z => ?_)
      · show _ = if _ then _ else _
        rw [if_pos (hfe2.mp z)]
      · show _ = if _ then _ else _
        rw [if_pos (hfe3.mp z)]
    · exact inI_of (hb _ _ _).1 (hb _ _ _).2
  have hmid : ∀ (i : Nat) (acc : Int), i < 11 → gX0_oddsOf_L26 SC q (J an) (J ((i : Int) - 5)) (J ((if 0 < fe kd then o else dl) i)) FU (J acc) (J (-5)) = some (J (acc + sm 11 (fun j => (if 0 < fe kd then o else dl) i * (if 1 < fe kd then o else dl) j * sm 11 (fun k => if A (l0 + ((i : Int) - 5)) (G j) (K k) = an then (if 2 < fe kd then o else dl) k else 0)))) := by
    intro i acc hi
    exact c_mid (hO 1 (by decide)) (hw 1) g0 g1 (hw 0 i hi) (fun j hj => hlast i j hi hj) acc
  rw [c_top (hO 0 (by decide)) hmid]
  congr 2
  rw [if_pos (show 0 < fe kd by omega)]
  by_cases e3 : fe kd = 3
  · unfold odN od3
    rw [if_pos e3]
    refine sm_c (fun i hi => sm_c (fun j hj => ?_))
    rw [if_pos (show 1 < fe kd by omega), if_pos (show 2 < fe kd by omega), ← sm_mul]
    refine sm_c (fun k hk' => ?_)
    show o i * o j * (if A (l0 + ((i : Int) - 5)) (if 1 < fe kd then l1 + ((j : Int) - 5) else 0) (if 2 < fe kd then l2 + ((k : Int) - 5) else 0) = an then o k else 0) = _
    rw [if_pos (show 1 < fe kd by omega), if_pos (show 2 < fe kd by omega), ← z0 (by omega), ← z1 (by omega), ← z2 (by omega)]
    split
    · rfl
    · exact Int.mul_zero _
  · have last1 : ∀ i j : Nat, sm 11 (fun k => if A (l0 + ((i : Int) - 5)) (G j) (K k) = an then (if 2 < fe kd then o else dl) k else 0) = if A (l0 + ((i : Int) - 5)) (G j) 0 = an then 1 else 0 := by
      intro i j
      rw [if_neg (show ¬ 2 < fe kd by omega)]
      have e : ∀ k : Nat, k < 11 → (if A (l0 + ((i : Int) - 5)) (G j) (K k) = an then dl k else 0) = dl k * (if A (l0 + ((i : Int) - 5)) (G j) 0 = an then 1 else 0) := by
        intro k _
        show (if A (l0 + ((i : Int) - 5)) (G j) (if 2 < fe kd then l2 + ((k : Int) - 5) else 0) = an then dl k else 0) = _
        rw [if_neg (show ¬ 2 < fe kd by omega)]
        split
        · rw [Int.mul_one]
        · rw [Int.mul_zero]
      rw [sm_c e, sm_dl]
    by_cases e2 : fe kd = 2
    · unfold odN od2
      rw [if_neg e3, if_pos e2]
      refine sm_c (fun i hi => sm_c (fun j hj => ?_))
      rw [last1, if_pos (show 1 < fe kd by omega)]
      show o i * o j * (if A (l0 + ((i : Int) - 5)) (if 1 < fe kd then l1 + ((j : Int) - 5) else 0) 0 = an then 1 else 0) = _
      rw [if_pos (show 1 < fe kd by omega), ← z0 (by omega), ← z1 (by omega)]
      split
      · rw [Int.mul_one]
      · rw [Int.mul_zero]
    · unfold odN od1
      rw [if_neg e3, if_neg e2]
      refine sm_c (fun i hi => ?_)
      rw [if_neg (show ¬ 1 < fe kd by omega)]
      have e : ∀ j : Nat, j < 11 → o i * dl j * sm 11 (fun k => if A (l0 + ((i : Int) - 5)) (G j) (K k) = an then (if 2 < fe kd then o else dl) k else 0) = dl j * (if A (l0 + ((i : Int) - 5)) 0 0 = an then o i else 0) := by
        intro j _
        rw [last1]
        show o i * dl j * (if A (l0 + ((i : Int) - 5)) (if 1 < fe kd then l1 + ((j : Int) - 5) else 0) 0 = an then 1 else 0) = _
        rw [if_neg (show ¬ 1 < fe kd by omega)]
        split
        · rw [Int.mul_one, Int.mul_comm]
        · rw [Int.mul_zero, Int.mul_zero]
      rw [sm_c e, sm_dl, ← z0 (by omega)]
end
