/-! What a sayer likes, by both. -/
def fYc (q0 q k : Nat) : Prop := fC2 q k ∨ (q = q0 ∧ 2 ≤ k) ∨ q = q0 + 1
def kYo (p k : Nat) : Prop := kYm p k ∧ ¬ k = 120 + p
def f4y (p q k : Nat) : Prop := q = 4 ∧ (kYo p k ∨ k = 239)
def fYm (p q k : Nat) : Prop := fM2 q k ∨ f4y p q k
section
variable {b : Nat → Int} {n T k : Nat} {C M : zM}
theorem two_t {k1 : Nat} {EC EM : Nat → Nat → Prop} {C1 M1 : zM} {F : Option (Int32 × zM)} {Gm : Option zM} {E : zM → zM → Prop} (f : fr EC C C1) (g : fr EM M M1) (hk : k ≤ k1) (h : two b n T k1 EC EM C1 M1 F Gm E) : two b n T k EC EM C M F Gm E := by
  obtain ⟨r, C', M', h1, h2, h3, h4, h5⟩ := h
  refine ⟨r, C', M', h1, h2, fr_t f h3, fr_t g h4, ?_⟩
  rcases h5 with ⟨y, ⟨k', y0, y2⟩, y3⟩ | y
  · exact Or.inl ⟨y, ⟨k', by omega, y2⟩, y3⟩
  · exact Or.inr y
/-- a whole within is taken -/
theorem c_takeW (h : rdS b n T C M k) (y : tN b n (tpos b n k)) {lo hi : Int} (hl : -1000 ≤ lo ∧ lo ≤ 1000) (hh : -1000 ≤ hi ∧ hi ≤ 1000) (hv : lo ≤ dcW b (tpos b n k) (te b n (tpos b n k) - tpos b n k) ∧ dcW b (tpos b n k) (te b n (tpos b n k) - tpos b n k) ≤ hi) : gX7_takeWhole C (J lo) (J hi) = b1 (gX7_step (pI C 2 5 (J (dcW b (tpos b n k) (te b n (tpos b n k) - tpos b n k))))) fun S => some (J 1, S) := by
  obtain ⟨x1, y1, x3, x4, x5⟩ := rd_x h
  obtain ⟨v1, v2, v3⟩ := tN_v y
  unfold gX7_takeWhole
  simp only [J_0, J_1, J_2, J_3, J_4, J_5, J_6, J_7, J_8, J_9, J_10, J_11, J_12, J_14, J_15, J_16, J_19, J_20, J_21, J_22, J_23, J_24, J_25, J_28, J_30, J_31, J_32, J_40, J_44, J_47, J_48, J_49, J_50, J_53, J_54, J_57, J_59, J_74, J_75, J_78, J_84, J_97, J_99, J_100, J_120, J_122, J_126, J_132, J_138, J_144, J_150, J_156, J_162, J_198, J_200, J_202, J_206, J_210, J_214, J_218, J_222, J_226, J_230, J_234, J_238, J_239, J_240, J_241, J_242, J_243, J_255, J_263, J_283, J_303, J_399, J_400, J_401, J_463, J_700, J_701, J_999, J_1000, J_2048, J_4095, J_4096, J_6000, J_9999, J_10000, J_65536, J_65537, J_2147483647, J_neg]
  rw [x1, ckt, ckt, ckt, ckt, y1, x3, x5, tN_k.mpr y, if_pos rfl, v1, J_toL (by omega) (by omega), J_toL (by omega) (by omega), iLTl (by omega) (by omega) (by omega) (by omega), if_neg (by omega), iLEl (by omega) (by omega) (by omega) (by omega), if_pos hv.2, JL_toI]
theorem c_takeN (h : rdS b n T C M k) (y : ¬ tN b n (tpos b n k)) {lo hi : Int32} : ∃ C', gX7_takeWhole C lo hi = some (J 0, C') ∧ gX12_wrong M (J 1) (gI M 0 4) = some (mbad M 1 (tpos b n k)) ∧ bad C' (mbad M 1 (tpos b n k)) ∧ fr fC2 C C' ∧ fr fM2 M (mbad M 1 (tpos b n k)) := by
  obtain ⟨x1, y1, x3, x4, x5⟩ := rd_x h
  have kb := tKd_b (b := b) (n := n) (q := tpos b n k)
  obtain ⟨C1, q1, q2, q3, q4, q5⟩ := rd_wrong h (f := 1) (by decide)
  refine ⟨C1, ?_, q2, q3, q4, q5⟩
  unfold gX7_takeWhole
  simp only [J_0, J_1, J_2, J_3, J_4, J_5, J_6, J_7, J_8, J_9, J_10, J_11, J_12, J_14, J_15, J_16, J_19, J_20, J_21, J_22, J_23, J_24, J_25, J_28, J_30, J_31, J_32, J_40, J_44, J_47, J_48, J_49, J_50, J_53, J_54, J_57, J_59, J_74, J_75, J_78, J_84, J_97, J_99, J_100, J_120, J_122, J_126, J_132, J_138, J_144, J_150, J_156, J_162, J_198, J_200, J_202, J_206, J_210, J_214, J_218, J_222, J_226, J_230, J_234, J_238, J_239, J_240, J_241, J_242, J_243, J_255, J_263, J_283, J_303, J_399, J_400, J_401, J_463, J_700, J_701, J_999, J_1000, J_2048, J_4095, J_4096, J_6000, J_9999, J_10000, J_65536, J_65537, J_2147483647, J_neg]
  rw [x1, ckt, ckt, y1, x3, iEQ (by omega) (by omega) (by decide) (by decide), if_neg (fun w => y (tN_k.mp w)), q1, b2s, show isB (J 0) = true by decide, ckt]
theorem c_likes_L {q w : Nat} {v : Int} (hv : 0 ≤ v ∧ v ≤ 999) (hw : w ≤ 6) (h7 : gI C q 7 = J w) {g : Nat → Int} (hg : ∀ j : Nat, j < w → (0 ≤ g j ∧ g j ≤ 999) ∧ gI C (q + 1) j = J (g j)) : ∀ (f j : Nat), j ≤ w → w < f + j → ∃ r : Int, (r = 0 ∨ r = 1) ∧ gX8_likes_L2 C q (JL v) f (J j) = some (J r) ∧ (r = 1 ↔ ∃ i, j ≤ i ∧ i < w ∧ g i = v) := by
  intro f
  induction f with
  | zero => intro j h1 h2; omega
  | succ f ih =>
    intro j h1 h2
    unfold gX8_likes_L2
    simp only [J_0, J_1, J_2, J_3, J_4, J_5, J_6, J_7, J_8, J_9, J_10, J_11, J_12, J_14, J_15, J_16, J_19, J_20, J_21, J_22, J_23, J_24, J_25, J_28, J_30, J_31, J_32, J_40, J_44, J_47, J_48, J_49, J_50, J_53, J_54, J_57, J_59, J_74, J_75, J_78, J_84, J_97, J_99, J_100, J_120, J_122, J_126, J_132, J_138, J_144, J_150, J_156, J_162, J_198, J_200, J_202, J_206, J_210, J_214, J_218, J_222, J_226, J_230, J_234, J_238, J_239, J_240, J_241, J_242, J_243, J_255, J_263, J_283, J_303, J_399, J_400, J_401, J_463, J_700, J_701, J_999, J_1000, J_2048, J_4095, J_4096, J_6000, J_9999, J_10000, J_65536, J_65537, J_2147483647, J_neg]
    rw [h7, iLE (by omega) (by omega) (by omega) (by omega)]
    by_cases e : j = w
    · rw [if_pos (by omega)]
      exact ⟨0, Or.inl rfl, rfl, fun z => absurd z (by decide), fun ⟨i, i1, i2, i3⟩ => by omega⟩
    · obtain ⟨g1, g2⟩ := hg j (by omega)
      rw [if_neg (by omega), iLE (by decide) (by decide) (by omega) (by omega), if_neg (by omega), ixb_J (by omega) (by omega) (by decide), ckt, ix_J (by omega) (by omega), Int.toNat_natCast, g2, J_toL (by omega) (by omega), iEQl (by omega) (by omega) (by omega) (by omega), J_add, show (j : Int) + 1 = ((j + 1 : Nat) : Int) by omega]
      by_cases z : g j = v
      · rw [if_pos z]
        exact ⟨1, Or.inr rfl, rfl, fun _ => ⟨j, Nat.le_refl j, by omega, z⟩, fun _ => rfl⟩
      · rw [if_neg z]
        obtain ⟨r, r1, r2, r3⟩ := ih (j + 1) (by omega) (by omega)
        refine ⟨r, r1, r2, r3.trans ⟨fun ⟨i, i1, i2, i3⟩ => ⟨i, by omega, i2, i3⟩, fun ⟨i, i1, i2, i3⟩ => ⟨i, ?_, i2, i3⟩⟩⟩
        by_cases x : i = j
        · rw [x] at i3; exact absurd i3 z
        · omega
theorem m_liked_L {p w : Nat} {v : Int} (hp : p < 6) (hv : 0 ≤ v ∧ v ≤ 999) (hw : w ≤ 6) (h7 : gI M 0 7 = J v) {g : Nat → Int} (hg : ∀ j : Nat, j < w → (0 ≤ g j ∧ g j ≤ 999) ∧ gI M 4 (162 + 6 * p + j) = J (g j)) : ∀ (f j : Nat) (a : Int), j ≤ w → w < f + j → (a = 0 ∨ a = 1) → ∃ r : Int, (r = 0 ∨ r = 1) ∧ gX12_liked_L42 M (J p) (J w) f (J a) (J j) = some (J r) ∧ (r = 1 ↔ a = 1 ∨ ∃ i, j ≤ i ∧ i < w ∧ g i = v) := by
  intro f
  induction f with
  | zero => intro j a h1 h2; omega
  | succ f ih =>
    intro j a h1 h2 ha
    unfold gX12_liked_L42
    simp only [J_0, J_1, J_2, J_3, J_4, J_5, J_6, J_7, J_8, J_9, J_10, J_11, J_12, J_14, J_15, J_16, J_19, J_20, J_21, J_22, J_23, J_24, J_25, J_28, J_30, J_31, J_32, J_40, J_44, J_47, J_48, J_49, J_50, J_53, J_54, J_57, J_59, J_74, J_75, J_78, J_84, J_97, J_99, J_100, J_120, J_122, J_126, J_132, J_138, J_144, J_150, J_156, J_162, J_198, J_200, J_202, J_206, J_210, J_214, J_218, J_222, J_226, J_230, J_234, J_238, J_239, J_240, J_241, J_242, J_243, J_255, J_263, J_283, J_303, J_399, J_400, J_401, J_463, J_700, J_701, J_999, J_1000, J_2048, J_4095, J_4096, J_6000, J_9999, J_10000, J_65536, J_65537, J_2147483647, J_neg]
    rw [iLE (by omega) (by omega) (by omega) (by omega)]
    by_cases e : j = w
    · rw [if_pos (by omega)]
      refine ⟨a, ha, rfl, fun z => Or.inl z, fun z => ?_⟩
      rcases z with z | ⟨i, i1, i2, i3⟩
      · exact z
      · omega
    · rw [if_neg (by omega)]
      have ac : J (j : Int) + J 1 = J ((j + 1 : Nat) : Int) := by rw [J_add]; rfl
      rcases ha with z | z
      · subst z
        obtain ⟨g1, g2⟩ := hg j (by omega)
        have a162 : J 162 + J 6 * J (p : Int) + J (j : Int) = J ((162 + 6 * p + j : Nat) : Int) := by rw [J_mul, J_add, J_add]; rfl
        rw [if_pos rfl, a162, ixb_J (by omega) (by omega) (by decide), ckt, ix_J (by omega) (by omega), Int.toNat_natCast, g2, h7, iEQ (by omega) (by omega) (by omega) (by omega), ac]
        by_cases y : g j = v
        · rw [if_pos y]
          obtain ⟨r, r1, r2, r3⟩ := ih (j + 1) 1 (by omega) (by omega) (Or.inr rfl)
          exact ⟨r, r1, r2, fun _ => Or.inr ⟨j, Nat.le_refl j, by omega, y⟩, fun _ => r3.mpr (Or.inl rfl)⟩
        · rw [if_neg y]
          obtain ⟨r, r1, r2, r3⟩ := ih (j + 1) 0 (by omega) (by omega) (Or.inl rfl)
          refine ⟨r, r1, r2, r3.trans ⟨fun z => ?_, fun z => ?_⟩⟩
          · rcases z with z | ⟨i, i1, i2, i3⟩
            · exact absurd z (by decide)
            · exact Or.inr ⟨i, by omega, i2, i3⟩
          · rcases z with z | ⟨i, i1, i2, i3⟩
            · exact absurd z (by decide)
            · refine Or.inr ⟨i, ?_, i2, i3⟩
              by_cases x : i = j
              · rw [x] at i3; exact absurd i3 y
              · omega
      · subst z
        obtain ⟨r, r1, r2, r3⟩ := ih (j + 1) 1 (by omega) (by omega) (Or.inr rfl)
        rw [if_neg (show ¬ J 1 = J 0 by decide), ac]
        exact ⟨r, r1, r2, fun _ => Or.inl rfl, fun _ => r3.mpr (Or.inl rfl)⟩
theorem b_liked {v : Int32} (h : gI M 0 13 = J 1) : gX12_liked M v = some M := by
  unfold gX12_liked
  simp only [J_0, J_1, J_2, J_3, J_4, J_5, J_6, J_7, J_8, J_9, J_10, J_11, J_12, J_14, J_15, J_16, J_19, J_20, J_21, J_22, J_23, J_24, J_25, J_28, J_30, J_31, J_32, J_40, J_44, J_47, J_48, J_49, J_50, J_53, J_54, J_57, J_59, J_74, J_75, J_78, J_84, J_97, J_99, J_100, J_120, J_122, J_126, J_132, J_138, J_144, J_150, J_156, J_162, J_198, J_200, J_202, J_206, J_210, J_214, J_218, J_222, J_226, J_230, J_234, J_238, J_239, J_240, J_241, J_242, J_243, J_255, J_263, J_283, J_303, J_399, J_400, J_401, J_463, J_700, J_701, J_999, J_1000, J_2048, J_4095, J_4096, J_6000, J_9999, J_10000, J_65536, J_65537, J_2147483647, J_neg]
  rw [h, if_neg (by decide)]
theorem b_J118 {v1 v2 : Int32} (h : gI M 0 13 = J 1) : gX12_liked_J118 M v1 v2 = some M := by
  unfold gX12_liked_J118
  simp only [J_0, J_1, J_2, J_3, J_4, J_5, J_6, J_7, J_8, J_9, J_10, J_11, J_12, J_14, J_15, J_16, J_19, J_20, J_21, J_22, J_23, J_24, J_25, J_28, J_30, J_31, J_32, J_40, J_44, J_47, J_48, J_49, J_50, J_53, J_54, J_57, J_59, J_74, J_75, J_78, J_84, J_97, J_99, J_100, J_120, J_122, J_126, J_132, J_138, J_144, J_150, J_156, J_162, J_198, J_200, J_202, J_206, J_210, J_214, J_218, J_222, J_226, J_230, J_234, J_238, J_239, J_240, J_241, J_242, J_243, J_255, J_263, J_283, J_303, J_399, J_400, J_401, J_463, J_700, J_701, J_999, J_1000, J_2048, J_4095, J_4096, J_6000, J_9999, J_10000, J_65536, J_65537, J_2147483647, J_neg]
  rw [h, if_neg (by decide)]
theorem fYc_2 {q : Nat} {A B : zM} (f : fr fC2 A B) : fr (fYc q) A B := fr_w f (fun _ _ z => Or.inl z)
theorem fYm_2 {p : Nat} {A B : zM} (f : fr fM2 A B) : fr (fYm p) A B := fr_w f (fun _ _ z => Or.inl z)
theorem fYm_4 {p : Nat} {A B : zM} (f : fr (f4y p) A B) : fr (fYm p) A B := fr_w f (fun _ _ z => Or.inr z)
theorem yQ_2 {q p : Nat} {C' M' : zM} (hq : 6 ≤ q) (h : yQ C M q p) (f : fr fC2 C C') (g : fr fM2 M M') : yQ C' M' q p := yQ_c h (fun a j _ _ => f.1 a j (by unfold fC2; omega)) (fun e _ => g.1 4 e (by unfold fM2; omega))
theorem rd_liked {q p : Nat} (h : rdS b n T C M k) (hq : 6 ≤ q) (hp : p < 6) (hy : yQ C M q p) : two b n T k (fYc q) (fYm p) C M (gX7_readLiked C q) (gX12_liked M (J p)) (fun C' M' => yQ C' M' q p ∧ gI M' 4 239 = gI M 4 239) := by
  obtain ⟨x1, y1, x3, x4, x5⟩ := rd_x h
  obtain ⟨k3, k6⟩ := rd_kind h
  have kb := tKd_b (b := b) (n := n) (q := tpos b n k)
  have mb := mKd_b (b := b) (n := n) (q := tpos b n k)
  have h13 := h.2.2.2.2.2.2
  obtain ⟨u2, u3, u4, u5, u6, ⟨w, w1, w2, w3, w4, wz⟩, u8, u9⟩ := id hy
  unfold gX7_readLiked gX12_liked gX7_readLiked_J18
  simp only [J_0, J_1, J_2, J_3, J_4, J_5, J_6, J_7, J_8, J_9, J_10, J_11, J_12, J_14, J_15, J_16, J_19, J_20, J_21, J_22, J_23, J_24, J_25, J_28, J_30, J_31, J_32, J_40, J_44, J_47, J_48, J_49, J_50, J_53, J_54, J_57, J_59, J_74, J_75, J_78, J_84, J_97, J_99, J_100, J_120, J_122, J_126, J_132, J_138, J_144, J_150, J_156, J_162, J_198, J_200, J_202, J_206, J_210, J_214, J_218, J_222, J_226, J_230, J_234, J_238, J_239, J_240, J_241, J_242, J_243, J_255, J_263, J_283, J_303, J_399, J_400, J_401, J_463, J_700, J_701, J_999, J_1000, J_2048, J_4095, J_4096, J_6000, J_9999, J_10000, J_65536, J_65537, J_2147483647, J_neg]
  rw [x1, ckt, y1, k3, h13, if_pos rfl, k6]
  by_cases y : tN b n (tpos b n k)
  · obtain ⟨v1, v2, v3⟩ := tN_v y
    have m7 := h.2.2.2.2.2.1.2.2.2.2 y.1 y.2.1 y.2.2.1 y.2.2.2
    have x156 : ixb (J (156 + (p : Int))) 463 = true := ixb_J (by omega) (by omega) (by decide)
    have y156 : ix (J (156 + (p : Int))) = 156 + p := by rw [ix_J (by omega) (by omega)]; omega
    have w4' := w4
    have hg : ∃ g : Nat → Int, ∀ j : Nat, j < w → (0 ≤ g j ∧ g j ≤ 999) ∧ gI C (q + 1) j = J (g j) ∧ gI M 4 (162 + 6 * p + j) = J (g j) := by
      refine ⟨fun j => iI C (q + 1) j, fun j hj => ?_⟩
      obtain ⟨v, g1, g2, g3⟩ := w4 j hj
      have e : iI C (q + 1) j = v := iI_of g2 (by omega) (by omega)
      show (0 ≤ iI C (q + 1) j ∧ iI C (q + 1) j ≤ 999) ∧ gI C (q + 1) j = J (iI C (q + 1) j) ∧ gI M 4 (162 + 6 * p + j) = J (iI C (q + 1) j)
      rw [e]
      exact ⟨g1, g2, g3⟩
    obtain ⟨g, hg⟩ := hg
    have hc := c_takeW h y (lo := 0) (hi := 999) (by decide) (by decide) ⟨v2, v3⟩
    generalize hv : dcW b (tpos b n k) (te b n (tpos b n k) - tpos b n k) = v at v1 v2 v3 m7 hc
    obtain ⟨r1, r2, r3, r4⟩ := c_likes_L (v := v) ⟨v2, v3⟩ w1 w2 (fun j hj => ⟨(hg j hj).1, (hg j hj).2.1⟩) FU 0 (by omega) (by have := FUs (n := 30) (by omega); omega)
    obtain ⟨t1, t2, t3, t4⟩ := m_liked_L (v := v) hp ⟨v2, v3⟩ w1 m7 (fun j hj => ⟨(hg j hj).1, (hg j hj).2.2⟩) FU 0 0 (by omega) (by have := FUs (n := 30) (by omega); omega) (Or.inl rfl)
    have er : r1 = t1 := by
      have : r1 = 1 ↔ t1 = 1 := r4.trans ⟨fun z => t4.mpr (Or.inr z), fun z => by
        rcases t4.mp z with z | z
        · exact absurd z (by decide)
        · exact z⟩
      omega
    subst er
    rw [show J ((0 : Nat) : Int) = J 0 from rfl] at r3 t3
    rw [if_pos (show J (tKd b n (tpos b n k)) = J 2 by rw [tN_k.mpr y]), if_pos (show J (mKd b n (tpos b n k)) = J 3 by rw [tN_m.mpr y]), if_neg (show ¬ J 1 = J 0 by decide), ckt, x5, v1]
    unfold gX8_likes
    simp only [J_0, J_1, J_2, J_3, J_4, J_5, J_6, J_7, J_8, J_9, J_10, J_11, J_12, J_14, J_15, J_16, J_19, J_20, J_21, J_22, J_23, J_24, J_25, J_28, J_30, J_31, J_32, J_40, J_44, J_47, J_48, J_49, J_50, J_53, J_54, J_57, J_59, J_74, J_75, J_78, J_84, J_97, J_99, J_100, J_120, J_122, J_126, J_132, J_138, J_144, J_150, J_156, J_162, J_198, J_200, J_202, J_206, J_210, J_214, J_218, J_222, J_226, J_230, J_234, J_238, J_239, J_240, J_241, J_242, J_243, J_255, J_263, J_283, J_303, J_399, J_400, J_401, J_463, J_700, J_701, J_999, J_1000, J_2048, J_4095, J_4096, J_6000, J_9999, J_10000, J_65536, J_65537, J_2147483647, J_neg, J_add, x156, y156, ckt, b1s, b2s, lts, un2s, un3s, un4s, un5s, lmr, lml, lgr, lgl, w3]
    rw [r3, b1s, t3, b1s]
    rcases r2 with z | z
    · subst z
      rw [if_pos rfl, if_pos rfl, if_neg (show ¬ J 1 = J 0 by decide), w2, iLT (by omega) (by omega) (by decide) (by decide), iEQ (by omega) (by omega) (by decide) (by decide)]
      by_cases e : w = 6
      · obtain ⟨C1, q1, q2, q3, q4, q5⟩ := rd_wrong h (f := 5) (by decide)
        rw [if_neg (by omega), if_pos (by omega), q1, b2s, show isB (J 0) = true by decide, ckt, q2, b1s, b_J118 mbad_13]
        exact ⟨0, _, _, rfl, rfl, fYc_2 q4, fYm_2 q5, Or.inr ⟨rfl, q3⟩⟩
      · have x162 : ixb (J (162 + 6 * (p : Int) + (w : Int))) 463 = true := ixb_J (by omega) (by omega) (by decide)
        have y162 : ix (J (162 + 6 * (p : Int) + (w : Int))) = 162 + 6 * p + w := by rw [ix_J (by omega) (by omega)]; omega
        have o156 : gI (pI M 4 (162 + 6 * p + w) (J v)) 4 (156 + p) = J w := by rw [rII, if_neg (by omega), w3]
        rw [if_pos (show (w : Int) < 6 by omega), if_neg (show ¬ (w : Int) = 6 by omega), hc, if_pos trivial]
        simp only [J_mul, J_add, x162, y162, ckt, b1s, b2s, lts, un2s, un3s, un4s, un5s, lmr, lml, lgr, lgl, m7, o156]
        rw [show ((w : Int) + 1) = ((w + 1 : Nat) : Int) by omega]
        generalize hA : pI (pI M 4 (162 + 6 * p + w) (J v)) 4 (156 + p) (J ((w + 1 : Nat) : Int)) = A
        have fA : fr (f4y p) M A := by rw [← hA]; exact fr_t (fr_pI ⟨rfl, Or.inl ⟨by unfold kYm; omega, by omega⟩⟩) (fr_pI ⟨rfl, Or.inl ⟨by unfold kYm; omega, by omega⟩⟩)
        have rA : rdS b n T (pI C 2 5 (J v)) A k := rdS_w h (by rw [rII, if_neg (by omega)]) (by rw [rII, if_neg (by omega)]) (by rw [rII, if_neg (by omega)]) (fun k => ⟨by rw [rII, if_neg (by omega)], by rw [rII, if_neg (by omega)], rLI⟩) (fun e _ => fA.1 0 e (by unfold f4y; omega)) (fun e => fA.1 1 e (by unfold f4y; omega)) (fun e => fA.1 2 e (by unfold f4y; omega))
        obtain ⟨C1, M1, k1, a1, a2, a3, a4, a5, -, a6, -⟩ := rd_step rA
        have h5 : gI C1 2 5 = J v := by
          have : gX7_step (pI C 2 5 (J v)) = some C1 := a1
          unfold gX7_step at this
          split at this
          · have := Option.some.inj this
            rw [← this, rII, if_pos ⟨rfl, rfl⟩]
          · have := Option.some.inj this
            rw [← this, rII, if_neg (by omega), rII, if_pos ⟨rfl, rfl⟩]
        have c7 : gI C1 q 7 = J w := by rw [a4.1 q 7 (by unfold fC2; omega), rII, if_neg (by omega), w2]
        have xw : ixb (J (w : Int)) 6 = true := ixb_J (by omega) (by omega) (by decide)
        have yw : ix (J (w : Int)) = w := by rw [ix_J (by omega) (by omega)]; omega
        have c71 : gI (pI C1 (q + 1) w (J v)) q 7 = J w := by rw [rII, if_neg (by omega), c7]
        rw [a1, b1s, b2s, if_neg (show ¬ J 1 = J 0 by decide), h5, a2, b1s]
        unfold gX8_addLiked
        simp only [J_0, J_1, J_2, J_3, J_4, J_5, J_6, J_7, J_8, J_9, J_10, J_11, J_12, J_14, J_15, J_16, J_19, J_20, J_21, J_22, J_23, J_24, J_25, J_28, J_30, J_31, J_32, J_40, J_44, J_47, J_48, J_49, J_50, J_53, J_54, J_57, J_59, J_74, J_75, J_78, J_84, J_97, J_99, J_100, J_120, J_122, J_126, J_132, J_138, J_144, J_150, J_156, J_162, J_198, J_200, J_202, J_206, J_210, J_214, J_218, J_222, J_226, J_230, J_234, J_238, J_239, J_240, J_241, J_242, J_243, J_255, J_263, J_283, J_303, J_399, J_400, J_401, J_463, J_700, J_701, J_999, J_1000, J_2048, J_4095, J_4096, J_6000, J_9999, J_10000, J_65536, J_65537, J_2147483647, J_neg, c7, xw, yw, c71, ckt, b1s, b2s, lts, un2s, un3s, un4s, un5s, lmr, lml, lgr, lgl, J_add]
        rw [iLE (by decide) (by decide) (by omega) (by omega), if_neg (by omega), b1s, show ((w : Int) + 1) = ((w + 1 : Nat) : Int) by omega]
        generalize hB : pI (pI C1 (q + 1) w (J v)) q 7 (J ((w + 1 : Nat) : Int)) = B
        have fB : fr (fYc q) C1 B := by rw [← hB]; exact fr_t (fr_pI (Or.inr (Or.inr rfl))) (fr_pI (Or.inr (Or.inl ⟨rfl, by omega⟩)))
        have fB6 : fr (fun q _ => 6 ≤ q) C1 B := by rw [← hB]; exact fr_t (fr_pI (by omega)) (fr_pI (by omega))
        have cB : ∀ a j, ¬ (a = q + 1 ∧ j = w) → ¬ (a = q ∧ j = 7) → 6 ≤ a → gI B a j = gI C a j := fun a j h1 h2 h3 => by rw [← hB, rII, if_neg h2, rII, if_neg h1, a4.1 a j (by unfold fC2; omega), rII, if_neg (by omega)]
        have mB : ∀ e, ¬ e = 162 + 6 * p + w → ¬ e = 156 + p → gI M1 4 e = gI M 4 e := fun e h1 h2 => by rw [a5.1 4 e (by unfold fNx; omega), ← hA, rII, if_neg (fun z => h2 z.2), rII, if_neg (fun z => h1 z.2)]
        have fd : ∀ {a e : Nat} {lo hi : Int}, fld C M q a e lo hi → ¬ a = 7 → ¬ e = 162 + 6 * p + w → ¬ e = 156 + p → fld B M1 q a e lo hi := fun hf h1 h2 h3 => fld_c hf (cB _ _ (by omega) (by omega) (by omega)) (mB _ h2 h3)
        refine ⟨1, _, _, rfl, rfl, fr_t (fYc_2 (fr_t (fr_pI (by unfold fC2; omega)) a4)) fB, fr_t (fYm_4 fA) (fYm_2 (fNx_2 a5)), Or.inl ⟨rfl, ⟨k1, a6, rdS_c6 a3 fB6⟩, ⟨fd u2 (by omega) (by omega) (by omega), fd u3 (by omega) (by omega) (by omega), fd u4 (by omega) (by omega) (by omega), fd u5 (by omega) (by omega) (by omega), fd u6 (by omega) (by omega) (by omega), ⟨w + 1, by omega, ?_, ?_, fun j hj => ?_, fun j h1 h2 => (mB _ (by omega) (by omega)).trans (wz j (by omega) h2)⟩, ?_, ?_⟩, ?_⟩⟩
        · rw [← hB, rII, if_pos ⟨rfl, rfl⟩]
        · rw [a5.1 4 _ (by unfold fNx; omega), ← hA, rII, if_pos ⟨rfl, rfl⟩]
        · by_cases z : j = w
          · subst z
            refine ⟨v, ⟨v2, v3⟩, ?_, ?_⟩
            · rw [← hB, rII, if_neg (by omega), rII, if_pos ⟨rfl, rfl⟩]
            · rw [a5.1 4 _ (by unfold fNx; omega), ← hA, rII, if_neg (by omega), rII, if_pos ⟨rfl, rfl⟩]
          · exact fld_c (w4' j (by omega)) (cB _ _ (by omega) (by omega) (by omega)) (mB _ (by omega) (by omega))
        · rw [cB q 8 (by omega) (by omega) (by omega), u8]
        · rw [cB q 9 (by omega) (by omega) (by omega), u9]
        · rw [mB 239 (by omega) (by omega)]
    · subst z
      obtain ⟨C1, q1, q2, q3, q4, q5⟩ := rd_wrong h (f := 3) (by decide)
      rw [if_neg (show ¬ J 1 = J 0 by decide), if_neg (show ¬ J 1 = J 0 by decide), q1, b2s, show isB (J 0) = true by decide, ckt, q2, b1s, b_J118 mbad_13]
      exact ⟨0, _, _, rfl, rfl, fYc_2 q4, fYm_2 q5, Or.inr ⟨rfl, q3⟩⟩
  · obtain ⟨C1, q1, q2, q3, q4, q5⟩ := c_takeN h y (lo := J 0) (hi := J 999)
    rw [if_neg (show ¬ J (tKd b n (tpos b n k)) = J 2 by rw [J_inj (by omega) (by omega) (by decide) (by decide)]; exact fun v => y (tN_k.mp v)), if_neg (show ¬ J (mKd b n (tpos b n k)) = J 3 by rw [J_inj (by omega) (by omega) (by decide) (by decide)]; exact fun v => y (tN_m.mp v)), if_pos trivial, if_pos trivial, q1, b2s, if_pos rfl, q2, b1s]
    exact ⟨0, _, _, rfl, rfl, fYc_2 q4, fYm_2 q5, Or.inr ⟨rfl, q3⟩⟩
end
