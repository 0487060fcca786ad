/-! The cells of the class: put. -/
theorem sm_upd {n a : Nat} {f g : Nat → Int} (ha : a < n) (h : ∀ k, k < n → k ≠ a → g k = f k) : sm n g = sm n f + (g a - f a) := by
  have e : ∀ k, k < n → g k = f k + (if k = a then g a - f a else 0) := by
    intro k hk
    by_cases z : k = a
    · rw [if_pos z, z]; omega
    · rw [if_neg z, h k hk z]; omega
  rw [sm_c e, sm_add, sm_one ha]
theorem first_of {P : Nat → Prop} : ∀ n d : Nat, d < n → P d → ∃ D, D ≤ d ∧ P D ∧ ∀ e, e < D → ¬ P e := by
  intro n
  induction n with
  | zero => intro d h; omega
  | succ n ih =>
    intro d h hd
    rcases Classical.em (∃ e, e < d ∧ P e) with ⟨e, e1, e2⟩ | z
    · obtain ⟨D, g1, g2, g3⟩ := ih e (by omega) e2
      exact ⟨D, by omega, g2, g3⟩
    · exact ⟨d, Nat.le_refl d, hd, fun e e1 e2 => z ⟨e, e1, e2⟩⟩
theorem nz_slot {S : zM} {u : Nat} (h : sm 2048 (fun s => if gI S 222 s = J 0 then 0 else 1) = u) (hu : u ≤ 1000) : ∃ s, s < 2048 ∧ gI S 222 s = J 0 := by
  rcases Classical.em (∃ s, s < 2048 ∧ gI S 222 s = J 0) with z | z
  · exact z
  · exfalso
    have e : ∀ s, s < 2048 → (if gI S 222 s = J 0 then (0 : Int) else 1) = 1 := fun s hs => if_neg (fun w => z ⟨s, hs, w⟩)
    rw [sm_c e, sm_const] at h
    omega
theorem floorMod_J {x : Int} (h0 : 0 ≤ x) (h1 : x ≤ 100000000) : gJ9_floorMod_7cf53 (J x) (J 2048) = some (J (x % 2048)) := by
  unfold gJ9_floorMod_7cf53
  have e1 : decide (¬ J 2048 = 0) = true := by decide
  have e2 : (J 0 : Int32) ≤ (J x ^^^ J 2048) := by
    rw [Int32.le_iff_toInt_le]
    have hx : (J x) = Int32.ofNat x.toNat := by
      unfold J
      rw [← Int32.ofInt_eq_ofNat]
      congr 1
      omega
    have h2 : (J 2048) = Int32.ofNat 2048 := by decide
    rw [hx, h2]
    have e : Int32.ofNat x.toNat ^^^ Int32.ofNat 2048 = Int32.ofNat (x.toNat ^^^ 2048) := by
      apply Int32.toBitVec_inj.mp
      rw [Int32.toBitVec_xor]
      simp only [Int32.toBitVec_ofNat']
      exact (BitVec.ofNat_xor).symm
    have hlt : x.toNat ^^^ 2048 < 2 ^ 27 := Nat.xor_lt_two_pow (by omega) (by decide)
    rw [e, ← Int32.ofInt_eq_ofNat, show (Int32.ofInt ((x.toNat ^^^ 2048 : Nat) : Int)) = J ((x.toNat ^^^ 2048 : Nat) : Int) from rfl, toInt_J (by decide) (by decide), toInt_J (by omega) (by omega)]
    omega
  simp only [J_0, J_1, J_2, J_3, J_4, J_5, J_6, J_7, J_8, J_9, J_10, J_11, J_12, J_14, J_15, J_16, J_19, J_20, J_21, J_22, J_23, J_24, J_25, J_28, J_30, J_31, J_32, J_40, J_44, J_47, J_48, J_49, J_50, J_53, J_54, J_57, J_59, J_74, J_75, J_78, J_84, J_97, J_99, J_100, J_120, J_122, J_126, J_132, J_138, J_144, J_150, J_156, J_162, J_198, J_200, J_202, J_206, J_210, J_214, J_218, J_222, J_226, J_230, J_234, J_238, J_239, J_240, J_241, J_242, J_243, J_255, J_263, J_283, J_303, J_399, J_400, J_401, J_463, J_700, J_701, J_999, J_1000, J_2048, J_4095, J_4096, J_6000, J_9999, J_10000, J_65536, J_65537, J_2147483647, J_neg] at e1 ⊢
  rw [e1, ckt, if_pos e2, J_div h0 (by omega) (by omega) (by omega), J_mul, J_sub]
  congr 2
  omega
section
variable {S : zM} {p k a b : Int} {u h0 : Nat}
/-- a cell has the key that is asked about -/
def keyIs (S : zM) (c : Nat) (p k a b : Int) : Prop := gI S 223 c = J p ∧ gI S 224 c = J k ∧ gI S 225 c = J a ∧ gI S 226 c = J b
theorem c_isOf2 (a3 : gI S 456 3 = J p) (a4 : gI S 456 4 = J k) (a5 : gI S 456 5 = J a) (a6 : gI S 456 6 = J b) {c : Nat} (hc : c < 1000) : (keyIs S c p k a b → gX2_isOf S (J c) = some (J 1)) ∧ (¬ keyIs S c p k a b → gX2_isOf S (J c) = some (J 0)) := by
  have x1 : ixb (J (c : Int)) 1000 = true := ixb_J (by omega) (by omega) (by decide)
  have x2 : ix (J (c : Int)) = c := by rw [ix_J (by omega) (by omega)]; omega
  unfold gX2_isOf keyIs
  simp only [J_0, J_1, J_2, J_3, J_4, J_5, J_6, J_7, J_8, J_9, J_10, J_11, J_12, J_14, J_15, J_16, J_19, J_20, J_21, J_22, J_23, J_24, J_25, J_28, J_30, J_31, J_32, J_40, J_44, J_47, J_48, J_49, J_50, J_53, J_54, J_57, J_59, J_74, J_75, J_78, J_84, J_97, J_99, J_100, J_120, J_122, J_126, J_132, J_138, J_144, J_150, J_156, J_162, J_198, J_200, J_202, J_206, J_210, J_214, J_218, J_222, J_226, J_230, J_234, J_238, J_239, J_240, J_241, J_242, J_243, J_255, J_263, J_283, J_303, J_399, J_400, J_401, J_463, J_700, J_701, J_999, J_1000, J_2048, J_4095, J_4096, J_6000, J_9999, J_10000, J_65536, J_65537, J_2147483647, J_neg, a3, a4, a5, a6, x1, x2, ckt, b1s, b2s, lts, un2s, un3s, un4s, un5s, lmr, lml, lgr, lgl]
  rw [iLT (by omega) (by omega) (by decide) (by decide), iLE (by decide) (by decide) (by omega) (by omega), if_neg (show ¬ (c : Int) < 0 by omega), if_neg (show ¬ (1000 : Int) ≤ c by omega)]
  by_cases e1 : gI S 223 c = J p
  · by_cases e2 : gI S 224 c = J k
    · by_cases e3 : gI S 225 c = J a
      · by_cases e4 : gI S 226 c = J b
        · exact ⟨fun _ => by rw [if_pos e1, if_pos e2, if_pos e3, if_pos e4], fun z => absurd ⟨e1, e2, e3, e4⟩ z⟩
        · exact ⟨fun z => absurd z.2.2.2 e4, fun _ => by rw [if_pos e1, if_pos e2, if_pos e3, if_neg e4]⟩
      · exact ⟨fun z => absurd z.2.2.1 e3, fun _ => by rw [if_pos e1, if_pos e2, if_neg e3]⟩
    · exact ⟨fun z => absurd z.2.1 e2, fun _ => by rw [if_pos e1, if_neg e2]⟩
  · exact ⟨fun z => absurd z.1 e1, fun _ => by rw [if_neg e1]⟩
/-- where the search stops -/
def stopAt (S : zM) (u : Nat) (p k a b : Int) (s : Nat) : Prop := gI S 222 s = J 0 ∨ ∃ c : Nat, c < u ∧ gI S 222 s = J ((c : Int) + 1) ∧ keyIs S c p k a b
theorem c_slot_L (a3 : gI S 456 3 = J p) (a4 : gI S 456 4 = J k) (a5 : gI S 456 5 = J a) (a6 : gI S 456 6 = J b) (hu : u ≤ 1000) (hs : ∀ s : Nat, s < 2048 → gI S 222 s = J 0 ∨ ∃ c : Nat, c < u ∧ gI S 222 s = J ((c : Int) + 1)) (D : Nat) (hD : D < 2048) (h1 : stopAt S u p k a b ((h0 + D) % 2048)) (h2 : ∀ e, e < D → ¬ stopAt S u p k a b ((h0 + e) % 2048)) : ∀ (n d : Nat), d ≤ D → D < n + d → gX2_slotOf_L44 S n (J ((h0 + d) % 2048 : Nat)) (J d) = some (J ((h0 + D) % 2048 : Nat)) := by
  intro n
  induction n with
  | zero => intro d g1 g2; omega
  | succ n ih =>
    intro d g1 g2
    generalize hs0 : (h0 + d) % 2048 = s0
    have hs1 : s0 < 2048 := by omega
    have x1 : ixb (J (s0 : Int)) 2048 = true := ixb_J (by omega) (by omega) (by decide)
    have x2 : ix (J (s0 : Int)) = s0 := by rw [ix_J (by omega) (by omega)]; omega
    unfold gX2_slotOf_L44
    simp only [J_0, J_1, J_2, J_3, J_4, J_5, J_6, J_7, J_8, J_9, J_10, J_11, J_12, J_14, J_15, J_16, J_19, J_20, J_21, J_22, J_23, J_24, J_25, J_28, J_30, J_31, J_32, J_40, J_44, J_47, J_48, J_49, J_50, J_53, J_54, J_57, J_59, J_74, J_75, J_78, J_84, J_97, J_99, J_100, J_120, J_122, J_126, J_132, J_138, J_144, J_150, J_156, J_162, J_198, J_200, J_202, J_206, J_210, J_214, J_218, J_222, J_226, J_230, J_234, J_238, J_239, J_240, J_241, J_242, J_243, J_255, J_263, J_283, J_303, J_399, J_400, J_401, J_463, J_700, J_701, J_999, J_1000, J_2048, J_4095, J_4096, J_6000, J_9999, J_10000, J_65536, J_65537, J_2147483647, J_neg, x1, x2, ckt, b1s, b2s, lts, un2s, un3s, un4s, un5s, lmr, lml, lgr, lgl]
    rw [iLE (by decide) (by decide) (by omega) (by omega), if_neg (show ¬ (2048 : Int) ≤ d by omega)]
    have next : ¬ d = D → gX2_slotOf_L44 S n (J (s0 : Int) + J 1 - (J (s0 : Int) + J 1) / J 2048 * J 2048) (J (d : Int) + J 1) = some (J ((h0 + D) % 2048 : Nat)) := by
      intro z
      have := ih (d + 1) (by omega) (by omega)
      rw [J_add, J_add, J_div (by omega) (by omega) (by omega) (by omega), J_mul, J_sub, show (d : Int) + 1 = ((d + 1 : Nat) : Int) by omega, show (s0 : Int) + 1 - ((s0 : Int) + 1) / 2048 * 2048 = (((h0 + (d + 1)) % 2048 : Nat) : Int) by omega]
      exact this
    rcases hs s0 hs1 with z | ⟨c, c1, c2⟩
    · rw [if_pos z]
      by_cases e : d = D
      · subst e
        rw [hs0]
      · exact absurd (Or.inl (by rw [hs0]; exact z)) (h2 d (by omega))
    · have hne : ¬ gI S 222 s0 = J 0 := by
        rw [c2, J_inj (by omega) (by omega) (by decide) (by decide)]
        omega
      rw [if_neg hne, c2, J_sub, show (c : Int) + 1 - 1 = c by omega]
      have hk := c_isOf2 a3 a4 a5 a6 (c := c) (by omega)
      rcases Classical.em (keyIs S c p k a b) with y | y
      · rw [hk.1 y, b1s, if_neg (show ¬ J 1 = J 0 by decide)]
        by_cases e : d = D
        · subst e
          rw [hs0]
        · exact absurd (Or.inr ⟨c, c1, by rw [hs0]; exact c2, y⟩) (h2 d (by omega))
      · rw [hk.2 y, b1s, if_pos rfl]
        refine next (fun e => ?_)
        subst e
        rw [hs0] at h1
        rcases h1 with w | ⟨c', w1, w2, w3⟩
        · exact hne w
        · rw [c2, J_inj (by omega) (by omega) (by omega) (by omega)] at w2
          have : c = c' := by omega
          subst this
          exact y w3
theorem hsh_b (p k a b : Int) : hsh p k a b < 2048 := by unfold hsh; omega
theorem c_slotOf (a3 : gI S 456 3 = J p) (a4 : gI S 456 4 = J k) (a5 : gI S 456 5 = J a) (a6 : gI S 456 6 = J b) (hp : 0 ≤ p ∧ p < 6) (hk : 0 ≤ k ∧ k ≤ 1) (ha : 0 ≤ a ∧ a ≤ 400) (hb : 0 ≤ b ∧ b ≤ 400) (hu : u ≤ 1000) (hs : ∀ s : Nat, s < 2048 → gI S 222 s = J 0 ∨ ∃ c : Nat, c < u ∧ gI S 222 s = J ((c : Int) + 1)) (hcnt : sm 2048 (fun s => if gI S 222 s = J 0 then 0 else 1) = u) : ∃ D : Nat, D < 2048 ∧ stopAt S u p k a b ((hsh p k a b + D) % 2048) ∧ (∀ e, e < D → ¬ stopAt S u p k a b ((hsh p k a b + e) % 2048)) ∧ gX2_slotOf S = some (J ((hsh p k a b + D) % 2048 : Nat)) := by
  have hh := hsh_b p k a b
  obtain ⟨s, s1, s2⟩ := nz_slot hcnt hu
  obtain ⟨D, d1, d2, d3⟩ := first_of (P := fun d => stopAt S u p k a b ((hsh p k a b + d) % 2048)) 2048 ((s + 2048 - hsh p k a b) % 2048) (by omega) (Or.inl (by
    have : (hsh p k a b + (s + 2048 - hsh p k a b) % 2048) % 2048 = s := by omega
    rw [this]
    exact s2))
  have hD : D < 2048 := by omega
  refine ⟨D, hD, d2, d3, ?_⟩
  have := c_slot_L a3 a4 a5 a6 hu hs D hD d2 d3 FU 0 (by omega) (by have := FUs (n := 2050) (by omega); omega)
  unfold gX2_slotOf
  simp only [J_0, J_1, J_2, J_3, J_4, J_5, J_6, J_7, J_8, J_9, J_10, J_11, J_12, J_14, J_15, J_16, J_19, J_20, J_21, J_22, J_23, J_24, J_25, J_28, J_30, J_31, J_32, J_40, J_44, J_47, J_48, J_49, J_50, J_53, J_54, J_57, J_59, J_74, J_75, J_78, J_84, J_97, J_99, J_100, J_120, J_122, J_126, J_132, J_138, J_144, J_150, J_156, J_162, J_198, J_200, J_202, J_206, J_210, J_214, J_218, J_222, J_226, J_230, J_234, J_238, J_239, J_240, J_241, J_242, J_243, J_255, J_263, J_283, J_303, J_399, J_400, J_401, J_463, J_700, J_701, J_999, J_1000, J_2048, J_4095, J_4096, J_6000, J_9999, J_10000, J_65536, J_65537, J_2147483647, J_neg, J_neg, J_add, J_sub, J_mul, a3, a4, a5, a6, ckt, b1s, b2s, lts, un2s, un3s, un4s, un5s, lmr, lml, lgr, lgl]
  rw [floorMod_J (by omega) (by omega), b1s]
  rw [Nat.add_zero, Nat.mod_eq_of_lt hh] at this
  have e : ((((p * 2 + k) * 401 + a) * 401 + b) * 31 % 2048) = (hsh p k a b : Int) := by unfold hsh; omega
  rw [e]
  exact this
end
