/-! All senses settled; the model's levels. -/
def fLv (H x : Nat) : Prop := H + 7 ≤ x ∧ x ≤ H + 192 ∧ ((x - H - 7) % 31 = 5 ∨ 7 ≤ (x - H - 7) % 31)
section
variable {C M : zM} {q s m w H ns : Nat}
theorem sSt_i {j : Nat} (h : sSt C M q s j) : stOK (iI C (q + 1) j) (iI C (q + 2) j) (iI C (q + 3) j) ∧ gI M 4 (6 + 4 * s + j) = J (iI C (q + 1) j) ∧ gI M 4 (30 + 4 * s + j) = J (iI C (q + 2) j) ∧ (iI C (q + 1) j = 1 ∨ iI C (q + 1) j = 2 → gI M 4 (54 + 4 * s + j) = J (iI C (q + 3) j)) := by
  obtain ⟨kd, a, c, h1, h2, h3, h4, h5, h6⟩ := h
  have e1 : iI C (q + 1) j = kd := iI_of h1 (by omega) (by omega)
  have e2 : iI C (q + 2) j = a := iI_of h2 (by omega) (by omega)
  rw [e1, e2]
  refine ⟨?_, h4, h5, fun z => ?_⟩
  · unfold stOK
    rcases h6 with ⟨g1, g2, g3⟩ | ⟨g1, g2, g3, g4⟩ | ⟨g1, g2, g3, g4⟩ | ⟨g1, g2, g3⟩
    · exact Or.inl ⟨g1, g2, g3⟩
    · have e3 : iI C (q + 3) j = c := iI_of h3 (by omega) (by omega)
      rw [e3]
      exact Or.inr (Or.inl ⟨g1, g2, g3⟩)
    · have e3 : iI C (q + 3) j = c := iI_of h3 (by omega) (by omega)
      rw [e3]
      exact Or.inr (Or.inr (Or.inl ⟨g1, g2, g3⟩))
    · exact Or.inr (Or.inr (Or.inr ⟨g1, g2, g3⟩))
  · rcases h6 with ⟨g1, g2, g3⟩ | ⟨g1, g2, g3, g4⟩ | ⟨g1, g2, g3, g4⟩ | ⟨g1, g2, g3⟩
    · omega
    · rw [iI_of h3 (show -2147483648 ≤ c by omega) (by omega)]; exact g4
    · rw [iI_of h3 (show -2147483648 ≤ c by omega) (by omega)]; exact g4
    · omega
/-- the level of a size, by what the class has read -/
def lvC (C : zM) (q m : Nat) (x : Int) : Int := lvF (fun j => iI C (q + 1) j) (fun j => iI C (q + 2) j) (fun j => iI C (q + 3) j) m x
def wsC (C : zM) (q : Nat) (j : Nat) : Int := iI C (q + 4) j
def stl (C S : zM) (q m w : Nat) : Prop := (∀ x : Nat, x < 401 → gI S (q + 5) x = J (lvC C q m x)) ∧ ∀ i, i < w → nzC S (q + 7 + 4 * i) (oF (wsC C q) (i + 1))
theorem c_settleS {S : zM} (h1 : sP C M q s m) (h2 : wP C M q s w) (f : ∀ x k, q ≤ x → x ≤ q + 4 → gI S x k = gI C x k) : ∃ S', gX9_settle S q = some S' ∧ fr (fun x _ => x = q + 5 ∨ (q + 7 ≤ x ∧ x ≤ q + 30)) S S' ∧ stl C S' q m w := by
  obtain ⟨a1, a2, a3, a4⟩ := h1
  obtain ⟨b1', b2', b3', b4', b5'⟩ := h2
  exact c_settle1 (C := S) (q := q) (m := m) (w := w) (kd := fun j => iI C (q + 1) j) (a := fun j => iI C (q + 2) j) (c := fun j => iI C (q + 3) j) (wF := wsC C q) a1 b1'.2 ((f q 6 (by omega) (by omega)).trans a2) ((f q 7 (by omega) (by omega)).trans b2') (fun j hj => ⟨(sSt_i (a4 j hj)).1, (f _ j (by omega) (by omega)).trans (gI_J _ _ _), (f _ j (by omega) (by omega)).trans (gI_J _ _ _), (f _ j (by omega) (by omega)).trans (gI_J _ _ _)⟩) (fun j hj => (f _ j (by omega) (by omega)).trans (gI_J _ _ _))
theorem stl_c {S S' : zM} (h : stl C S q m w) (hw : w ≤ 6) (f : ∀ x k, q + 5 ≤ x → x ≤ q + 30 → gI S' x k = gI S x k) : stl C S' q m w := ⟨fun x hx => (f _ x (by omega) (by omega)).trans (h.1 x hx), fun i hi => nzC_w (h.2 i hi) (fun x k h1 h2 => f x k (by omega) (by omega))⟩
theorem c_settle_L (hns : ns ≤ 6) (h6 : gI C H 6 = J ns) (hs : ∀ s, s < ns → ∃ m w, sP C M (H + 7 + 31 * s) s m ∧ wP C M (H + 7 + 31 * s) s w) : ∀ (f v : Nat) (S : zM), v ≤ ns → ns < f + v → fr (fun x _ => fLv H x) C S → (∀ s, s < v → ∃ m w, sP C M (H + 7 + 31 * s) s m ∧ wP C M (H + 7 + 31 * s) s w ∧ stl C S (H + 7 + 31 * s) m w) → ∃ S', gX3_settle_L2 H f S (J v) = some S' ∧ fr (fun x _ => fLv H x) C S' ∧ ∀ s, s < ns → ∃ m w, sP C M (H + 7 + 31 * s) s m ∧ wP C M (H + 7 + 31 * s) s w ∧ stl C S' (H + 7 + 31 * s) m w := by
  intro f
  induction f with
  | zero => intro v S h1 h2; omega
  | succ f ih =>
    intro v S h1 h2 g hS
    unfold gX3_settle_L2
    simp only [J_0, J_1, J_2, J_3, J_4, J_5, J_6, J_7, J_8, J_9, J_10, J_11, J_12, J_14, J_15, J_16, J_19, J_20, J_21, J_22, J_23, J_24, J_25, J_28, J_30, J_31, J_32, J_40, J_44, J_47, J_48, J_49, J_50, J_53, J_54, J_57, J_59, J_74, J_75, J_78, J_84, J_97, J_99, J_100, J_120, J_122, J_126, J_132, J_138, J_144, J_150, J_156, J_162, J_198, J_200, J_202, J_206, J_210, J_214, J_218, J_222, J_226, J_230, J_234, J_238, J_239, J_240, J_241, J_242, J_243, J_255, J_263, J_283, J_303, J_399, J_400, J_401, J_463, J_700, J_701, J_999, J_1000, J_2048, J_4095, J_4096, J_6000, J_9999, J_10000, J_65536, J_65537, J_2147483647, J_neg]
    rw [g.1 H 6 (by unfold fLv; omega), h6, iLE (by omega) (by omega) (by omega) (by omega)]
    by_cases e : v = ns
    · rw [if_pos (by omega), ← e]
      exact ⟨S, rfl, g, hS⟩
    · have a1 : J (v : Int) + J 1 = J ((v + 1 : Nat) : Int) := by rw [J_add]; rfl
      obtain ⟨m, w, p1, p2⟩ := hs v (by omega)
      obtain ⟨S1, d1, d2, d3⟩ := c_settleS (S := S) p1 p2 (fun x k x1 x2 => g.1 x k (by unfold fLv; omega))
      have hw := p2.1.2
      rw [if_neg (by omega), iLE (by decide) (by decide) (by omega) (by omega), if_neg (by omega), ixb_J (by omega) (by omega) (by omega), ckt, ix_J (by omega) (by omega), Int.toNat_natCast, d1, b1s, a1]
      refine ih (v + 1) S1 (by omega) (by omega) (fr_t g (fr_w d2 (fun x k z => by unfold fLv; omega))) (fun s hs' => ?_)
      by_cases z : s = v
      · subst z
        exact ⟨m, w, p1, p2, d3⟩
      · obtain ⟨m', w', q1, q2, q3⟩ := hS s (by omega)
        exact ⟨m', w', q1, q2, stl_c q3 q2.1.2 (fun x k x1 x2 => d2.1 x k (by omega))⟩
theorem c_settleA (hns : ns ≤ 6) (h6 : gI C H 6 = J ns) (hs : ∀ s, s < ns → ∃ m w, sP C M (H + 7 + 31 * s) s m ∧ wP C M (H + 7 + 31 * s) s w) : ∃ S', gX3_settle C H = some S' ∧ fr (fun x _ => fLv H x) C S' ∧ ∀ s, s < ns → ∃ m w, sP C M (H + 7 + 31 * s) s m ∧ wP C M (H + 7 + 31 * s) s w ∧ stl C S' (H + 7 + 31 * s) m w := by
  have hf := FUs (n := 100) (by omega)
  unfold gX3_settle
  simp only [J_0, J_1, J_2, J_3, J_4, J_5, J_6, J_7, J_8, J_9, J_10, J_11, J_12, J_14, J_15, J_16, J_19, J_20, J_21, J_22, J_23, J_24, J_25, J_28, J_30, J_31, J_32, J_40, J_44, J_47, J_48, J_49, J_50, J_53, J_54, J_57, J_59, J_74, J_75, J_78, J_84, J_97, J_99, J_100, J_120, J_122, J_126, J_132, J_138, J_144, J_150, J_156, J_162, J_198, J_200, J_202, J_206, J_210, J_214, J_218, J_222, J_226, J_230, J_234, J_238, J_239, J_240, J_241, J_242, J_243, J_255, J_263, J_283, J_303, J_399, J_400, J_401, J_463, J_700, J_701, J_999, J_1000, J_2048, J_4095, J_4096, J_6000, J_9999, J_10000, J_65536, J_65537, J_2147483647, J_neg]
  exact c_settle_L hns h6 hs FU 0 C (by omega) (by omega) fr_r (fun s hs => absurd hs (by omega))
/-! the model's loops -/
theorem m_L39 {v1 : Int32} : ∀ (f v : Nat) (S : zM), v ≤ 463 → 463 < f + v → fr (fun x _ => x = 4) M S → (∀ x : Nat, x < v → gI S 4 x = J 0) → ∃ S', gX12_room_L39 v1 f S (J v) = some S' ∧ fr (fun x _ => x = 4) M S' ∧ ∀ x : Nat, x < 463 → gI S' 4 x = J 0 := by
  intro f
  induction f with
  | zero => intro v S h1 h2; omega
  | succ f ih =>
    intro v S h1 h2 g hS
    unfold gX12_room_L39
    simp only [J_0, J_1, J_2, J_3, J_4, J_5, J_6, J_7, J_8, J_9, J_10, J_11, J_12, J_14, J_15, J_16, J_19, J_20, J_21, J_22, J_23, J_24, J_25, J_28, J_30, J_31, J_32, J_40, J_44, J_47, J_48, J_49, J_50, J_53, J_54, J_57, J_59, J_74, J_75, J_78, J_84, J_97, J_99, J_100, J_120, J_122, J_126, J_132, J_138, J_144, J_150, J_156, J_162, J_198, J_200, J_202, J_206, J_210, J_214, J_218, J_222, J_226, J_230, J_234, J_238, J_239, J_240, J_241, J_242, J_243, J_255, J_263, J_283, J_303, J_399, J_400, J_401, J_463, J_700, J_701, J_999, J_1000, J_2048, J_4095, J_4096, J_6000, J_9999, J_10000, J_65536, J_65537, J_2147483647, J_neg]
    rw [iLE (by decide) (by decide) (by omega) (by omega)]
    by_cases e : v = 463
    · rw [if_pos (by omega)]
      exact ⟨S, rfl, g, fun x hx => hS x (by omega)⟩
    · have a1 : J (v : Int) + J 1 = J ((v + 1 : Nat) : Int) := by rw [J_add]; rfl
      rw [if_neg (by omega), ixb_J (by omega) (by omega) (by omega), ckt, ix_J (by omega) (by omega), Int.toNat_natCast, a1]
      refine ih (v + 1) _ (by omega) (by omega) (fr_t g (fr_pI rfl)) (fun x hx => ?_)
      rw [rII]
      by_cases z : x = v
      · rw [if_pos ⟨rfl, z⟩]
      · rw [if_neg (fun y => z y.2)]
        exact hS x (by omega)
theorem m_L170 : ∀ (f v : Nat) (S : zM), v ≤ 463 → 463 < f + v → fr (fun x _ => x = 3) M S → (∀ x : Nat, x < v → gI S 3 x = gI M 4 x) → ∃ S', gX12_room_L170 f S (J v) = some S' ∧ fr (fun x _ => x = 3) M S' ∧ ∀ x : Nat, x < 463 → gI S' 3 x = gI M 4 x := by
  intro f
  induction f with
  | zero => intro v S h1 h2; omega
  | succ f ih =>
    intro v S h1 h2 g hS
    unfold gX12_room_L170
    simp only [J_0, J_1, J_2, J_3, J_4, J_5, J_6, J_7, J_8, J_9, J_10, J_11, J_12, J_14, J_15, J_16, J_19, J_20, J_21, J_22, J_23, J_24, J_25, J_28, J_30, J_31, J_32, J_40, J_44, J_47, J_48, J_49, J_50, J_53, J_54, J_57, J_59, J_74, J_75, J_78, J_84, J_97, J_99, J_100, J_120, J_122, J_126, J_132, J_138, J_144, J_150, J_156, J_162, J_198, J_200, J_202, J_206, J_210, J_214, J_218, J_222, J_226, J_230, J_234, J_238, J_239, J_240, J_241, J_242, J_243, J_255, J_263, J_283, J_303, J_399, J_400, J_401, J_463, J_700, J_701, J_999, J_1000, J_2048, J_4095, J_4096, J_6000, J_9999, J_10000, J_65536, J_65537, J_2147483647, J_neg]
    rw [iLE (by decide) (by decide) (by omega) (by omega)]
    by_cases e : v = 463
    · rw [if_pos (by omega)]
      exact ⟨S, rfl, g, fun x hx => hS x (by omega)⟩
    · have a1 : J (v : Int) + J 1 = J ((v + 1 : Nat) : Int) := by rw [J_add]; rfl
      rw [if_neg (by omega), ixb_J (by omega) (by omega) (by omega), ckt, ckt, ix_J (by omega) (by omega), Int.toNat_natCast, a1, g.1 4 v (by omega)]
      refine ih (v + 1) _ (by omega) (by omega) (fr_t g (fr_pI rfl)) (fun x hx => ?_)
      rw [rII]
      by_cases z : x = v
      · rw [if_pos ⟨rfl, z⟩, z]
      · rw [if_neg (fun y => z y.2)]
        exact hS x (by omega)
theorem m_L212 : ∀ (f v : Nat) (S : zM), v ≤ 6 → 6 < f + v → fr (fun x _ => x = 6 ∨ x = 7) M S → (∀ x : Nat, x < v → gI S 6 x = J 0 ∧ gI S 7 x = J 0) → ∃ S', gX12_room_L212 f S (J v) = some S' ∧ fr (fun x _ => x = 6 ∨ x = 7) M S' ∧ ∀ x : Nat, x < 6 → gI S' 6 x = J 0 ∧ gI S' 7 x = J 0 := by
  intro f
  induction f with
  | zero => intro v S h1 h2; omega
  | succ f ih =>
    intro v S h1 h2 g hS
    unfold gX12_room_L212
    simp only [J_0, J_1, J_2, J_3, J_4, J_5, J_6, J_7, J_8, J_9, J_10, J_11, J_12, J_14, J_15, J_16, J_19, J_20, J_21, J_22, J_23, J_24, J_25, J_28, J_30, J_31, J_32, J_40, J_44, J_47, J_48, J_49, J_50, J_53, J_54, J_57, J_59, J_74, J_75, J_78, J_84, J_97, J_99, J_100, J_120, J_122, J_126, J_132, J_138, J_144, J_150, J_156, J_162, J_198, J_200, J_202, J_206, J_210, J_214, J_218, J_222, J_226, J_230, J_234, J_238, J_239, J_240, J_241, J_242, J_243, J_255, J_263, J_283, J_303, J_399, J_400, J_401, J_463, J_700, J_701, J_999, J_1000, J_2048, J_4095, J_4096, J_6000, J_9999, J_10000, J_65536, J_65537, J_2147483647, J_neg]
    rw [iLE (by decide) (by decide) (by omega) (by omega)]
    by_cases e : v = 6
    · rw [if_pos (by omega)]
      exact ⟨S, rfl, g, fun x hx => hS x (by omega)⟩
    · have a1 : J (v : Int) + J 1 = J ((v + 1 : Nat) : Int) := by rw [J_add]; rfl
      rw [if_neg (by omega), ixb_J (by omega) (by omega) (by omega), ckt, ckt, ix_J (by omega) (by omega), Int.toNat_natCast, a1]
      refine ih (v + 1) _ (by omega) (by omega) (fr_t g (fr_t (fr_pI (Or.inl rfl)) (fr_pI (Or.inr rfl)))) (fun x hx => ?_)
      by_cases z : x = v
      · refine ⟨?_, ?_⟩
        · rw [rII, if_neg (by omega), rII, if_pos ⟨rfl, z⟩]
        · rw [rII, if_pos ⟨rfl, z⟩]
      · obtain ⟨o1, o2⟩ := hS x (by omega)
        refine ⟨?_, ?_⟩
        · rw [rII, if_neg (by omega), rII, if_neg (by omega), o1]
        · rw [rII, if_neg (by omega), rII, if_neg (by omega), o2]
theorem m_L254 {L : Int → Int} (hs : s < 6) (hL : ∀ S : zM, fr (fun x _ => x = 5) M S → ∀ x : Nat, x ≤ 400 → gX12_reckoned S (J s) (J x) = some (J (L x))) : ∀ (f v : Nat) (S : zM), v ≤ 401 → 401 < f + v → fr (fun x _ => x = 5) M S → (∀ x : Nat, x < v → gI S 5 (401 * s + x) = J (L x)) → ∃ S', gX12_room_L254 (J s) f S (J v) = some S' ∧ fr (fun x k => x = 5 ∧ 401 * s ≤ k ∧ k ≤ 401 * s + 400) S S' ∧ ∀ x : Nat, x < 401 → gI S' 5 (401 * s + x) = J (L x) := by
  intro f
  induction f with
  | zero => intro v S h1 h2; omega
  | succ f ih =>
    intro v S h1 h2 g hS
    unfold gX12_room_L254
    simp only [J_0, J_1, J_2, J_3, J_4, J_5, J_6, J_7, J_8, J_9, J_10, J_11, J_12, J_14, J_15, J_16, J_19, J_20, J_21, J_22, J_23, J_24, J_25, J_28, J_30, J_31, J_32, J_40, J_44, J_47, J_48, J_49, J_50, J_53, J_54, J_57, J_59, J_74, J_75, J_78, J_84, J_97, J_99, J_100, J_120, J_122, J_126, J_132, J_138, J_144, J_150, J_156, J_162, J_198, J_200, J_202, J_206, J_210, J_214, J_218, J_222, J_226, J_230, J_234, J_238, J_239, J_240, J_241, J_242, J_243, J_255, J_263, J_283, J_303, J_399, J_400, J_401, J_463, J_700, J_701, J_999, J_1000, J_2048, J_4095, J_4096, J_6000, J_9999, J_10000, J_65536, J_65537, J_2147483647, J_neg]
    rw [iLE (by decide) (by decide) (by omega) (by omega)]
    by_cases e : v = 401
    · rw [if_pos (by omega)]
      exact ⟨S, rfl, fr_r, fun x hx => hS x (by omega)⟩
    · have a1 : J (v : Int) + J 1 = J ((v + 1 : Nat) : Int) := by rw [J_add]; rfl
      have a2 : J 401 * J (s : Int) + J (v : Int) = J ((401 * s + v : Nat) : Int) := by rw [J_mul, J_add]; congr 1
      rw [if_neg (by omega), hL S g v (by omega), b1s, a2, ixb_J (by omega) (by omega) (by omega), ckt, ix_J (by omega) (by omega), Int.toNat_natCast, a1]
      obtain ⟨S', i1, i2, i3⟩ := ih (v + 1) (pI S 5 (401 * s + v) (J (L v))) (by omega) (by omega) (fr_t g (fr_pI rfl)) (fun x hx => by
        rw [rII]
        by_cases z : x = v
        · rw [if_pos ⟨rfl, by omega⟩, z]
        · rw [if_neg (by omega)]
          exact hS x (by omega))
      exact ⟨S', i1, fr_t (fr_pI ⟨rfl, by omega, by omega⟩) i2, i3⟩
theorem m_L240 {L : Nat → Int → Int} (hns : ns ≤ 6) (h3 : gI M 3 238 = J ns) (hL : ∀ s, s < ns → ∀ S : zM, fr (fun x _ => x = 5) M S → ∀ x : Nat, x ≤ 400 → gX12_reckoned S (J s) (J x) = some (J (L s x))) : ∀ (f v : Nat) (S : zM), v ≤ ns → ns < f + v → fr (fun x _ => x = 5) M S → (∀ s, s < v → ∀ x : Nat, x < 401 → gI S 5 (401 * s + x) = J (L s x)) → ∃ S', gX12_room_L240 f S (J v) = some (J ns, S') ∧ fr (fun x _ => x = 5) M S' ∧ ∀ s, s < ns → ∀ x : Nat, x < 401 → gI S' 5 (401 * s + x) = J (L s x) := by
  intro f
  induction f with
  | zero => intro v S h1 h2; omega
  | succ f ih =>
    intro v S h1 h2 g hS
    have hf := FUs (n := 1000) (by omega)
    unfold gX12_room_L240
    simp only [J_0, J_1, J_2, J_3, J_4, J_5, J_6, J_7, J_8, J_9, J_10, J_11, J_12, J_14, J_15, J_16, J_19, J_20, J_21, J_22, J_23, J_24, J_25, J_28, J_30, J_31, J_32, J_40, J_44, J_47, J_48, J_49, J_50, J_53, J_54, J_57, J_59, J_74, J_75, J_78, J_84, J_97, J_99, J_100, J_120, J_122, J_126, J_132, J_138, J_144, J_150, J_156, J_162, J_198, J_200, J_202, J_206, J_210, J_214, J_218, J_222, J_226, J_230, J_234, J_238, J_239, J_240, J_241, J_242, J_243, J_255, J_263, J_283, J_303, J_399, J_400, J_401, J_463, J_700, J_701, J_999, J_1000, J_2048, J_4095, J_4096, J_6000, J_9999, J_10000, J_65536, J_65537, J_2147483647, J_neg, show ixb (J 238) 463 = true by decide, show ix (J 238) = 238 by decide, ckt]
    rw [g.1 3 238 (by omega), h3, iLE (by omega) (by omega) (by omega) (by omega)]
    by_cases e : v = ns
    · rw [if_pos (by omega), ← e]
      exact ⟨S, rfl, g, hS⟩
    · have a1 : J (v : Int) + J 1 = J ((v + 1 : Nat) : Int) := by rw [J_add]; rfl
      obtain ⟨S1, d1, d2, d3⟩ := m_L254 (M := S) (s := v) (L := L v) (by omega) (fun S' f' x hx => hL v (by omega) S' (fr_t g f') x hx) FU 0 S (by omega) (by omega) fr_r (fun x hx => absurd hx (by omega))
      rw [show J ((0 : Nat) : Int) = J 0 from rfl] at d1
      rw [if_neg (by omega), d1, b1s, a1]
      refine ih (v + 1) S1 (by omega) (by omega) (fr_t g (fr_w d2 (fun x k z => z.1))) (fun s hs x hx => ?_)
      by_cases z : s = v
      · rw [z]; exact d3 x hx
      · rw [d2.1 5 _ (by omega)]
        exact hS s (by omega) x hx
end
