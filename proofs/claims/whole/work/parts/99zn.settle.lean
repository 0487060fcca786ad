/-! A sense settled: its levels and its noises. -/
def lvF (kd a c : Nat → Int) : Nat → Int → Int
  | 0, x => x
  | j + 1, x => stF (kd j) (a j) (c j) (lvF kd a c j x)
section
variable {C : zM} {q m w : Nat} {kd a c : Nat → Int} {wF : Nat → Int}
theorem lvF_s {j : Nat} {x : Int} : lvF kd a c (j + 1) x = stF (kd j) (a j) (c j) (lvF kd a c j x) := rfl
theorem lvF_b (h : ∀ j, j < m → stOK (kd j) (a j) (c j)) {x : Int} (hx : 0 ≤ x ∧ x ≤ 400) : ∀ j, j ≤ m → 0 ≤ lvF kd a c j x ∧ lvF kd a c j x ≤ 9999 := by
  intro j
  induction j with
  | zero => intro _; show 0 ≤ x ∧ x ≤ 9999; omega
  | succ j ih => intro hj; exact stF_b (h j (by omega)) (ih (by omega))
theorem lvF_m (h : ∀ j, j < m → stOK (kd j) (a j) (c j)) {x y : Int} (hx : 0 ≤ x) (hy : x ≤ y) (h4 : y ≤ 400) : ∀ j, j ≤ m → lvF kd a c j x ≤ lvF kd a c j y := by
  intro j
  induction j with
  | zero => intro _; exact hy
  | succ j ih => intro hj; exact stF_m (h j (by omega)) (lvF_b h (by omega) j (by omega)).1 (ih (by omega))
theorem nzC_w {C' : zM} {q : Nat} {o : Nat → Int} (h : nzC C q o) (c : ∀ x k, q ≤ x → x ≤ q + 3 → gI C' x k = gI C x k) : nzC C' q o := by
  obtain ⟨h1, h2, h3, h4⟩ := h
  exact ⟨(c q 3 (by omega) (by omega)).trans h1, fun i hi => (c _ i (by omega) (by omega)).trans (h2 i hi), fun i hi => (c _ i (by omega) (by omega)).trans (h3 i hi), fun i hi => (c _ i (by omega) (by omega)).trans (h4 i hi)⟩
theorem c_settle2 : ∀ (f v : Nat) (S : zM), v ≤ 401 → 401 < f + v → fr (fun x _ => x = q + 5) C S → (∀ x : Nat, x < v → gI S (q + 5) x = J x) → ∃ S', gX9_settle_L2 q f S (J v) = some S' ∧ fr (fun x _ => x = q + 5) C S' ∧ ∀ x : Nat, x < 401 → gI S' (q + 5) x = J x := by
  intro f
  induction f with
  | zero => intro v S h1 h2; omega
  | succ f ih =>
    intro v S h1 h2 g hS
    unfold gX9_settle_L2
    simp only [J_0, J_1, J_2, J_3, J_4, J_5, J_6, J_7, J_8, J_9, J_10, J_11, J_12, J_14, J_15, J_16, J_19, J_20, J_21, J_22, J_23, J_24, J_25, J_28, J_30, J_31, J_32, J_40, J_44, J_47, J_48, J_49, J_50, J_53, J_54, J_57, J_59, J_74, J_75, J_78, J_84, J_97, J_99, J_100, J_120, J_122, J_126, J_132, J_138, J_144, J_150, J_156, J_162, J_198, J_200, J_202, J_206, J_210, J_214, J_218, J_222, J_226, J_230, J_234, J_238, J_239, J_240, J_241, J_242, J_243, J_255, J_263, J_283, J_303, J_399, J_400, J_401, J_463, J_700, J_701, J_999, J_1000, J_2048, J_4095, J_4096, J_6000, J_9999, J_10000, J_65536, J_65537, J_2147483647, J_neg]
    rw [iLT (by decide) (by decide) (by omega) (by omega)]
    by_cases e : v = 401
    · rw [if_pos (by omega)]
      exact ⟨S, rfl, g, fun x hx => hS x (by omega)⟩
    · have a1 : J (v : Int) + J 1 = J ((v + 1 : Nat) : Int) := by rw [J_add]; rfl
      rw [if_neg (by omega), ixb_J (by omega) (by omega) (by omega), ckt, ix_J (by omega) (by omega), Int.toNat_natCast, a1]
      refine ih (v + 1) _ (by omega) (by omega) (fr_t g (fr_pI rfl)) (fun x hx => ?_)
      rw [rII]
      by_cases z : x = v
      · rw [if_pos ⟨rfl, z⟩, z]
      · rw [if_neg (fun y => z y.2)]
        exact hS x (by omega)
theorem c_settle24 (hm : m ≤ 4) (h6 : gI C q 6 = J m) (hs : ∀ j, j < m → stOK (kd j) (a j) (c j) ∧ gI C (q + 1) j = J (kd j) ∧ gI C (q + 2) j = J (a j) ∧ gI C (q + 3) j = J (c j)) : ∀ (f j : Nat) (S : zM), j ≤ m → m < f + j → fr (fun x _ => x = q + 5) C S → (∀ x : Nat, x < 401 → gI S (q + 5) x = J (lvF kd a c j x)) → ∃ S', gX9_settle_L24 q f S (J j) = some S' ∧ fr (fun x _ => x = q + 5) C S' ∧ ∀ x : Nat, x < 401 → gI S' (q + 5) x = J (lvF kd a c m x) := by
  intro f
  induction f with
  | zero => intro j S h1 h2; omega
  | succ f ih =>
    intro j S h1 h2 g hS
    unfold gX9_settle_L24
    simp only [J_0, J_1, J_2, J_3, J_4, J_5, J_6, J_7, J_8, J_9, J_10, J_11, J_12, J_14, J_15, J_16, J_19, J_20, J_21, J_22, J_23, J_24, J_25, J_28, J_30, J_31, J_32, J_40, J_44, J_47, J_48, J_49, J_50, J_53, J_54, J_57, J_59, J_74, J_75, J_78, J_84, J_97, J_99, J_100, J_120, J_122, J_126, J_132, J_138, J_144, J_150, J_156, J_162, J_198, J_200, J_202, J_206, J_210, J_214, J_218, J_222, J_226, J_230, J_234, J_238, J_239, J_240, J_241, J_242, J_243, J_255, J_263, J_283, J_303, J_399, J_400, J_401, J_463, J_700, J_701, J_999, J_1000, J_2048, J_4095, J_4096, J_6000, J_9999, J_10000, J_65536, J_65537, J_2147483647, J_neg]
    rw [g.1 q 6 (by omega), h6, iLE (by omega) (by omega) (by omega) (by omega)]
    by_cases e : j = m
    · rw [if_pos (by omega), ← e]
      exact ⟨S, rfl, g, hS⟩
    · obtain ⟨s1, s2, s3, s4⟩ := hs j (by omega)
      have ok : ∀ i, i < m → stOK (kd i) (a i) (c i) := fun i hi => (hs i hi).1
      have x1 : ixb (J (j : Int)) 4 = true := ixb_J (by omega) (by omega) (by decide)
      have y1 : ix (J (j : Int)) = j := by rw [ix_J (by omega) (by omega)]; omega
      have a1 : J (j : Int) + J 1 = J ((j + 1 : Nat) : Int) := by rw [J_add]; rfl
      obtain ⟨S1, d1, d2, d3⟩ := c_take (C := S) (q := q) (X := fun x => lvF kd a c j x) s1 (fun x hx => lvF_b ok (by omega) j (by omega)) (fun x y hx hy => lvF_m ok (by omega) (by omega) (by omega) j (by omega)) hS
      rw [if_neg (by omega), iLE (by decide) (by decide) (by omega) (by omega), if_neg (by omega), x1, ckt, ckt, ckt, y1, g.1 (q + 1) j (by omega), g.1 (q + 2) j (by omega), g.1 (q + 3) j (by omega), s2, s3, s4, d1, b1s, a1]
      exact ih (j + 1) S1 (by omega) (by omega) (fr_t g d2) d3
theorem c_settle67 (hw : w ≤ 6) (h7 : gI C q 7 = J w) (hn : ∀ j, j < w → gI C (q + 4) j = J (wF j)) : ∀ (f j : Nat) (S : zM), j ≤ w → w < f + j → fr (fun x _ => x = q + 5 ∨ (q + 7 ≤ x ∧ x ≤ q + 30)) C S → (∀ i, i < j → nzC S (q + 7 + 4 * i) (oF wF (i + 1))) → ∃ S', gX9_settle_L67 q f S (J j) = some S' ∧ fr (fun x _ => x = q + 5 ∨ (q + 7 ≤ x ∧ x ≤ q + 30)) C S' ∧ fr (fun x _ => q + 7 ≤ x ∧ x ≤ q + 30) S S' ∧ ∀ i, i < w → nzC S' (q + 7 + 4 * i) (oF wF (i + 1)) := by
  intro f
  induction f with
  | zero => intro j S h1 h2; omega
  | succ f ih =>
    intro j S h1 h2 g hS
    unfold gX9_settle_L67
    simp only [J_0, J_1, J_2, J_3, J_4, J_5, J_6, J_7, J_8, J_9, J_10, J_11, J_12, J_14, J_15, J_16, J_19, J_20, J_21, J_22, J_23, J_24, J_25, J_28, J_30, J_31, J_32, J_40, J_44, J_47, J_48, J_49, J_50, J_53, J_54, J_57, J_59, J_74, J_75, J_78, J_84, J_97, J_99, J_100, J_120, J_122, J_126, J_132, J_138, J_144, J_150, J_156, J_162, J_198, J_200, J_202, J_206, J_210, J_214, J_218, J_222, J_226, J_230, J_234, J_238, J_239, J_240, J_241, J_242, J_243, J_255, J_263, J_283, J_303, J_399, J_400, J_401, J_463, J_700, J_701, J_999, J_1000, J_2048, J_4095, J_4096, J_6000, J_9999, J_10000, J_65536, J_65537, J_2147483647, J_neg]
    rw [g.1 q 7 (by omega), h7, iLE (by omega) (by omega) (by omega) (by omega)]
    by_cases e : j = w
    · rw [if_pos (by omega), ← e]
      exact ⟨S, rfl, g, fr_r, hS⟩
    · have x1 : ixb (J (j : Int)) 6 = true := ixb_J (by omega) (by omega) (by decide)
      have y1 : ix (J (j : Int)) = j := by rw [ix_J (by omega) (by omega)]; omega
      have a1 : J (j : Int) + J 1 = J ((j + 1 : Nat) : Int) := by rw [J_add]; rfl
      obtain ⟨S1, d1, d2, d3⟩ := c_nzfill (C := S) (q := q + 7 + 4 * j) (a := q + 4) (k := j + 1) (w := wF) (by omega) (by omega) (fun i hi => by rw [g.1 _ i (by omega)]; exact hn i (by omega))
      rw [if_neg (by omega), iLE (by decide) (by decide) (by omega) (by omega), if_neg (by omega), x1, ckt, y1, a1, d1, b1s]
      have g1 : fr (fun x _ => q + 7 ≤ x ∧ x ≤ q + 30) S S1 := fr_w d2 (fun x k z => by omega)
      obtain ⟨S2, i1, i2, i3, i4⟩ := ih (j + 1) S1 (by omega) (by omega) (fr_t g (fr_w g1 (fun x k z => Or.inr z))) (fun i hi => by
        by_cases z : i = j
        · rw [z]; exact d3
        · exact nzC_w (hS i (by omega)) (fun x k h3 h4 => d2.1 x k (by omega)))
      exact ⟨S2, i1, i2, fr_t g1 i3, i4⟩
theorem c_settle1 (hm : m ≤ 4) (hw : w ≤ 6) (h6 : gI C q 6 = J m) (h7 : gI C q 7 = J w) (hs : ∀ j, j < m → stOK (kd j) (a j) (c j) ∧ gI C (q + 1) j = J (kd j) ∧ gI C (q + 2) j = J (a j) ∧ gI C (q + 3) j = J (c j)) (hn : ∀ j, j < w → gI C (q + 4) j = J (wF j)) : ∃ C', gX9_settle C q = some C' ∧ fr (fun x _ => x = q + 5 ∨ (q + 7 ≤ x ∧ x ≤ q + 30)) C C' ∧ (∀ x : Nat, x < 401 → gI C' (q + 5) x = J (lvF kd a c m x)) ∧ ∀ i, i < w → nzC C' (q + 7 + 4 * i) (oF wF (i + 1)) := by
  have hf := FUs (n := 1000) (by omega)
  obtain ⟨S1, a1, a2, a3⟩ := c_settle2 (C := C) (q := q) FU 0 C (by omega) (by omega) fr_r (fun x hx => by omega)
  obtain ⟨S2, b1', b2', b3'⟩ := c_settle24 (C := S1) (q := q) (kd := kd) (a := a) (c := c) hm ((a2.1 q 6 (by omega)).trans h6) (fun j hj => by
    obtain ⟨s1, s2, s3, s4⟩ := hs j hj
    exact ⟨s1, (a2.1 _ j (by omega)).trans s2, (a2.1 _ j (by omega)).trans s3, (a2.1 _ j (by omega)).trans s4⟩) FU 0 S1 (by omega) (by omega) fr_r a3
  have f2 : fr (fun x _ => x = q + 5) C S2 := fr_t a2 b2'
  obtain ⟨S3, c1, c2, c3, c4⟩ := c_settle67 (C := S2) (q := q) (wF := wF) hw ((f2.1 q 7 (by omega)).trans h7) (fun j hj => (f2.1 _ j (by omega)).trans (hn j hj)) FU 0 S2 (by omega) (by omega) fr_r (fun i hi => absurd hi (by omega))
  unfold gX9_settle
  simp only [J_0, J_1, J_2, J_3, J_4, J_5, J_6, J_7, J_8, J_9, J_10, J_11, J_12, J_14, J_15, J_16, J_19, J_20, J_21, J_22, J_23, J_24, J_25, J_28, J_30, J_31, J_32, J_40, J_44, J_47, J_48, J_49, J_50, J_53, J_54, J_57, J_59, J_74, J_75, J_78, J_84, J_97, J_99, J_100, J_120, J_122, J_126, J_132, J_138, J_144, J_150, J_156, J_162, J_198, J_200, J_202, J_206, J_210, J_214, J_218, J_222, J_226, J_230, J_234, J_238, J_239, J_240, J_241, J_242, J_243, J_255, J_263, J_283, J_303, J_399, J_400, J_401, J_463, J_700, J_701, J_999, J_1000, J_2048, J_4095, J_4096, J_6000, J_9999, J_10000, J_65536, J_65537, J_2147483647, J_neg]
  rw [show J ((0 : Nat) : Int) = J 0 from rfl] at a1 b1' c1
  rw [a1, b1s, b1', b1s, c1]
  exact ⟨S3, rfl, fr_t (fr_w f2 (fun x k z => Or.inl z)) c2, fun x hx => by rw [c3.1 _ x (by omega)]; exact b3' x hx, c4⟩
end
/-- the model's law of a sense -/
def mLw (M : zM) (s m : Nat) (kd a c : Nat → Int) : Prop := gI M 3 s = J m ∧ ∀ j, j < m → stOK (kd j) (a j) (c j) ∧ gI M 3 (6 + 4 * s + j) = J (kd j) ∧ gI M 3 (30 + 4 * s + j) = J (a j) ∧ (kd j = 1 ∨ kd j = 2 → gI M 3 (54 + 4 * s + j) = J (c j))
section
variable {M : zM} {s m : Nat} {kd a c : Nat → Int}
theorem m_reck_L (hs : s < 6) (hm : m ≤ 4) (h : mLw M s m kd a c) {x : Int} (hx : 0 ≤ x ∧ x ≤ 400) : ∀ (f j : Nat), j ≤ m → m < f + j → gX12_reckoned_L7 M (J s) f (J (lvF kd a c j x)) (J ((4 * s + j : Nat) : Int)) = some (J (lvF kd a c m x)) := by
  have ok : ∀ i, i < m → stOK (kd i) (a i) (c i) := fun i hi => (h.2 i hi).1
  intro f
  induction f with
  | zero => intro j h1 h2; omega
  | succ f ih =>
    intro j h1 h2
    have y0 : ix (J (s : Int)) = s := by rw [ix_J (by omega) (by omega)]; omega
    have x0 : ixb (J (s : Int)) 463 = true := ixb_J (by omega) (by omega) (by decide)
    have a0 : J 0 + J (s : Int) = J (s : Int) := by rw [J_add]; congr 1; omega
    have a4 : J 4 * J (s : Int) + J (m : Int) = J ((4 * s + m : Nat) : Int) := by rw [J_mul, J_add]; congr 1
    unfold gX12_reckoned_L7 gX12_reckoned_J121
    simp only [J_0, J_1, J_2, J_3, J_4, J_5, J_6, J_7, J_8, J_9, J_10, J_11, J_12, J_14, J_15, J_16, J_19, J_20, J_21, J_22, J_23, J_24, J_25, J_28, J_30, J_31, J_32, J_40, J_44, J_47, J_48, J_49, J_50, J_53, J_54, J_57, J_59, J_74, J_75, J_78, J_84, J_97, J_99, J_100, J_120, J_122, J_126, J_132, J_138, J_144, J_150, J_156, J_162, J_198, J_200, J_202, J_206, J_210, J_214, J_218, J_222, J_226, J_230, J_234, J_238, J_239, J_240, J_241, J_242, J_243, J_255, J_263, J_283, J_303, J_399, J_400, J_401, J_463, J_700, J_701, J_999, J_1000, J_2048, J_4095, J_4096, J_6000, J_9999, J_10000, J_65536, J_65537, J_2147483647, J_neg]
    rw [a0, x0, ckt, y0, h.1, a4, iLE (by omega) (by omega) (by omega) (by omega)]
    by_cases e : j = m
    · rw [if_pos (by omega), e]
    · obtain ⟨s1, s2, s3, s4⟩ := h.2 j (by omega)
      have lb := lvF_b ok hx j (by omega)
      have nb := stF_b s1 lb
      have es := lvF_s (kd := kd) (a := a) (c := c) (j := j) (x := x)
      have kb : 0 ≤ kd j ∧ kd j ≤ 3 := by unfold stOK at s1; omega
      have ab : 0 ≤ a j ∧ a j ≤ 399 := by unfold stOK at s1; omega
      have a30 : J 30 + J ((4 * s + j : Nat) : Int) = J ((30 + 4 * s + j : Nat) : Int) := by rw [J_add]; congr 1; omega
      have a54 : J 54 + J ((4 * s + j : Nat) : Int) = J ((54 + 4 * s + j : Nat) : Int) := by rw [J_add]; congr 1; omega
      have a6 : J 6 + J ((4 * s + j : Nat) : Int) = J ((6 + 4 * s + j : Nat) : Int) := by rw [J_add]; congr 1; omega
      have a1 : J ((4 * s + j : Nat) : Int) + J 1 = J ((4 * s + (j + 1) : Nat) : Int) := by rw [J_add]; rfl
      have x30 : ixb (J ((30 + 4 * s + j : Nat) : Int)) 463 = true := ixb_J (by omega) (by omega) (by decide)
      have y30 : ix (J ((30 + 4 * s + j : Nat) : Int)) = 30 + 4 * s + j := by rw [ix_J (by omega) (by omega)]; omega
      have x54 : ixb (J ((54 + 4 * s + j : Nat) : Int)) 463 = true := ixb_J (by omega) (by omega) (by decide)
      have y54 : ix (J ((54 + 4 * s + j : Nat) : Int)) = 54 + 4 * s + j := by rw [ix_J (by omega) (by omega)]; omega
      have x6 : ixb (J ((6 + 4 * s + j : Nat) : Int)) 463 = true := ixb_J (by omega) (by omega) (by decide)
      have y6 : ix (J ((6 + 4 * s + j : Nat) : Int)) = 6 + 4 * s + j := by rw [ix_J (by omega) (by omega)]; omega
      have nx := ih (j + 1) (by omega) (by omega)
      have nx' : ∀ v : Int, 0 ≤ v → v ≤ 1000000000 → min 9999 v = stF (kd j) (a j) (c j) (lvF kd a c j x) → lm (if J v ≤ J 9999 then (some (.inr (J v, J ((4 * s + (j + 1) : Nat) : Int))) : Option (Int32 ⊕ (Int32 × Int32))) else some (.inr (J 9999, J ((4 * s + (j + 1) : Nat) : Int)))) (un2 fun v3 v4 => gX12_reckoned_L7 M (J s) f v3 v4) = some (J (lvF kd a c m x)) := fun v v1 v2 v3 => by
        rw [iLE (by omega) (by omega) (by omega) (by omega)]
        by_cases y : v ≤ 9999
        · rw [if_pos y, lmr, un2s, show v = lvF kd a c (j + 1) x by rw [es]; omega]
          exact nx
        · rw [if_neg y, lmr, un2s, show (9999 : Int) = lvF kd a c (j + 1) x by rw [es]; omega]
          exact nx
      rw [if_neg (by omega), a30, x30, ckt, lts, a54, x54, ckt, lts, a6, x6, ckt, lts, y30, y54, y6, s2, s3, a1, iEQ (by omega) (by omega) (by decide) (by decide), iEQ (by omega) (by omega) (by decide) (by decide), iEQ (by omega) (by omega) (by decide) (by decide)]
      by_cases k0 : kd j = 0
      · have hac : 2 ≤ a j ∧ a j ≤ 99 := by unfold stOK at s1; omega
        have ef : stF (kd j) (a j) (c j) (lvF kd a c j x) = mkC (a j) (lvF kd a c j x) := by unfold stF; rw [if_pos k0]
        rw [if_pos k0, m_marks hac lb, b1s]
        rw [← ef]
        clear ef es nx
        generalize stF (kd j) (a j) (c j) (lvF kd a c j x) = V at nb nx' ⊢
        exact nx' V nb.1 (by omega) (by omega)
      · rw [if_neg k0]
        by_cases k1 : kd j = 1
        · have hac : (1 ≤ a j ∧ a j ≤ 3) ∧ 1 ≤ c j ∧ c j ≤ 3 := by unfold stOK at s1; omega
          have ef : stF (kd j) (a j) (c j) (lvF kd a c j x) = rtC (c j).toNat (pwN (lvF kd a c j x) (a j).toNat) := by unfold stF; rw [if_neg k0, if_pos k1]
          have ea : J (a j) = J (((a j).toNat : Nat) : Int) := by congr 1; omega
          have ec : J (c j) = J (((c j).toNat : Nat) : Int) := by congr 1; omega
          have rt : gX12_root (J (lvF kd a c j x)) (J (a j)) (J (c j)) = some (J (stF (kd j) (a j) (c j) (lvF kd a c j x))) := by
            rw [ea, ec, ef]
            exact m_root (by omega) (by omega) lb
          rw [if_pos k1, s4 (Or.inl k1), rt, b1s]
          clear ef rt es nx
          generalize stF (kd j) (a j) (c j) (lvF kd a c j x) = V at nb nx' ⊢
          exact nx' V nb.1 (by omega) (by omega)
        · rw [if_neg k1]
          by_cases k2 : kd j = 2
          · have hac : (1 ≤ a j ∧ a j ≤ 99) ∧ 1 ≤ c j ∧ c j ≤ 99 := by unfold stOK at s1; omega
            have ef : stF (kd j) (a j) (c j) (lvF kd a c j x) = min 9999 (a j * lvF kd a c j x / c j) := by unfold stF; rw [if_neg k0, if_neg k1, if_pos k2]
            have m1 : 0 ≤ a j * lvF kd a c j x := Int.mul_nonneg (by omega) lb.1
            have m2 : a j * lvF kd a c j x ≤ 99 * 9999 := Int.mul_le_mul hac.1.2 lb.2 lb.1 (by omega)
            have d1 := Int.ediv_nonneg (b := c j) m1 (by omega)
            have d2 := Int.ediv_le_self (b := c j) m1
            rw [if_pos k2, s4 (Or.inr k2), show decide (¬ J (c j) = J 0) = true from decide_eq_true (by rw [J_inj (by omega) (by omega) (by omega) (by omega)]; omega), ckt, J_mul, J_div (by omega) (by omega) (by omega) (by omega)]
            exact nx' _ d1 (by omega) ef.symm
          · have ef : stF (kd j) (a j) (c j) (lvF kd a c j x) = max 0 (lvF kd a c j x - a j) := by unfold stF; rw [if_neg k0, if_neg k1, if_neg k2]
            rw [if_neg k2, J_sub]
            by_cases y : a j ≤ lvF kd a c j x
            · rw [iLE (a := a j) (b := lvF kd a c j x) (by omega) (by omega) (by omega) (by omega), if_pos y]
              exact nx' _ (by omega) (by omega) (by omega)
            · rw [iLE (a := a j) (b := lvF kd a c j x) (by omega) (by omega) (by omega) (by omega), if_neg y]
              exact nx' 0 (by omega) (by omega) (by omega)
theorem m_reckoned (hs : s < 6) (hm : m ≤ 4) (h : mLw M s m kd a c) {x : Int} (hx : 0 ≤ x ∧ x ≤ 400) : gX12_reckoned M (J s) (J x) = some (J (lvF kd a c m x)) := by
  have hf := FUs (n := 100) (by omega)
  have a4 : J 4 * J (s : Int) = J ((4 * s + 0 : Nat) : Int) := by rw [J_mul]; congr 1
  unfold gX12_reckoned
  simp only [J_0, J_1, J_2, J_3, J_4, J_5, J_6, J_7, J_8, J_9, J_10, J_11, J_12, J_14, J_15, J_16, J_19, J_20, J_21, J_22, J_23, J_24, J_25, J_28, J_30, J_31, J_32, J_40, J_44, J_47, J_48, J_49, J_50, J_53, J_54, J_57, J_59, J_74, J_75, J_78, J_84, J_97, J_99, J_100, J_120, J_122, J_126, J_132, J_138, J_144, J_150, J_156, J_162, J_198, J_200, J_202, J_206, J_210, J_214, J_218, J_222, J_226, J_230, J_234, J_238, J_239, J_240, J_241, J_242, J_243, J_255, J_263, J_283, J_303, J_399, J_400, J_401, J_463, J_700, J_701, J_999, J_1000, J_2048, J_4095, J_4096, J_6000, J_9999, J_10000, J_65536, J_65537, J_2147483647, J_neg]
  rw [a4]
  exact m_reck_L hs hm h hx FU 0 (by omega) (by omega)
end
