/-! The class' noise from the wholes told. -/
def oF (w : Nat → Int) (k i : Nat) : Int := if 5 ≤ i then (if i < 5 + k then w (i - 5) else 0) else (if 5 < i + k then w (5 - i) else 0)
def suf (n : Nat) (A : Nat → Int) (d : Nat) : Int := sm n (fun e => if d ≤ e then A e else 0)
theorem suf_s {n d : Nat} {A : Nat → Int} (h : d < n) : suf n A d = A d + suf n A (d + 1) := by
  unfold suf
  rw [← sm_one (n := n) (a := d) (v := A d) h, ← sm_add]
  refine sm_c (fun e _ => ?_)
  by_cases x : e = d
  · subst x
    rw [if_pos (Nat.le_refl e), if_pos rfl, if_neg (by omega)]; omega
  · rw [if_neg x]
    by_cases y : d ≤ e
    · rw [if_pos y, if_pos (by omega)]; omega
    · rw [if_neg y, if_neg (by omega)]; omega
theorem suf_e {n d : Nat} {A : Nat → Int} (h : n ≤ d) : suf n A d = 0 := sm_zero (fun e he => if_neg (by omega))
section
variable {C : zM}
theorem c_behind_L {q n : Nat} {A : Nat → Int} (hn : n ≤ 100) : ∀ (f m : Nat) (S : zM), m < f → m + 1 ≤ n → fr (fun a _ => a = q) C S → (∀ d, d < n → gI S q d = J (if d < m then A d else suf n A d)) → ∃ C', gX4_sumFromBehind_L5 q n f S (J ((m : Int) - 1)) = some C' ∧ fr (fun a _ => a = q) C C' ∧ ∀ d, d < n → gI C' q d = J (suf n A d) := by
  intro f
  induction f with
  | zero => intro m S h; omega
  | succ f ih =>
    intro m S h1 h2 g hS
    unfold gX4_sumFromBehind_L5
    simp only [J_0, J_1, J_2, J_3, J_4, J_5, J_6, J_7, J_8, J_9, J_10, J_11, J_12, J_14, J_15, J_16, J_19, J_20, J_21, J_22, J_23, J_24, J_25, J_28, J_30, J_31, J_32, J_40, J_44, J_47, J_48, J_49, J_50, J_53, J_54, J_57, J_59, J_74, J_75, J_78, J_84, J_97, J_99, J_100, J_120, J_122, J_126, J_132, J_138, J_144, J_150, J_156, J_162, J_198, J_200, J_202, J_206, J_210, J_214, J_218, J_222, J_226, J_230, J_234, J_238, J_239, J_240, J_241, J_242, J_243, J_255, J_263, J_283, J_303, J_399, J_400, J_401, J_463, J_700, J_701, J_999, J_1000, J_2048, J_4095, J_4096, J_6000, J_9999, J_10000, J_65536, J_65537, J_2147483647, J_neg]
    rw [iLT (by omega) (by omega) (by decide) (by decide)]
    by_cases e : m = 0
    · rw [if_pos (by omega)]
      exact ⟨S, rfl, g, fun d hd => by rw [hS d hd, if_neg (by omega)]⟩
    · obtain ⟨i, rfl⟩ : ∃ i, m = i + 1 := ⟨m - 1, by omega⟩
      have ei : ((i + 1 : Nat) : Int) - 1 = (i : Int) := by omega
      have a1 : J (i : Int) + J 1 = J ((i + 1 : Nat) : Int) := by rw [J_add]; rfl
      have a2 : J (i : Int) + J (-1) = J ((i : Int) - 1) := by rw [J_add]; rfl
      rw [if_neg (by omega), ei, a1, a2, ixb_J (by omega) (by omega) (by omega), ckt, ixb_J (by omega) (by omega) (by omega), ckt, ckt, ix_J (by omega) (by omega), ix_J (by omega) (by omega), Int.toNat_natCast, Int.toNat_natCast, hS i (by omega), hS (i + 1) (by omega), if_pos (by omega), if_neg (by omega), J_add, ← suf_s (by omega)]
      refine ih i _ (by omega) (by omega) (fr_t g (fr_pI rfl)) (fun d hd => ?_)
      rw [rII]
      by_cases x : d = i
      · rw [if_pos ⟨rfl, x⟩, if_neg (by omega), x]
      · rw [if_neg (fun w => x w.2), hS d hd]
        by_cases y : d < i
        · rw [if_pos (by omega), if_pos y]
        · rw [if_neg (by omega), if_neg y]
theorem c_behind {q n : Nat} {A : Nat → Int} (hn : 2 ≤ n ∧ n ≤ 100) (hA : ∀ d, d < n → gI C q d = J (A d)) : ∃ C', gX4_sumFromBehind C q n = some C' ∧ fr (fun a _ => a = q) C C' ∧ ∀ d, d < n → gI C' q d = J (suf n A d) := by
  have e : Int32.ofNat n = J (n : Int) := (Int32.ofInt_eq_ofNat (n := n)).symm
  unfold gX4_sumFromBehind
  simp only [J_0, J_1, J_2, J_3, J_4, J_5, J_6, J_7, J_8, J_9, J_10, J_11, J_12, J_14, J_15, J_16, J_19, J_20, J_21, J_22, J_23, J_24, J_25, J_28, J_30, J_31, J_32, J_40, J_44, J_47, J_48, J_49, J_50, J_53, J_54, J_57, J_59, J_74, J_75, J_78, J_84, J_97, J_99, J_100, J_120, J_122, J_126, J_132, J_138, J_144, J_150, J_156, J_162, J_198, J_200, J_202, J_206, J_210, J_214, J_218, J_222, J_226, J_230, J_234, J_238, J_239, J_240, J_241, J_242, J_243, J_255, J_263, J_283, J_303, J_399, J_400, J_401, J_463, J_700, J_701, J_999, J_1000, J_2048, J_4095, J_4096, J_6000, J_9999, J_10000, J_65536, J_65537, J_2147483647, J_neg, ckt, b1s, b2s, lts, un2s, un3s, un4s, un5s, lmr, lml, lgr, lgl]
  rw [e, J_sub, show (n : Int) - 2 = ((n - 1 : Nat) : Int) - 1 by omega]
  refine c_behind_L hn.2 FU (n - 1) C (by have := FUs (n := 200) (by omega); omega) (by omega) fr_r (fun d hd => ?_)
  rw [hA d hd]
  by_cases x : d < n - 1
  · rw [if_pos x]
  · rw [if_neg x, show d = n - 1 by omega, suf_s (by omega), suf_e (by omega)]
    congr 1
    omega
theorem c_fill10 {q a k : Nat} {w : Nat → Int} (hk : k ≤ 6) (haq : ¬ a = q + 1) (hw : ∀ j, j < k → gI C a j = J (w j)) : ∀ (f j : Nat) (S : zM), j ≤ k → k < f + j → fr (fun x _ => x = q + 1) C S → (∀ i, i < 11 → gI S (q + 1) i = J (oF w j i)) → ∃ S', gX4_fill_L10 q a (J k) f S (J j) = some S' ∧ fr (fun x _ => x = q + 1) C S' ∧ ∀ i, i < 11 → gI S' (q + 1) i = J (oF w k i) := by
  intro f
  induction f with
  | zero => intro j S h1 h2; omega
  | succ f ih =>
    intro j S h1 h2 g hS
    unfold gX4_fill_L10
    simp only [J_0, J_1, J_2, J_3, J_4, J_5, J_6, J_7, J_8, J_9, J_10, J_11, J_12, J_14, J_15, J_16, J_19, J_20, J_21, J_22, J_23, J_24, J_25, J_28, J_30, J_31, J_32, J_40, J_44, J_47, J_48, J_49, J_50, J_53, J_54, J_57, J_59, J_74, J_75, J_78, J_84, J_97, J_99, J_100, J_120, J_122, J_126, J_132, J_138, J_144, J_150, J_156, J_162, J_198, J_200, J_202, J_206, J_210, J_214, J_218, J_222, J_226, J_230, J_234, J_238, J_239, J_240, J_241, J_242, J_243, J_255, J_263, J_283, J_303, J_399, J_400, J_401, J_463, J_700, J_701, J_999, J_1000, J_2048, J_4095, J_4096, J_6000, J_9999, J_10000, J_65536, J_65537, J_2147483647, J_neg]
    rw [iLE (by omega) (by omega) (by omega) (by omega)]
    by_cases e : j = k
    · rw [if_pos (by omega), ← e]
      exact ⟨S, rfl, g, hS⟩
    · have a1 : J 5 + J (j : Int) = J ((5 + j : Nat) : Int) := by rw [J_add]; congr 1
      have a2 : J 5 - J (j : Int) = J ((5 - j : Nat) : Int) := by rw [J_sub]; congr 1; omega
      have a3 : J (j : Int) + J 1 = J ((j + 1 : Nat) : Int) := by rw [J_add]; rfl
      have x1 : ixb (J ((5 + j : Nat) : Int)) 11 = true := ixb_J (by omega) (by omega) (by decide)
      have y1 : ix (J ((5 + j : Nat) : Int)) = 5 + j := by rw [ix_J (by omega) (by omega)]; omega
      have x2 : ixb (J ((5 - j : Nat) : Int)) 11 = true := ixb_J (by omega) (by omega) (by decide)
      have y2 : ix (J ((5 - j : Nat) : Int)) = 5 - j := by rw [ix_J (by omega) (by omega)]; omega
      have x3 : ixb (J (j : Int)) 6 = true := ixb_J (by omega) (by omega) (by decide)
      have y3 : ix (J (j : Int)) = j := by rw [ix_J (by omega) (by omega)]; omega
      have e1 : gI S a j = J (w j) := by rw [g.1 a j haq]; exact hw j (by omega)
      have e2 : gI (pI S (q + 1) (5 + j) (J (w j))) a j = J (w j) := by rw [rII, if_neg (fun z => haq z.1), e1]
      rw [if_neg (by omega), iLE (by decide) (by decide) (by omega) (by omega), if_neg (by omega), iLT (by decide) (by decide) (by omega) (by omega), if_neg (by omega)]
      simp only [a1, a2, a3, x1, y1, x2, y2, x3, y3, e1, e2, ckt, b1s, b2s, lts, un2s, un3s, un4s, un5s, lmr, lml, lgr, lgl]
      refine ih (j + 1) _ (by omega) (by omega) (fr_t g (fr_t (fr_pI rfl) (fr_pI rfl))) (fun i hi => ?_)
      rw [rII]
      by_cases z : i = 5 - j
      · rw [if_pos ⟨rfl, z⟩]
        unfold oF
        by_cases j0 : j = 0
        · rw [if_pos (by omega), if_pos (by omega), show i - 5 = j by omega]
        · rw [if_neg (by omega), if_pos (by omega), show 5 - i = j by omega]
      · rw [if_neg (fun y => z y.2), rII]
        by_cases y : i = 5 + j
        · rw [if_pos ⟨rfl, y⟩]
          unfold oF
          rw [if_pos (by omega), if_pos (by omega), show i - 5 = j by omega]
        · rw [if_neg (fun x => y x.2), hS i hi]
          unfold oF
          by_cases x : 5 ≤ i
          · rw [if_pos x, if_pos x]
            by_cases u : i < 5 + j
            · rw [if_pos u, if_pos (by omega)]
            · rw [if_neg u, if_neg (by omega)]
          · rw [if_neg x, if_neg x]
            by_cases u : 5 < i + j
            · rw [if_pos u, if_pos (by omega)]
            · rw [if_neg u, if_neg (by omega)]
/-- a row of pairs -/
def prw (o : Nat → Int) (i j d : Nat) : Int := sm j (fun e => if e + 10 = d + i then o i * o e else 0)
theorem c_fill96 {q i : Nat} {o P : Nat → Int} (hi : i < 11) (ho : ∀ e, e < 11 → gI C (q + 1) e = J (o e)) : ∀ (f j : Nat) (S : zM), j ≤ 11 → 11 < f + j → fr (fun x _ => x = q + 3) C S → (∀ d, d < 22 → gI S (q + 3) d = J (P d + prw o i j d)) → ∃ S', gX4_fill_L96 q (J i) f S (J j) = some S' ∧ fr (fun x _ => x = q + 3) C S' ∧ ∀ d, d < 22 → gI S' (q + 3) d = J (P d + prw o i 11 d) := by
  intro f
  induction f with
  | zero => intro j S h1 h2; omega
  | succ f ih =>
    intro j S h1 h2 g hS
    unfold gX4_fill_L96
    simp only [J_0, J_1, J_2, J_3, J_4, J_5, J_6, J_7, J_8, J_9, J_10, J_11, J_12, J_14, J_15, J_16, J_19, J_20, J_21, J_22, J_23, J_24, J_25, J_28, J_30, J_31, J_32, J_40, J_44, J_47, J_48, J_49, J_50, J_53, J_54, J_57, J_59, J_74, J_75, J_78, J_84, J_97, J_99, J_100, J_120, J_122, J_126, J_132, J_138, J_144, J_150, J_156, J_162, J_198, J_200, J_202, J_206, J_210, J_214, J_218, J_222, J_226, J_230, J_234, J_238, J_239, J_240, J_241, J_242, J_243, J_255, J_263, J_283, J_303, J_399, J_400, J_401, J_463, J_700, J_701, J_999, J_1000, J_2048, J_4095, J_4096, J_6000, J_9999, J_10000, J_65536, J_65537, J_2147483647, J_neg]
    rw [iLE (by decide) (by decide) (by omega) (by omega)]
    by_cases e : j = 11
    · rw [if_pos (by omega), ← e]
      exact ⟨S, rfl, g, hS⟩
    · have a1 : J (j : Int) - J (i : Int) + J 10 = J ((j + 10 - i : Nat) : Int) := by rw [J_sub, J_add]; congr 1; omega
      have a3 : J (j : Int) + J 1 = J ((j + 1 : Nat) : Int) := by rw [J_add]; rfl
      have x1 : ixb (J ((j + 10 - i : Nat) : Int)) 22 = true := ixb_J (by omega) (by omega) (by decide)
      have y1 : ix (J ((j + 10 - i : Nat) : Int)) = j + 10 - i := by rw [ix_J (by omega) (by omega)]; omega
      have x2 : ixb (J (i : Int)) 11 = true := ixb_J (by omega) (by omega) (by decide)
      have y2 : ix (J (i : Int)) = i := by rw [ix_J (by omega) (by omega)]; omega
      have x3 : ixb (J (j : Int)) 11 = true := ixb_J (by omega) (by omega) (by decide)
      have y3 : ix (J (j : Int)) = j := by rw [ix_J (by omega) (by omega)]; omega
      have e1 : gI S (q + 1) i = J (o i) := by rw [g.1 _ i (by omega)]; exact ho i hi
      have e2 : gI S (q + 1) j = J (o j) := by rw [g.1 _ j (by omega)]; exact ho j (by omega)
      rw [if_neg (by omega)]
      simp only [a1, a3, x1, y1, x2, y2, x3, y3, e1, e2, ckt, b1s, b2s, lts, un2s, un3s, un4s, un5s, lmr, lml, lgr, lgl]
      rw [hS _ (by omega), J_mul, J_add]
      refine ih (j + 1) _ (by omega) (by omega) (fr_t g (fr_pI rfl)) (fun d hd => ?_)
      have pe : prw o i (j + 1) d = prw o i j d + (if j + 10 = d + i then o i * o j else 0) := rfl
      rw [rII, pe]
      by_cases z : d = j + 10 - i
      · rw [if_pos ⟨rfl, z⟩, if_pos (by omega), z, Int.add_assoc]
      · rw [if_neg (fun y => z y.2), if_neg (by omega), hS d hd, Int.add_zero]
def prs (o : Nat → Int) (i d : Nat) : Int := sm i (fun e => prw o e 11 d)
theorem suf_ab {o : Nat → Int} {d : Nat} : suf 12 (fun e => if e < 11 then o e else 0) d = nAb o ((d : Int) - 6) := by
  unfold suf nAb
  rw [sm_s, sm_c (g := fun i => if (d : Int) - 6 < (i : Int) - 5 then o i else 0)]
  · show sm 11 _ + (if d ≤ 11 then (if 11 < 11 then o 11 else 0) else 0) = sm 11 _
    rw [if_neg (show ¬ (11 < 11) by omega)]
    split <;> omega
  · intro e he
    by_cases x : d ≤ e
    · rw [if_pos x, if_pos (by omega)]
      exact if_pos he
    · rw [if_neg x, if_neg (by omega)]
theorem suf_pab {o : Nat → Int} {d : Nat} : suf 22 (fun e => prs o 11 e) d = nPab o ((d : Int) - 11) := by
  unfold suf nPab prs
  have e1 : sm 22 (fun e => if d ≤ e then sm 11 (fun i => prw o i 11 e) else 0) = sm 22 (fun e => sm 11 (fun i => if d ≤ e then prw o i 11 e else 0)) := sm_c (fun e _ => by
    by_cases x : d ≤ e
    · rw [if_pos x]
      exact sm_c (fun i _ => by rw [if_pos x])
    · rw [if_neg x]
      exact (sm_zero (fun i _ => if_neg x)).symm)
  rw [e1, sm_swap]
  refine sm_c (fun i hi => ?_)
  unfold prw
  have e2 : sm 22 (fun e => if d ≤ e then sm 11 (fun j => if j + 10 = e + i then o i * o j else 0) else 0) = sm 22 (fun e => sm 11 (fun j => if d ≤ e then (if j + 10 = e + i then o i * o j else 0) else 0)) := sm_c (fun e _ => by
    by_cases x : d ≤ e
    · rw [if_pos x]
      exact sm_c (fun j _ => by rw [if_pos x])
    · rw [if_neg x]
      exact (sm_zero (fun j _ => if_neg x)).symm)
  rw [e2, sm_swap]
  refine sm_c (fun j hj => ?_)
  by_cases x : d + i ≤ j + 10
  · rw [if_pos (by omega)]
    refine (sm_c (fun e _ => ?_)).trans (sm_one (n := 22) (a := j + 10 - i) (v := o i * o j) (by omega))
    by_cases y : e = j + 10 - i
    · rw [if_pos (by omega), if_pos (by omega), if_pos y]
    · rw [if_neg y]
      by_cases z : d ≤ e
      · rw [if_pos z, if_neg (by omega)]
      · rw [if_neg z]
  · rw [if_neg (by omega)]
    refine sm_zero (fun e _ => ?_)
    by_cases z : d ≤ e
    · rw [if_pos z, if_neg (by omega)]
    · rw [if_neg z]
theorem c_fill72 {q : Nat} {o : Nat → Int} (ho : ∀ e, e < 11 → gI C (q + 1) e = J (o e)) : ∀ (f i : Nat) (S : zM), i ≤ 11 → 11 < f + i → fr (fun x _ => x = q + 2 ∨ x = q + 3) C S → (∀ d, d < 12 → gI S (q + 2) d = J (if d < i then o d else 0)) → (∀ d, d < 22 → gI S (q + 3) d = J (prs o i d)) → ∃ S', gX4_fill_L72 q f S (J i) = some S' ∧ fr (fun x _ => q ≤ x ∧ x ≤ q + 3) C S' ∧ nzC S' q o := by
  intro f
  induction f with
  | zero => intro i S h1 h2; omega
  | succ f ih =>
    intro i S h1 h2 g h12 h22
    have hf := FUs (n := 30) (by omega)
    unfold gX4_fill_L72
    simp only [J_0, J_1, J_2, J_3, J_4, J_5, J_6, J_7, J_8, J_9, J_10, J_11, J_12, J_14, J_15, J_16, J_19, J_20, J_21, J_22, J_23, J_24, J_25, J_28, J_30, J_31, J_32, J_40, J_44, J_47, J_48, J_49, J_50, J_53, J_54, J_57, J_59, J_74, J_75, J_78, J_84, J_97, J_99, J_100, J_120, J_122, J_126, J_132, J_138, J_144, J_150, J_156, J_162, J_198, J_200, J_202, J_206, J_210, J_214, J_218, J_222, J_226, J_230, J_234, J_238, J_239, J_240, J_241, J_242, J_243, J_255, J_263, J_283, J_303, J_399, J_400, J_401, J_463, J_700, J_701, J_999, J_1000, J_2048, J_4095, J_4096, J_6000, J_9999, J_10000, J_65536, J_65537, J_2147483647, J_neg]
    rw [iLE (by decide) (by decide) (by omega) (by omega)]
    by_cases e : i = 11
    · subst e
      obtain ⟨S1, b1', b2', b3'⟩ := c_behind (C := S) (q := q + 2) (n := 12) (A := fun d => if d < 11 then o d else 0) (by decide) h12
      obtain ⟨S2, d1, d2, d3⟩ := c_behind (C := S1) (q := q + 3) (n := 22) (A := fun d => prs o 11 d) (by decide) (fun d hd => by rw [b2'.1 _ d (by omega)]; exact h22 d hd)
      rw [if_pos (by omega), b1', b1s, d1, b1s, show ixb (J 0) 12 = true by decide, ckt, show ix (J 0) = 0 by decide]
      refine ⟨_, rfl, fr_t (fr_w g (fun x k z => by omega)) (fr_t (fr_w b2' (fun x k z => by omega)) (fr_t (fr_w d2 (fun x k z => by omega)) (fr_pI (by omega)))), ?_, fun d hd => ?_, fun d hd => ?_, fun d hd => ?_⟩
      · rw [rII, if_pos ⟨rfl, rfl⟩, d2.1 _ 0 (by omega), b3' 0 (by decide), suf_ab, nAb_far (by omega)]
      · rw [rII, if_neg (by omega), d2.1 _ d (by omega), b2'.1 _ d (by omega), g.1 _ d (by omega)]
        exact ho d hd
      · rw [rII, if_neg (by omega), d2.1 _ d (by omega), b3' d hd, suf_ab]
      · rw [rII, if_neg (by omega), d3 d hd, suf_pab]
    · have a3 : J (i : Int) + J 1 = J ((i + 1 : Nat) : Int) := by rw [J_add]; rfl
      have x1 : ixb (J (i : Int)) 11 = true := ixb_J (by omega) (by omega) (by decide)
      have x2 : ixb (J (i : Int)) 12 = true := ixb_J (by omega) (by omega) (by decide)
      have y1 : ix (J (i : Int)) = i := by rw [ix_J (by omega) (by omega)]; omega
      have e1 : gI S (q + 1) i = J (o i) := by rw [g.1 _ i (by omega)]; exact ho i (by omega)
      have hp0 : ∀ d, prw o i 0 d = 0 := fun d => rfl
      obtain ⟨S1, b1', b2', b3'⟩ := c_fill96 (C := pI S (q + 2) i (J (o i))) (q := q) (i := i) (o := o) (P := prs o i) (by omega) (fun e he => by rw [rII, if_neg (by omega), g.1 _ e (by omega)]; exact ho e he) FU 0 (pI S (q + 2) i (J (o i))) (by omega) (by omega) fr_r (fun d hd => by rw [rII, if_neg (by omega), hp0, Int.add_zero]; exact h22 d hd)
      rw [if_neg (by omega), x1, ckt, x2, ckt, y1, e1, show J 0 = J ((0 : Nat) : Int) from rfl, b1', b1s, a3]
      refine ih (i + 1) S1 (by omega) (by omega) (fr_t g (fr_t (fr_pI (Or.inl rfl)) (fr_w b2' (fun x k z => Or.inr z)))) (fun d hd => ?_) (fun d hd => by rw [b3' d hd]; rfl)
      rw [b2'.1 _ d (by omega), rII]
      by_cases z : d = i
      · rw [if_pos ⟨rfl, z⟩, if_pos (by omega), z]
      · rw [if_neg (fun y => z y.2), h12 d hd]
        by_cases y : d < i
        · rw [if_pos y, if_pos (by omega)]
        · rw [if_neg y, if_neg (by omega)]
theorem c_nzfill {q a k : Nat} {w : Nat → Int} (hk : k ≤ 6) (ha : a < q) (hw : ∀ j, j < k → gI C a j = J (w j)) : ∃ C', gX4_fill C q a (J k) = some C' ∧ fr (fun x _ => q ≤ x ∧ x ≤ q + 3) C C' ∧ nzC C' q (oF w k) := by
  have hf := FUs (n := 30) (by omega)
  obtain ⟨S1, a1, a2, a3⟩ := c_fill (q := q + 1) (n := 11) (v := J 0) (S := C) (by decide)
  obtain ⟨S2, b1', b2', b3'⟩ := c_fill10 (C := S1) (q := q) (a := a) (k := k) (w := w) hk (by omega) (fun j hj => by rw [a2.1 a j (by omega)]; exact hw j hj) FU 0 S1 (by omega) (by omega) fr_r (fun i hi => by
    rw [a3 i hi]
    unfold oF
    by_cases x : 5 ≤ i
    · rw [if_pos x, if_neg (by omega)]
    · rw [if_neg x, if_neg (by omega)])
  obtain ⟨S3, c1, c2, c3⟩ := c_fill (q := q + 2) (n := 12) (v := J 0) (S := S2) (by decide)
  obtain ⟨S4, d1, d2, d3⟩ := c_fill (q := q + 3) (n := 22) (v := J 0) (S := S3) (by decide)
  obtain ⟨S5, e1, e2, e3⟩ := c_fill72 (C := S4) (q := q) (o := oF w k) (fun e he => by rw [d2.1 _ e (by omega), c2.1 _ e (by omega)]; exact b3' e he) FU 0 S4 (by omega) (by omega) fr_r (fun d hd => by rw [d2.1 _ d (by omega), c3 d hd]; rfl) (fun d hd => by rw [d3 d hd]; rfl)
  rw [show J ((0 : Nat) : Int) = J 0 from rfl] at b1' e1
  unfold gX4_fill
  simp only [J_0, J_1, J_2, J_3, J_4, J_5, J_6, J_7, J_8, J_9, J_10, J_11, J_12, J_14, J_15, J_16, J_19, J_20, J_21, J_22, J_23, J_24, J_25, J_28, J_30, J_31, J_32, J_40, J_44, J_47, J_48, J_49, J_50, J_53, J_54, J_57, J_59, J_74, J_75, J_78, J_84, J_97, J_99, J_100, J_120, J_122, J_126, J_132, J_138, J_144, J_150, J_156, J_162, J_198, J_200, J_202, J_206, J_210, J_214, J_218, J_222, J_226, J_230, J_234, J_238, J_239, J_240, J_241, J_242, J_243, J_255, J_263, J_283, J_303, J_399, J_400, J_401, J_463, J_700, J_701, J_999, J_1000, J_2048, J_4095, J_4096, J_6000, J_9999, J_10000, J_65536, J_65537, J_2147483647, J_neg]
  rw [a1, b1s, b1', b1s, c1, b1s, d1, b1s, e1]
  exact ⟨S5, rfl, fr_t (fr_w a2 (fun x k z => by omega)) (fr_t (fr_w b2' (fun x k z => by omega)) (fr_t (fr_w c2 (fun x k z => by omega)) (fr_t (fr_w d2 (fun x k z => by omega)) e2))), e3⟩
end
