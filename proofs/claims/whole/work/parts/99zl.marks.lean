/-! The law's steps, told as numbers. -/
def cTT (n : Nat) (T : Nat → Int) (x : Int) : Int := sm n (fun i => if T i ≤ x then 1 else 0)
def mkT (a : Int) : Nat → Int
  | 0 => 1
  | i + 1 => mkT a i + max 1 (mkT a i / a)
def pwN (x : Int) : Nat → Int
  | 0 => 1
  | n + 1 => x * pwN x n
def mkC (a x : Int) : Int := cTT 9999 (mkT a) x
def rtC (c : Nat) (v : Int) : Int := cTT 9999 (fun i => pwN ((i : Int) + 1) c) v
def stF (kd a c x : Int) : Int := if kd = 0 then mkC a x else if kd = 1 then rtC c.toNat (pwN x a.toNat) else if kd = 2 then min 9999 (a * x / c) else max 0 (x - a)
def stOK (kd a c : Int) : Prop := (kd = 0 ∧ 2 ≤ a ∧ a ≤ 99) ∨ (kd = 1 ∧ (1 ≤ a ∧ a ≤ 3) ∧ (1 ≤ c ∧ c ≤ 3)) ∨ (kd = 2 ∧ (1 ≤ a ∧ a ≤ 99) ∧ (1 ≤ c ∧ c ≤ 99)) ∨ (kd = 3 ∧ 0 ≤ a ∧ a ≤ 399)
theorem cTT_u {n c : Nat} {T : Nat → Int} {x : Int} (hm : ∀ i, T i ≤ T (i + 1)) (hc : c ≤ n) (h1 : ∀ i, i < c → T i ≤ x) (h2 : c < n → x < T c) : cTT n T x = c := by
  have mono : ∀ k, T c ≤ T (c + k) := by
    intro k
    induction k with
    | zero => exact Int.le_refl _
    | succ k ih => exact Int.le_trans ih (hm (c + k))
  unfold cTT
  rw [sm_split hc, sm_c (g := fun _ => (1 : Int)) (fun i hi => if_pos (h1 i hi)), sm_const, sm_zero (fun k hk => if_neg (by have := h2 (by omega); have := mono k; omega))]
  omega
theorem exR {T : Nat → Int} {x : Int} : ∀ n : Nat, ∃ R, R ≤ n ∧ (∀ i, i < R → T i ≤ x) ∧ (R < n → x < T R) := by
  intro n
  induction n with
  | zero => exact ⟨0, Nat.le_refl 0, fun i hi => absurd hi (by omega), fun h => absurd h (by omega)⟩
  | succ n ih =>
    obtain ⟨R, h1, h2, h3⟩ := ih
    by_cases e : R = n
    · subst e
      by_cases y : T R ≤ x
      · refine ⟨R + 1, Nat.le_refl _, fun i hi => ?_, fun h => absurd h (by omega)⟩
        by_cases z : i = R
        · rw [z]; exact y
        · exact h2 i (by omega)
      · exact ⟨R, by omega, h2, fun _ => by omega⟩
    · exact ⟨R, by omega, h2, fun _ => h3 (by omega)⟩
theorem cTT_b {n : Nat} {T : Nat → Int} {x : Int} : 0 ≤ cTT n T x ∧ cTT n T x ≤ n := by
  refine ⟨sm_nn (fun k _ => by split <;> omega), ?_⟩
  have := sm_bd (n := n) (f := fun i => if T i ≤ x then (1 : Int) else 0) (c := 1) (fun k _ => by
    show (if T k ≤ x then (1 : Int) else 0) ≤ 1
    split <;> omega)
  unfold cTT
  omega
theorem cTT_m {n : Nat} {T : Nat → Int} {x y : Int} (h : x ≤ y) : cTT n T x ≤ cTT n T y := sm_le (fun k _ => by
  by_cases e : T k ≤ x
  · rw [if_pos e, if_pos (by omega)]; exact Int.le_refl _
  · rw [if_neg e]; split <;> omega)
theorem mkT_b {a : Int} (ha : 2 ≤ a) : ∀ i : Nat, (i : Int) + 1 ≤ mkT a i ∧ mkT a i ≤ mkT a (i + 1) := by
  intro i
  have st : ∀ j : Nat, mkT a (j + 1) = mkT a j + max 1 (mkT a j / a) := fun j => rfl
  induction i with
  | zero =>
    have e : mkT a 0 = 1 := rfl
    have := st 0
    omega
  | succ i ih =>
    have := st i
    have := st (i + 1)
    omega
theorem mkT_hi {a x : Int} (ha : 2 ≤ a) (hx : x ≤ 9999) {R : Nat} (h : ∀ i, i < R → mkT a i ≤ x) : ∀ c, c ≤ R → mkT a c ≤ 20000 := by
  intro c hc
  cases c with
  | zero => show (1 : Int) ≤ 20000; omega
  | succ c =>
    have h1 := h c (by omega)
    have h0 := (mkT_b ha c).1
    have e : mkT a (c + 1) = mkT a c + max 1 (mkT a c / a) := rfl
    have := Int.ediv_le_self (b := a) (show 0 ≤ mkT a c by omega)
    omega
theorem mkT_J {a x : Int} (ha : 2 ≤ a ∧ a ≤ 99) (h0 : 0 ≤ x) (hx : x ≤ 20000) : J x + jmax (J 1) (J x / J a) = J (x + max 1 (x / a)) := by
  have d1 := Int.ediv_nonneg (b := a) h0 (by omega)
  have d2 := Int.ediv_le_self (b := a) h0
  rw [J_div (by omega) (by omega) (by omega) (by omega), jmax_J (by omega) (by omega) (by omega) (by omega), J_add]
section
variable {C : zM} {q : Nat} {X : Nat → Int}
theorem c_L18 {a x : Int} {v4 R : Nat} (ha : 2 ≤ a ∧ a ≤ 99) (hx : 0 ≤ x ∧ x ≤ 9999) (hv : v4 < 401) (hX : gI C (q + 5) v4 = J x) (h1 : ∀ i, i < R → mkT a i ≤ x) (h2 : x < mkT a R) : ∀ (f c e : Nat), e ≤ c → c ≤ R → R < f + c → gX9_passMarks_L18 C q (J a) (J v4) f (J (mkT a c)) (J c) (J e) = some (J (mkT a R), J R) := by
  have hR : R ≤ 9999 := by
    cases R with
    | zero => omega
    | succ i =>
      have := h1 i (by omega)
      have := (mkT_b ha.1 i).1
      omega
  intro f
  induction f with
  | zero => intro c e g1 g2 g3; omega
  | succ f ih =>
    intro c e g1 g2 g3
    have m1 := (mkT_b ha.1 c).1
    have m2 := mkT_hi ha.1 hx.2 h1 c g2
    unfold gX9_passMarks_L18
    simp only [J_0, J_1, J_2, J_3, J_4, J_5, J_6, J_7, J_8, J_9, J_10, J_11, J_12, J_14, J_15, J_16, J_19, J_20, J_21, J_22, J_23, J_24, J_25, J_28, J_30, J_31, J_32, J_40, J_44, J_47, J_48, J_49, J_50, J_53, J_54, J_57, J_59, J_74, J_75, J_78, J_84, J_97, J_99, J_100, J_120, J_122, J_126, J_132, J_138, J_144, J_150, J_156, J_162, J_198, J_200, J_202, J_206, J_210, J_214, J_218, J_222, J_226, J_230, J_234, J_238, J_239, J_240, J_241, J_242, J_243, J_255, J_263, J_283, J_303, J_399, J_400, J_401, J_463, J_700, J_701, J_999, J_1000, J_2048, J_4095, J_4096, J_6000, J_9999, J_10000, J_65536, J_65537, J_2147483647, J_neg]
    rw [iLT (by decide) (by decide) (by omega) (by omega), if_neg (by omega), ixb_J (by omega) (by omega) (by omega), ckt, ix_J (by omega) (by omega), Int.toNat_natCast, hX, iLT (by omega) (by omega) (by omega) (by omega)]
    by_cases z : c = R
    · subst z
      rw [if_pos h2]
    · have m3 := h1 c (by omega)
      have a1 : J (c : Int) + J 1 = J ((c + 1 : Nat) : Int) := by rw [J_add]; rfl
      have a2 : J (e : Int) + J 1 = J ((e + 1 : Nat) : Int) := by rw [J_add]; rfl
      rw [if_neg (by omega), jmax_J (by omega) (by omega) (by omega) (by omega), show max 1 a = a by omega, show decide (¬ J a = J 0) = true from decide_eq_true (by rw [J_inj (by omega) (by omega) (by omega) (by omega)]; omega), ckt, lts, mkT_J ha (by omega) m2, a1, a2]
      exact ih (c + 1) (e + 1) (by omega) (by omega) (by omega)
theorem c_L7 {a : Int} (ha : 2 ≤ a ∧ a ≤ 99) (hX : ∀ x, x < 401 → 0 ≤ X x ∧ X x ≤ 9999) (hm : ∀ x y, x ≤ y → y < 401 → X x ≤ X y) : ∀ (f v c : Nat) (S : zM), v ≤ 401 → 401 < f + v → fr (fun x _ => x = q + 5) C S → (∀ x, v ≤ x → x < 401 → ∀ i, i < c → mkT a i ≤ X x) → (∀ x, x < 401 → gI S (q + 5) x = J (if x < v then mkC a (X x) else X x)) → ∃ S', gX9_passMarks_L7 q (J a) f S (J (mkT a c)) (J c) (J v) = some S' ∧ fr (fun x _ => x = q + 5) C S' ∧ ∀ x, x < 401 → gI S' (q + 5) x = J (mkC a (X x)) := by
  intro f
  induction f with
  | zero => intro v c S h1 h2; omega
  | succ f ih =>
    intro v c S h1 h2 g hc hS
    unfold gX9_passMarks_L7
    simp only [J_0, J_1, J_2, J_3, J_4, J_5, J_6, J_7, J_8, J_9, J_10, J_11, J_12, J_14, J_15, J_16, J_19, J_20, J_21, J_22, J_23, J_24, J_25, J_28, J_30, J_31, J_32, J_40, J_44, J_47, J_48, J_49, J_50, J_53, J_54, J_57, J_59, J_74, J_75, J_78, J_84, J_97, J_99, J_100, J_120, J_122, J_126, J_132, J_138, J_144, J_150, J_156, J_162, J_198, J_200, J_202, J_206, J_210, J_214, J_218, J_222, J_226, J_230, J_234, J_238, J_239, J_240, J_241, J_242, J_243, J_255, J_263, J_283, J_303, J_399, J_400, J_401, J_463, J_700, J_701, J_999, J_1000, J_2048, J_4095, J_4096, J_6000, J_9999, J_10000, J_65536, J_65537, J_2147483647, J_neg]
    rw [iLT (by decide) (by decide) (by omega) (by omega)]
    by_cases e : v = 401
    · rw [if_pos (by omega)]
      exact ⟨S, rfl, g, fun x hx => by rw [hS x hx, if_pos (by omega)]⟩
    · have hv : v < 401 := by omega
      have hx := hX v hv
      obtain ⟨R, r1, r2, r3⟩ := exR (T := mkT a) (x := X v) 10001
      have r4 : X v < mkT a R := by
        by_cases z : R < 10001
        · exact r3 z
        · have := (mkT_b ha.1 R).1
          omega
      have r5 : c ≤ R := by
        by_cases z : c ≤ R
        · exact z
        · have := hc v (Nat.le_refl v) hv R (by omega)
          omega
      have r6 : R ≤ 9999 := by
        by_cases z : R = 0
        · omega
        · have := r2 (R - 1) (by omega)
          have := (mkT_b ha.1 (R - 1)).1
          omega
      have hf := FUs (n := 20000) (by omega)
      have e1 : gI S (q + 5) v = J (X v) := by rw [hS v hv, if_neg (by omega)]
      have a1 : J (v : Int) + J 1 = J ((v + 1 : Nat) : Int) := by rw [J_add]; rfl
      have ec : mkC a (X v) = R := cTT_u (fun i => (mkT_b ha.1 i).2) r6 r2 (fun _ => r4)
      rw [if_neg (by omega), show J 0 = J ((0 : Nat) : Int) from rfl, c_L18 ha hx hv e1 r2 r4 FU c 0 (by omega) r5 (by omega), b1s, un2s, ixb_J (by omega) (by omega) (by omega), ckt, ix_J (by omega) (by omega), Int.toNat_natCast, a1]
      refine ih (v + 1) R _ (by omega) (by omega) (fr_t g (fr_pI rfl)) (fun x h3 h4 i hi => ?_) (fun x h3 => ?_)
      · have := r2 i hi
        have := hm v x (by omega) h4
        omega
      · rw [rII]
        by_cases z : x = v
        · rw [if_pos ⟨rfl, z⟩, if_pos (by omega), z, ec]
        · rw [if_neg (fun y => z y.2), hS x h3]
          by_cases y : x < v
          · rw [if_pos y, if_pos (by omega)]
          · rw [if_neg y, if_neg (by omega)]
theorem m_marks_L {a x : Int} {R : Nat} (ha : 2 ≤ a ∧ a ≤ 99) (hx : 0 ≤ x ∧ x ≤ 9999) (h1 : ∀ i, i < R → mkT a i ≤ x) (h2 : x < mkT a R) (hR : R ≤ 9999) : ∀ (f c : Nat), c ≤ R → R < f + c → gX12_marks_L4 (J a) (J x) f (J (mkT a c)) (J c) = some (J R) := by
  intro f
  induction f with
  | zero => intro c g2 g3; omega
  | succ f ih =>
    intro c g2 g3
    have m1 := (mkT_b ha.1 c).1
    have m2 := mkT_hi ha.1 hx.2 h1 c g2
    unfold gX12_marks_L4
    simp only [J_0, J_1, J_2, J_3, J_4, J_5, J_6, J_7, J_8, J_9, J_10, J_11, J_12, J_14, J_15, J_16, J_19, J_20, J_21, J_22, J_23, J_24, J_25, J_28, J_30, J_31, J_32, J_40, J_44, J_47, J_48, J_49, J_50, J_53, J_54, J_57, J_59, J_74, J_75, J_78, J_84, J_97, J_99, J_100, J_120, J_122, J_126, J_132, J_138, J_144, J_150, J_156, J_162, J_198, J_200, J_202, J_206, J_210, J_214, J_218, J_222, J_226, J_230, J_234, J_238, J_239, J_240, J_241, J_242, J_243, J_255, J_263, J_283, J_303, J_399, J_400, J_401, J_463, J_700, J_701, J_999, J_1000, J_2048, J_4095, J_4096, J_6000, J_9999, J_10000, J_65536, J_65537, J_2147483647, J_neg]
    rw [iLT (by omega) (by omega) (by omega) (by omega)]
    by_cases z : c = R
    · subst z
      rw [if_pos h2]
    · have m3 := h1 c (by omega)
      have a1 : J (c : Int) + J 1 = J ((c + 1 : Nat) : Int) := by rw [J_add]; rfl
      have d1 := Int.ediv_nonneg (a := mkT a c) (b := a) (by omega) (by omega)
      have d2 := Int.ediv_le_self (a := mkT a c) (b := a) (by omega)
      have es : mkT a (c + 1) = mkT a c + max 1 (mkT a c / a) := rfl
      rw [if_neg (by omega), iLE (by decide) (by decide) (by omega) (by omega), if_neg (by omega), show decide (¬ J a = J 0) = true from decide_eq_true (by rw [J_inj (by omega) (by omega) (by omega) (by omega)]; omega), ckt, J_div (by omega) (by omega) (by omega) (by omega), iLE (by omega) (by omega) (by omega) (by omega), J_add, J_add (mkT a c) 1, a1]
      have nx := ih (c + 1) (by omega) (by omega)
      by_cases y : 1 ≤ mkT a c / a
      · rw [if_pos y, show mkT a c + mkT a c / a = mkT a (c + 1) by omega]
        exact nx
      · rw [if_neg y, show mkT a c + 1 = mkT a (c + 1) by omega]
        exact nx
theorem m_marks {a x : Int} (ha : 2 ≤ a ∧ a ≤ 99) (hx : 0 ≤ x ∧ x ≤ 9999) : gX12_marks (J a) (J x) = some (J (mkC a x)) := by
  obtain ⟨R, r1, r2, r3⟩ := exR (T := mkT a) (x := x) 10001
  have r4 : x < mkT a R := by
    by_cases z : R < 10001
    · exact r3 z
    · have := (mkT_b ha.1 R).1
      omega
  have r6 : R ≤ 9999 := by
    by_cases z : R = 0
    · omega
    · have := r2 (R - 1) (by omega)
      have := (mkT_b ha.1 (R - 1)).1
      omega
  have ec : mkC a x = R := cTT_u (fun i => (mkT_b ha.1 i).2) r6 r2 (fun _ => r4)
  have hf := FUs (n := 20000) (by omega)
  unfold gX12_marks
  simp only [J_0, J_1, J_2, J_3, J_4, J_5, J_6, J_7, J_8, J_9, J_10, J_11, J_12, J_14, J_15, J_16, J_19, J_20, J_21, J_22, J_23, J_24, J_25, J_28, J_30, J_31, J_32, J_40, J_44, J_47, J_48, J_49, J_50, J_53, J_54, J_57, J_59, J_74, J_75, J_78, J_84, J_97, J_99, J_100, J_120, J_122, J_126, J_132, J_138, J_144, J_150, J_156, J_162, J_198, J_200, J_202, J_206, J_210, J_214, J_218, J_222, J_226, J_230, J_234, J_238, J_239, J_240, J_241, J_242, J_243, J_255, J_263, J_283, J_303, J_399, J_400, J_401, J_463, J_700, J_701, J_999, J_1000, J_2048, J_4095, J_4096, J_6000, J_9999, J_10000, J_65536, J_65537, J_2147483647, J_neg]
  rw [ec]
  exact m_marks_L ha hx r2 r4 r6 FU 0 (by omega) (by omega)
end
