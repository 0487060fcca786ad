/-! The text: its tokens, by the class. -/
def sB (c : Int) : Bool := decide (c = 32)
def lB (c : Int) : Bool := decide (97 ≤ c ∧ c ≤ 122)
def dB (c : Int) : Bool := decide (48 ≤ c ∧ c ≤ 57)
theorem sB_t {c : Int} : sB c = true ↔ c = 32 := by unfold sB; exact decide_eq_true_iff
theorem lB_t {c : Int} : lB c = true ↔ 97 ≤ c ∧ c ≤ 122 := by unfold lB; exact decide_eq_true_iff
theorem dB_t {c : Int} : dB c = true ↔ 48 ≤ c ∧ c ≤ 57 := by unfold dB; exact decide_eq_true_iff
/-- where a run ends -/
def rEn (P : Int → Bool) (b : Nat → Int) (n : Nat) : Nat → Nat → Nat
  | 0, i => i
  | m + 1, i => if i < n then (if P (b i) = true then rEn P b n m (i + 1) else i) else i
def run (P : Int → Bool) (b : Nat → Int) (n i : Nat) : Nat := rEn P b n n i
section
variable {P : Int → Bool} {b : Nat → Int} {n : Nat}
theorem rEn_i : ∀ m m' i, n ≤ m + i → n ≤ m' + i → rEn P b n m i = rEn P b n m' i := by
  intro m
  induction m with
  | zero =>
    intro m' i h h'
    cases m' with
    | zero => rfl
    | succ m' =>
      show i = if i < n then (if P (b i) = true then rEn P b n m' (i + 1) else i) else i
      rw [if_neg (by omega)]
  | succ m ih =>
    intro m' i h h'
    cases m' with
    | zero =>
      show (if i < n then (if P (b i) = true then rEn P b n m (i + 1) else i) else i) = i
      rw [if_neg (by omega)]
    | succ m' =>
      show (if i < n then (if P (b i) = true then rEn P b n m (i + 1) else i) else i) = (if i < n then (if P (b i) = true then rEn P b n m' (i + 1) else i) else i)
      rw [ih m' (i + 1) (by omega) (by omega)]
theorem run_1 (i : Nat) : run P b n i = if i < n then (if P (b i) = true then run P b n (i + 1) else i) else i := by
  unfold run
  rw [rEn_i n (n + 1) i (by omega) (by omega)]
  rfl
theorem run_y {i : Nat} (h : i < n) (y : P (b i) = true) : run P b n i = run P b n (i + 1) := by rw [run_1, if_pos h, if_pos y]
theorem run_n {i : Nat} (h : i < n) (y : ¬ P (b i) = true) : run P b n i = i := by rw [run_1, if_pos h, if_neg y]
theorem run_e {i : Nat} (h : n ≤ i) : run P b n i = i := by rw [run_1, if_neg (by omega)]
theorem rEn_b : ∀ m i, i ≤ rEn P b n m i ∧ (i ≤ n → rEn P b n m i ≤ n) := by
  intro m
  induction m with
  | zero => intro i; exact ⟨Nat.le_refl i, fun h => h⟩
  | succ m ih =>
    intro i
    show i ≤ (if i < n then (if P (b i) = true then rEn P b n m (i + 1) else i) else i) ∧ (i ≤ n → (if i < n then (if P (b i) = true then rEn P b n m (i + 1) else i) else i) ≤ n)
    by_cases h : i < n
    · rw [if_pos h]
      by_cases y : P (b i) = true
      · rw [if_pos y]
        have := ih (i + 1)
        exact ⟨by omega, fun _ => this.2 (by omega)⟩
      · rw [if_neg y]
        exact ⟨Nat.le_refl i, fun h => h⟩
    · rw [if_neg h]
      exact ⟨Nat.le_refl i, fun h => h⟩
theorem run_ge (i : Nat) : i ≤ run P b n i := (rEn_b n i).1
theorem run_le {i : Nat} (h : i ≤ n) : run P b n i ≤ n := (rEn_b n i).2 h
theorem run_gt {i : Nat} (h : i < n) (y : P (b i) = true) : i < run P b n i := by
  rw [run_y h y]
  exact run_ge (i + 1)
theorem run_s {i j : Nat} (h1 : i ≤ j) (h2 : j < run P b n i) (hn : i ≤ n) : P (b j) = true ∧ run P b n j = run P b n i := by
  obtain ⟨d, rfl⟩ : ∃ d, j = i + d := ⟨j - i, by omega⟩
  induction d with
  | zero =>
    refine ⟨?_, rfl⟩
    by_cases h : i < n
    · by_cases y : P (b i) = true
      · exact y
      · rw [run_n h y] at h2
        omega
    · rw [run_e (by omega)] at h2
      omega
  | succ d ih =>
    have hl := run_le (P := P) (b := b) hn
    obtain ⟨q1, q2⟩ := ih (by omega) (by omega)
    have e : run P b n (i + (d + 1)) = run P b n i := by
      rw [← q2, run_y (by omega) q1]
      rfl
    refine ⟨?_, e⟩
    by_cases y : P (b (i + (d + 1))) = true
    · exact y
    · rw [run_n (by omega) y] at e
      omega
/-- the word of so many letters in number, and the whole -/
def cdW (b : Nat → Int) (q : Nat) : Nat → Int
  | 0 => 0
  | l + 1 => cdW b q l * 32 + b (q + l) - 97 + 1
def dcW (b : Nat → Int) (q : Nat) : Nat → Int
  | 0 => 0
  | l + 1 => dcW b q l * 10 + b (q + l) - 48
/-- the end of the token at a place; its sort and number -/
def te (b : Nat → Int) (n q : Nat) : Nat := if q < n then (if lB (b q) = true then run lB b n q else if dB (b q) = true then run dB b n q else q + 1) else q
def sgn (v : Int) : Int := if v < 128 then v else v - 256
def tKd (b : Nat → Int) (n q : Nat) : Int := if q < n then (if lB (b q) = true then (if te b n q ≤ q + 8 then 1 else 4) else if dB (b q) = true then (if te b n q ≤ q + 3 then 2 else 4) else if b q = 59 ∨ b q = 44 ∨ b q = 47 then 3 else 4) else 0
def tVl (b : Nat → Int) (n q : Nat) : Int := if q < n then (if lB (b q) = true then cdW b q (te b n q - q) else if dB (b q) = true then dcW b q (te b n q - q) else sgn (b q)) else 0
def tpos (b : Nat → Int) (n : Nat) : Nat → Nat
  | 0 => run sB b n 0
  | k + 1 => run sB b n (te b n (tpos b n k))
theorem te_b {q : Nat} (h : q < n) : q < te b n q ∧ te b n q ≤ n := by
  unfold te
  rw [if_pos h]
  by_cases a : lB (b q) = true
  · rw [if_pos a]
    exact ⟨run_gt h a, run_le (by omega)⟩
  · rw [if_neg a]
    by_cases d : dB (b q) = true
    · rw [if_pos d]
      exact ⟨run_gt h d, run_le (by omega)⟩
    · rw [if_neg d]
      omega
theorem te_le {q : Nat} (h : q ≤ n) : te b n q ≤ n := by
  by_cases e : q < n
  · exact (te_b e).2
  · unfold te
    rw [if_neg e]
    exact h
theorem tpos_le : ∀ k, tpos b n k ≤ n := by
  intro k
  induction k with
  | zero => exact run_le (by omega)
  | succ k ih => exact run_le (te_le ih)
def bOK (b : Nat → Int) (n : Nat) : Prop := n ≤ 700 ∧ ∀ k, k < n → 0 ≤ b k ∧ b k ≤ 255
def cTp (C : zM) (b : Nat → Int) (n : Nat) : Prop := ∀ k, k < n → gI C 1 k = J (sgn (b k))
theorem sgn_b {v : Int} (h : 0 ≤ v ∧ v ≤ 255) : -128 ≤ sgn v ∧ sgn v ≤ 127 := by unfold sgn; split <;> omega
theorem c_let {v : Int} (h : 0 ≤ v ∧ v ≤ 255) : gX7_isLetter (J (sgn v)) = some (bI (lB v = true)) := by
  have hb := sgn_b h
  unfold gX7_isLetter
  simp only [J_0, J_1, J_2, J_3, J_4, J_5, J_6, J_7, J_8, J_9, J_10, J_11, J_12, J_14, J_15, J_16, J_19, J_20, J_21, J_22, J_23, J_24, J_25, J_28, J_30, J_31, J_32, J_40, J_44, J_47, J_48, J_49, J_50, J_53, J_54, J_57, J_59, J_74, J_75, J_78, J_84, J_97, J_99, J_100, J_120, J_122, J_126, J_132, J_138, J_144, J_150, J_156, J_162, J_198, J_200, J_202, J_206, J_210, J_214, J_218, J_222, J_226, J_230, J_234, J_238, J_239, J_240, J_241, J_242, J_243, J_255, J_263, J_283, J_303, J_399, J_400, J_401, J_463, J_700, J_701, J_999, J_1000, J_2048, J_4095, J_4096, J_6000, J_9999, J_10000, J_65536, J_65537, J_2147483647, J_neg]
  rw [iLT (by omega) (by omega) (by decide) (by decide), iLT (by decide) (by decide) (by omega) (by omega)]
  have hl := @lB_t v
  unfold sgn
  by_cases y : lB v = true
  · rw [bI_t y]
    have := hl.mp y
    rw [if_pos (show v < 128 by omega), if_neg (by omega), if_neg (by omega)]
  · rw [bI_f y]
    have nl : ¬ (97 ≤ v ∧ v ≤ 122) := fun w => y (hl.mpr w)
    by_cases z : v < 128
    · rw [if_pos z]
      by_cases a : v < 97
      · rw [if_pos a]
      · rw [if_neg a, if_pos (by omega)]
    · rw [if_neg z, if_pos (by omega)]
theorem c_dig {v : Int} (h : 0 ≤ v ∧ v ≤ 255) : gX7_isDigit (J (sgn v)) = some (bI (dB v = true)) := by
  have hb := sgn_b h
  unfold gX7_isDigit
  simp only [J_0, J_1, J_2, J_3, J_4, J_5, J_6, J_7, J_8, J_9, J_10, J_11, J_12, J_14, J_15, J_16, J_19, J_20, J_21, J_22, J_23, J_24, J_25, J_28, J_30, J_31, J_32, J_40, J_44, J_47, J_48, J_49, J_50, J_53, J_54, J_57, J_59, J_74, J_75, J_78, J_84, J_97, J_99, J_100, J_120, J_122, J_126, J_132, J_138, J_144, J_150, J_156, J_162, J_198, J_200, J_202, J_206, J_210, J_214, J_218, J_222, J_226, J_230, J_234, J_238, J_239, J_240, J_241, J_242, J_243, J_255, J_263, J_283, J_303, J_399, J_400, J_401, J_463, J_700, J_701, J_999, J_1000, J_2048, J_4095, J_4096, J_6000, J_9999, J_10000, J_65536, J_65537, J_2147483647, J_neg]
  rw [iLT (by omega) (by omega) (by decide) (by decide), iLT (by decide) (by decide) (by omega) (by omega)]
  have hl := @dB_t v
  unfold sgn
  by_cases y : dB v = true
  · rw [bI_t y]
    have := hl.mp y
    rw [if_pos (show v < 128 by omega), if_neg (by omega), if_neg (by omega)]
  · rw [bI_f y]
    have nl : ¬ (48 ≤ v ∧ v ≤ 57) := fun w => y (hl.mpr w)
    by_cases z : v < 128
    · rw [if_pos z]
      by_cases a : v < 48
      · rw [if_pos a]
      · rw [if_neg a, if_pos (by omega)]
    · rw [if_neg z, if_pos (by omega)]
/-- a token is put -/
def aT (C : zM) (K : Nat) (kd q v : Int) : zM := pI (pL (pI (pI C 3 K (J kd)) 4 K (J q)) 5 K (JL v)) 2 3 (J ((K + 1 : Nat) : Int))
theorem c_addT {C : zM} {K : Nat} {kd q v : Int} (h : gI C 2 3 = J K) (hK : K ≤ 700) : gX7_addToken C (J kd) (J q) (JL v) = some (aT C K kd q v) := by
  have x1 : ixb (J (K : Int)) 701 = true := ixb_J (by omega) (by omega) (by decide)
  have y1 : ix (J (K : Int)) = K := by rw [ix_J (by omega) (by omega)]; omega
  have e1 : gI (pI C 3 K (J kd)) 2 3 = J K := by rw [rII, if_neg (by omega), h]
  have e2 : gI (pI (pI C 3 K (J kd)) 4 K (J q)) 2 3 = J K := by rw [rII, if_neg (by omega), e1]
  have e3 : gI (pL (pI (pI C 3 K (J kd)) 4 K (J q)) 5 K (JL v)) 2 3 = J K := by rw [rIL, e2]
  unfold gX7_addToken
  simp only [J_0, J_1, J_2, J_3, J_4, J_5, J_6, J_7, J_8, J_9, J_10, J_11, J_12, J_14, J_15, J_16, J_19, J_20, J_21, J_22, J_23, J_24, J_25, J_28, J_30, J_31, J_32, J_40, J_44, J_47, J_48, J_49, J_50, J_53, J_54, J_57, J_59, J_74, J_75, J_78, J_84, J_97, J_99, J_100, J_120, J_122, J_126, J_132, J_138, J_144, J_150, J_156, J_162, J_198, J_200, J_202, J_206, J_210, J_214, J_218, J_222, J_226, J_230, J_234, J_238, J_239, J_240, J_241, J_242, J_243, J_255, J_263, J_283, J_303, J_399, J_400, J_401, J_463, J_700, J_701, J_999, J_1000, J_2048, J_4095, J_4096, J_6000, J_9999, J_10000, J_65536, J_65537, J_2147483647, J_neg, h, x1, y1, e1, e2, e3, ckt, b1s, b2s, lts, un2s, un3s, un4s, un5s, lmr, lml, lgr, lgl, J_add]
  rw [iLE (by decide) (by decide) (by omega) (by omega), if_neg (by omega)]
  rfl
def fSc (q k : Nat) : Prop := (q = 2 ∧ (k = 3 ∨ k = 4)) ∨ (3 ≤ q ∧ q ≤ 5)
theorem fr_aT {C : zM} {K : Nat} {kd q v : Int} : fr fSc C (aT C K kd q v) := fr_t (fr_t (fr_t (fr_pI (Or.inr (by decide))) (fr_pI (Or.inr (by decide)))) (fr_pL (Or.inr (by decide)))) (fr_pI (Or.inl ⟨rfl, Or.inl rfl⟩))
theorem aT_3 {C : zM} {K : Nat} {kd q v : Int} : gI (aT C K kd q v) 2 3 = J ((K + 1 : Nat) : Int) := by unfold aT; rw [rII, if_pos ⟨rfl, rfl⟩]
theorem aT_k {C : zM} {K k : Nat} {kd q v : Int} : gI (aT C K kd q v) 3 k = (if k = K then J kd else gI C 3 k) ∧ gI (aT C K kd q v) 4 k = (if k = K then J q else gI C 4 k) ∧ gL (aT C K kd q v) 5 k = if k = K then JL v else gL C 5 k := by
  unfold aT
  refine ⟨?_, ?_, ?_⟩
  · rw [rII, if_neg (by omega), rIL, rII, if_neg (by omega), rII]
    by_cases e : k = K
    · rw [if_pos ⟨rfl, e⟩, if_pos e]
    · rw [if_neg (fun w => e w.2), if_neg e]
  · rw [rII, if_neg (by omega), rIL, rII]
    by_cases e : k = K
    · rw [if_pos ⟨rfl, e⟩, if_pos e]
    · rw [if_neg (fun w => e w.2), if_neg e, rII, if_neg (by omega)]
  · rw [rLI, rLL]
    by_cases e : k = K
    · rw [if_pos ⟨rfl, e⟩, if_pos e]
    · rw [if_neg (fun w => e w.2), if_neg e, rLI, rLI]
theorem c_word_L {C : zM} {K q : Nat} (hb : bOK b n) (ht : cTp C b n) (hK : gI C 2 3 = J K) (hK2 : K ≤ 700) (hq : q < n) : ∀ (f i : Nat), q ≤ i → i ≤ n → n < f + i → run lB b n i = run lB b n q → gX7_scanWord_L6 C (J q) (J n) f (JL (cdW b q (i - q))) (J i) = some (J (run lB b n q), aT C K (if run lB b n q ≤ q + 8 then 1 else 4) q (cdW b q (run lB b n q - q))) := by
  have hn := hb.1
  intro f
  induction f with
  | zero => intro i h1 h2 h3; omega
  | succ f ih =>
    intro i h1 h2 h3 he
    unfold gX7_scanWord_L6
    simp only [J_0, J_1, J_2, J_3, J_4, J_5, J_6, J_7, J_8, J_9, J_10, J_11, J_12, J_14, J_15, J_16, J_19, J_20, J_21, J_22, J_23, J_24, J_25, J_28, J_30, J_31, J_32, J_40, J_44, J_47, J_48, J_49, J_50, J_53, J_54, J_57, J_59, J_74, J_75, J_78, J_84, J_97, J_99, J_100, J_120, J_122, J_126, J_132, J_138, J_144, J_150, J_156, J_162, J_198, J_200, J_202, J_206, J_210, J_214, J_218, J_222, J_226, J_230, J_234, J_238, J_239, J_240, J_241, J_242, J_243, J_255, J_263, J_283, J_303, J_399, J_400, J_401, J_463, J_700, J_701, J_999, J_1000, J_2048, J_4095, J_4096, J_6000, J_9999, J_10000, J_65536, J_65537, J_2147483647, J_neg, JL_0, JL_1, JL_9, JL_10, JL_32, JL_40, JL_48, JL_64, JL_97, JL_100, JL_4095, JL_4096, JL_16384, JL_65537, JL_524287, JL_524288, JL_268435455, JL_1099511627775, JL_neg]
    have ex : run lB b n q = i → (if J (i : Int) - J (q : Int) ≤ J 8 then b1 (gX7_addToken C (J 1) (J q) (JL (cdW b q (i - q)))) fun S2 => some (J (i : Int), S2) else b1 (gX7_addToken C (J 4) (J q) (JL (cdW b q (i - q)))) fun S4 => some (J (i : Int), S4)) = some (J (run lB b n q), aT C K (if run lB b n q ≤ q + 8 then 1 else 4) q (cdW b q (run lB b n q - q))) := by
      intro e
      rw [e, J_sub, iLE (by omega) (by omega) (by decide) (by decide)]
      by_cases z : i ≤ q + 8
      · rw [if_pos (by omega), if_pos z, c_addT hK hK2, b1s]
      · rw [if_neg (by omega), if_neg z, c_addT hK hK2, b1s]
    rw [iLE (by omega) (by omega) (by omega) (by omega)]
    by_cases e : i = n
    · rw [if_pos (by omega)]
      exact ex (by rw [← he]; exact run_e (by omega))
    · have x1 : ixb (J (i : Int)) 700 = true := ixb_J (by omega) (by omega) (by decide)
      have y1 : ix (J (i : Int)) = i := by rw [ix_J (by omega) (by omega)]; omega
      have hi := hb.2 i (by omega)
      have hs := sgn_b hi
      rw [if_neg (by omega), iLE (by decide) (by decide) (by omega) (by omega), if_neg (by omega), x1, ckt, y1, ht i (by omega), c_let hi, b1s, iB0]
      by_cases y : lB (b i) = true
      · rw [if_pos y, ckt, lts, J_toL (by omega) (by omega), JL_mul, JL_add, JL_sub, JL_add, J_add]
        have sg : sgn (b i) = b i := by
          have := lB_t.mp y
          unfold sgn
          rw [if_pos (by omega)]
        have cd : cdW b q (i - q) * 32 + sgn (b i) - 97 + 1 = cdW b q (i + 1 - q) := by
          rw [sg, show i + 1 - q = (i - q) + 1 by omega]
          show _ = cdW b q (i - q) * 32 + b (q + (i - q)) - 97 + 1
          rw [show q + (i - q) = i by omega]
        rw [cd, show (i : Int) + 1 = ((i + 1 : Nat) : Int) by omega]
        exact ih (i + 1) (by omega) (by omega) (by omega) (by rw [← he, run_y (by omega) y])
      · rw [if_neg y]
        exact ex (by rw [← he]; exact run_n (by omega) y)
theorem c_whole_L {C : zM} {K q : Nat} (hb : bOK b n) (ht : cTp C b n) (hK : gI C 2 3 = J K) (hK2 : K ≤ 700) (hq : q < n) : ∀ (f i : Nat), q ≤ i → i ≤ n → n < f + i → run dB b n i = run dB b n q → gX7_scanWhole_L6 C (J q) (J n) f (JL (dcW b q (i - q))) (J i) = some (J (run dB b n q), aT C K (if run dB b n q ≤ q + 3 then 2 else 4) q (dcW b q (run dB b n q - q))) := by
  have hn := hb.1
  intro f
  induction f with
  | zero => intro i h1 h2 h3; omega
  | succ f ih =>
    intro i h1 h2 h3 he
    unfold gX7_scanWhole_L6
    simp only [J_0, J_1, J_2, J_3, J_4, J_5, J_6, J_7, J_8, J_9, J_10, J_11, J_12, J_14, J_15, J_16, J_19, J_20, J_21, J_22, J_23, J_24, J_25, J_28, J_30, J_31, J_32, J_40, J_44, J_47, J_48, J_49, J_50, J_53, J_54, J_57, J_59, J_74, J_75, J_78, J_84, J_97, J_99, J_100, J_120, J_122, J_126, J_132, J_138, J_144, J_150, J_156, J_162, J_198, J_200, J_202, J_206, J_210, J_214, J_218, J_222, J_226, J_230, J_234, J_238, J_239, J_240, J_241, J_242, J_243, J_255, J_263, J_283, J_303, J_399, J_400, J_401, J_463, J_700, J_701, J_999, J_1000, J_2048, J_4095, J_4096, J_6000, J_9999, J_10000, J_65536, J_65537, J_2147483647, J_neg, JL_0, JL_1, JL_9, JL_10, JL_32, JL_40, JL_48, JL_64, JL_97, JL_100, JL_4095, JL_4096, JL_16384, JL_65537, JL_524287, JL_524288, JL_268435455, JL_1099511627775, JL_neg]
    have ex : run dB b n q = i → (if J (i : Int) - J (q : Int) ≤ J 3 then b1 (gX7_addToken C (J 2) (J q) (JL (dcW b q (i - q)))) fun S2 => some (J (i : Int), S2) else b1 (gX7_addToken C (J 4) (J q) (JL (dcW b q (i - q)))) fun S4 => some (J (i : Int), S4)) = some (J (run dB b n q), aT C K (if run dB b n q ≤ q + 3 then 2 else 4) q (dcW b q (run dB b n q - q))) := by
      intro e
      rw [e, J_sub, iLE (by omega) (by omega) (by decide) (by decide)]
      by_cases z : i ≤ q + 3
      · rw [if_pos (by omega), if_pos z, c_addT hK hK2, b1s]
      · rw [if_neg (by omega), if_neg z, c_addT hK hK2, b1s]
    rw [iLE (by omega) (by omega) (by omega) (by omega)]
    by_cases e : i = n
    · rw [if_pos (by omega)]
      exact ex (by rw [← he]; exact run_e (by omega))
    · have x1 : ixb (J (i : Int)) 700 = true := ixb_J (by omega) (by omega) (by decide)
      have y1 : ix (J (i : Int)) = i := by rw [ix_J (by omega) (by omega)]; omega
      have hi := hb.2 i (by omega)
      have hs := sgn_b hi
      rw [if_neg (by omega), iLE (by decide) (by decide) (by omega) (by omega), if_neg (by omega), x1, ckt, y1, ht i (by omega), c_dig hi, b1s, iB0]
      by_cases y : dB (b i) = true
      · rw [if_pos y, ckt, lts, J_toL (by omega) (by omega), JL_mul, JL_add, JL_sub, J_add]
        have sg : sgn (b i) = b i := by
          have := dB_t.mp y
          unfold sgn
          rw [if_pos (by omega)]
        have cd : dcW b q (i - q) * 10 + sgn (b i) - 48 = dcW b q (i + 1 - q) := by
          rw [sg, show i + 1 - q = (i - q) + 1 by omega]
          show _ = dcW b q (i - q) * 10 + b (q + (i - q)) - 48
          rw [show q + (i - q) = i by omega]
        rw [cd, show (i : Int) + 1 = ((i + 1 : Nat) : Int) by omega]
        exact ih (i + 1) (by omega) (by omega) (by omega) (by rw [← he, run_y (by omega) y])
      · rw [if_neg y]
        exact ex (by rw [← he]; exact run_n (by omega) y)
theorem c_token {C : zM} {K q : Nat} (hb : bOK b n) (ht : cTp C b n) (hK : gI C 2 3 = J K) (hK2 : K ≤ 700) (hq : q < n) : gX7_scanToken C (J q) (J n) = some (J (te b n q), aT C K (tKd b n q) q (tVl b n q)) := by
  have hn := hb.1
  have x1 : ixb (J (q : Int)) 700 = true := ixb_J (by omega) (by omega) (by decide)
  have y1 : ix (J (q : Int)) = q := by rw [ix_J (by omega) (by omega)]; omega
  have hi := hb.2 q hq
  have hs := sgn_b hi
  have hf := FUs (n := 800) (by omega)
  unfold gX7_scanToken gX7_scanWord gX7_scanWhole tKd tVl
  simp only [J_0, J_1, J_2, J_3, J_4, J_5, J_6, J_7, J_8, J_9, J_10, J_11, J_12, J_14, J_15, J_16, J_19, J_20, J_21, J_22, J_23, J_24, J_25, J_28, J_30, J_31, J_32, J_40, J_44, J_47, J_48, J_49, J_50, J_53, J_54, J_57, J_59, J_74, J_75, J_78, J_84, J_97, J_99, J_100, J_120, J_122, J_126, J_132, J_138, J_144, J_150, J_156, J_162, J_198, J_200, J_202, J_206, J_210, J_214, J_218, J_222, J_226, J_230, J_234, J_238, J_239, J_240, J_241, J_242, J_243, J_255, J_263, J_283, J_303, J_399, J_400, J_401, J_463, J_700, J_701, J_999, J_1000, J_2048, J_4095, J_4096, J_6000, J_9999, J_10000, J_65536, J_65537, J_2147483647, J_neg, JL_0, JL_1, JL_9, JL_10, JL_32, JL_40, JL_48, JL_64, JL_97, JL_100, JL_4095, JL_4096, JL_16384, JL_65537, JL_524287, JL_524288, JL_268435455, JL_1099511627775, JL_neg]
  rw [x1, ckt, y1, ht q hq, c_let hi, b1s, iB0, if_pos hq, if_pos hq]
  by_cases y : lB (b q) = true
  · have e : te b n q = run lB b n q := by unfold te; rw [if_pos hq, if_pos y]
    have w := c_word_L hb ht hK hK2 hq FU q (Nat.le_refl q) (by omega) (by omega) rfl
    rw [Nat.sub_self, show cdW b q 0 = 0 from rfl] at w
    rw [if_pos y, if_pos y, if_pos y, w, b2s, e]
  · rw [if_neg y, if_neg y, if_neg y, c_dig hi, b1s, iB0]
    by_cases z : dB (b q) = true
    · have e : te b n q = run dB b n q := by unfold te; rw [if_pos hq, if_neg y, if_pos z]
      have w := c_whole_L hb ht hK hK2 hq FU q (Nat.le_refl q) (by omega) (by omega) rfl
      rw [Nat.sub_self, show dcW b q 0 = 0 from rfl] at w
      rw [if_pos z, if_pos z, if_pos z, w, b2s, e]
    · have e : te b n q = q + 1 := by unfold te; rw [if_pos hq, if_neg y, if_neg z]
      rw [if_neg z, if_neg z, if_neg z, iEQ (by omega) (by omega) (by decide) (by decide), iEQ (by omega) (by omega) (by decide) (by decide), iEQ (by omega) (by omega) (by decide) (by decide), J_toL (by omega) (by omega), c_addT hK hK2, c_addT hK hK2, b1s, b1s, J_add, e, show (q : Int) + 1 = ((q + 1 : Nat) : Int) by omega]
      have sg : ∀ c : Int, 0 ≤ c → c < 128 → (sgn (b q) = c ↔ b q = c) := fun c h1 h2 => by unfold sgn; split <;> omega
      have s1 := sg 59 (by decide) (by decide)
      have s2 := sg 44 (by decide) (by decide)
      have s3 := sg 47 (by decide) (by decide)
      by_cases m1 : b q = 59
      · rw [if_pos (s1.mpr m1), if_pos (Or.inl m1)]
      · rw [if_neg (fun w => m1 (s1.mp w))]
        by_cases m2 : b q = 44
        · rw [if_pos (s2.mpr m2), if_pos (Or.inr (Or.inl m2))]
        · rw [if_neg (fun w => m2 (s2.mp w))]
          by_cases m3 : b q = 47
          · rw [if_pos (s3.mpr m3), if_pos (Or.inr (Or.inr m3))]
          · rw [if_neg (fun w => m3 (s3.mp w)), if_neg (by omega)]
/-- the class' tokens -/
def rdC (C : zM) (b : Nat → Int) (n T : Nat) : Prop := T ≤ 700 ∧ tpos b n T = n ∧ (∀ k, k < T → tpos b n k < n) ∧ gI C 2 3 = J ((T + 1 : Nat) : Int) ∧ ∀ k, k ≤ T → gI C 3 k = J (tKd b n (tpos b n k)) ∧ gI C 4 k = J (tpos b n k) ∧ gL C 5 k = JL (tVl b n (tpos b n k))
theorem c_scan_L (hb : bOK b n) : ∀ (f i c K : Nat) (C0 C : zM), c ≤ i → i ≤ n → n < f + i → K ≤ i → cTp C b n → fr fSc C0 C → gI C 2 3 = J K → gI C 2 4 = J 0 → run sB b n i = tpos b n K → (∀ k, k < K → tpos b n k < n ∧ gI C 3 k = J (tKd b n (tpos b n k)) ∧ gI C 4 k = J (tpos b n k) ∧ gL C 5 k = JL (tVl b n (tpos b n k))) → ∃ C' T, gX7_scan_L15 (J n) f C (J i) (J c) = some C' ∧ fr fSc C0 C' ∧ rdC C' b n T ∧ gI C' 2 4 = J 0 := by
  have hn := hb.1
  intro f
  induction f with
  | zero => intro i c K C0 C h1 h2 h3; omega
  | succ f ih =>
    intro i c K C0 C h1 h2 h3 h4 ht fC0 hK h24 hr hd
    unfold gX7_scan_L15
    simp only [J_0, J_1, J_2, J_3, J_4, J_5, J_6, J_7, J_8, J_9, J_10, J_11, J_12, J_14, J_15, J_16, J_19, J_20, J_21, J_22, J_23, J_24, J_25, J_28, J_30, J_31, J_32, J_40, J_44, J_47, J_48, J_49, J_50, J_53, J_54, J_57, J_59, J_74, J_75, J_78, J_84, J_97, J_99, J_100, J_120, J_122, J_126, J_132, J_138, J_144, J_150, J_156, J_162, J_198, J_200, J_202, J_206, J_210, J_214, J_218, J_222, J_226, J_230, J_234, J_238, J_239, J_240, J_241, J_242, J_243, J_255, J_263, J_283, J_303, J_399, J_400, J_401, J_463, J_700, J_701, J_999, J_1000, J_2048, J_4095, J_4096, J_6000, J_9999, J_10000, J_65536, J_65537, J_2147483647, J_neg, JL_0, JL_1, JL_9, JL_10, JL_32, JL_40, JL_48, JL_64, JL_97, JL_100, JL_4095, JL_4096, JL_16384, JL_65537, JL_524287, JL_524288, JL_268435455, JL_1099511627775, JL_neg]
    have ex : i = n → ∃ C' T, (b1 (gX7_addToken C (J 0) (J n) (JL 0)) fun S2 => some S2) = some C' ∧ fr fSc C0 C' ∧ rdC C' b n T ∧ gI C' 2 4 = J 0 := by
      intro e
      have tK : tpos b n K = n := by rw [← hr, e]; exact run_e (Nat.le_refl n)
      rw [c_addT hK (by omega), b1s]
      refine ⟨_, K, rfl, fr_t fC0 fr_aT, ⟨by omega, tK, fun k hk => (hd k hk).1, aT_3, fun k hk => ?_⟩, ?_⟩
      · obtain ⟨a1, a2, a3⟩ := aT_k (C := C) (K := K) (k := k) (kd := 0) (q := n) (v := 0)
        rw [a1, a2, a3]
        by_cases z : k = K
        · rw [if_pos z, if_pos z, if_pos z, z, tK]
          unfold tKd tVl
          rw [if_neg (by omega), if_neg (by omega)]
          exact ⟨rfl, rfl, rfl⟩
        · rw [if_neg z, if_neg z, if_neg z]
          exact (hd k (by omega)).2
      · unfold aT
        rw [rII, if_neg (by omega), rIL, rII, if_neg (by omega), rII, if_neg (by omega), h24]
    rw [iLE (by omega) (by omega) (by omega) (by omega), iLE (by omega) (by omega) (by omega) (by omega), iLE (by decide) (by decide) (by omega) (by omega)]
    by_cases e1 : n ≤ c
    · rw [if_pos (by omega)]
      exact ex (by omega)
    · rw [if_neg (by omega)]
      by_cases e : i = n
      · rw [if_pos (by omega)]
        exact ex e
      · have x1 : ixb (J (i : Int)) 700 = true := ixb_J (by omega) (by omega) (by decide)
        have y1 : ix (J (i : Int)) = i := by rw [ix_J (by omega) (by omega)]; omega
        have hi := hb.2 i (by omega)
        have hs := sgn_b hi
        rw [if_neg (by omega), if_neg (by omega), x1, ckt, y1, ht i (by omega), iEQ (by omega) (by omega) (by decide) (by decide), J_add, J_add, show (i : Int) + 1 = ((i + 1 : Nat) : Int) by omega, show (c : Int) + 1 = ((c + 1 : Nat) : Int) by omega]
        by_cases z : b i = 32
        · rw [if_pos (show sgn (b i) = 32 by unfold sgn; rw [if_pos (by omega)]; exact z)]
          exact ih (i + 1) (c + 1) K C0 C (by omega) (by omega) (by omega) (by omega) ht fC0 hK h24 (by rw [← hr, run_y (by omega) (sB_t.mpr z)]) hd
        · rw [if_neg (show ¬ sgn (b i) = 32 by unfold sgn; split <;> omega), c_token hb ht hK (by omega) (by omega), b2s]
          have rn : tpos b n K = i := by rw [← hr]; exact run_n (by omega) (fun w => z (sB_t.mp w))
          have hte := te_b (b := b) (show i < n by omega)
          have f1 : fr fSc C (aT C K (tKd b n i) i (tVl b n i)) := fr_aT
          refine ih (te b n i) (c + 1) (K + 1) C0 _ (by omega) (by omega) (by omega) (by omega) (fun k hk => by rw [f1.1 1 k (by unfold fSc; omega)]; exact ht k hk) (fr_t fC0 f1) aT_3 ?_ (by show _ = run sB b n (te b n (tpos b n K)); rw [rn]) (fun k hk => ?_)
          · unfold aT
            rw [rII, if_neg (by omega), rIL, rII, if_neg (by omega), rII, if_neg (by omega), h24]
          · obtain ⟨a1, a2, a3⟩ := aT_k (C := C) (K := K) (k := k) (kd := tKd b n i) (q := i) (v := tVl b n i)
            rw [a1, a2, a3]
            by_cases w : k = K
            · rw [if_pos w, if_pos w, if_pos w, w, rn]
              exact ⟨by omega, rfl, rfl, rfl⟩
            · rw [if_neg w, if_neg w, if_neg w]
              exact hd k (by omega)
theorem c_scan {C : zM} (hb : bOK b n) (ht : cTp C b n) : ∃ C' T, gX7_scan C (J n) = some C' ∧ fr fSc C C' ∧ rdC C' b n T ∧ gI C' 2 4 = J 0 := by
  have hn := hb.1
  obtain ⟨C', T, r⟩ := c_scan_L hb FU 0 0 0 C (pI (pI C 2 3 (J 0)) 2 4 (J 0)) (by omega) (by omega) (by have := FUs (n := 800) (by omega); omega) (by omega) (fun k hk => by rw [rII, if_neg (by omega), rII, if_neg (by omega)]; exact ht k hk) (fr_t (fr_pI (Or.inl ⟨rfl, Or.inl rfl⟩)) (fr_pI (Or.inl ⟨rfl, Or.inr rfl⟩))) (by rw [rII, if_neg (by omega), rII, if_pos ⟨rfl, rfl⟩]; rfl) (by rw [rII, if_pos ⟨rfl, rfl⟩]) rfl (fun k hk => by omega)
  refine ⟨C', T, ?_⟩
  unfold gX7_scan
  simp only [J_0, J_1, J_2, J_3, J_4, J_5, J_6, J_7, J_8, J_9, J_10, J_11, J_12, J_14, J_15, J_16, J_19, J_20, J_21, J_22, J_23, J_24, J_25, J_28, J_30, J_31, J_32, J_40, J_44, J_47, J_48, J_49, J_50, J_53, J_54, J_57, J_59, J_74, J_75, J_78, J_84, J_97, J_99, J_100, J_120, J_122, J_126, J_132, J_138, J_144, J_150, J_156, J_162, J_198, J_200, J_202, J_206, J_210, J_214, J_218, J_222, J_226, J_230, J_234, J_238, J_239, J_240, J_241, J_242, J_243, J_255, J_263, J_283, J_303, J_399, J_400, J_401, J_463, J_700, J_701, J_999, J_1000, J_2048, J_4095, J_4096, J_6000, J_9999, J_10000, J_65536, J_65537, J_2147483647, J_neg]
  exact r
end
