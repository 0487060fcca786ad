/-! Sums. -/
def sm : Nat → (Nat → Int) → Int
  | 0, _ => 0
  | n + 1, f => sm n f + f n
theorem sm_0 {f : Nat → Int} : sm 0 f = 0 := rfl
theorem sm_s {n : Nat} {f : Nat → Int} : sm (n + 1) f = sm n f + f n := rfl
theorem sm_c {n : Nat} {f g : Nat → Int} (h : ∀ k, k < n → f k = g k) : sm n f = sm n g := by
  induction n with
  | zero => rfl
  | succ n ih => rw [sm_s, sm_s, ih (fun k hk => h k (by omega)), h n (by omega)]
theorem sm_add {n : Nat} {f g : Nat → Int} : sm n (fun k => f k + g k) = sm n f + sm n g := by
  induction n with
  | zero => rfl
  | succ n ih => rw [sm_s, sm_s, sm_s, ih]; omega
theorem sm_sub {n : Nat} {f g : Nat → Int} : sm n (fun k => f k - g k) = sm n f - sm n g := by
  induction n with
  | zero => rfl
  | succ n ih => rw [sm_s, sm_s, sm_s, ih]; omega
theorem sm_mul {n : Nat} {c : Int} {f : Nat → Int} : sm n (fun k => c * f k) = c * sm n f := by
  induction n with
  | zero => rw [sm_0, sm_0, Int.mul_zero]
  | succ n ih => rw [sm_s, sm_s, ih, Int.mul_add]
theorem sm_mulr {n : Nat} {c : Int} {f : Nat → Int} : sm n (fun k => f k * c) = sm n f * c := by
  induction n with
  | zero => rw [sm_0, sm_0, Int.zero_mul]
  | succ n ih => rw [sm_s, sm_s, ih, Int.add_mul]
theorem sm_zero {n : Nat} {f : Nat → Int} (h : ∀ k, k < n → f k = 0) : sm n f = 0 := by
  induction n with
  | zero => rfl
  | succ n ih => rw [sm_s, ih (fun k hk => h k (by omega)), h n (by omega)]; rfl
theorem sm_nn {n : Nat} {f : Nat → Int} (h : ∀ k, k < n → 0 ≤ f k) : 0 ≤ sm n f := by
  induction n with
  | zero => exact Int.le_refl 0
  | succ n ih =>
    have h1 := ih (fun k hk => h k (by omega))
    have h2 := h n (by omega)
    rw [sm_s]; omega
theorem sm_le {n : Nat} {f g : Nat → Int} (h : ∀ k, k < n → f k ≤ g k) : sm n f ≤ sm n g := by
  induction n with
  | zero => exact Int.le_refl 0
  | succ n ih =>
    have h1 := ih (fun k hk => h k (by omega))
    have h2 := h n (by omega)
    rw [sm_s, sm_s]; omega
theorem sm_const {n : Nat} {c : Int} : sm n (fun _ => c) = n * c := by
  induction n with
  | zero => rw [sm_0]; simp
  | succ n ih => rw [sm_s, ih, Int.natCast_succ, Int.add_mul]; omega
theorem sm_bd {n : Nat} {f : Nat → Int} {c : Int} (h : ∀ k, k < n → f k ≤ c) : sm n f ≤ n * c := by
  rw [← sm_const]; exact sm_le h
theorem sm_swap {n m : Nat} {f : Nat → Nat → Int} : sm n (fun i => sm m (fun j => f i j)) = sm m (fun j => sm n (fun i => f i j)) := by
  induction n with
  | zero => rw [sm_0]; exact (sm_zero (fun k _ => rfl)).symm
  | succ n ih => rw [sm_s, ih, ← sm_add]; rfl
theorem sm_pos_le {n : Nat} {f : Nat → Int} (h : ∀ k, k < n → 0 ≤ f k) {k : Nat} (hk : k < n) : f k ≤ sm n f := by
  induction n with
  | zero => omega
  | succ n ih =>
    have h1 : 0 ≤ sm n f := sm_nn (fun j hj => h j (by omega))
    have h2 := h n (by omega)
    rw [sm_s]
    by_cases e : k = n
    · subst e; omega
    · have := ih (fun j hj => h j (by omega)) (by omega)
      omega
/-- one place alone -/
theorem sm_one {n : Nat} {a : Nat} {v : Int} (ha : a < n) : sm n (fun k => if k = a then v else 0) = v := by
  induction n with
  | zero => omega
  | succ n ih =>
    rw [sm_s]
    by_cases e : n = a
    · rw [if_pos e, sm_zero (fun k hk => if_neg (by omega))]; omega
    · rw [if_neg e, ih (by omega)]; omega
theorem sm_split {n : Nat} {a : Nat} {f : Nat → Int} (ha : a ≤ n) : sm n f = sm a f + sm (n - a) (fun k => f (a + k)) := by
  obtain ⟨d, rfl⟩ : ∃ d, n = a + d := ⟨n - a, by omega⟩
  rw [Nat.add_sub_cancel_left]
  induction d with
  | zero => rw [Nat.add_zero, sm_0]; omega
  | succ d ih => rw [← Nat.add_assoc, sm_s, sm_s, ih (by omega)]; omega
/-- from behind -/
theorem sm_rev {n : Nat} {f : Nat → Int} : sm n (fun k => f (n - 1 - k)) = sm n f := by
  induction n with
  | zero => rfl
  | succ n ih =>
    rw [sm_split (a := 1) (by omega), sm_s, sm_0, sm_s]
    have e : sm (n + 1 - 1) (fun k => f (n + 1 - 1 - (1 + k))) = sm n (fun k => f (n - 1 - k)) := sm_c (fun k hk => by congr 1; omega)
    rw [e, ih, Nat.sub_zero, Nat.add_sub_cancel]; omega
/-- noises: at place i is how often i - 5 is there -/
def nAll (o : Nat → Int) : Int := sm 11 o
/-- how many are above v -/
def nAb (o : Nat → Int) (v : Int) : Int := sm 11 (fun i => if v < (i : Int) - 5 then o i else 0)
/-- how many differences (second less first) are above v -/
def nPab (o : Nat → Int) (v : Int) : Int := sm 11 (fun i => sm 11 (fun j => if v < (j : Int) - i then o i * o j else 0))
/-- how often noise u is there -/
def nAt (o : Nat → Int) (u : Int) : Int := if -5 ≤ u ∧ u ≤ 5 then o (u + 5).toNat else 0
def nOK (o : Nat → Int) : Prop := (∀ i, i < 11 → 0 ≤ o i ∧ o i ≤ 9) ∧ 1 ≤ o 5
theorem nAll_lo {o : Nat → Int} (h : nOK o) : 1 ≤ nAll o := Int.le_trans h.2 (sm_pos_le (fun k hk => (h.1 k hk).1) (by decide))
theorem nAll_hi {o : Nat → Int} (h : nOK o) : nAll o ≤ 99 := sm_bd (n := 11) (c := 9) (fun k hk => (h.1 k hk).2)
theorem nAb_lo {o : Nat → Int} (h : nOK o) (v : Int) : 0 ≤ nAb o v := sm_nn (fun k hk => by
  by_cases e : v < (k : Int) - 5
  · rw [if_pos e]; exact (h.1 k hk).1
  · rw [if_neg e]; exact Int.le_refl 0)
theorem nAb_hi {o : Nat → Int} (h : nOK o) (v : Int) : nAb o v ≤ nAll o := sm_le (fun k hk => by
  by_cases e : v < (k : Int) - 5
  · rw [if_pos e]; exact Int.le_refl _
  · rw [if_neg e]; exact (h.1 k hk).1)
theorem nSq {o : Nat → Int} : sm 11 (fun i => sm 11 (fun j => o i * o j)) = nAll o * nAll o := by
  have e : ∀ i, sm 11 (fun j => o i * o j) = o i * nAll o := fun i => sm_mul
  rw [sm_c (fun i _ => e i), sm_mulr]
  rfl
theorem nPab_lo {o : Nat → Int} (h : nOK o) (v : Int) : 0 ≤ nPab o v := sm_nn (fun i hi => sm_nn (fun j hj => by
  by_cases e : v < (j : Int) - i
  · rw [if_pos e]; exact Int.mul_nonneg (h.1 i hi).1 (h.1 j hj).1
  · rw [if_neg e]; exact Int.le_refl 0))
theorem nPab_hi {o : Nat → Int} (h : nOK o) (v : Int) : nPab o v ≤ nAll o * nAll o := by
  rw [← nSq]
  exact sm_le (fun i hi => sm_le (fun j hj => by
    by_cases e : v < (j : Int) - i
    · rw [if_pos e]; exact Int.le_refl _
    · rw [if_neg e]; exact Int.mul_nonneg (h.1 i hi).1 (h.1 j hj).1))
theorem nSq_hi {o : Nat → Int} (h : nOK o) : nAll o * nAll o ≤ 9801 := by
  have h1 := nAll_lo h
  have h2 := nAll_hi h
  have : nAll o * nAll o ≤ 99 * 99 := Int.mul_le_mul h2 h2 (by omega) (by omega)
  omega
theorem nAb_far {o : Nat → Int} {v : Int} (h : v < -5) : nAb o v = nAll o := sm_c (fun k hk => if_pos (by omega))
theorem nAb_none {o : Nat → Int} {v : Int} (h : 5 ≤ v) : nAb o v = 0 := sm_zero (fun k hk => if_neg (by omega))
theorem nPab_far {o : Nat → Int} {v : Int} (h : v < -10) : nPab o v = nAll o * nAll o := by
  rw [← nSq]
  exact sm_c (fun i hi => sm_c (fun j hj => if_pos (by omega)))
theorem nPab_none {o : Nat → Int} {v : Int} (h : 10 ≤ v) : nPab o v = 0 := sm_zero (fun i hi => sm_zero (fun j hj => if_neg (by omega)))
theorem nPab_anti {o : Nat → Int} (h : nOK o) {u v : Int} (huv : u ≤ v) : nPab o v ≤ nPab o u := sm_le (fun i hi => sm_le (fun j hj => by
  have := Int.mul_nonneg (h.1 i hi).1 (h.1 j hj).1
  by_cases e : v < (j : Int) - i
  · rw [if_pos e, if_pos (by omega)]; exact Int.le_refl _
  · rw [if_neg e]
    by_cases e2 : u < (j : Int) - i
    · rw [if_pos e2]; exact this
    · rw [if_neg e2]; exact Int.le_refl 0))
