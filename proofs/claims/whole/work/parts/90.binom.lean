/-! The odds of so many of n. -/
theorem bT_0 {x z : Int} {n : Nat} : bT x z (n + 1) 0 = z * bT x z n 0 := rfl
theorem bT_s {x z : Int} {n k : Nat} : bT x z (n + 1) (k + 1) = x * bT x z n k + z * bT x z n (k + 1) := rfl
theorem bT_far {x z : Int} : ∀ n k : Nat, n < k → bT x z n k = 0 := by
  intro n
  induction n with
  | zero =>
    intro k hk
    match k, hk with
    | k + 1, _ => rfl
  | succ n ih =>
    intro k hk
    match k, hk with
    | k + 1, hk =>
      rw [bT_s, ih k (by omega), ih (k + 1) (by omega)]
      simp
theorem bT_nn {x z : Int} (hx : 0 ≤ x) (hz : 0 ≤ z) : ∀ n k : Nat, 0 ≤ bT x z n k := by
  intro n
  induction n with
  | zero =>
    intro k
    match k with
    | 0 => exact Int.zero_le_ofNat 1
    | k + 1 => exact Int.le_refl 0
  | succ n ih =>
    intro k
    match k with
    | 0 => exact Int.mul_nonneg hz (ih 0)
    | k + 1 => exact Int.add_nonneg (Int.mul_nonneg hx (ih k)) (Int.mul_nonneg hz (ih (k + 1)))
/-- from one term to the next -/
theorem bT_step {x z : Int} : ∀ n k : Nat, ((k : Int) + 1) * (z * bT x z n (k + 1)) = ((n : Int) - k) * (x * bT x z n k) := by
  intro n
  induction n with
  | zero =>
    intro k
    rw [bT_far 0 (k + 1) (by omega)]
    match k with
    | 0 => simp
    | k + 1 => rw [bT_far 0 (k + 1) (by omega)]; simp
  | succ n ih =>
    intro k
    match k with
    | 0 =>
      have h := ih 0
      rw [bT_s, bT_0]
      generalize bT x z n 0 = a at h ⊢
      generalize bT x z n (0 + 1) = b at h ⊢
      have h' : z * b = n * (x * a) := by
        have : (((0 : Nat) : Int) + 1) * (z * b) = z * b := by rw [show ((0 : Nat) : Int) + 1 = 1 from rfl, Int.one_mul]
        rw [← this, h]
        congr 1
      rw [show ((0 : Nat) : Int) + 1 = 1 from rfl, Int.one_mul, Int.mul_add, h', show (((n + 1 : Nat) : Int) - ((0 : Nat) : Int)) = n + 1 by omega, Int.add_mul, Int.one_mul]
      have e1 : z * (n * (x * a)) = n * (x * (z * a)) := by
        rw [Int.mul_left_comm z, Int.mul_left_comm z]
      have e2 : z * (x * a) = x * (z * a) := Int.mul_left_comm z x a
      rw [e1, e2]
      omega
    | k + 1 =>
      have h1 := ih k
      have h2 := ih (k + 1)
      rw [bT_s, bT_s]
      generalize bT x z n k = a at h1 h2 ⊢
      generalize bT x z n (k + 1) = b at h1 h2 ⊢
      generalize bT x z n (k + 1 + 1) = c at h2 ⊢
      rw [show (((n + 1 : Nat) : Int) - ((k + 1 : Nat) : Int)) = n - k by omega, show (((k + 1 : Nat) : Int) + 1) = (k : Int) + 2 by omega] at *
      rw [show ((n : Int) - ((k + 1 : Nat) : Int)) = (n : Int) - k - 1 by omega] at h2
      -- ((k+2)) * (z * (x*b + z*c)) = (n-k) * (x * (x*a + z*b))
      have L : ((k : Int) + 2) * (z * (x * b + z * c)) = ((k : Int) + 2) * (z * (x * b)) + z * (((k : Int) + 2) * (z * c)) := by
        rw [Int.mul_add, Int.mul_add, Int.mul_left_comm z ((k : Int) + 2) (z * c)]
      have R : ((n : Int) - k) * (x * (x * a + z * b)) = x * (((n : Int) - k) * (x * a)) + ((n : Int) - k) * (x * (z * b)) := by
        rw [Int.mul_add, Int.mul_add, Int.mul_left_comm x ((n : Int) - k) (x * a)]
      rw [L, R, h2, ← h1, Int.mul_left_comm z x b]
      generalize hq : z * b = q
      have e3 : z * (((n : Int) - k - 1) * (x * b)) = ((n : Int) - k - 1) * (x * q) := by
        rw [← hq, Int.mul_left_comm z, Int.mul_left_comm z]
      have e4 : x * (((k : Int) + 1) * q) = ((k : Int) + 1) * (x * q) := Int.mul_left_comm _ _ _
      rw [e3, e4, ← Int.add_mul, ← Int.add_mul]
      congr 1
      omega
theorem bT_up {x z : Int} (n k : Nat) : ((k : Int) + 1) * bT x z (n + 1) (k + 1) = ((n : Int) + 1) * (x * bT x z n k) := by
  rw [bT_s, Int.mul_add, bT_step, ← Int.add_mul]
  congr 1
  omega
theorem bT_sym {x z : Int} : ∀ n k : Nat, k ≤ n → bT x z n k = bT z x n (n - k) := by
  intro n
  induction n with
  | zero =>
    intro k hk
    have : k = 0 := by omega
    subst this
    rfl
  | succ n ih =>
    intro k hk
    match k with
    | 0 =>
      rw [bT_0, Nat.sub_zero, bT_s, bT_far n (n + 1) (by omega), ih 0 (Nat.zero_le n), Nat.sub_zero, Int.mul_zero, Int.add_zero]
    | k + 1 =>
      rw [bT_s, show n + 1 - (k + 1) = n - k by omega, ih k (by omega)]
      by_cases e : k = n
      · subst e
        rw [bT_far k (k + 1) (by omega), Nat.sub_self, bT_0, Int.mul_zero, Int.add_zero]
      · rw [ih (k + 1) (by omega)]
        obtain ⟨m, hm⟩ : ∃ m, n - k = m + 1 := ⟨n - k - 1, by omega⟩
        rw [hm, bT_s, show n - (k + 1) = m by omega]
        omega
theorem bT_pow {x z : Int} : ∀ n k : Nat, k ≤ n → bT x z n k = bT 1 1 n k * (x ^ k * z ^ (n - k)) := by
  intro n
  induction n with
  | zero =>
    intro k hk
    have : k = 0 := by omega
    subst this
    rw [Nat.sub_self, Int.pow_zero, Int.pow_zero]
    rfl
  | succ n ih =>
    intro k hk
    match k with
    | 0 =>
      rw [bT_0, bT_0, ih 0 (Nat.zero_le n), Nat.sub_zero, Nat.sub_zero, Int.pow_zero, Int.one_mul, Int.one_mul, Int.one_mul, Int.pow_succ, Int.mul_left_comm, Int.mul_comm z]
    | k + 1 =>
      rw [bT_s, bT_s, Int.one_mul, Int.one_mul, ih k (by omega), show n + 1 - (k + 1) = n - k by omega, Int.add_mul]
      have e1 : x * (bT 1 1 n k * (x ^ k * z ^ (n - k))) = bT 1 1 n k * (x ^ (k + 1) * z ^ (n - k)) := by
        rw [Int.pow_succ, Int.mul_left_comm x, ← Int.mul_assoc x, Int.mul_comm x (x ^ k)]
      rw [e1]
      by_cases e : k = n
      · subst e
        rw [bT_far k (k + 1) (by omega), bT_far k (k + 1) (by omega)]
        simp
      · rw [ih (k + 1) (by omega)]
        obtain ⟨m, hm⟩ : ∃ m, n - k = m + 1 := ⟨n - k - 1, by omega⟩
        rw [show n - (k + 1) = m by omega, hm]
        have e2 : z * (bT 1 1 n (k + 1) * (x ^ (k + 1) * z ^ m)) = bT 1 1 n (k + 1) * (x ^ (k + 1) * z ^ (m + 1)) := by
          rw [Int.pow_succ z, Int.mul_left_comm z, Int.mul_left_comm z, Int.mul_comm z]
        rw [e2]
/-! tails -/
theorem bTail_0 {x z : Int} : ∀ n : Nat, bTail x z n 0 = (x + z) ^ n := by
  have e0 : ∀ n : Nat, bTail x z n 0 = sm (n + 1) (bT x z n) := fun n => sm_c (fun k hk => if_pos (Nat.zero_le k))
  have sh : ∀ (m : Nat) (f : Nat → Int), sm (m + 1) f = f 0 + sm m (fun k => f (k + 1)) := by
    intro m f
    rw [sm_split (n := m + 1) (a := 1) (by omega), sm_s, sm_0, show m + 1 - 1 = m by omega, Int.zero_add]
    congr 1
    refine sm_c (fun k _ => ?_)
    rw [Nat.add_comm]
  intro n
  induction n with
  | zero => rw [e0, Int.pow_zero]; rfl
  | succ n ih =>
    rw [e0] at ih ⊢
    rw [Int.pow_succ, ← ih, sh, bT_0]
    have : sm (n + 1) (fun k => bT x z (n + 1) (k + 1)) = x * sm (n + 1) (bT x z n) + z * sm (n + 1) (fun k => bT x z n (k + 1)) := by
      rw [← sm_mul, ← sm_mul, ← sm_add]
      exact sm_c (fun k _ => bT_s)
    rw [this]
    have e1 : sm (n + 1) (fun k => bT x z n (k + 1)) = sm (n + 1) (bT x z n) - bT x z n 0 := by
      have := sh (n + 1) (bT x z n)
      rw [sm_s, bT_far n (n + 1) (by omega)] at this
      omega
    rw [e1, Int.mul_sub, Int.add_comm x z, Int.mul_add, Int.mul_comm _ z, Int.mul_comm _ x]
    omega
theorem bTail_anti {x z : Int} (hx : 0 ≤ x) (hz : 0 ≤ z) {n i j : Nat} (h : i ≤ j) : bTail x z n j ≤ bTail x z n i := sm_le (fun k hk => by
  have := bT_nn hx hz n k
  split <;> split <;> omega)
theorem bTail_step {x z : Int} {n k : Nat} (hk : k ≤ n) : bTail x z n k = bT x z n k + bTail x z n (k + 1) := by
  have : bT x z n k = sm (n + 1) (fun j => if j = k then bT x z n k else 0) := (sm_one (by omega)).symm
  rw [this]
  unfold bTail
  rw [← sm_add]
  refine sm_c (fun j hj => ?_)
  by_cases e : j = k
  · subst e
    rw [if_pos (Nat.le_refl j), if_pos rfl, if_neg (by omega)]
    omega
  · rw [if_neg e]
    by_cases w : k ≤ j
    · rw [if_pos w, if_pos (by omega)]; omega
    · rw [if_neg w, if_neg (by omega)]; omega
theorem bTail_far {x z : Int} {n : Nat} : bTail x z n (n + 1) = 0 := sm_zero (fun k hk => if_neg (by omega))
/-- the odds of k or fewer are the odds of n - k or more of the others -/
theorem bTail_sym {x z : Int} {n k : Nat} (hk : k ≤ n) : bTail z x n (n - k) = bTail x z n 0 - bTail x z n (k + 1) := by
  have h1 : bTail z x n (n - k) = sm (n + 1) (fun j => if j ≤ k then bT x z n j else 0) := by
    unfold bTail
    rw [← sm_rev]
    refine sm_c (fun j hj => ?_)
    rw [show n + 1 - 1 - j = n - j by omega]
    by_cases e : j ≤ k
    · rw [if_pos e, if_pos (by omega), ← bT_sym n j (by omega)]
    · rw [if_neg e, if_neg (by omega)]
  rw [h1]
  unfold bTail
  rw [← sm_sub]
  refine sm_c (fun j hj => ?_)
  by_cases e : j ≤ k
  · rw [if_pos e, if_pos (by omega), if_neg (by omega)]; omega
  · rw [if_neg e, if_pos (by omega), if_pos (by omega)]; omega
/-! the greatest count -/
theorem spG_le {x z : Int} {n : Nat} : ∀ k : Nat, spG x z n k ≤ k := by
  intro k
  induction k with
  | zero => exact Nat.le_refl 0
  | succ k ih =>
    unfold spG
    split <;> omega
theorem spG_in {x z : Int} (hx : 0 ≤ x) (hz : 0 ≤ z) {n : Nat} : ∀ k : Nat, bTail x z n 0 ≤ 40 * bTail x z n (spG x z n k) := by
  have h0 : 0 ≤ bTail x z n 0 := sm_nn (fun k hk => by
    have := bT_nn hx hz n k
    split <;> omega)
  intro k
  induction k with
  | zero => show bTail x z n 0 ≤ 40 * bTail x z n 0; omega
  | succ k ih =>
    unfold spG
    by_cases e : bTail x z n 0 ≤ 40 * bTail x z n (k + 1)
    · rw [if_pos e]; exact e
    · rw [if_neg e]; exact ih
theorem spG_out {x z : Int} {n : Nat} : ∀ k i : Nat, spG x z n k < i → i ≤ k → 40 * bTail x z n i < bTail x z n 0 := by
  intro k
  induction k with
  | zero => intro i h1 h2; omega
  | succ k ih =>
    intro i h1 h2
    unfold spG at h1
    by_cases e : bTail x z n 0 ≤ 40 * bTail x z n (k + 1)
    · rw [if_pos e] at h1; omega
    · rw [if_neg e] at h1
      by_cases w : i = k + 1
      · subst w; omega
      · exact ih i h1 (by omega)
/-- the greatest of n -/
def spH (n : Nat) (x z : Int) : Nat := spG x z n n
theorem spH_iff {x z : Int} (hx : 0 ≤ x) (hz : 0 ≤ z) {n k : Nat} (hk : k ≤ n) : bTail x z n 0 ≤ 40 * bTail x z n k ↔ k ≤ spH n x z := by
  unfold spH
  constructor
  · intro h
    by_cases e : k ≤ spG x z n n
    · exact e
    · have := spG_out (x := x) (z := z) (n := n) n k (by omega) hk
      omega
  · intro h
    have h1 := spG_in hx hz (n := n) n
    have h2 := bTail_anti hx hz (n := n) h
    omega
theorem spH_le {x z : Int} {n : Nat} : spH n x z ≤ n := spG_le n
/-- fewer: by the others -/
theorem spH_few {x z : Int} (hx : 0 ≤ x) (hz : 0 ≤ z) {n k : Nat} (hk : k ≤ n) : bTail x z n 0 ≤ 40 * (bTail x z n 0 - bTail x z n (k + 1)) ↔ n - k ≤ spH n z x := by
  rw [← spH_iff hz hx (by omega), bTail_sym hk, bTail_0 (x := z), bTail_0 (x := x), Int.add_comm z x]
theorem spH_meet {x z : Int} (hx : 0 ≤ x) (hz : 0 ≤ z) {n : Nat} : n - spH n z x ≤ spH n x z := by
  have h0 : 0 ≤ bTail x z n 0 := sm_nn (fun k hk => by
    have := bT_nn hx hz n k
    split <;> omega)
  have hl := spH_le (x := x) (z := z) (n := n)
  by_cases e : spH n x z = n
  · omega
  · have h1 : ¬ bTail x z n 0 ≤ 40 * bTail x z n (spH n x z + 1) := fun w => by
      have := (spH_iff hx hz (n := n) (k := spH n x z + 1) (by omega)).mp w
      omega
    have h2 := (spH_few hx hz hl).mp (by omega)
    omega
