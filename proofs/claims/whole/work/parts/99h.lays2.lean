/-! The model lays its cells: one row more. -/
def rLq (B S : zM) (p : Int) (i m i' : Nat) : Prop := gI S 0 34 = J m ∧ m ≤ i' ∧ (∀ d, d < m → ∃ j, j < i' ∧ iI B 8 j = p ∧ iI B 9 j ≤ 1 ∧ lkey S d B j) ∧ (∀ j, j < i → iI B 8 j = p → iI B 9 j ≤ 1 → ∃ d, d < m ∧ lkey S d B j) ∧ (∀ d e, d < m → e < m → gI S 20 d = gI S 20 e → gI S 21 d = gI S 21 e → gI S 22 d = gI S 22 e → d = e) ∧ ∀ d, d < m → gI S 23 d = J (nK B i p (iI S 20 d) (iI S 21 d) (iI S 22 d)) ∧ ∀ a : Nat, a < 3 → gI S 24 (3 * d + a) = J (nKA B i p (iI S 20 d) (iI S 21 d) (iI S 22 d) a)
def fLy (q j : Nat) : Prop := (q = 0 ∧ j = 34) ∨ (20 ≤ q ∧ q ≤ 24)
section
variable {B S S' : zM} {n i m d : Nat} {p k a b an : Int}
theorem nK_n (h : ¬ isK B n p k a b) : nK B (n + 1) p k a b = nK B n p k a b := by rw [nK_s, if_neg h]; omega
theorem nK_y (h : isK B n p k a b) : nK B (n + 1) p k a b = nK B n p k a b + 1 := by rw [nK_s, if_pos h]
theorem nKA_n (h : ¬ isK B n p k a b) : nKA B (n + 1) p k a b an = nKA B n p k a b an := by rw [nKA_s, if_neg (fun w => h w.1)]; omega
theorem nKA_y (h : isK B n p k a b) : nKA B (n + 1) p k a b an = nKA B n p k a b an + if iI B 13 n = an then 1 else 0 := by
  rw [nKA_s]
  by_cases z : iI B 13 n = an
  · rw [if_pos ⟨h, z⟩, if_pos z]
  · rw [if_neg (fun w => z w.2), if_neg z]
theorem nK_up : nK B n p k a b ≤ nK B (n + 1) p k a b := by
  rw [nK_s]
  split <;> omega
/-- a row that is another sayer's, or of another kind -/
theorem m_skip (h : rLq B S p i m i) (no : ¬ (iI B 8 i = p ∧ iI B 9 i ≤ 1)) : rLq B S p (i + 1) m (i + 1) := by
  obtain ⟨h1, h2, h3, h4, h5, h6⟩ := h
  refine ⟨h1, by omega, fun d hd => ?_, fun j hj j8 j9 => ?_, h5, fun d hd => ?_⟩
  · obtain ⟨j, j1, j2⟩ := h3 d hd
    exact ⟨j, by omega, j2⟩
  · by_cases z : j = i
    · rw [z] at j8 j9
      exact absurd ⟨j8, j9⟩ no
    · exact h4 j (by omega) j8 j9
  · obtain ⟨j, j1, j8, j9, jk⟩ := h3 d hd
    have nk : ¬ isK B i p (iI S 20 d) (iI S 21 d) (iI S 22 d) := fun w => no ⟨w.1, by rw [w.2.1, iI_c jk.1]; exact j9⟩
    rw [nK_n nk]
    refine ⟨(h6 d hd).1, fun a ha => ?_⟩
    rw [nKA_n nk]
    exact (h6 d hd).2 a ha
/-- a cell more, with nothing counted -/
theorem m_newc (h : rLq B S p i m i) (no : ∀ k, k < m → ¬ lkey S k B i) (h8 : iI B 8 i = p) (h9 : iI B 9 i ≤ 1) (e0 : gI S' 0 34 = J ((m + 1 : Nat) : Int)) (ek : lkey S' m B i) (eo : ∀ d, d < m → gI S' 20 d = gI S 20 d ∧ gI S' 21 d = gI S 21 d ∧ gI S' 22 d = gI S 22 d ∧ gI S' 23 d = gI S 23 d ∧ ∀ a : Nat, a < 3 → gI S' 24 (3 * d + a) = gI S 24 (3 * d + a)) (e23 : gI S' 23 m = J 0) (e24 : ∀ a, a < 3 → gI S' 24 (3 * m + a) = J 0) : rLq B S' p i (m + 1) (i + 1) := by
  obtain ⟨h1, h2, h3, h4, h5, h6⟩ := h
  have ko : ∀ d j, d < m → (lkey S' d B j ↔ lkey S d B j) := fun d j hd => by
    obtain ⟨q0, q1, q2, -⟩ := eo d hd
    unfold lkey
    rw [q0, q1, q2]
  have nw : ∀ e, e < m → ¬ (gI S 20 e = gI S' 20 m ∧ gI S 21 e = gI S' 21 m ∧ gI S 22 e = gI S' 22 m) := fun e he w => no e he ⟨w.1.trans ek.1, w.2.1.trans ek.2.1, w.2.2.trans ek.2.2⟩
  refine ⟨e0, by omega, fun d hd => ?_, fun j hj j8 j9 => ?_, fun d e hd he q0 q1 q2 => ?_, fun d hd => ?_⟩
  · by_cases z : d = m
    · rw [z]
      exact ⟨i, by omega, h8, h9, ek⟩
    · obtain ⟨j, j1, j2, j3, j4⟩ := h3 d (by omega)
      exact ⟨j, by omega, j2, j3, (ko d j (by omega)).mpr j4⟩
  · obtain ⟨d, d1, d2⟩ := h4 j hj j8 j9
    exact ⟨d, by omega, (ko d j d1).mpr d2⟩
  · by_cases z : d = m
    · by_cases y : e = m
      · omega
      · rw [z] at q0 q1 q2
        obtain ⟨w0, w1, w2, -⟩ := eo e (by omega)
        rw [w0] at q0
        rw [w1] at q1
        rw [w2] at q2
        exact absurd ⟨q0.symm, q1.symm, q2.symm⟩ (nw e (by omega))
    · obtain ⟨v0, v1, v2, -⟩ := eo d (by omega)
      rw [v0] at q0
      rw [v1] at q1
      rw [v2] at q2
      by_cases y : e = m
      · rw [y] at q0 q1 q2
        exact absurd ⟨q0, q1, q2⟩ (nw d (by omega))
      · obtain ⟨w0, w1, w2, -⟩ := eo e (by omega)
        rw [w0] at q0
        rw [w1] at q1
        rw [w2] at q2
        exact h5 d e (by omega) (by omega) q0 q1 q2
  · by_cases z : d = m
    · rw [z]
      have nk : ∀ j, j < i → ¬ isK B j p (iI S' 20 m) (iI S' 21 m) (iI S' 22 m) := fun j hj w => by
        obtain ⟨w8, w9, w10, w11⟩ := w
        obtain ⟨d, d1, d2⟩ := h4 j hj w8 (by rw [w9, iI_c ek.1]; exact h9)
        refine nw d d1 ⟨?_, ?_, ?_⟩
        · rw [d2.1, gI_J B 9, w9, ← gI_J]
        · rw [d2.2.1, gI_J B 10, w10, ← gI_J]
        · rw [d2.2.2, gI_J B 11, w11, ← gI_J]
      rw [e23, nK_none nk]
      refine ⟨rfl, fun a ha => ?_⟩
      rw [e24 a ha, nKA_none nk]
    · obtain ⟨v0, v1, v2, v3, v4⟩ := eo d (by omega)
      rw [v3, iI_c v0, iI_c v1, iI_c v2]
      refine ⟨(h6 d (by omega)).1, fun a ha => ?_⟩
      rw [v4 a ha]
      exact (h6 d (by omega)).2 a ha
/-- a row is counted -/
def cntS (S : zM) (d a : Nat) : zM := pI (pI S 23 d (gI S 23 d + J 1)) 24 (3 * d + a) (gI S 24 (3 * d + a) + J 1)
theorem m_cnt (h : rLq B S p i m (i + 1)) (hd : d < m) (hk : lkey S d B i) (h8 : iI B 8 i = p) (h9 : iI B 9 i ≤ 1) {a : Nat} (h13 : iI B 13 i = a) (ha : a < 3) : rLq B (cntS S d a) p (i + 1) m (i + 1) ∧ lkey (cntS S d a) d B i := by
  unfold cntS
  obtain ⟨h1, h2, h3, h4, h5, h6⟩ := h
  have co : ∀ q e, ¬ (q = 23 ∨ q = 24) → gI (pI (pI S 23 d (gI S 23 d + J 1)) 24 (3 * d + a) (gI S 24 (3 * d + a) + J 1)) q e = gI S q e := fun q e hq => by
    rw [rII, if_neg (fun w => hq (Or.inr w.1)), rII, if_neg (fun w => hq (Or.inl w.1))]
  have c23 : ∀ e, gI (pI (pI S 23 d (gI S 23 d + J 1)) 24 (3 * d + a) (gI S 24 (3 * d + a) + J 1)) 23 e = if e = d then gI S 23 d + J 1 else gI S 23 e := fun e => by
    rw [rII, if_neg (fun w => absurd w.1 (by decide)), rII]
    by_cases z : e = d
    · rw [if_pos ⟨rfl, z⟩, if_pos z]
    · rw [if_neg (fun w => z w.2), if_neg z]
  have c24 : ∀ e a' : Nat, a' < 3 → gI (pI (pI S 23 d (gI S 23 d + J 1)) 24 (3 * d + a) (gI S 24 (3 * d + a) + J 1)) 24 (3 * e + a') = if e = d ∧ a' = a then gI S 24 (3 * d + a) + J 1 else gI S 24 (3 * e + a') := fun e a' ha' => by
    rw [rII]
    by_cases z : e = d ∧ a' = a
    · rw [if_pos ⟨rfl, by omega⟩, if_pos z]
    · rw [if_neg (fun w => z (by omega)), if_neg z, rII, if_neg (fun w => absurd w.1 (by decide))]
  generalize pI (pI S 23 d (gI S 23 d + J 1)) 24 (3 * d + a) (gI S 24 (3 * d + a) + J 1) = S' at co c23 c24 ⊢
  have c20 : ∀ e, gI S' 20 e = gI S 20 e := fun e => co 20 e (by omega)
  have c21 : ∀ e, gI S' 21 e = gI S 21 e := fun e => co 21 e (by omega)
  have c22 : ∀ e, gI S' 22 e = gI S 22 e := fun e => co 22 e (by omega)
  have ko : ∀ e j, lkey S' e B j ↔ lkey S e B j := fun e j => by
    unfold lkey
    rw [c20, c21, c22]
  have k20 : iI S 20 d = iI B 9 i := iI_c hk.1
  have k21 : iI S 21 d = iI B 10 i := iI_c hk.2.1
  have k22 : iI S 22 d = iI B 11 i := iI_c hk.2.2
  refine ⟨⟨(co 0 34 (by omega)).trans h1, h2, fun e he => ?_, fun j hj j8 j9 => ?_, fun e f he hf q0 q1 q2 => ?_, fun e he => ?_⟩, (ko d i).mpr hk⟩
  · obtain ⟨j, j1, j2, j3, j4⟩ := h3 e he
    exact ⟨j, j1, j2, j3, (ko e j).mpr j4⟩
  · by_cases z : j = i
    · rw [z]
      exact ⟨d, hd, (ko d i).mpr hk⟩
    · obtain ⟨e, e1, e2⟩ := h4 j (by omega) j8 j9
      exact ⟨e, e1, (ko e j).mpr e2⟩
  · rw [c20, c20] at q0
    rw [c21, c21] at q1
    rw [c22, c22] at q2
    exact h5 e f he hf q0 q1 q2
  · rw [iI_c (c20 e), iI_c (c21 e), iI_c (c22 e)]
    obtain ⟨g1, g2⟩ := h6 e he
    by_cases z : e = d
    · rw [z] at g1 g2 ⊢
      have yk : isK B i p (iI S 20 d) (iI S 21 d) (iI S 22 d) := ⟨h8, k20.symm, k21.symm, k22.symm⟩
      rw [nK_y yk, c23, if_pos rfl, g1, J_add]
      refine ⟨rfl, fun a' ha' => ?_⟩
      rw [nKA_y yk, c24 d a' ha', h13]
      by_cases y : a' = a
      · rw [if_pos ⟨rfl, y⟩, if_pos (by omega), ← y, g2 a' ha', J_add]
      · rw [if_neg (fun w => y w.2), if_neg (by omega), g2 a' ha']
        congr 1
        omega
    · have nk : ¬ isK B i p (iI S 20 e) (iI S 21 e) (iI S 22 e) := fun w => z (h5 e d he hd (by rw [gI_J S 20 e, ← w.2.1, ← k20, ← gI_J]) (by rw [gI_J S 21 e, ← w.2.2.1, ← k21, ← gI_J]) (by rw [gI_J S 22 e, ← w.2.2.2, ← k22, ← gI_J]))
      rw [nK_n nk, c23, if_neg z, g1]
      refine ⟨rfl, fun a' ha' => ?_⟩
      rw [nKA_n nk, c24 e a' ha', if_neg (fun w => z w.1), g2 a' ha']
/-- no key has been met more than 40 times -/
def flP (B : zM) (p : Int) (i : Nat) (fl : Int) : Prop := (fl = 0 ∨ fl = 1) ∧ (fl = 1 ↔ ∀ j : Nat, j < i → iI B 8 j = p → iI B 9 j ≤ 1 → nK B i p (iI B 9 j) (iI B 10 j) (iI B 11 j) ≤ 40)
theorem fl_skip {fl : Int} (h : flP B p i fl) (no : ¬ (iI B 8 i = p ∧ iI B 9 i ≤ 1)) : flP B p (i + 1) fl := by
  refine ⟨h.1, h.2.trans ⟨fun v j hj j8 j9 => ?_, fun v j hj j8 j9 => ?_⟩⟩
  · have z : j ≠ i := fun w => by rw [w] at j8 j9; exact no ⟨j8, j9⟩
    rw [nK_n (fun w => no ⟨w.1, by rw [w.2.1]; exact j9⟩)]
    exact v j (by omega) j8 j9
  · have := v j (by omega) j8 j9
    rw [nK_n (fun w => no ⟨w.1, by rw [w.2.1]; exact j9⟩)] at this
    exact this
theorem fl_cnt {fl : Int} (h : flP B p i fl) (h8 : iI B 8 i = p) (h9 : iI B 9 i ≤ 1) : flP B p (i + 1) (if fl = 0 then 0 else if 40 < nK B (i + 1) p (iI B 9 i) (iI B 10 i) (iI B 11 i) then 0 else 1) := by
  refine ⟨by split; exact Or.inl rfl; split; exact Or.inl rfl; exact Or.inr rfl, ?_⟩
  by_cases z : fl = 0
  · rw [if_pos z]
    refine ⟨fun v => absurd v (by decide), fun v => ?_⟩
    have := h.2.mpr (fun j hj j8 j9 => Int.le_trans nK_up (v j (by omega) j8 j9))
    omega
  · rw [if_neg z]
    have h1 : fl = 1 := by have := h.1; omega
    have h2 := h.2.mp h1
    by_cases y : 40 < nK B (i + 1) p (iI B 9 i) (iI B 10 i) (iI B 11 i)
    · rw [if_pos y]
      refine ⟨fun v => absurd v (by decide), fun v => ?_⟩
      have := v i (by omega) h8 h9
      omega
    · rw [if_neg y]
      refine ⟨fun _ j hj j8 j9 => ?_, fun _ => rfl⟩
      by_cases w : isK B i p (iI B 9 j) (iI B 10 j) (iI B 11 j)
      · rw [← w.2.1, ← w.2.2.1, ← w.2.2.2]
        omega
      · have x : j ≠ i := fun x => by rw [x] at w j8; exact w ⟨j8, rfl, rfl, rfl⟩
        rw [nK_n w]
        exact h2 j (by omega) j8 j9
end
