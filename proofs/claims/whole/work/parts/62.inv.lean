/-! What holds between the calls. -/
/-- a row of the book has this key -/
def isK (S : zM) (i : Nat) (p k a b : Int) : Prop := iI S 8 i = p ∧ iI S 9 i = k ∧ iI S 10 i = a ∧ iI S 11 i = b
theorem isK_dec (S : zM) (i : Nat) (p k a b : Int) : isK S i p k a b ∨ ¬ isK S i p k a b := Classical.em _
noncomputable def nK (S : zM) (n : Nat) (p k a b : Int) : Int := sm n (fun i => @ite Int (isK S i p k a b) (Classical.propDecidable _) 1 0)
noncomputable def nKA (S : zM) (n : Nat) (p k a b an : Int) : Int := sm n (fun i => @ite Int (isK S i p k a b ∧ iI S 13 i = an) (Classical.propDecidable _) 1 0)
/-- how many trials are in the book -/
def bkn (S : zM) : Nat := (iI S 0 21).toNat
def mRow (S : zM) (i : Nat) : Prop := (0 ≤ iI S 8 i ∧ iI S 8 i < 6) ∧ (0 ≤ iI S 9 i ∧ iI S 9 i ≤ 5) ∧ (0 ≤ iI S 10 i ∧ iI S 10 i ≤ 400) ∧ (0 ≤ iI S 11 i ∧ iI S 11 i ≤ 400) ∧ (0 ≤ iI S 12 i ∧ iI S 12 i ≤ 2) ∧ 0 ≤ iI S 13 i ∧ (iI S 9 i ≤ 1 → iI S 13 i ≤ 2) ∧ (iI S 9 i = 1 ∨ iI S 9 i = 3 → iI S 11 i = 0) ∧ (iI S 9 i ≠ 2 ∧ iI S 9 i ≠ 5 → iI S 12 i = 0)
def rBook (SC SM : zM) : Prop := gI SC 219 2 = gI SM 0 21 ∧ (0 ≤ iI SM 0 21 ∧ iI SM 0 21 ≤ 1000) ∧ ∀ i : Nat, i < bkn SM → mRow SM i ∧ ∀ j : Nat, j < 6 → gI SC 220 (6 * i + j) = gI SM (8 + j) i
/-- where a key's search begins -/
def hsh (p k a b : Int) : Nat := ((((p * 2 + k) * 401 + a) * 401 + b) * 31 % 2048).toNat
def sameK (SC SM : zM) (c i : Nat) : Prop := gI SC 223 c = gI SM 8 i ∧ gI SC 224 c = gI SM 9 i ∧ gI SC 225 c = gI SM 10 i ∧ gI SC 226 c = gI SM 11 i
noncomputable def rCells (SC SM : zM) : Prop := ∃ u : Nat, gI SC 221 7 = J u ∧ u ≤ bkn SM ∧ (∀ c : Nat, c < u → ∃ i : Nat, i < bkn SM ∧ iI SM 9 i ≤ 1 ∧ sameK SC SM c i) ∧ (∀ i : Nat, i < bkn SM → iI SM 9 i ≤ 1 → ∃ c : Nat, c < u ∧ sameK SC SM c i) ∧ (∀ c d : Nat, c < u → d < u → gI SC 223 c = gI SC 223 d → gI SC 224 c = gI SC 224 d → gI SC 225 c = gI SC 225 d → gI SC 226 c = gI SC 226 d → c = d) ∧ (∀ c : Nat, c < u → gI SC 227 c = J (nK SM (bkn SM) (iI SC 223 c) (iI SC 224 c) (iI SC 225 c) (iI SC 226 c)) ∧ ∀ a : Nat, a < 3 → gI SC 228 (3 * c + a) = J (nKA SM (bkn SM) (iI SC 223 c) (iI SC 224 c) (iI SC 225 c) (iI SC 226 c) a)) ∧ (∀ s : Nat, s < 2048 → gI SC 222 s = J 0 ∨ ∃ c : Nat, c < u ∧ gI SC 222 s = J ((c : Int) + 1)) ∧ (∀ c : Nat, c < u → ∃ d : Nat, d < 2048 ∧ gI SC 222 ((hsh (iI SC 223 c) (iI SC 224 c) (iI SC 225 c) (iI SC 226 c) + d) % 2048) = J ((c : Int) + 1) ∧ ∀ e : Nat, e < d → ¬ gI SC 222 ((hsh (iI SC 223 c) (iI SC 224 c) (iI SC 225 c) (iI SC 226 c) + e) % 2048) = J 0) ∧ sm 2048 (fun s => if gI SC 222 s = J 0 then 0 else 1) = u
/-- powers, and the terms of the odds of so many of n -/
def bT (x z : Int) : Nat → Nat → Int
  | 0, 0 => 1
  | 0, _ + 1 => 0
  | n + 1, 0 => z * bT x z n 0
  | n + 1, k + 1 => x * bT x z n k + z * bT x z n (k + 1)
/-- the odds of k or more -/
def bTail (x z : Int) (n k : Nat) : Int := sm (n + 1) (fun j => if k ≤ j then bT x z n j else 0)
/-- the greatest count of a span -/
def spG (x z : Int) (n : Nat) : Nat → Nat
  | 0 => 0
  | k + 1 => if bTail x z n 0 ≤ 40 * bTail x z n (k + 1) then k + 1 else spG x z n k
def rSpans (SC : zM) : Prop := ∀ s : Nat, s < 2048 → iL SC 237 s = 0 ∨ ∃ n x y : Nat, (1 ≤ n ∧ n ≤ 40) ∧ (1 ≤ x ∧ x < y ∧ y ≤ 10000) ∧ iL SC 237 s = ((y : Int) * 16384 + x) * 64 + n ∧ gI SC 238 s = J (spG x ((y : Int) - x) n n)
def rTape (SC SM : zM) : Prop := gI SC 0 10 = gI SM 0 2 ∧ (0 ≤ iI SM 0 2 ∧ iI SM 0 2 ≤ 700) ∧ ∀ k : Nat, (k : Int) < iI SM 0 2 → (0 ≤ iI SM 1 k ∧ iI SM 1 k ≤ 255) ∧ gI SC 1 k = J (if iI SM 1 k < 128 then iI SM 1 k else iI SM 1 k - 256)
def rMisc (SC SM : zM) : Prop := (gI SC 0 11 = gI SM 0 20 ∧ 0 ≤ iI SM 0 20 ∧ iI SM 0 20 < 65537) ∧ gI SC 0 12 = gI SM 0 11 ∧ gI SC 0 13 = gI SM 0 9 ∧ (iI SM 0 11 = 4 → gI SC 0 14 = gI SM 0 10) ∧ (gI SM 0 14 = J 0 → bkn SM = 0)
noncomputable def Inv (SC SM : zM) (t : Nat) : Prop := (∃ H, rHall SC SM H) ∧ rTot SM t ∧ rBook SC SM ∧ rCells SC SM ∧ rSpans SC ∧ rTape SC SM ∧ rMisc SC SM
/-- what a question may write, in the class and in the model -/
def Eq0 (q k : Nat) : Prop := q = 456 ∨ (q = 0 ∧ k = 12) ∨ (229 ≤ q ∧ q ≤ 242)
def Em0 (q k : Nat) : Prop := (q = 0 ∧ (k = 0 ∨ k = 11 ∨ k = 34)) ∨ (14 ≤ q ∧ q ≤ 29)
theorem nK_c {S S' : zM} {n : Nat} {p k a b : Int} (h : ∀ i, i < n → (isK S' i p k a b ↔ isK S i p k a b)) : nK S' n p k a b = nK S n p k a b := sm_c (fun i hi => by
  by_cases e : isK S i p k a b
  · rw [if_pos e, if_pos ((h i hi).mpr e)]
  · rw [if_neg e, if_neg (fun z => e ((h i hi).mp z))])
theorem nKA_c {S S' : zM} {n : Nat} {p k a b an : Int} (h : ∀ i, i < n → (isK S' i p k a b ↔ isK S i p k a b)) (h2 : ∀ i, i < n → iI S' 13 i = iI S 13 i) : nKA S' n p k a b an = nKA S n p k a b an := sm_c (fun i hi => by
  by_cases e : isK S i p k a b ∧ iI S 13 i = an
  · rw [if_pos e, if_pos ⟨(h i hi).mpr e.1, (h2 i hi).trans e.2⟩]
  · rw [if_neg e, if_neg (fun z => e ⟨(h i hi).mp z.1, (h2 i hi).symm.trans z.2⟩)])
theorem rTot_w {S S' : zM} {t : Nat} (h : rTot S t) (h6 : ∀ k, gI S' 6 k = gI S 6 k) (h7 : ∀ k, gI S' 7 k = gI S 7 k) : rTot S' (t + 1) := by
  intro p hp
  have := h p hp
  have e6 : iI S' 6 p = iI S 6 p := congrArg Int32.toInt (h6 p)
  have e7 : iI S' 7 p = iI S 7 p := congrArg Int32.toInt (h7 p)
  rw [e6, e7]
  omega
theorem rBook_c {SC SC' SM SM' : zM} (h : rBook SC SM) (c1 : gI SC' 219 2 = gI SC 219 2) (c2 : ∀ k, gI SC' 220 k = gI SC 220 k) (m1 : gI SM' 0 21 = gI SM 0 21) (m2 : ∀ q k, 8 ≤ q → q ≤ 13 → gI SM' q k = gI SM q k) : rBook SC' SM' := by
  have e : ∀ q k, 8 ≤ q → q ≤ 13 → iI SM' q k = iI SM q k := fun q k a b => congrArg Int32.toInt (m2 q k a b)
  have eb : iI SM' 0 21 = iI SM 0 21 := congrArg Int32.toInt m1
  have en : bkn SM' = bkn SM := by unfold bkn; rw [eb]
  refine ⟨c1.trans (h.1.trans m1.symm), by rw [eb]; exact h.2.1, fun i hi => ?_⟩
  rw [en] at hi
  obtain ⟨g1, g2⟩ := h.2.2 i hi
  refine ⟨?_, fun j hj => ?_⟩
  · unfold mRow
    rw [e 8 i (by decide) (by decide), e 9 i (by decide) (by decide), e 10 i (by decide) (by decide), e 11 i (by decide) (by decide), e 12 i (by decide) (by decide), e 13 i (by decide) (by decide)]
    exact g1
  · rw [c2, m2 _ _ (by omega) (by omega)]
    exact g2 j hj
theorem rCells_c {SC SC' SM SM' : zM} (h : rCells SC SM) (c1 : gI SC' 221 7 = gI SC 221 7) (c2 : ∀ q k, 222 ≤ q → q ≤ 228 → gI SC' q k = gI SC q k) (m1 : gI SM' 0 21 = gI SM 0 21) (m2 : ∀ q k, 8 ≤ q → q ≤ 13 → gI SM' q k = gI SM q k) : rCells SC' SM' := by
  have e : ∀ q k, 8 ≤ q → q ≤ 13 → iI SM' q k = iI SM q k := fun q k a b => congrArg Int32.toInt (m2 q k a b)
  have ec : ∀ q k, 222 ≤ q → q ≤ 228 → iI SC' q k = iI SC q k := fun q k a b => congrArg Int32.toInt (c2 q k a b)
  have eb : iI SM' 0 21 = iI SM 0 21 := congrArg Int32.toInt m1
  have en : bkn SM' = bkn SM := by unfold bkn; rw [eb]
  have ek : ∀ i p k a b, isK SM' i p k a b ↔ isK SM i p k a b := by
    intro i p k a b
    unfold isK
    rw [e 8 i (by decide) (by decide), e 9 i (by decide) (by decide), e 10 i (by decide) (by decide), e 11 i (by decide) (by decide)]
  have es : ∀ c i, sameK SC' SM' c i ↔ sameK SC SM c i := by
    intro c i
    unfold sameK
    rw [c2 223 c (by decide) (by decide), c2 224 c (by decide) (by decide), c2 225 c (by decide) (by decide), c2 226 c (by decide) (by decide), m2 8 i (by decide) (by decide), m2 9 i (by decide) (by decide), m2 10 i (by decide) (by decide), m2 11 i (by decide) (by decide)]
  obtain ⟨u, h1, h2, h3, h4, h5, h6, h7, h8, h9⟩ := h
  refine ⟨u, c1.trans h1, by rw [en]; exact h2, ?_, ?_, ?_, ?_, ?_, ?_, ?_⟩
  · intro c hc
    obtain ⟨i, g1, g2, g3⟩ := h3 c hc
    exact ⟨i, by rw [en]; exact g1, by rw [e 9 i (by decide) (by decide)]; exact g2, (es c i).mpr g3⟩
  · intro i hi hk
    rw [en] at hi
    rw [e 9 i (by decide) (by decide)] at hk
    obtain ⟨c, g1, g2⟩ := h4 i hi hk
    exact ⟨c, g1, (es c i).mpr g2⟩
  · intro c d hc hd
    rw [c2 223 c (by decide) (by decide), c2 224 c (by decide) (by decide), c2 225 c (by decide) (by decide), c2 226 c (by decide) (by decide), c2 223 d (by decide) (by decide), c2 224 d (by decide) (by decide), c2 225 d (by decide) (by decide), c2 226 d (by decide) (by decide)]
    exact h5 c d hc hd
  · intro c hc
    rw [c2 227 c (by decide) (by decide), ec 223 c (by decide) (by decide), ec 224 c (by decide) (by decide), ec 225 c (by decide) (by decide), ec 226 c (by decide) (by decide), en, nK_c (fun i _ => ek i _ _ _ _)]
    refine ⟨(h6 c hc).1, fun a ha => ?_⟩
    rw [c2 228 _ (by decide) (by decide), nKA_c (fun i _ => ek i _ _ _ _) (fun i _ => e 13 i (by decide) (by decide))]
    exact (h6 c hc).2 a ha
  · intro s hs
    rw [c2 222 s (by decide) (by decide)]
    exact h7 s hs
  · intro c hc
    rw [ec 223 c (by decide) (by decide), ec 224 c (by decide) (by decide), ec 225 c (by decide) (by decide), ec 226 c (by decide) (by decide)]
    obtain ⟨d, g1, g2, g3⟩ := h8 c hc
    refine ⟨d, g1, ?_, fun f hf => ?_⟩
    · rw [c2 222 _ (by decide) (by decide)]
      exact g2
    · rw [c2 222 _ (by decide) (by decide)]
      exact g3 f hf
  · rw [← h9]
    refine sm_c (fun s hs => ?_)
    rw [c2 222 s (by decide) (by decide)]
theorem rTape_c {SC SC' SM SM' : zM} (h : rTape SC SM) (c1 : gI SC' 0 10 = gI SC 0 10) (c2 : ∀ k, gI SC' 1 k = gI SC 1 k) (m1 : gI SM' 0 2 = gI SM 0 2) (m2 : ∀ k, gI SM' 1 k = gI SM 1 k) : rTape SC' SM' := by
  have e1 : ∀ k, iI SM' 1 k = iI SM 1 k := fun k => congrArg Int32.toInt (m2 k)
  have e2 : iI SM' 0 2 = iI SM 0 2 := congrArg Int32.toInt m1
  refine ⟨c1.trans (h.1.trans m1.symm), by rw [e2]; exact h.2.1, fun k hk => ?_⟩
  rw [e2] at hk
  rw [e1, c2]
  exact h.2.2 k hk
/-- after a question -/
theorem Inv_q {SC SC' SM SM' : zM} {t : Nat} (h : Inv SC SM t) (fC : fr Eq0 SC SC') (fM : fr Em0 SM SM') (hs : rSpans SC') (ht : gI SC' 0 12 = gI SM' 0 11) (h4 : iI SM' 0 11 = 4 → iI SM 0 11 = 4) : Inv SC' SM' (t + 1) := by
  obtain ⟨⟨H, hh⟩, h2, h3, h5, -, h6, h7⟩ := h
  have hH := hh.1.1
  have c : ∀ q k, ¬ Eq0 q k → gI SC' q k = gI SC q k := fC.1
  have m : ∀ q k, ¬ Em0 q k → gI SM' q k = gI SM q k := fM.1
  have m8 : ∀ q k, 8 ≤ q → q ≤ 13 → gI SM' q k = gI SM q k := fun q k a b => m q k (by unfold Em0; omega)
  have m21 : gI SM' 0 21 = gI SM 0 21 := m 0 21 (by unfold Em0; omega)
  refine ⟨⟨H, rHall_c hh (fun q k a b => c q k (by unfold Eq0; omega)) (fC.2.2 0 8 (by unfold Eq0; omega)) (fC.2.2 2 6 (by unfold Eq0; omega)) (m 0 14 (by unfold Em0; omega)) (fun k => m 3 k (by unfold Em0; omega)) (fun k => m 5 k (by unfold Em0; omega)) (fun k => m 6 k (by unfold Em0; omega)) (fun k => m 7 k (by unfold Em0; omega))⟩, rTot_w h2 (fun k => m 6 k (by unfold Em0; omega)) (fun k => m 7 k (by unfold Em0; omega)), rBook_c h3 (c 219 2 (by unfold Eq0; omega)) (fun k => c 220 k (by unfold Eq0; omega)) m21 m8, rCells_c h5 (c 221 7 (by unfold Eq0; omega)) (fun q k a b => c q k (by unfold Eq0; omega)) m21 m8, hs, rTape_c h6 (c 0 10 (by unfold Eq0; omega)) (fun k => c 1 k (by unfold Eq0; omega)) (m 0 2 (by unfold Em0; omega)) (fun k => m 1 k (by unfold Em0; omega)), ?_⟩
  obtain ⟨⟨g1, g2⟩, g3, g4, g5, g6⟩ := h7
  have e20 : iI SM' 0 20 = iI SM 0 20 := congrArg Int32.toInt (m 0 20 (by unfold Em0; omega))
  refine ⟨⟨?_, by rw [e20]; exact g2⟩, ht, ?_, fun z => ?_, fun z => ?_⟩
  · rw [c 0 11 (by unfold Eq0; omega), m 0 20 (by unfold Em0; omega)]; exact g1
  · rw [c 0 13 (by unfold Eq0; omega), m 0 9 (by unfold Em0; omega)]; exact g4
  · rw [c 0 14 (by unfold Eq0; omega), m 0 10 (by unfold Em0; omega)]; exact g5 (h4 z)
  · rw [m 0 14 (by unfold Em0; omega)] at z
    unfold bkn
    rw [show iI SM' 0 21 = iI SM 0 21 from congrArg Int32.toInt m21]
    exact g6 z
/-- the spans are kept where their places are not written -/
theorem rSpans_c {S S' : zM} (h : rSpans S) (h1 : ∀ k, gL S' 237 k = gL S 237 k) (h2 : ∀ k, gI S' 238 k = gI S 238 k) : rSpans S' := by
  intro s hs
  have e1 : iL S' 237 s = iL S 237 s := congrArg Int64.toInt (h1 s)
  rw [e1, h2]
  exact h s hs
/-- a call's step: the same answer, and it holds again -/
noncomputable def stp {α : Type} (X Y : Option (α × zM)) (t : Nat) : Prop := ∃ (r : α) (SC' SM' : zM), X = some (r, SC') ∧ Y = some (r, SM') ∧ Inv SC' SM' (t + 1)
def vS {α : Type} (X : Option α) (S : zM) : Option (α × zM) := b1 X (fun r => some (r, S))
/-- only the trouble is written -/
theorem Inv_t {SC SC' SM SM' : zM} {t : Nat} (h : Inv SC SM t) (fC : fr E456 SC SC') (fM : fr (fun q k => q = 0 ∧ (k = 0 ∨ k = 11)) SM SM') (ht : gI SC' 0 12 = gI SM' 0 11) (h4 : iI SM' 0 11 = 4 → iI SM 0 11 = 4) : Inv SC' SM' (t + 1) := by
  refine Inv_q h (fr_w fC ?_) (fr_w fM ?_) (rSpans_c h.2.2.2.2.1 (fun k => fC.2.1 237 k ?_) (fun k => fC.1 238 k ?_)) ht h4
  · intro q k z
    unfold E456 at z
    unfold Eq0
    omega
  · intro q k z
    unfold Em0
    omega
  · unfold E456; omega
  · unfold E456; omega
