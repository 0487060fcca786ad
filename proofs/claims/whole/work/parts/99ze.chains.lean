/-! Chains of words and numbers, by both. -/
def pV5 (B q l Z : Nat) (z : Int) (m : Nat) (f : Nat → Int) (C M : zM) : Prop := (∀ j, j < m → gI C q j = J (f j) ∧ gI M 4 (B + 4 * j + l) = J (f j)) ∧ gI M 4 Z = J z
def kBm (B l k : Nat) : Prop := k = B + l ∨ k = B + 4 + l ∨ k = B + 8 + l ∨ k = B + 12 + l ∨ k = B + 16 + l
def fPc (q0 q k : Nat) : Prop := fC2 q k ∨ (q = q0 ∧ k < 5)
def f4p (B l Z q k : Nat) : Prop := q = 4 ∧ (kBm B l k ∨ k = Z)
def fPm (B l Z q k : Nat) : Prop := fM2 q k ∨ f4p B l Z q k
def upF (f : Nat → Int) (m : Nat) (v : Int) (j : Nat) : Int := if j = m then v else f j
def wayP (b : Nat → Int) (n T B q l Z : Nat) (z : Int) (m : Nat) (Q : (Nat → Int) → Prop) (E : zM → zM → Prop) (KC : zM → Option (Int32 × zM)) (KM : zM → Option zM) : Prop := (∀ (C M : zM) (k : Nat) (f : Nat → Int), rdS b n T C M k → pV5 B q l Z z m f C M → Q f → two b n T k (fPc q) (fPm B l Z) C M (KC C) (KM M) E) ∧ ∀ M, gI M 0 13 = J 1 → ∃ M', KM M = some M' ∧ fr (f4p B l Z) M M'
def cMus (w : Nat) (K : zM → Option (Int32 × zM)) (C : zM) : Option (Int32 × zM) := b2 (gX7_takeWord C w) fun r S => if r = J 0 then some (J 0, S) else K S
def mMus (w : Nat) (K : zM → Option zM) (M : zM) : Option zM := b1 (gX12_must M w) fun S => K S
def cNum (fc : zM → Option (Int32 × zM)) (q a : Nat) (K : zM → Option (Int32 × zM)) (C : zM) : Option (Int32 × zM) := b2 (fc C) fun r S => if r = J 0 then some (J 0, S) else K (pI S q a (gI S 2 5))
def mNum (fm : zM → Option (Int32 × zM)) (e : Nat) (K : zM → Option zM) (M : zM) : Option zM := b2 (fm M) fun r S => K (pI S 4 e r)
section
variable {b : Nat → Int} {n T k : Nat} {C M : zM} {B q l Z m : Nat} {z : Int} {f : Nat → Int}
theorem fPc_2 {A A' : zM} (g : fr fC2 A A') : fr (fPc q) A A' := fr_w g (fun _ _ z => Or.inl z)
theorem fPm_2 {A A' : zM} (g : fr fM2 A A') : fr (fPm B l Z) A A' := fr_w g (fun _ _ z => Or.inl z)
theorem fPm_4 {A A' : zM} (g : fr (f4p B l Z) A A') : fr (fPm B l Z) A A' := fr_w g (fun _ _ z => Or.inr z)
theorem pV5_c {C' M' : zM} (h : pV5 B q l Z z m f C M) (hq : 6 ≤ q) (g1 : fr fC2 C C') (g2 : fr fM2 M M') : pV5 B q l Z z m f C' M' :=
  ⟨fun j hj => ⟨(g1.1 q j (by unfold fC2; omega)).trans (h.1 j hj).1, (g2.1 4 _ (by unfold fM2; omega)).trans (h.1 j hj).2⟩, (g2.1 4 Z (by unfold fM2; omega)).trans h.2⟩
theorem pV5_w {v : Int} (h : pV5 B q l Z z m f C M) (hl : l < 4) (hZ : ¬ Z = B + 4 * m + l) : pV5 B q l Z z (m + 1) (upF f m v) (pI C q m (J v)) (pI M 4 (B + 4 * m + l) (J v)) := by
  refine ⟨fun j hj => ?_, by rw [rII, if_neg (fun w => hZ w.2), h.2]⟩
  unfold upF
  by_cases e : j = m
  · rw [if_pos e, rII, if_pos ⟨rfl, e⟩, rII, if_pos ⟨rfl, by omega⟩]
    exact ⟨rfl, rfl⟩
  · rw [if_neg e, rII, if_neg (fun w => e w.2), rII, if_neg (by omega)]
    exact h.1 j (by omega)
theorem kBm_m (hm : m < 5) : kBm B l (B + 4 * m + l) := by unfold kBm; omega
theorem mus_w {w : Nat} {Q : (Nat → Int) → Prop} {E : zM → zM → Prop} {KC : zM → Option (Int32 × zM)} {KM : zM → Option zM} (hw : w < 28) (hq : 6 ≤ q) (hK : wayP b n T B q l Z z m Q E KC KM) : wayP b n T B q l Z z m Q E (cMus (10000 + w) KC) (mMus (10000 + w) KM) := by
  refine ⟨fun C M k f h p hQ => ?_, fun M h13 => ?_⟩
  · obtain ⟨r, C1, M1, a1, a2, a3, a4, a5⟩ := rd_must h hw
    unfold cMus mMus
    rw [a1, b2s, a2, b1s]
    rcases a5 with ⟨u, ⟨k1, u0, u2⟩, -⟩ | ⟨u, u2⟩
    · subst u
      rw [if_neg (show ¬ J 1 = J 0 by decide)]
      exact two_t (fPc_2 a3) (fPm_2 a4) u0 (hK.1 _ _ k1 f u2 (pV5_c p hq a3 a4) hQ)
    · subst u
      obtain ⟨M', m1, m2⟩ := hK.2 M1 u2.1
      rw [if_pos rfl]
      exact two_bad (fPc_2 a3) (fPm_2 a4) (fPm_4 m2) u2 m1 (fun j => m2.1 0 j (by unfold f4p; omega))
  · unfold mMus
    rw [b_must h13, b1s]
    exact hK.2 M h13
theorem num_w {Q Q' : (Nat → Int) → Prop} {E : zM → zM → Prop} {fc fm : zM → Option (Int32 × zM)} {KC : zM → Option (Int32 × zM)} {KM : zM → Option zM} (hq : 6 ≤ q) (hl : l < 4) (hm : m < 5) (hZ : ¬ Z = B + 4 * m + l) (hK : wayP b n T B q l Z z (m + 1) Q' E KC KM) (hN : ∀ {C M : zM} {k : Nat} {f : Nat → Int}, rdS b n T C M k → pV5 B q l Z z m f C M → Q f → ∃ lo hi, twoN b n T k lo hi C M (fc C) (fm M) ∧ ∀ v, lo ≤ v → v ≤ hi → Q' (upF f m v)) (hb : ∀ M, gI M 0 13 = J 1 → ∃ r, fm M = some (r, M)) : wayP b n T B q l Z z m Q E (cNum fc q m KC) (mNum fm (B + 4 * m + l) KM) := by
  refine ⟨fun C M k f h p hQ => ?_, fun M h13 => ?_⟩
  · obtain ⟨lo, hi, ⟨r, v, C1, M1, a1, a2, a3, a4, a5⟩, hv⟩ := hN h p hQ
    unfold cNum mNum
    rw [a1, b2s, a2, b2s]
    have fM : fr (fPm B l Z) M1 (pI M1 4 (B + 4 * m + l) (J v)) := fr_pI (Or.inr ⟨rfl, Or.inl (kBm_m hm)⟩)
    rcases a5 with ⟨u, ⟨k1, u0, u2⟩, u3, u4, u5⟩ | ⟨u, u2⟩
    · subst u
      rw [if_neg (show ¬ J 1 = J 0 by decide), u3]
      exact two_t (fr_t (fPc_2 a3) (fr_pI (Or.inr ⟨rfl, hm⟩))) (fr_t (fPm_2 a4) fM) (by omega) (hK.1 _ _ k1 (upF f m v) (rdS_c6 (rdS_4 u2 (fr_pI rfl)) (fr_pI hq)) (pV5_w (pV5_c p hq a3 a4) hl hZ) (hv v u4 u5))
    · subst u
      obtain ⟨M', m1, m2⟩ := hK.2 (pI M1 4 (B + 4 * m + l) (J v)) (by rw [rII, if_neg (by omega)]; exact u2.1)
      rw [if_pos rfl]
      exact two_bad (fPc_2 a3) (fPm_2 a4) (fr_t fM (fPm_4 m2)) u2 m1 (fun j => by rw [m2.1 0 j (by unfold f4p; omega), rII, if_neg (by omega)])
  · obtain ⟨r, e⟩ := hb M h13
    obtain ⟨M', m1, m2⟩ := hK.2 (pI M 4 (B + 4 * m + l) r) (by rw [rII, if_neg (by omega)]; exact h13)
    unfold mNum
    rw [e, b2s]
    exact ⟨M', m1, fr_t (fr_pI ⟨rfl, Or.inl (kBm_m hm)⟩) m2⟩
/-- one more is told of its sort -/
theorem endP {M1 : zM} (h : rdS b n T C M k) (p : pV5 B q l Z z 5 f C M) (hZ : ¬ kBm B l Z) (e : M1 = pI M 4 Z (gI M 4 Z + J 1)) : two b n T k (fPc q) (fPm B l Z) C M (some (J 1, C)) (some M1) (fun C' M' => pV5 B q l Z (z + 1) 5 f C' M') := by
  subst e
  refine ⟨1, C, _, rfl, rfl, fr_r, fr_pI (Or.inr ⟨rfl, Or.inr rfl⟩), Or.inl ⟨rfl, ⟨k, Nat.le_refl k, rdS_4 h (fr_pI rfl)⟩, fun j hj => ⟨(p.1 j hj).1, ?_⟩, ?_⟩⟩
  · rw [rII, if_neg (fun w => hZ (by unfold kBm; omega))]
    exact (p.1 j hj).2
  · rw [rII, if_pos ⟨rfl, rfl⟩, p.2, J_add]
end
