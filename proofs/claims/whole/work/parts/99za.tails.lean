/-! The rest of a sayer's line: what may be there or not, by both. -/
theorem b2_b1 {α β γ δ : Type} {x : Option α} {f : α → Option (β × γ)} {g : β → γ → Option δ} : b2 (b1 x f) g = b1 x (fun a => b2 (f a) g) := by cases x <;> rfl
theorem b2_b2 {α β γ δ ε : Type} {x : Option (α × ε)} {f : α → ε → Option (β × γ)} {g : β → γ → Option δ} : b2 (b2 x f) g = b2 x (fun a e => b2 (f a e) g) := by
  cases x with
  | none => rfl
  | some a => cases a; rfl
theorem b2_ite {β γ δ : Type} {P : Prop} {dP : Decidable P} {x y : Option (β × γ)} {g : β → γ → Option δ} : b2 (if P then x else y) g = if P then b2 x g else b2 y g := by split <;> rfl
def yE (q p : Nat) (z : Int) (C' M' : zM) : Prop := yQ C' M' q p ∧ gI M' 4 239 = J (z + 1)
def way (b : Nat → Int) (n T q p : Nat) (z : Int) (KC : zM → Option (Int32 × zM)) (KM : zM → Option zM) : Prop := (∀ (C M : zM) (k : Nat), rdS b n T C M k → yQ C M q p → gI M 4 239 = J z → two b n T k (fYc q) (fYm p) C M (KC C) (KM M) (yE q p z)) ∧ ∀ M, gI M 0 13 = J 1 → ∃ M', KM M = some M' ∧ fr (f4y p) M M'
def cOpt (w : Nat) (fc : zM → Option (Int32 × zM)) (q a : Nat) (K : zM → Option (Int32 × zM)) (C : zM) : Option (Int32 × zM) := b1 (gX7_isWord C w) fun r => if r = J 0 then K C else b1 (gX7_step C) fun S => b2 (fc S) fun r S => if r = J 0 then some (J 0, S) else K (pI S q a (gI S 2 5))
def mOpt (w : Nat) (fm : zM → Option (Int32 × zM)) (e : Int32) (v1 : Int32) (K : zM → Option zM) (M : zM) : Option zM := b2 (gX12_takes M w) fun r S => if r = J 0 then K S else b2 (fm S) fun r S => ck (ixb (e + v1) 463) <| K (pI S 4 (ix (e + v1)) r)
section
variable {b : Nat → Int} {n T k : Nat} {C M : zM} {q p : Nat} {z : Int}
theorem f4y_13 {p : Nat} {A B : zM} (f : fr (f4y p) A B) : gI B 0 13 = gI A 0 13 := f.1 0 13 (by unfold f4y; omega)
theorem two_bad {EC EM : Nat → Nat → Prop} {C1 M1 M2 : zM} {Gm : Option zM} {E : zM → zM → Prop} (f : fr EC C C1) (g : fr EM M M1) (g2 : fr EM M1 M2) (h : bad C1 M1) (e : Gm = some M2) (e0 : ∀ j, gI M2 0 j = gI M1 0 j) : two b n T k EC EM C M (some (J 0, C1)) Gm E := ⟨0, C1, M2, rfl, e, f, fr_t g g2, Or.inr ⟨rfl, bad_w h rfl rfl e0⟩⟩
theorem opt_w {w a e : Nat} {lo hi : Int} {fc fm : zM → Option (Int32 × zM)} {KC : zM → Option (Int32 × zM)} {KM : zM → Option zM} (hK : way b n T q p z KC KM) (hw : w < 28) (hq : 6 ≤ q) (hp : p < 6) (ha : 2 ≤ a) (he : e < 200) (hk : kYo p (e + p)) (hN : ∀ {C M : zM} {k : Nat}, rdS b n T C M k → twoN b n T k lo hi C M (fc C) (fm M)) (hy : ∀ {C M : zM} {v : Int}, yQ C M q p → lo ≤ v → v ≤ hi → yQ (pI C q a (J v)) (pI M 4 (e + p) (J v)) q p) : way b n T q p z (cOpt (10000 + w) fc q a KC) (mOpt (10000 + w) fm (J e) (J p) KM) := by
  refine ⟨fun C M k h y y9 => ?_, fun M h13 => ?_⟩
  · obtain ⟨r, r1, r2, r3, -⟩ := rd_word h hw
    unfold cOpt mOpt
    rw [r2, b1s]
    rcases r1 with u | u
    · subst u
      rw [if_pos rfl, m_takes0 r3, b2s, if_pos rfl]
      exact hK.1 C M k h y y9
    · subst u
      obtain ⟨C1, M1, k1, p1, p2, p3, p4, p5, -, p6, -⟩ := rd_step h
      obtain ⟨s, v, C2, M2, q1, q2, q3, q4, q5⟩ := hN p3
      have x1 : ixb (J ((e : Int) + (p : Int))) 463 = true := ixb_J (by omega) (by omega) (by decide)
      have y1 : ix (J ((e : Int) + (p : Int))) = e + p := by rw [ix_J (by omega) (by omega)]; omega
      rw [if_neg (show ¬ J 1 = J 0 by decide), p1, b1s, q1, b2s, m_takes1 r3 p2, b2s, if_neg (show ¬ J 1 = J 0 by decide), q2, b2s, J_add, x1, ckt, y1]
      have f9 : ¬ e + p = 239 := by omega
      have fM : fr (fYm p) M2 (pI M2 4 (e + p) (J v)) := fr_pI (Or.inr ⟨rfl, Or.inl hk⟩)
      have FC := fYc_2 (q := q) (fr_t p4 q3)
      have FM := fYm_2 (p := p) (fr_t (fNx_2 p5) q4)
      rcases q5 with ⟨u, ⟨k2, u0, u2⟩, u3, u4, u5⟩ | ⟨u, u2⟩
      · subst u
        rw [if_neg (show ¬ J 1 = J 0 by decide), u3]
        have y2 := hy (yQ_2 hq y (fr_t p4 q3) (fr_t (fNx_2 p5) q4)) u4 u5
        have r2' : rdS b n T (pI C2 q a (J v)) (pI M2 4 (e + p) (J v)) k2 := rdS_c6 (rdS_4 u2 (fr_pI rfl)) (fr_pI hq)
        refine two_t (fr_t FC (fr_pI (Or.inr (Or.inl ⟨rfl, ha⟩)))) (fr_t FM fM) (by omega) (hK.1 _ _ k2 r2' y2 ?_)
        rw [rII, if_neg (by omega), q4.1 4 239 (by unfold fM2; omega), p5.1 4 239 (by unfold fNx; omega), y9]
      · subst u
        obtain ⟨M', m1, m2⟩ := hK.2 (pI M2 4 (e + p) (J v)) (by rw [rII, if_neg (by omega)]; exact u2.1)
        rw [if_pos rfl]
        exact two_bad FC FM (fr_t fM (fYm_4 m2)) u2 m1 (fun j => by rw [m2.1 0 j (by unfold f4y; omega), rII, if_neg (by omega)])
  · unfold mOpt
    rw [b_takes h13, b2s, if_pos rfl]
    exact hK.2 M h13
end
