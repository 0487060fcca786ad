/-! The ways through the rest of a sayer's line, by both. -/
section
variable {b : Nat → Int} {n T k : Nat} {C M : zM} {q p : Nat} {z : Int}
theorem two_if {EC EM : Nat → Nat → Prop} {F : Option (Int32 × zM)} {Gm : Option zM} {E : zM → zM → Prop} (h : two b n T k EC EM C M F Gm E) : two b n T k EC EM C M (b2 F fun r S => if r = J 0 then some (J 0, S) else some (J 1, S)) Gm E := by
  obtain ⟨r, C', M', h1, h2, h3, h4, h5⟩ := h
  rw [h1, b2s]
  rcases h5 with ⟨u, h6⟩ | ⟨u, h6⟩
  · subst u
    rw [if_neg (show ¬ J 1 = J 0 by decide)]
    exact ⟨1, C', M', rfl, h2, h3, h4, Or.inl ⟨rfl, h6⟩⟩
  · subst u
    rw [if_pos rfl]
    exact ⟨0, C', M', rfl, h2, h3, h4, Or.inr ⟨rfl, h6⟩⟩
theorem yQ_f {A e : Nat} {v : Int} (hy : yQ C M q p) (hp : p < 6) (h : (A = 2 ∧ e = 126 + p ∧ -50 ≤ v ∧ v ≤ 50) ∨ (A = 3 ∧ e = 132 + p ∧ -50 ≤ v ∧ v ≤ 50) ∨ (A = 4 ∧ e = 138 + p ∧ 0 ≤ v ∧ v ≤ 99) ∨ (A = 5 ∧ e = 144 + p ∧ 0 ≤ v ∧ v ≤ 99) ∨ (A = 6 ∧ e = 150 + p ∧ 0 ≤ v ∧ v ≤ 1)) : yQ (pI C q A (J v)) (pI M 4 e (J v)) q p := by
  have c : ∀ a j, ¬ (a = q ∧ j = A) → gI (pI C q A (J v)) a j = gI C a j := fun a j w => by rw [rII, if_neg w]
  have m : ∀ j, ¬ j = e → gI (pI M 4 e (J v)) 4 j = gI M 4 j := fun j w => by rw [rII, if_neg (fun x => w x.2)]
  have g : ∀ {i E : Nat} {lo hi : Int}, fld C M q i E lo hi → (A = i → e = E ∧ lo ≤ v ∧ v ≤ hi) → (¬ A = i → ¬ e = E) → fld (pI C q A (J v)) (pI M 4 e (J v)) q i E lo hi := fun {i E lo hi} u w x => by
    by_cases y : A = i
    · obtain ⟨w1, w2⟩ := w y
      exact ⟨v, w2, by rw [rII, if_pos ⟨rfl, y.symm⟩], by rw [rII, if_pos ⟨rfl, w1.symm⟩]⟩
    · exact fld_c u (c _ _ (fun s => y s.2.symm)) (m _ (fun s => x y s.symm))
  obtain ⟨u2, u3, u4, u5, u6, ⟨w, w1, w2, w3, w4, wz⟩, u8, u9⟩ := hy
  refine ⟨g u2 (by omega) (by omega), g u3 (by omega) (by omega), g u4 (by omega) (by omega), g u5 (by omega) (by omega), g u6 (by omega) (by omega), ⟨w, w1, (c q 7 (by omega)).trans w2, (m _ (by omega)).trans w3, fun j hj => fld_c (w4 j hj) (c _ _ (by omega)) (m _ (by omega)), fun j h1 h2 => (m _ (by omega)).trans (wz j h1 h2)⟩, (c q 8 (by omega)).trans u8, (c q 9 (by omega)).trans u9⟩
theorem two_end (h : rdS b n T C M k) (y : yQ C M q p) (hp : p < 6) : two b n T k (fYc q) (fYm p) C M (some (J 1, C)) (some (pI M 4 239 (J (z + 1)))) (yE q p z) := ⟨1, C, _, rfl, rfl, fr_r, fr_pI (Or.inr ⟨rfl, Or.inr rfl⟩), Or.inl ⟨rfl, ⟨k, Nat.le_refl k, rdS_4 h (fr_pI rfl)⟩, yQ_c y (fun _ _ _ _ => rfl) (fun e he => by rw [rII, if_neg (by unfold kYm at he; omega)]), by rw [rII, if_pos ⟨rfl, rfl⟩]⟩⟩
theorem c_L41_0 {f : Nat} {x : Int32} : gX7_readLikes_L41 q (f + 1) C (J 0) x = some (J 0, C) := by
  unfold gX7_readLikes_L41
  simp only [J_0, J_1, J_2, J_3, J_4, J_5, J_6, J_7, J_8, J_9, J_10, J_11, J_12, J_14, J_15, J_16, J_19, J_20, J_21, J_22, J_23, J_24, J_25, J_28, J_30, J_31, J_32, J_40, J_44, J_47, J_48, J_49, J_50, J_53, J_54, J_57, J_59, J_74, J_75, J_78, J_84, J_97, J_99, J_100, J_120, J_122, J_126, J_132, J_138, J_144, J_150, J_156, J_162, J_198, J_200, J_202, J_206, J_210, J_214, J_218, J_222, J_226, J_230, J_234, J_238, J_239, J_240, J_241, J_242, J_243, J_255, J_263, J_283, J_303, J_399, J_400, J_401, J_463, J_700, J_701, J_999, J_1000, J_2048, J_4095, J_4096, J_6000, J_9999, J_10000, J_65536, J_65537, J_2147483647, J_neg]
  rw [if_pos trivial, show isB (J 0) = true by decide, ckt]
  split <;> rfl
theorem m_L260_b {f : Nat} {v : Int32} (h : gI M 0 13 = J 1) : gX12_sayerLine_L260 v (f + 1) M = mEnd M := by
  unfold gX12_sayerLine_L260 mEnd
  simp only [J_0, J_1, J_2, J_3, J_4, J_5, J_6, J_7, J_8, J_9, J_10, J_11, J_12, J_14, J_15, J_16, J_19, J_20, J_21, J_22, J_23, J_24, J_25, J_28, J_30, J_31, J_32, J_40, J_44, J_47, J_48, J_49, J_50, J_53, J_54, J_57, J_59, J_74, J_75, J_78, J_84, J_97, J_99, J_100, J_120, J_122, J_126, J_132, J_138, J_144, J_150, J_156, J_162, J_198, J_200, J_202, J_206, J_210, J_214, J_218, J_222, J_226, J_230, J_234, J_238, J_239, J_240, J_241, J_242, J_243, J_255, J_263, J_283, J_303, J_399, J_400, J_401, J_463, J_700, J_701, J_999, J_1000, J_2048, J_4095, J_4096, J_6000, J_9999, J_10000, J_65536, J_65537, J_2147483647, J_neg, show ixb (J 239) 463 = true by decide, show ix (J 239) = 239 by decide, ckt]
  rw [h, if_neg (by decide)]
theorem bad_end {EC : Nat → Nat → Prop} {E : zM → zM → Prop} {C1 M1 : zM} (f : fr EC C C1) (g : fr (fYm p) M M1) (h : bad C1 M1) : two b n T k EC (fYm p) C M (some (J 0, C1)) (mEnd M1) E := two_bad f g (fr_pI (Or.inr ⟨rfl, Or.inr rfl⟩)) h rfl (fun j => by rw [rII, if_neg (by omega)])
theorem rd_likes_L (hq : 6 ≤ q) (hp : p < 6) : ∀ (f c k : Nat) (C M : zM), T < f + c → c ≤ k → rdS b n T C M k → yQ C M q p → gI M 4 239 = J z → two b n T k (fYc q) (fYm p) C M (gX7_readLikes_L41 q f C (J 1) (J c)) (gX12_sayerLine_L260 (J p) f M) (yE q p z) := by
  intro f
  induction f with
  | zero => intro c k C M h1 h2 h; have := h.2.2.1; omega
  | succ f ih =>
    intro c k C M h1 h2 h y y9
    have hT := h.2.1.1
    have hk := h.2.2.1
    have c3 : gI C 2 3 = J ((T + 1 : Nat) : Int) := h.2.1.2.2.2.1
    have h13 := h.2.2.2.2.2.2
    obtain ⟨k3, k6⟩ := rd_kind h
    obtain ⟨r, r1, r2, r3⟩ := rd_mark h (c := 44) (Or.inr (Or.inl rfl))
    unfold gX7_readLikes_L41 gX12_sayerLine_L260
    simp only [J_0, J_1, J_2, J_3, J_4, J_5, J_6, J_7, J_8, J_9, J_10, J_11, J_12, J_14, J_15, J_16, J_19, J_20, J_21, J_22, J_23, J_24, J_25, J_28, J_30, J_31, J_32, J_40, J_44, J_47, J_48, J_49, J_50, J_53, J_54, J_57, J_59, J_74, J_75, J_78, J_84, J_97, J_99, J_100, J_120, J_122, J_126, J_132, J_138, J_144, J_150, J_156, J_162, J_198, J_200, J_202, J_206, J_210, J_214, J_218, J_222, J_226, J_230, J_234, J_238, J_239, J_240, J_241, J_242, J_243, J_255, J_263, J_283, J_303, J_399, J_400, J_401, J_463, J_700, J_701, J_999, J_1000, J_2048, J_4095, J_4096, J_6000, J_9999, J_10000, J_65536, J_65537, J_2147483647, J_neg, show ixb (J 239) 463 = true by decide, show ix (J 239) = 239 by decide, ckt, show isB (J 1) = true by decide]
    rw [c3, iLE (by omega) (by omega) (by omega) (by omega), h13, if_pos rfl, y9, show J z + J 1 = J (z + 1) from J_add _ _, show J (c : Int) + J 1 = J ((c : Int) + 1) from J_add _ _]
    by_cases e : ((T + 1 : Nat) : Int) ≤ c
    · have tn : tpos b n k = n := by exfalso; omega
      have n44 : ¬ gI M 0 6 = J 44 := by
        rw [k6, tn]
        unfold mKd
        rw [if_neg (by omega)]
        decide
      rw [if_pos e, if_neg n44]
      exact two_end h y hp
    · rw [if_neg e, if_neg (show ¬ J 1 = J 0 by decide), r2, b1s]
      rcases r1 with u | u
      · subst u
        rw [if_pos rfl, if_neg (fun w => absurd (r3.mpr w) (by decide))]
        exact two_end h y hp
      · subst u
        have tl : tpos b n k < n := by
          have := r3.mp rfl
          rw [k6] at this
          by_cases w : tpos b n k < n
          · exact w
          · exfalso
            unfold mKd at this
            rw [if_neg w] at this
            exact absurd this (by decide)
        obtain ⟨C1, M1, k1, p1, p2, p3, p4, p5, -, p6, p7⟩ := rd_step h
        obtain ⟨s, C2, M2, q1, q2, q3, q4, q5⟩ := rd_liked p3 hq hp (yQ_2 hq y p4 (fNx_2 p5))
        rw [if_neg (show ¬ J 1 = J 0 by decide), if_pos (r3.mp rfl), p1, b1s, q1, b2s, p2, b1s, q2, b1s, show (c : Int) + 1 = ((c + 1 : Nat) : Int) by omega]
        have FC := fr_t (fYc_2 (q := q) p4) q3
        have FM := fr_t (fYm_2 (p := p) (fNx_2 p5)) q4
        have := p7 tl
        rcases q5 with ⟨u, ⟨k2, u0, u2⟩, u3, u4⟩ | ⟨u, u2⟩
        · subst u
          exact two_t FC FM (by omega) (ih (c + 1) k2 C2 M2 (by omega) (by omega) u2 u3 (by rw [u4, p5.1 4 239 (by unfold fNx; omega), y9]))
        · subst u
          have := p3.2.2.1
          obtain ⟨f', hf'⟩ : ∃ f', f = f' + 1 := ⟨f - 1, by omega⟩
          rw [hf', c_L41_0, m_L260_b u2.1]
          exact bad_end FC FM u2
theorem way5 (hq : 6 ≤ q) (hp : p < 6) : way b n T q p z (kL5 q) (mT5 (J p)) := by
  have hf := FUs (n := 800) (by omega)
  obtain ⟨f', hf'⟩ : ∃ f', FU = f' + 1 := ⟨FU - 1, by omega⟩
  refine ⟨fun C M k h y y9 => ?_, fun M h13 => ?_⟩
  · have hT := h.2.1.1
    have hk := h.2.2.1
    obtain ⟨r, r1, r2, r3, -⟩ := rd_word h (w := 10) (by decide)
    unfold kL5 gX7_readLikes_J18 mT5
    simp only [J_0, J_1, J_2, J_3, J_4, J_5, J_6, J_7, J_8, J_9, J_10, J_11, J_12, J_14, J_15, J_16, J_19, J_20, J_21, J_22, J_23, J_24, J_25, J_28, J_30, J_31, J_32, J_40, J_44, J_47, J_48, J_49, J_50, J_53, J_54, J_57, J_59, J_74, J_75, J_78, J_84, J_97, J_99, J_100, J_120, J_122, J_126, J_132, J_138, J_144, J_150, J_156, J_162, J_198, J_200, J_202, J_206, J_210, J_214, J_218, J_222, J_226, J_230, J_234, J_238, J_239, J_240, J_241, J_242, J_243, J_255, J_263, J_283, J_303, J_399, J_400, J_401, J_463, J_700, J_701, J_999, J_1000, J_2048, J_4095, J_4096, J_6000, J_9999, J_10000, J_65536, J_65537, J_2147483647, J_neg]
    rw [show (10010 : Nat) = 10000 + 10 from rfl, r2, b1s]
    rcases r1 with u | u
    · subst u
      rw [if_pos rfl, b2s, if_neg (show ¬ J 1 = J 0 by decide), m_takes0 r3, b2s, if_pos rfl]
      unfold mEnd
      rw [y9, J_add]
      exact two_end h y hp
    · subst u
      obtain ⟨C1, M1, k1, p1, p2, p3, p4, p5, -, p6, p7⟩ := rd_step h
      obtain ⟨s, C2, M2, q1, q2, q3, q4, q5⟩ := rd_liked p3 hq hp (yQ_2 hq y p4 (fNx_2 p5))
      rw [if_neg (show ¬ J 1 = J 0 by decide), p1, b1s, q1, b2s, m_takes1 r3 p2, b2s, if_neg (show ¬ J 1 = J 0 by decide), q2, b1s]
      have FC := fr_t (fYc_2 (q := q) p4) q3
      have FM := fr_t (fYm_2 (p := p) (fNx_2 p5)) q4
      rcases q5 with ⟨u, ⟨k2, u0, u2⟩, u3, u4⟩ | ⟨u, u2⟩
      · subst u
        exact two_t FC FM (by omega) (two_if (rd_likes_L hq hp FU 0 k2 C2 M2 (by omega) (by omega) u2 u3 (by rw [u4, p5.1 4 239 (by unfold fNx; omega), y9])))
      · subst u
        rw [hf', c_L41_0, m_L260_b u2.1, b2s, if_pos rfl]
        exact bad_end FC FM u2
  · unfold mT5
    rw [b_takes h13, b2s, if_pos rfl]
    exact ⟨_, rfl, fr_pI ⟨rfl, Or.inr rfl⟩⟩
theorem way4 (hq : 6 ≤ q) (hp : p < 6) : way b n T q p z (kL4 q) (mT4 (J p)) := by
  refine ⟨fun C M k h y y9 => ?_, fun M h13 => ?_⟩
  · obtain ⟨r, r1, r2, r3, -⟩ := rd_word h (w := 11) (by decide)
    rw [kL4_e]
    unfold mT4
    rw [show (10011 : Nat) = 10000 + 11 from rfl, r2, b1s]
    rcases r1 with u | u
    · subst u
      rw [if_pos rfl, m_takes0 r3, b2s, if_pos rfl]
      exact (way5 hq hp).1 C M k h y y9
    · subst u
      obtain ⟨C1, M1, k1, p1, p2, p3, p4, p5, -, p6, p7⟩ := rd_step h
      have x1 : ixb (J (150 + (p : Int))) 463 = true := ixb_J (by omega) (by omega) (by decide)
      have y1 : ix (J (150 + (p : Int))) = 150 + p := by rw [ix_J (by omega) (by omega)]; omega
      rw [if_neg (show ¬ J 1 = J 0 by decide), p1, b1s, m_takes1 r3 p2, b2s, if_neg (show ¬ J 1 = J 0 by decide), J_add, x1, ckt, y1]
      refine two_t (fr_t (fYc_2 p4) (fr_pI (Or.inr (Or.inl ⟨rfl, by omega⟩)))) (fr_t (fYm_2 (fNx_2 p5)) (fr_pI (Or.inr ⟨rfl, Or.inl ⟨by unfold kYm; omega, by omega⟩⟩))) p6 ((way5 hq hp).1 _ _ k1 (rdS_c6 (rdS_4 p3 (fr_pI rfl)) (fr_pI hq)) (yQ_f (yQ_2 hq y p4 (fNx_2 p5)) hp (by omega)) ?_)
      rw [rII, if_neg (by omega), p5.1 4 239 (by unfold fNx; omega), y9]
  · unfold mT4
    rw [b_takes h13, b2s, if_pos rfl]
    exact (way5 (b := b) (n := n) (T := T) (q := q) (z := z) hq hp).2 M h13
theorem way3 (hq : 6 ≤ q) (hp : p < 6) : way b n T q p z (kL3 q) (mT3 (J p)) := by
  have e : kL3 q = cOpt (10000 + 18) (fun S => gX7_takeWhole S (J 1) (J 99)) q 5 (kL4 q) := funext fun C => kL3_e
  rw [e]
  exact opt_w (e := 144) (way4 hq hp) (by decide) hq hp (by decide) (by decide) ⟨by unfold kYm; omega, by omega⟩ (fun h => rd_number h (lo := 1) (hi := 99) (by decide) (by decide)) (fun y v1 v2 => yQ_f y hp (by omega))
theorem way2 (hq : 6 ≤ q) (hp : p < 6) : way b n T q p z (kL2 q) (mT2 (J p)) := by
  have e : kL2 q = cOpt (10000 + 17) (fun S => gX7_takeWhole S (J 1) (J 99)) q 4 (kL3 q) := funext fun C => kL2_e
  rw [e]
  exact opt_w (e := 138) (way3 hq hp) (by decide) hq hp (by decide) (by decide) ⟨by unfold kYm; omega, by omega⟩ (fun h => rd_number h (lo := 1) (hi := 99) (by decide) (by decide)) (fun y v1 v2 => yQ_f y hp (by omega))
theorem way1 (hq : 6 ≤ q) (hp : p < 6) : way b n T q p z (kL1 q) (mT1 (J p)) := by
  have e : kL1 q = cOpt (10000 + 16) (fun S => gX7_takeSigned S (J 50)) q 3 (kL2 q) := funext fun C => kL1_e
  rw [e]
  exact opt_w (e := 132) (way2 hq hp) (by decide) hq hp (by decide) (by decide) ⟨by unfold kYm; omega, by omega⟩ (fun h => rd_signed h (hi := 50) (by decide)) (fun y v1 v2 => yQ_f y hp (by omega))
theorem way0 (hq : 6 ≤ q) (hp : p < 6) : way b n T q p z (kL0 q) (mTl (J p)) := by
  have e : kL0 q = cOpt (10000 + 6) (fun S => gX7_takeSigned S (J 50)) q 2 (kL1 q) := funext fun C => kL0_e
  rw [e]
  exact opt_w (e := 126) (way1 hq hp) (by decide) hq hp (by decide) (by decide) ⟨by unfold kYm; omega, by omega⟩ (fun h => rd_signed h (hi := 50) (by decide)) (fun y v1 v2 => yQ_f y hp (by omega))
end
