/-! The lines of the text, by both. -/
def lnC (C : zM) : Option (Int32 × zM) := b1 (gX7_isWord C 10000) fun r6 => if r6 = J 0 then b1 (gX7_isWord C 10001) fun r7 => if r7 = J 0 then b1 (gX7_isWord C 10002) fun r8 => if r8 = J 0 then b1 (gX7_isWord C 10003) fun r9 => if r9 = J 0 then gX7_wrong C (J 1) else gX7_readPay C else gX7_readPlan C else gX7_readSayer C else gX7_readSense C
section
variable {b : Nat → Int} {n T k : Nat} {C M : zM} {G ns np nl ny : Nat}
def bldE (G : Nat) (C M : zM) : Prop := ∃ ns np nl ny, bld C M G ns np nl ny
theorem two_E {EC EM : Nat → Nat → Prop} {F : Option (Int32 × zM)} {Gm : Option zM} {E E' : zM → zM → Prop} (h : two b n T k EC EM C M F Gm E) (e : ∀ C M, E C M → E' C M) : two b n T k EC EM C M F Gm E' := by
  obtain ⟨r, C', M', h1, h2, h3, h4, h5⟩ := h
  refine ⟨r, C', M', h1, h2, h3, h4, ?_⟩
  rcases h5 with ⟨u, h6, h7⟩ | h6
  · exact Or.inl ⟨u, h6, e _ _ h7⟩
  · exact Or.inr h6
theorem rd_line (h : rdS b n T C M k) (hG : G = 6 ∨ G = 243) (hR : gR C 2 6 = G) (hB : bldE G C M) : two b n T k (fHall G) fRoom C M (lnC C) (gX12_readLine M) (bldE G) := by
  obtain ⟨ns, np, nl, ny, hB⟩ := hB
  obtain ⟨r0, a0, c0, m0, -⟩ := rd_word h (w := 0) (by decide)
  obtain ⟨r1, a1, c1, m1, -⟩ := rd_word h (w := 1) (by decide)
  obtain ⟨r2, a2, c2, m2, -⟩ := rd_word h (w := 2) (by decide)
  obtain ⟨r3, a3, c3, m3, -⟩ := rd_word h (w := 3) (by decide)
  unfold lnC gX12_readLine
  simp only [J_0, J_1, J_2, J_3, J_4, J_5, J_6, J_7, J_8, J_9, J_10, J_11, J_12, J_14, J_15, J_16, J_19, J_20, J_21, J_22, J_23, J_24, J_25, J_28, J_30, J_31, J_32, J_40, J_44, J_47, J_48, J_49, J_50, J_53, J_54, J_57, J_59, J_74, J_75, J_78, J_84, J_97, J_99, J_100, J_120, J_122, J_126, J_132, J_138, J_144, J_150, J_156, J_162, J_198, J_200, J_202, J_206, J_210, J_214, J_218, J_222, J_226, J_230, J_234, J_238, J_239, J_240, J_241, J_242, J_243, J_255, J_263, J_283, J_303, J_399, J_400, J_401, J_463, J_700, J_701, J_999, J_1000, J_2048, J_4095, J_4096, J_6000, J_9999, J_10000, J_65536, J_65537, J_2147483647, J_neg, show ixb (J 238) 463 = true by decide, show ixb (J 239) 463 = true by decide, show ixb (J 240) 463 = true by decide, show ixb (J 241) 463 = true by decide, show ix (J 238) = 238 by decide, show ix (J 239) = 239 by decide, show ix (J 240) = 240 by decide, show ix (J 241) = 241 by decide, ckt]
  rw [show (10000 : Nat) = 10000 + 0 from rfl, show (10001 : Nat) = 10000 + 1 from rfl, show (10002 : Nat) = 10000 + 2 from rfl, show (10003 : Nat) = 10000 + 3 from rfl, c0, m0, c1, m1, c2, m2, c3, m3, b1s, b1s, b1s, b1s, b1s, b1s, b1s, b1s]
  rcases a0 with u | u
  · subst u
    rw [if_pos rfl, if_pos rfl]
    rcases a1 with u | u
    · subst u
      rw [if_pos rfl, if_pos rfl]
      rcases a2 with u | u
      · subst u
        rw [if_pos rfl, if_pos rfl]
        rcases a3 with u | u
        · subst u
          obtain ⟨C1, q1, q2, q3, q4, q5⟩ := rd_wrong h (f := 1) (by decide)
          rw [if_pos rfl, if_pos rfl, q1, q2, b1s]
          exact ⟨0, _, _, rfl, rfl, fHall_2 q4, fRoom_2 q5, Or.inr ⟨rfl, q3⟩⟩
        · subst u
          rw [if_neg (show ¬ J 1 = J 0 by decide), if_neg (show ¬ J 1 = J 0 by decide)]
          exact two_E (rd_pay h hG hR hB) (fun C M z => ⟨_, _, _, _, z⟩)
      · subst u
        rw [if_neg (show ¬ J 1 = J 0 by decide), if_neg (show ¬ J 1 = J 0 by decide)]
        exact two_E (rd_plan h hG hR hB) (fun C M z => ⟨_, _, _, _, z⟩)
    · subst u
      rw [if_neg (show ¬ J 1 = J 0 by decide), if_neg (show ¬ J 1 = J 0 by decide)]
      exact two_E (rd_sayer h hG hR hB) (fun C M z => ⟨_, _, _, _, z⟩)
  · subst u
    rw [if_neg (show ¬ J 1 = J 0 by decide), if_neg (show ¬ J 1 = J 0 by decide)]
    exact two_E (rd_sense h hG hR hB) (fun C M z => ⟨_, _, _, _, z⟩)
theorem c_L37 {f c : Nat} (h3 : gI C 2 3 = J ((T + 1 : Nat) : Int)) (hT : T ≤ 700) (hc : c ≤ T) : gX7_reads_L37 (f + 1) C (J 1) (J c) = b2 (lnC C) fun r S => lm (gX7_reads_J119 S (J c) r) (un3 fun v3 v4 S => gX7_reads_L37 f S v3 v4) := by
  unfold lnC
  conv => lhs; unfold gX7_reads_L37
  simp only [J_0, J_1, J_2, J_3, J_4, J_5, J_6, J_7, J_8, J_9, J_10, J_11, J_12, J_14, J_15, J_16, J_19, J_20, J_21, J_22, J_23, J_24, J_25, J_28, J_30, J_31, J_32, J_40, J_44, J_47, J_48, J_49, J_50, J_53, J_54, J_57, J_59, J_74, J_75, J_78, J_84, J_97, J_99, J_100, J_120, J_122, J_126, J_132, J_138, J_144, J_150, J_156, J_162, J_198, J_200, J_202, J_206, J_210, J_214, J_218, J_222, J_226, J_230, J_234, J_238, J_239, J_240, J_241, J_242, J_243, J_255, J_263, J_283, J_303, J_399, J_400, J_401, J_463, J_700, J_701, J_999, J_1000, J_2048, J_4095, J_4096, J_6000, J_9999, J_10000, J_65536, J_65537, J_2147483647, J_neg, b2_b1, b2_ite]
  rw [h3, iLE (by omega) (by omega) (by omega) (by omega), if_neg (by omega), if_neg (show ¬ J 1 = J 0 by decide)]
theorem rd_reads_L (hG : G = 6 ∨ G = 243) : ∀ (f c k : Nat) (C M : zM), T + 1 < f + c → c ≤ k → rdS b n T C M k → gR C 2 6 = G → bldE G C M → ∃ C' M', (b1 (gX12_readLine M) fun S => gX12_room_L77 f S) = some M' ∧ fr (fHall G) C C' ∧ fr fRoom M M' ∧ ((gX7_reads_L37 f C (J 1) (J c) = some (.inr C') ∧ (∃ k, rdS b n T C' M' k) ∧ bldE G C' M') ∨ (gX7_reads_L37 f C (J 1) (J c) = some (.inl (J 0, C')) ∧ bad C' M')) := by
  intro f
  induction f with
  | zero => intro c k C M h1 h2 h; have := h.2.2.1; omega
  | succ f ih =>
    intro c k C M h1 h2 h hR hB
    have hT := h.2.1.1
    have hk := h.2.2.1
    have c3 : gI C 2 3 = J ((T + 1 : Nat) : Int) := h.2.1.2.2.2.1
    obtain ⟨r, C1, M1, a1, a2, a3, a4, a5⟩ := rd_line h hG hR hB
    rw [c_L37 c3 hT (by omega), a1, b2s, a2, b1s]
    unfold gX7_reads_J119
    conv in gX12_room_L77 (f + 1) M1 => unfold gX12_room_L77
    simp only [J_0, J_1, J_2, J_3, J_4, J_5, J_6, J_7, J_8, J_9, J_10, J_11, J_12, J_14, J_15, J_16, J_19, J_20, J_21, J_22, J_23, J_24, J_25, J_28, J_30, J_31, J_32, J_40, J_44, J_47, J_48, J_49, J_50, J_53, J_54, J_57, J_59, J_74, J_75, J_78, J_84, J_97, J_99, J_100, J_120, J_122, J_126, J_132, J_138, J_144, J_150, J_156, J_162, J_198, J_200, J_202, J_206, J_210, J_214, J_218, J_222, J_226, J_230, J_234, J_238, J_239, J_240, J_241, J_242, J_243, J_255, J_263, J_283, J_303, J_399, J_400, J_401, J_463, J_700, J_701, J_999, J_1000, J_2048, J_4095, J_4096, J_6000, J_9999, J_10000, J_65536, J_65537, J_2147483647, J_neg]
    rcases a5 with ⟨u, ⟨k1, u0, u2⟩, u3⟩ | ⟨u, u2⟩
    · subst u
      have hR1 : gR C1 2 6 = G := by
        rw [a3.2.2 2 6 (by unfold fHall fC2; omega), hR]
      have k1T := u2.2.2.1
      obtain ⟨s, s1, s2, s3⟩ := rd_mark u2 (c := 59) (Or.inl rfl)
      rw [if_neg (show ¬ J 1 = J 0 by decide), s2, b1s, u2.2.2.2.2.2.2, if_pos rfl, show J (c : Int) + J 1 = J ((c + 1 : Nat) : Int) by rw [J_add]; rfl]
      rcases s1 with w | w
      · subst w
        obtain ⟨f', hf'⟩ : ∃ f', f = f' + 1 := ⟨f - 1, by omega⟩
        have e0 : gX7_reads_L37 f C1 (J 0) (J ((c + 1 : Nat) : Int)) = some (.inr C1) := by
          rw [hf']
          unfold gX7_reads_L37
          simp only [J_0, J_1, J_2, J_3, J_4, J_5, J_6, J_7, J_8, J_9, J_10, J_11, J_12, J_14, J_15, J_16, J_19, J_20, J_21, J_22, J_23, J_24, J_25, J_28, J_30, J_31, J_32, J_40, J_44, J_47, J_48, J_49, J_50, J_53, J_54, J_57, J_59, J_74, J_75, J_78, J_84, J_97, J_99, J_100, J_120, J_122, J_126, J_132, J_138, J_144, J_150, J_156, J_162, J_198, J_200, J_202, J_206, J_210, J_214, J_218, J_222, J_226, J_230, J_234, J_238, J_239, J_240, J_241, J_242, J_243, J_255, J_263, J_283, J_303, J_399, J_400, J_401, J_463, J_700, J_701, J_999, J_1000, J_2048, J_4095, J_4096, J_6000, J_9999, J_10000, J_65536, J_65537, J_2147483647, J_neg]
          rw [if_pos trivial]
          split <;> rfl
        rw [if_pos rfl, if_neg (fun w => absurd (s3.mpr w) (by decide)), lmr, un3s, e0]
        exact ⟨C1, M1, rfl, a3, a4, Or.inl ⟨rfl, ⟨k1, u2⟩, u3⟩⟩
      · subst w
        have tl : tpos b n k1 < n := by
          have := s3.mp rfl
          rw [(rd_kind u2).2] at this
          by_cases w : tpos b n k1 < n
          · exact w
          · exfalso
            unfold mKd at this
            rw [if_neg w] at this
            exact absurd this (by decide)
        obtain ⟨C2, M2, k2, p1, p2, p3, p4, p5, -, p6, p7⟩ := rd_step u2
        have := p7 tl
        rw [if_neg (show ¬ J 1 = J 0 by decide), if_pos (s3.mp rfl), p1, b1s, lmr, un3s, p2, b1s]
        have B2 : bldE G C2 M2 := by
          obtain ⟨ns, np, nl, ny, ⟨g1, ⟨g2, g3, g4, g5⟩, g6, g7, g8, g9⟩, hI, ⟨hz1, hz2⟩, hN⟩ := u3
          have cc : ∀ q j, 6 ≤ q → gI C2 q j = gI C1 q j := fun q j hq => p4.1 q j (by unfold fC2; omega)
          have mm : ∀ e, gI M2 4 e = gI M1 4 e := fun e => p5.1 4 e (by unfold fNx; omega)
          refine ⟨ns, np, nl, ny, ⟨g1, ⟨(cc G 6 (by omega)).trans g2, (cc G 7 (by omega)).trans g3, (cc G 8 (by omega)).trans g4, (cc G 9 (by omega)).trans g5⟩, (mm _).trans g6, (mm _).trans g7, (mm _).trans g8, (mm _).trans g9⟩, bIt_c hI (fun q j z => cc q j (by omega)) (fun e _ => mm e), ⟨fun s s1 s2 => ⟨(mm s).trans (hz1 s s1 s2).1, fun j hj => (mm _).trans ((hz1 s s1 s2).2 j hj)⟩, fun p p1 p2 => ?_⟩, bN_c hN (cc G 10 (by omega)) (fun v => p4.2.1 _ v (by unfold fC2; omega)) (fun v => cc _ v (by omega)) (fun e _ _ => mm e)⟩
          obtain ⟨z1, z2, z3, z4, z5, z6, z7⟩ := hz2 p p1 p2
          exact ⟨(mm _).trans z1, (mm _).trans z2, (mm _).trans z3, (mm _).trans z4, (mm _).trans z5, (mm _).trans z6, fun j hj => (mm _).trans (z7 j hj)⟩
        obtain ⟨C', M', i1, i2, i3, i4⟩ := ih (c + 1) k2 C2 M2 (by omega) (by omega) p3 (by rw [p4.2.2 2 6 (by unfold fC2; omega), hR1]) B2
        exact ⟨C', M', i1, fr_t a3 (fr_t (fHall_2 p4) i2), fr_t a4 (fr_t (fRoom_2 (fNx_2 p5)) i3), i4⟩
    · subst u
      rw [if_pos rfl, lml, u2.1, if_neg (by decide)]
      exact ⟨C1, M1, rfl, a3, a4, Or.inr ⟨rfl, u2⟩⟩
end
