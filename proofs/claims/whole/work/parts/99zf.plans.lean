/-! What a plan is, by both. -/
section
variable {b : Nat → Int} {n T k : Nat} {C M : zM} {q l : Nat} {z : Int}
theorem m_numW (h : rdS b n T C M k) (y : tN b n (tpos b n k)) {lo hi : Int} (hl : -1000 ≤ lo ∧ lo ≤ 1000) (hh : -1000 ≤ hi ∧ hi ≤ 1000) (hv : lo ≤ dcW b (tpos b n k) (te b n (tpos b n k) - tpos b n k) ∧ dcW b (tpos b n k) (te b n (tpos b n k) - tpos b n k) ≤ hi) : gX12_number M (J lo) (J hi) = b1 (gX12_next M) fun S => some (J (dcW b (tpos b n k) (te b n (tpos b n k) - tpos b n k)), S) := by
  obtain ⟨k3, k6⟩ := rd_kind h
  obtain ⟨v1, v2, v3⟩ := tN_v y
  have mb := mKd_b (b := b) (n := n) (q := tpos b n k)
  have m7 := h.2.2.2.2.2.1.2.2.2.2 y.1 y.2.1 y.2.2.1 y.2.2.2
  unfold gX12_number
  simp only [J_0, J_1, J_2, J_3, J_4, J_5, J_6, J_7, J_8, J_9, J_10, J_11, J_12, J_14, J_15, J_16, J_19, J_20, J_21, J_22, J_23, J_24, J_25, J_28, J_30, J_31, J_32, J_40, J_44, J_47, J_48, J_49, J_50, J_53, J_54, J_57, J_59, J_74, J_75, J_78, J_84, J_97, J_99, J_100, J_120, J_122, J_126, J_132, J_138, J_144, J_150, J_156, J_162, J_198, J_200, J_202, J_206, J_210, J_214, J_218, J_222, J_226, J_230, J_234, J_238, J_239, J_240, J_241, J_242, J_243, J_255, J_263, J_283, J_303, J_399, J_400, J_401, J_463, J_700, J_701, J_999, J_1000, J_2048, J_4095, J_4096, J_6000, J_9999, J_10000, J_65536, J_65537, J_2147483647, J_neg]
  rw [h.2.2.2.2.2.2, if_pos rfl, k6, tN_m.mpr y, if_pos rfl, m7, m_within (by omega) (by omega) (by omega) (by omega) (by omega) (by omega), b1s, iB0, if_pos hv]
theorem m_numO (h : rdS b n T C M k) (y : tN b n (tpos b n k)) {lo hi : Int} (hl : -1000 ≤ lo ∧ lo ≤ 1000) (hh : -1000 ≤ hi ∧ hi ≤ 1000) (hv : ¬ (lo ≤ dcW b (tpos b n k) (te b n (tpos b n k) - tpos b n k) ∧ dcW b (tpos b n k) (te b n (tpos b n k) - tpos b n k) ≤ hi)) : gX12_number M (J lo) (J hi) = b1 (gX12_wrong M (J 4) (gI M 0 4)) fun S => some (J lo, S) := by
  obtain ⟨k3, k6⟩ := rd_kind h
  obtain ⟨v1, v2, v3⟩ := tN_v y
  have m7 := h.2.2.2.2.2.1.2.2.2.2 y.1 y.2.1 y.2.2.1 y.2.2.2
  unfold gX12_number
  simp only [J_0, J_1, J_2, J_3, J_4, J_5, J_6, J_7, J_8, J_9, J_10, J_11, J_12, J_14, J_15, J_16, J_19, J_20, J_21, J_22, J_23, J_24, J_25, J_28, J_30, J_31, J_32, J_40, J_44, J_47, J_48, J_49, J_50, J_53, J_54, J_57, J_59, J_74, J_75, J_78, J_84, J_97, J_99, J_100, J_120, J_122, J_126, J_132, J_138, J_144, J_150, J_156, J_162, J_198, J_200, J_202, J_206, J_210, J_214, J_218, J_222, J_226, J_230, J_234, J_238, J_239, J_240, J_241, J_242, J_243, J_255, J_263, J_283, J_303, J_399, J_400, J_401, J_463, J_700, J_701, J_999, J_1000, J_2048, J_4095, J_4096, J_6000, J_9999, J_10000, J_65536, J_65537, J_2147483647, J_neg]
  rw [h.2.2.2.2.2.2, if_pos rfl, k6, tN_m.mpr y, if_pos rfl, m7, m_within (by omega) (by omega) (by omega) (by omega) (by omega) (by omega), b1s, iB0, if_neg hv]
theorem m_numN (h : rdS b n T C M k) (y : ¬ tN b n (tpos b n k)) {lo hi : Int32} : gX12_number M lo hi = b1 (gX12_wrong M (J 1) (gI M 0 4)) fun S => some (lo, S) := by
  obtain ⟨k3, k6⟩ := rd_kind h
  have mb := mKd_b (b := b) (n := n) (q := tpos b n k)
  unfold gX12_number
  simp only [J_0, J_1, J_2, J_3, J_4, J_5, J_6, J_7, J_8, J_9, J_10, J_11, J_12, J_14, J_15, J_16, J_19, J_20, J_21, J_22, J_23, J_24, J_25, J_28, J_30, J_31, J_32, J_40, J_44, J_47, J_48, J_49, J_50, J_53, J_54, J_57, J_59, J_74, J_75, J_78, J_84, J_97, J_99, J_100, J_120, J_122, J_126, J_132, J_138, J_144, J_150, J_156, J_162, J_198, J_200, J_202, J_206, J_210, J_214, J_218, J_222, J_226, J_230, J_234, J_238, J_239, J_240, J_241, J_242, J_243, J_255, J_263, J_283, J_303, J_399, J_400, J_401, J_463, J_700, J_701, J_999, J_1000, J_2048, J_4095, J_4096, J_6000, J_9999, J_10000, J_65536, J_65537, J_2147483647, J_neg]
  rw [h.2.2.2.2.2.2, if_pos rfl, k6, iEQ (by omega) (by omega) (by decide) (by decide), if_neg (fun w => y (tN_m.mp w))]
theorem c_takeO (h : rdS b n T C M k) (y : tN b n (tpos b n k)) {lo hi : Int} (hl : -1000 ≤ lo ∧ lo ≤ 1000) (hh : -1000 ≤ hi ∧ hi ≤ 1000) (hv : ¬ (lo ≤ dcW b (tpos b n k) (te b n (tpos b n k) - tpos b n k) ∧ dcW b (tpos b n k) (te b n (tpos b n k) - tpos b n k) ≤ hi)) : ∃ C', gX7_takeWhole C (J lo) (J hi) = some (J 0, C') ∧ gX7_wrong C (J 4) = some (J 0, C') := by
  obtain ⟨x1, y1, x3, x4, x5⟩ := rd_x h
  obtain ⟨v1, v2, v3⟩ := tN_v y
  obtain ⟨C1, q1, q2, q3, q4, q5⟩ := rd_wrong h (f := 4) (by decide)
  refine ⟨C1, ?_, q1⟩
  unfold gX7_takeWhole
  simp only [J_0, J_1, J_2, J_3, J_4, J_5, J_6, J_7, J_8, J_9, J_10, J_11, J_12, J_14, J_15, J_16, J_19, J_20, J_21, J_22, J_23, J_24, J_25, J_28, J_30, J_31, J_32, J_40, J_44, J_47, J_48, J_49, J_50, J_53, J_54, J_57, J_59, J_74, J_75, J_78, J_84, J_97, J_99, J_100, J_120, J_122, J_126, J_132, J_138, J_144, J_150, J_156, J_162, J_198, J_200, J_202, J_206, J_210, J_214, J_218, J_222, J_226, J_230, J_234, J_238, J_239, J_240, J_241, J_242, J_243, J_255, J_263, J_283, J_303, J_399, J_400, J_401, J_463, J_700, J_701, J_999, J_1000, J_2048, J_4095, J_4096, J_6000, J_9999, J_10000, J_65536, J_65537, J_2147483647, J_neg]
  rw [x1, ckt, ckt, ckt, ckt, y1, x3, x5, tN_k.mpr y, if_pos rfl, v1, J_toL (by omega) (by omega), J_toL (by omega) (by omega), iLTl (by omega) (by omega) (by omega) (by omega)]
  by_cases w : dcW b (tpos b n k) (te b n (tpos b n k) - tpos b n k) < lo
  · rw [if_pos w, q1, b2s, show isB (J 0) = true by decide, ckt]
  · rw [if_neg w, iLEl (by omega) (by omega) (by omega) (by omega), if_neg (by omega), q1, b2s, show isB (J 0) = true by decide, ckt]
def mPe (l : Nat) (M64 A : zM) : Option zM := if gI A 0 13 = J 0 then ck (decide (¬ (gI A 4 (210 + l)) = J 0)) <| if ((gI A 4 (206 + l) - gI A 4 (202 + l)) / gI A 4 (210 + l) + J 1) * gI A 4 (214 + l) ≤ J 200 then some (pI A 4 240 (gI A 4 240 + J 1)) else b1 (gX12_wrong A (J 4) (gI M64 0 4)) fun S => some (pI S 4 240 (gI S 4 240 + J 1)) else some (pI A 4 240 (gI A 4 240 + J 1))
def kP4 (q : Nat) (C : zM) : Option (Int32 × zM) := b1 (gX6_sizes C q) fun r11 => ck (decide (¬ (jmax (J 1) r11) = J 0)) <| lt (jmin (J 20) (J 200 / (jmax (J 1) r11))) fun x13 => b2 (gX7_takeWord C 10022) fun r S => if r = J 0 then some (J 0, S) else b2 (gX7_takeWhole S (J 1) x13) fun r S => if r = J 0 then some (J 0, S) else some (J 1, pI S q 4 (gI S 2 5))
def mP4 (l : Nat) (M : zM) : Option zM := b1 (gX12_must M 10022) fun S64 => b2 (gX12_number S64 (J 1) (J 20)) fun r S => mPe l S64 (pI S 4 (214 + l) r)
theorem mPe_b {M64 A : zM} (h : gI A 0 13 = J 1) : mPe l M64 A = some (pI A 4 240 (gI A 4 240 + J 1)) := by
  unfold mPe
  rw [h, if_neg (by decide)]
def Qp (m : Nat) (f : Nat → Int) : Prop := (0 ≤ f 0 ∧ f 0 ≤ 2) ∧ (2 ≤ m → 1 ≤ f 1 ∧ f 1 ≤ 400) ∧ (3 ≤ m → f 1 ≤ f 2 ∧ f 2 ≤ 400) ∧ (4 ≤ m → 1 ≤ f 3 ∧ f 3 ≤ 400) ∧ (5 ≤ m → (1 ≤ f 4 ∧ f 4 ≤ 20) ∧ ((f 2 - f 1) / f 3 + 1) * f 4 ≤ 200)
def Ep (q l : Nat) (z : Int) (C M : zM) : Prop := ∃ f, pV5 198 q l 240 (z + 1) 5 f C M ∧ Qp 5 f
theorem wayP4 (hq : 6 ≤ q) (hl : l < 4) : wayP b n T 198 q l 240 z 4 (Qp 4) (Ep q l z) (kP4 q) (mP4 l) := by
  have k240 : ¬ kBm 198 l 240 := by unfold kBm; omega
  refine ⟨fun C M k f h p hQ => ?_, fun M h13 => ?_⟩
  · obtain ⟨⟨a1, a2⟩, b1', b2', b3', -⟩ := id hQ
    have b1 := b1' (by decide)
    have b2 := b2' (by decide)
    have b3 := b3' (by decide)
    clear b1' b2' b3'
    have g1 := p.1 1 (by decide)
    have g2 := p.1 2 (by decide)
    have g3 := p.1 3 (by decide)
    generalize hA : f 1 = a at b1 b2 g1
    generalize hE : f 2 = e at b2 g2
    generalize hD : f 3 = d at b3 g3
    have dv1 : 0 ≤ (e - a) / d := Int.ediv_nonneg (by omega) (by omega)
    have dv2 : (e - a) / d ≤ e - a := by
      have := Int.ediv_le_self (b := d) (show 0 ≤ e - a by omega)
      exact this
    generalize hs : (e - a) / d = s at dv1 dv2
    have sv1 : 0 ≤ 200 / (s + 1) := Int.ediv_nonneg (by omega) (by omega)
    have sv2 : 200 / (s + 1) ≤ 200 := Int.ediv_le_self (b := s + 1) (show (0 : Int) ≤ 200 by omega)
    have sv3 : ∀ v : Int, v ≤ 200 / (s + 1) ↔ (s + 1) * v ≤ 200 := fun v => by
      rw [Int.le_ediv_iff_mul_le (by omega), Int.mul_comm]
    generalize hc : 200 / (s + 1) = c at sv1 sv2 sv3
    have sz : gX6_sizes C q = some (J (s + 1)) := by
      unfold gX6_sizes
      simp only [J_0, J_1, J_2, J_3, J_4, J_5, J_6, J_7, J_8, J_9, J_10, J_11, J_12, J_14, J_15, J_16, J_19, J_20, J_21, J_22, J_23, J_24, J_25, J_28, J_30, J_31, J_32, J_40, J_44, J_47, J_48, J_49, J_50, J_53, J_54, J_57, J_59, J_74, J_75, J_78, J_84, J_97, J_99, J_100, J_120, J_122, J_126, J_132, J_138, J_144, J_150, J_156, J_162, J_198, J_200, J_202, J_206, J_210, J_214, J_218, J_222, J_226, J_230, J_234, J_238, J_239, J_240, J_241, J_242, J_243, J_255, J_263, J_283, J_303, J_399, J_400, J_401, J_463, J_700, J_701, J_999, J_1000, J_2048, J_4095, J_4096, J_6000, J_9999, J_10000, J_65536, J_65537, J_2147483647, J_neg]
      rw [g1.1, g2.1, g3.1, jmax_J (by omega) (by omega) (by omega) (by omega), show max 1 d = d by omega, show decide (¬ J d = J 0) = true from decide_eq_true (by rw [J_inj (by omega) (by omega) (by omega) (by omega)]; omega), ckt, J_sub, J_div (by omega) (by omega) (by omega) (by omega), hs, J_add]
    obtain ⟨r, C1, M1, q1, q2, q3, q4, q5⟩ := rd_must h (w := 22) (by decide)
    rw [show (10000 + 22 : Nat) = 10022 from rfl] at q1 q2
    unfold kP4 mP4
    rw [sz, b1s, jmax_J (by omega) (by omega) (by omega) (by omega), show max 1 (s + 1) = s + 1 by omega, show decide (¬ J (s + 1) = J 0) = true from decide_eq_true (by rw [J_inj (by omega) (by omega) (by omega) (by omega)]; omega), ckt, lts, J_div (by omega) (by omega) (by omega) (by omega), hc, jmin_J (by omega) (by omega) (by omega) (by omega), q1, b2s, q2, b1s]
    rcases q5 with ⟨u, ⟨k1, u0, u2⟩, -⟩ | ⟨u, u2⟩
    · subst u
      rw [if_neg (show ¬ J 1 = J 0 by decide)]
      have p1 := pV5_c p hq q3 q4
      by_cases y : tN b n (tpos b n k1)
      · obtain ⟨v1, v2, v3⟩ := tN_v y
        generalize hv : dcW b (tpos b n k1) (te b n (tpos b n k1) - tpos b n k1) = v at v1 v2 v3
        obtain ⟨C2, o1, o2, o3, o4, o5⟩ := rd_wrong u2 (f := 4) (by decide)
        by_cases w : 1 ≤ v ∧ v ≤ 20
        · have hs2 : rdS b n T (pI C1 2 5 (J v)) M1 k1 := rdS_w u2 (by rw [rII, if_neg (by omega)]) (by rw [rII, if_neg (by omega)]) (by rw [rII, if_neg (by omega)]) (fun k => ⟨by rw [rII, if_neg (by omega)], by rw [rII, if_neg (by omega)], rLI⟩) (fun _ _ => rfl) (fun _ => rfl) (fun _ => rfl)
          obtain ⟨C3, M3, k3, s1, s2, s3, s4, s5, s6, s7, -⟩ := rd_step hs2
          have h5 : gI C3 2 5 = J v := by
            have : gX7_step (pI C1 2 5 (J v)) = some C3 := s1
            unfold gX7_step at this
            split at this
            · have := Option.some.inj this
              rw [← this, rII, if_pos ⟨rfl, rfl⟩]
            · have := Option.some.inj this
              rw [← this, rII, if_neg (by omega), rII, if_pos ⟨rfl, rfl⟩]
          rw [m_numW u2 y (by decide) (by decide) (by rw [hv]; exact w), hv, s2, b1s, b2s]
          have fC : fr fC2 C C3 := fr_t q3 (fr_t (fr_pI (by unfold fC2; omega)) s4)
          have p3 := pV5_c p hq fC (fr_t q4 (fNx_2 s5))
          have pw := pV5_w (v := v) p3 hl (by omega)
          have e1 : gI (pI M3 4 (214 + l) (J v)) 4 (202 + l) = J a := by rw [← hA]; have := (p3.1 1 (by decide)).2; rw [rII, if_neg (by omega)]; exact this
          have e2 : gI (pI M3 4 (214 + l) (J v)) 4 (206 + l) = J e := by rw [← hE]; have := (p3.1 2 (by decide)).2; rw [rII, if_neg (by omega)]; exact this
          have e3 : gI (pI M3 4 (214 + l) (J v)) 4 (210 + l) = J d := by rw [← hD]; have := (p3.1 3 (by decide)).2; rw [rII, if_neg (by omega)]; exact this
          have e4 : gI (pI M3 4 (214 + l) (J v)) 4 (214 + l) = J v := by rw [rII, if_pos ⟨rfl, rfl⟩]
          have e13 : gI (pI M3 4 (214 + l) (J v)) 0 13 = J 0 := by rw [rII, if_neg (by omega), s6]
          have pb : 0 ≤ (s + 1) * v ∧ (s + 1) * v ≤ 400 * 20 := ⟨Int.mul_nonneg (by omega) (by omega), Int.mul_le_mul (by omega) w.2 (by omega) (by omega)⟩
          have hcond : (((J e - J a) / J d + J 1) * J v ≤ J 200) = ((s + 1) * v ≤ 200) := by
            rw [J_sub, J_div (by omega) (by omega) (by omega) (by omega), hs, J_add, J_mul, J_le (by omega) (by omega) (by omega) (by omega)]
          have hd : decide (¬ J d = J 0) = true := decide_eq_true (by rw [J_inj (by omega) (by omega) (by omega) (by omega)]; omega)
          unfold mPe
          rw [e13, if_pos rfl, e1, e2, e3, e4, hd, ckt]
          by_cases x : v ≤ c
          · have hx := (sv3 v).mp x
            have hw : min 20 c = c ∨ min 20 c = 20 := by omega
            rw [c_takeW u2 y (by decide) (by omega) (by rw [hv]; omega), hv, s1, b1s, b2s, if_neg (show ¬ J 1 = J 0 by decide), h5, if_pos (by rw [hcond]; exact hx)]
            have ps : pV5 198 q l 240 z 5 (upF f 4 v) (pI C3 q 4 (J v)) (pI M3 4 (214 + l) (J v)) := pw
            obtain ⟨r', C', M', t1, t2, t3, t4, t5⟩ := endP (rdS_c6 (rdS_4 s3 (fr_pI rfl)) (fr_pI hq)) ps k240 rfl
            have t1' := Prod.mk.inj (Option.some.inj t1)
            have t2' := Option.some.inj t2
            rw [t2', t1'.1, t1'.2]
            refine ⟨r', C', M', rfl, rfl, fr_t (fr_t (fPc_2 fC) (fr_pI (Or.inr ⟨rfl, by decide⟩))) t3, fr_t (fr_t (fPm_2 (fr_t q4 (fNx_2 s5))) (fr_pI (Or.inr ⟨rfl, Or.inl (by unfold kBm; omega)⟩))) t4, ?_⟩
            rcases t5 with ⟨x1, ⟨k', x2, x3⟩, x4⟩ | ⟨x1, x2⟩
            · refine Or.inl ⟨x1, ⟨k', by omega, x3⟩, upF f 4 v, x4, ?_⟩
              refine ⟨⟨a1, a2⟩, fun _ => ?_, fun _ => ?_, fun _ => ?_, fun _ => ⟨w, ?_⟩⟩
              · show 1 ≤ f 1 ∧ f 1 ≤ 400
                rw [hA]; exact b1
              · show f 1 ≤ f 2 ∧ f 2 ≤ 400
                rw [hA, hE]; exact b2
              · show 1 ≤ f 3 ∧ f 3 ≤ 400
                rw [hD]; exact b3
              · show ((f 2 - f 1) / f 3 + 1) * v ≤ 200
                rw [hA, hE, hD, hs]; exact hx
            · exact Or.inr ⟨x1, x2⟩
          · have hx : ¬ (s + 1) * v ≤ 200 := fun w => x ((sv3 v).mpr w)
            obtain ⟨C4, y1, y2⟩ := c_takeO u2 y (lo := 1) (hi := min 20 c) (by decide) (by omega) (by rw [hv]; omega)
            rw [o1] at y2
            have y2' := (Prod.mk.inj (Option.some.inj y2)).2
            subst y2'
            have g4 : gI M1 0 4 = J (tpos b n k1) := u2.2.2.2.2.2.1.1
            rw [y1, b2s, if_pos rfl, if_neg (by rw [hcond]; exact hx)]
            unfold gX12_wrong
            simp only [J_0, J_1, J_2, J_3, J_4, J_5, J_6, J_7, J_8, J_9, J_10, J_11, J_12, J_14, J_15, J_16, J_19, J_20, J_21, J_22, J_23, J_24, J_25, J_28, J_30, J_31, J_32, J_40, J_44, J_47, J_48, J_49, J_50, J_53, J_54, J_57, J_59, J_74, J_75, J_78, J_84, J_97, J_99, J_100, J_120, J_122, J_126, J_132, J_138, J_144, J_150, J_156, J_162, J_198, J_200, J_202, J_206, J_210, J_214, J_218, J_222, J_226, J_230, J_234, J_238, J_239, J_240, J_241, J_242, J_243, J_255, J_263, J_283, J_303, J_399, J_400, J_401, J_463, J_700, J_701, J_999, J_1000, J_2048, J_4095, J_4096, J_6000, J_9999, J_10000, J_65536, J_65537, J_2147483647, J_neg]
            rw [e13, if_pos rfl, b1s, g4]
            obtain ⟨c1, c2, c3, fv, c4, c5⟩ := o3
            refine ⟨0, C2, _, rfl, rfl, fPc_2 (fr_t q3 o4), fr_t (fr_t (fr_t (fPm_2 (fr_t q4 (fNx_2 s5))) (fr_pI (Or.inr ⟨rfl, Or.inl (by unfold kBm; omega)⟩))) (fPm_2 (fr_t (fr_t (fr_pI (by unfold fM2; omega)) (fr_pI (by unfold fM2; omega))) (fr_pI (by unfold fM2; omega))))) (fr_pI (Or.inr ⟨rfl, Or.inr rfl⟩)), Or.inr ⟨rfl, ?_, ?_, ?_, fv, c4, ?_⟩⟩
            · rw [rII, if_neg (by omega), rII, if_neg (by omega), rII, if_neg (by omega), rII, if_pos ⟨rfl, rfl⟩]
            · rw [c2, rII, if_neg (by omega), rII, if_neg (by omega), rII, if_pos ⟨rfl, rfl⟩]
              unfold mbad
              rw [rII, if_neg (by omega), rII, if_pos ⟨rfl, rfl⟩]
            · rw [c3, rII, if_neg (by omega), rII, if_pos ⟨rfl, rfl⟩]
              unfold mbad
              rw [rII, if_pos ⟨rfl, rfl⟩]
            · rw [← c5, rII, if_neg (by omega), rII, if_neg (by omega), rII, if_pos ⟨rfl, rfl⟩]
              unfold mbad
              rw [rII, if_neg (by omega), rII, if_pos ⟨rfl, rfl⟩]
        · obtain ⟨C4, y1, y2⟩ := c_takeO u2 y (lo := 1) (hi := min 20 c) (by decide) (by omega) (by rw [hv]; omega)
          rw [o1] at y2
          have y2' := (Prod.mk.inj (Option.some.inj y2)).2
          subst y2'
          rw [y1, b2s, if_pos rfl, m_numO u2 y (by decide) (by decide) (by rw [hv]; exact w), o2, b1s, b2s, mPe_b (by rw [rII, if_neg (by omega)]; exact mbad_13)]
          exact two_bad (fr_t (fPc_2 q3) (fPc_2 o4)) (fr_t (fPm_2 q4) (fPm_2 o5)) (fr_t (fr_pI (Or.inr ⟨rfl, Or.inl (by unfold kBm; omega)⟩)) (fr_pI (Or.inr ⟨rfl, Or.inr rfl⟩))) o3 rfl (fun j => by rw [rII, if_neg (by omega), rII, if_neg (by omega)])
      · obtain ⟨C2, o1, o2, o3, o4, o5⟩ := c_takeN u2 y (lo := J 1) (hi := J (min 20 c))
        rw [o1, b2s, if_pos rfl, m_numN u2 y, o2, b1s, b2s, mPe_b (by rw [rII, if_neg (by omega)]; exact mbad_13)]
        exact two_bad (fr_t (fPc_2 q3) (fPc_2 o4)) (fr_t (fPm_2 q4) (fPm_2 o5)) (fr_t (fr_pI (Or.inr ⟨rfl, Or.inl (by unfold kBm; omega)⟩)) (fr_pI (Or.inr ⟨rfl, Or.inr rfl⟩))) o3 rfl (fun j => by rw [rII, if_neg (by omega), rII, if_neg (by omega)])
    · subst u
      rw [if_pos rfl, b_number u2.1, b2s, mPe_b (by rw [rII, if_neg (by omega)]; exact u2.1)]
      exact two_bad (fPc_2 q3) (fPm_2 q4) (fr_t (fr_pI (Or.inr ⟨rfl, Or.inl (by unfold kBm; omega)⟩)) (fr_pI (Or.inr ⟨rfl, Or.inr rfl⟩))) u2 rfl (fun j => by rw [rII, if_neg (by omega), rII, if_neg (by omega)])
  · unfold mP4
    rw [b_must h13, b1s, b_number h13, b2s, mPe_b (by rw [rII, if_neg (by omega)]; exact h13)]
    exact ⟨_, rfl, fr_t (fr_pI ⟨rfl, Or.inl (by unfold kBm; omega)⟩) (fr_pI ⟨rfl, Or.inr rfl⟩)⟩
end
