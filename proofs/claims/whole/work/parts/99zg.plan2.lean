/-! A plan's sizes, by both. -/
theorem up_e {f : Nat → Int} {m : Nat} {v : Int} : upF f m v m = v := if_pos rfl
theorem up_n {f : Nat → Int} {m j : Nat} {v : Int} (h : ¬ j = m) : upF f m v j = f j := if_neg h
def mSz (l : Nat) : zM → Option zM := mNum (fun S => gX12_number S (J 1) (J 400)) (202 + l) (mMus 10008 (mNum (fun S => gX12_number S (gI S 4 (202 + l)) (J 400)) (206 + l) (mMus 10009 (mNum (fun S => gX12_number S (J 1) (J 400)) (210 + l) (mP4 l)))))
section
variable {b : Nat → Int} {n T k : Nat} {C M : zM} {q l : Nat} {z : Int}
theorem c_rsizes {q : Nat} {C : zM} : gX7_readSizes C q = cNum (fun S => gX7_takeWhole S (J 1) (J 400)) q 1 (cMus 10008 (cNum (fun S => gX7_takeWhole S (gI S q 1) (J 400)) q 2 (cMus 10009 (cNum (fun S => gX7_takeWhole S (J 1) (J 400)) q 3 (kP4 q))))) C := by
  unfold gX7_readSizes cNum cMus kP4
  simp only [J_0, J_1, J_2, J_3, J_4, J_5, J_6, J_7, J_8, J_9, J_10, J_11, J_12, J_14, J_15, J_16, J_19, J_20, J_21, J_22, J_23, J_24, J_25, J_28, J_30, J_31, J_32, J_40, J_44, J_47, J_48, J_49, J_50, J_53, J_54, J_57, J_59, J_74, J_75, J_78, J_84, J_97, J_99, J_100, J_120, J_122, J_126, J_132, J_138, J_144, J_150, J_156, J_162, J_198, J_200, J_202, J_206, J_210, J_214, J_218, J_222, J_226, J_230, J_234, J_238, J_239, J_240, J_241, J_242, J_243, J_255, J_263, J_283, J_303, J_399, J_400, J_401, J_463, J_700, J_701, J_999, J_1000, J_2048, J_4095, J_4096, J_6000, J_9999, J_10000, J_65536, J_65537, J_2147483647, J_neg]
theorem waySz (hq : 6 ≤ q) (hl : l < 4) : wayP b n T 198 q l 240 z 1 (Qp 1) (Ep q l z) (fun C => gX7_readSizes C q) (mSz l) := by
  have e : (fun C => gX7_readSizes C q) = cNum (fun S => gX7_takeWhole S (J 1) (J 400)) q 1 (cMus (10000 + 8) (cNum (fun S => gX7_takeWhole S (gI S q 1) (J 400)) q 2 (cMus (10000 + 9) (cNum (fun S => gX7_takeWhole S (J 1) (J 400)) q 3 (kP4 q))))) := funext fun C => c_rsizes
  have em : mSz l = mNum (fun S => gX12_number S (J 1) (J 400)) (198 + 4 * 1 + l) (mMus (10000 + 8) (mNum (fun S => gX12_number S (gI S 4 (202 + l)) (J 400)) (198 + 4 * 2 + l) (mMus (10000 + 9) (mNum (fun S => gX12_number S (J 1) (J 400)) (198 + 4 * 3 + l) (mP4 l))))) := rfl
  rw [e, em]
  refine num_w (Q' := Qp 2) hq hl (by decide) (by omega) (mus_w (by decide) hq (num_w (Q' := Qp 3) hq hl (by decide) (by omega) (mus_w (by decide) hq (num_w (Q' := Qp 4) hq hl (by decide) (by omega) (wayP4 hq hl) ?_ ?_)) ?_ ?_)) ?_ ?_
  · intro C M k f h p hQ
    refine ⟨1, 400, rd_number h (by decide) (by decide), fun v h1 h2 => ?_⟩
    obtain ⟨g0, g1, g2, -, -⟩ := hQ
    refine ⟨?_, fun _ => ?_, fun _ => ?_, fun _ => ?_, fun w => absurd w (by decide)⟩
    · rw [up_n (by decide)]; exact g0
    · rw [up_n (by decide)]; exact g1 (by decide)
    · rw [up_n (by decide), up_n (by decide)]; exact g2 (by decide)
    · rw [up_e]; exact ⟨h1, h2⟩
  · exact fun M h => ⟨_, b_number h⟩
  · intro C M k f h p hQ
    obtain ⟨g0, g1, -, -, -⟩ := hQ
    have g1' := g1 (by decide)
    have p1 := p.1 1 (by decide)
    refine ⟨f 1, 400, ?_, fun v h1 h2 => ?_⟩
    · show twoN b n T k (f 1) 400 C M (gX7_takeWhole C (gI C q 1) (J 400)) (gX12_number M (gI M 4 (202 + l)) (J 400))
      have p2 : gI M 4 (202 + l) = J (f 1) := p1.2
      rw [p1.1, p2]
      exact rd_number h (by omega) (by decide)
    · refine ⟨?_, fun _ => ?_, fun _ => ?_, fun w => absurd w (by decide), fun w => absurd w (by decide)⟩
      · rw [up_n (by decide)]; exact g0
      · rw [up_n (by decide)]; exact g1'
      · rw [up_n (by decide), up_e]; exact ⟨h1, h2⟩
  · exact fun M h => ⟨_, b_number h⟩
  · intro C M k f h p hQ
    refine ⟨1, 400, rd_number h (by decide) (by decide), fun v h1 h2 => ?_⟩
    obtain ⟨g0, -, -, -, -⟩ := hQ
    refine ⟨?_, fun _ => ?_, fun w => absurd w (by decide), fun w => absurd w (by decide), fun w => absurd w (by decide)⟩
    · rw [up_n (by decide)]; exact g0
    · rw [up_e]; exact ⟨h1, h2⟩
  · exact fun M h => ⟨_, b_number h⟩
theorem b_J89 {v1 v2 : Int32} (h : gI M 0 13 = J 1) : gX12_planLine_J89 M v1 v2 = some M := by
  unfold gX12_planLine_J89
  simp only [J_0, J_1, J_2, J_3, J_4, J_5, J_6, J_7, J_8, J_9, J_10, J_11, J_12, J_14, J_15, J_16, J_19, J_20, J_21, J_22, J_23, J_24, J_25, J_28, J_30, J_31, J_32, J_40, J_44, J_47, J_48, J_49, J_50, J_53, J_54, J_57, J_59, J_74, J_75, J_78, J_84, J_97, J_99, J_100, J_120, J_122, J_126, J_132, J_138, J_144, J_150, J_156, J_162, J_198, J_200, J_202, J_206, J_210, J_214, J_218, J_222, J_226, J_230, J_234, J_238, J_239, J_240, J_241, J_242, J_243, J_255, J_263, J_283, J_303, J_399, J_400, J_401, J_463, J_700, J_701, J_999, J_1000, J_2048, J_4095, J_4096, J_6000, J_9999, J_10000, J_65536, J_65537, J_2147483647, J_neg]
  rw [h, if_neg (by decide)]
theorem m_J74 (hl : l < 4) (h13 : gI M 0 13 = J 0) {w : Int} (hw : 0 ≤ w ∧ w ≤ 2) : gX12_planLine_J74 M (J l) (J w) = b1 (gX12_next M) fun S => mSz l (pI S 4 (198 + l) (J w)) := by
  have x198 : ixb (J (198 + (l : Int))) 463 = true := ixb_J (by omega) (by omega) (by decide)
  have y198 : ix (J (198 + (l : Int))) = 198 + l := by rw [ix_J (by omega) (by omega)]; omega
  have x202 : ixb (J (202 + (l : Int))) 463 = true := ixb_J (by omega) (by omega) (by decide)
  have y202 : ix (J (202 + (l : Int))) = 202 + l := by rw [ix_J (by omega) (by omega)]; omega
  have x206 : ixb (J (206 + (l : Int))) 463 = true := ixb_J (by omega) (by omega) (by decide)
  have y206 : ix (J (206 + (l : Int))) = 206 + l := by rw [ix_J (by omega) (by omega)]; omega
  have x210 : ixb (J (210 + (l : Int))) 463 = true := ixb_J (by omega) (by omega) (by decide)
  have y210 : ix (J (210 + (l : Int))) = 210 + l := by rw [ix_J (by omega) (by omega)]; omega
  have x214 : ixb (J (214 + (l : Int))) 463 = true := ixb_J (by omega) (by omega) (by decide)
  have y214 : ix (J (214 + (l : Int))) = 214 + l := by rw [ix_J (by omega) (by omega)]; omega
  have x240 : ixb (J 240) 463 = true := by decide
  have y240 : ix (J 240) = 240 := by decide
  unfold gX12_planLine_J74 gX12_planLine_J280
  simp only [J_0, J_1, J_2, J_3, J_4, J_5, J_6, J_7, J_8, J_9, J_10, J_11, J_12, J_14, J_15, J_16, J_19, J_20, J_21, J_22, J_23, J_24, J_25, J_28, J_30, J_31, J_32, J_40, J_44, J_47, J_48, J_49, J_50, J_53, J_54, J_57, J_59, J_74, J_75, J_78, J_84, J_97, J_99, J_100, J_120, J_122, J_126, J_132, J_138, J_144, J_150, J_156, J_162, J_198, J_200, J_202, J_206, J_210, J_214, J_218, J_222, J_226, J_230, J_234, J_238, J_239, J_240, J_241, J_242, J_243, J_255, J_263, J_283, J_303, J_399, J_400, J_401, J_463, J_700, J_701, J_999, J_1000, J_2048, J_4095, J_4096, J_6000, J_9999, J_10000, J_65536, J_65537, J_2147483647, J_neg]
  rw [iEQ (by omega) (by omega) (by decide) (by decide), if_neg (by omega), h13, if_pos rfl]
  simp only [J_add, x198, y198, x202, y202, x206, y206, x210, y210, x214, y214, x240, y240, ckt, lts]
  rfl
def chC (q : Nat) (C : zM) : Option (Int32 × zM) := b1 (gX7_isWord C 10019) fun r10 => if r10 = J 0 then b1 (gX7_isWord C 10020) fun r11 => if r11 = J 0 then b1 (gX7_isWord C 10021) fun r12 => if r12 = J 0 then gX7_readPlan_J104 C q (J (-1)) else gX7_readPlan_J104 C q (J 2) else gX7_readPlan_J104 C q (J 1) else gX7_readPlan_J104 C q (J 0)
def chM (l : Nat) (M : zM) : Option zM := b1 (gX12_isWord M 10019) fun r4 => if r4 = J 0 then b1 (gX12_isWord M 10020) fun r5 => if r5 = J 0 then b1 (gX12_isWord M 10021) fun r6 => if r6 = J 0 then gX12_planLine_J74 M (J l) (J (-1)) else gX12_planLine_J74 M (J l) (J 2) else gX12_planLine_J74 M (J l) (J 1) else gX12_planLine_J74 M (J l) (J 0)
theorem rd_how1 (h : rdS b n T C M k) (hq : 6 ≤ q) (hl : l < 4) (y : gI M 4 240 = J z) {w : Int} (hw : 0 ≤ w ∧ w ≤ 2) : two b n T k (fPc q) (fPm 198 l 240) C M (gX7_readPlan_J104 C q (J w)) (gX12_planLine_J74 M (J l) (J w)) (Ep q l z) := by
  have h' : rdS b n T (pI C q 0 (J w)) M k := rdS_c6 h (fr_pI hq)
  obtain ⟨C1, M1, k1, s1, s2, s3, s4, s5, -, s6, -⟩ := rd_step h'
  rw [m_J74 hl h.2.2.2.2.2.2 hw]
  unfold gX7_readPlan_J104
  simp only [J_0, J_1, J_2, J_3, J_4, J_5, J_6, J_7, J_8, J_9, J_10, J_11, J_12, J_14, J_15, J_16, J_19, J_20, J_21, J_22, J_23, J_24, J_25, J_28, J_30, J_31, J_32, J_40, J_44, J_47, J_48, J_49, J_50, J_53, J_54, J_57, J_59, J_74, J_75, J_78, J_84, J_97, J_99, J_100, J_120, J_122, J_126, J_132, J_138, J_144, J_150, J_156, J_162, J_198, J_200, J_202, J_206, J_210, J_214, J_218, J_222, J_226, J_230, J_234, J_238, J_239, J_240, J_241, J_242, J_243, J_255, J_263, J_283, J_303, J_399, J_400, J_401, J_463, J_700, J_701, J_999, J_1000, J_2048, J_4095, J_4096, J_6000, J_9999, J_10000, J_65536, J_65537, J_2147483647, J_neg]
  rw [show gI (pI C q 0 (J w)) q 0 = J w by rw [rII, if_pos ⟨rfl, rfl⟩], iEQ (by omega) (by omega) (by decide) (by decide), if_neg (by omega), s1, b1s, s2, b1s]
  refine two_ck ?_
  have p1 : pV5 198 q l 240 z 1 (fun _ => w) C1 (pI M1 4 (198 + l) (J w)) := by
    refine ⟨fun j hj => ?_, ?_⟩
    · have : j = 0 := by omega
      subst this
      rw [s4.1 q 0 (by unfold fC2; omega), rII, if_pos ⟨rfl, rfl⟩, rII, if_pos ⟨rfl, by omega⟩]
      exact ⟨rfl, rfl⟩
    · rw [rII, if_neg (by omega), s5.1 4 240 (by unfold fNx; omega), y]
  exact two_t (fr_t (fr_pI (Or.inr ⟨rfl, by decide⟩)) (fPc_2 s4)) (fr_t (fPm_2 (fNx_2 s5)) (fr_pI (Or.inr ⟨rfl, Or.inl (by unfold kBm; omega)⟩))) s6 ((waySz hq hl).1 _ _ k1 _ (rdS_4 s3 (fr_pI rfl)) p1 ⟨hw, fun w => absurd w (by decide), fun w => absurd w (by decide), fun w => absurd w (by decide), fun w => absurd w (by decide)⟩)
theorem rd_how (h : rdS b n T C M k) (hq : 6 ≤ q) (hl : l < 4) (y : gI M 4 240 = J z) : two b n T k (fPc q) (fPm 198 l 240) C M (chC q C) (chM l M) (Ep q l z) := by
  obtain ⟨r, r1, r2, r3, -⟩ := rd_word h (w := 19) (by decide)
  obtain ⟨s, s1, s2, s3, -⟩ := rd_word h (w := 20) (by decide)
  obtain ⟨t, t1, t2, t3, -⟩ := rd_word h (w := 21) (by decide)
  unfold chC chM
  rw [show (10019 : Nat) = 10000 + 19 from rfl, show (10020 : Nat) = 10000 + 20 from rfl, show (10021 : Nat) = 10000 + 21 from rfl, r2, r3, s2, s3, t2, t3, b1s, b1s, b1s, b1s, b1s, b1s]
  rcases r1 with u | u
  · subst u
    rw [if_pos rfl, if_pos rfl]
    rcases s1 with u | u
    · subst u
      rw [if_pos rfl, if_pos rfl]
      rcases t1 with u | u
      · subst u
        rw [if_pos rfl, if_pos rfl]
        have h' : rdS b n T (pI C q 0 (J (-1))) M k := rdS_c6 h (fr_pI hq)
        obtain ⟨C1, q1, q2, q3, q4, q5⟩ := rd_wrong h' (f := 1) (by decide)
        unfold gX7_readPlan_J104 gX12_planLine_J74
        simp only [J_0, J_1, J_2, J_3, J_4, J_5, J_6, J_7, J_8, J_9, J_10, J_11, J_12, J_14, J_15, J_16, J_19, J_20, J_21, J_22, J_23, J_24, J_25, J_28, J_30, J_31, J_32, J_40, J_44, J_47, J_48, J_49, J_50, J_53, J_54, J_57, J_59, J_74, J_75, J_78, J_84, J_97, J_99, J_100, J_120, J_122, J_126, J_132, J_138, J_144, J_150, J_156, J_162, J_198, J_200, J_202, J_206, J_210, J_214, J_218, J_222, J_226, J_230, J_234, J_238, J_239, J_240, J_241, J_242, J_243, J_255, J_263, J_283, J_303, J_399, J_400, J_401, J_463, J_700, J_701, J_999, J_1000, J_2048, J_4095, J_4096, J_6000, J_9999, J_10000, J_65536, J_65537, J_2147483647, J_neg]
        rw [show gI (pI C q 0 (J (-1))) q 0 = J (-1) by rw [rII, if_pos ⟨rfl, rfl⟩], if_pos rfl, q1, b2s, show isB (J 0) = true by decide, ckt, if_pos trivial, q2, b1s, b_J89 mbad_13]
        exact ⟨0, _, _, rfl, rfl, fr_t (fr_pI (Or.inr ⟨rfl, by decide⟩)) (fPc_2 q4), fPm_2 q5, Or.inr ⟨rfl, q3⟩⟩
      · subst u
        rw [if_neg (show ¬ J 1 = J 0 by decide), if_neg (show ¬ J 1 = J 0 by decide)]
        exact rd_how1 h hq hl y (by decide)
    · subst u
      rw [if_neg (show ¬ J 1 = J 0 by decide), if_neg (show ¬ J 1 = J 0 by decide)]
      exact rd_how1 h hq hl y (by decide)
  · subst u
    rw [if_neg (show ¬ J 1 = J 0 by decide), if_neg (show ¬ J 1 = J 0 by decide)]
    exact rd_how1 h hq hl y (by decide)
end
