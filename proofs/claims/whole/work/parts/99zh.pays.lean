/-! What a pay is, by both. -/
def Qa (m : Nat) (f : Nat → Int) : Prop := (∀ j, j < m → j < 4 → -99 ≤ f j ∧ f j ≤ 99) ∧ (5 ≤ m → 0 ≤ f 4 ∧ f 4 ≤ 100)
def Ea (q l : Nat) (z : Int) (C M : zM) : Prop := ∃ f, pV5 218 q l 241 (z + 1) 5 f C M ∧ Qa 5 f
def eC (S : zM) : Option (Int32 × zM) := some (J 1, S)
def eM (Z : Nat) (S : zM) : Option zM := some (pI S 4 Z (gI S 4 Z + J 1))
def kPay (q : Nat) : zM → Option (Int32 × zM) := cMus 10023 (cNum (fun S => gX7_takeSigned S (J 99)) q 0 (cMus 10024 (cNum (fun S => gX7_takeSigned S (J 99)) q 1 (cMus 10025 (cNum (fun S => gX7_takeSigned S (J 99)) q 2 (cMus 10026 (cNum (fun S => gX7_takeSigned S (J 99)) q 3 (cMus 10027 (cNum (fun S => gX7_takeWhole S (J 0) (J 100)) q 4 eC)))))))))
def mPay (l : Nat) : zM → Option zM := mMus 10023 (mNum (fun S => gX12_signed S (J 99)) (218 + l) (mMus 10024 (mNum (fun S => gX12_signed S (J 99)) (222 + l) (mMus 10025 (mNum (fun S => gX12_signed S (J 99)) (226 + l) (mMus 10026 (mNum (fun S => gX12_signed S (J 99)) (230 + l) (mMus 10027 (mNum (fun S => gX12_number S (J 0) (J 100)) (234 + l) (eM 241))))))))))
theorem c_amount {w q a : Nat} {K : zM → Option (Int32 × zM)} {C : zM} : (b2 (gX7_takeAmount C w) fun r S => if r = J 0 then some (J 0, S) else K (pI S q a (gI S 2 5))) = cMus w (cNum (fun S => gX7_takeSigned S (J 99)) q a K) C := by
  unfold gX7_takeAmount cMus cNum
  simp only [J_0, J_1, J_2, J_3, J_4, J_5, J_6, J_7, J_8, J_9, J_10, J_11, J_12, J_14, J_15, J_16, J_19, J_20, J_21, J_22, J_23, J_24, J_25, J_28, J_30, J_31, J_32, J_40, J_44, J_47, J_48, J_49, J_50, J_53, J_54, J_57, J_59, J_74, J_75, J_78, J_84, J_97, J_99, J_100, J_120, J_122, J_126, J_132, J_138, J_144, J_150, J_156, J_162, J_198, J_200, J_202, J_206, J_210, J_214, J_218, J_222, J_226, J_230, J_234, J_238, J_239, J_240, J_241, J_242, J_243, J_255, J_263, J_283, J_303, J_399, J_400, J_401, J_463, J_700, J_701, J_999, J_1000, J_2048, J_4095, J_4096, J_6000, J_9999, J_10000, J_65536, J_65537, J_2147483647, J_neg, b2_b2, b2_ite, b2s, if_neg (show ¬ J 1 = J 0 by decide), if_true]
theorem c_pay {q : Nat} {C : zM} : (b2 (gX7_takeAmount C 10023) fun r10 S11 => if r10 = J 0 then some (J 0, S11) else b2 (gX7_takeAmount (pI S11 q 0 (gI S11 2 5)) 10024) fun r12 S13 => if r12 = J 0 then some (J 0, S13) else b2 (gX7_takeAmount (pI S13 q 1 (gI S13 2 5)) 10025) fun r14 S15 => if r14 = J 0 then some (J 0, S15) else b2 (gX7_takeAmount (pI S15 q 2 (gI S15 2 5)) 10026) fun r16 S17 => if r16 = J 0 then some (J 0, S17) else b2 (gX7_takeWord (pI S17 q 3 (gI S17 2 5)) 10027) fun r18 S19 => if r18 = J 0 then some (J 0, S19) else b2 (gX7_takeWhole S19 (J 0) (J 100)) fun r20 S21 => if r20 = J 0 then some (J 0, S21) else some (J 1, pI S21 q 4 (gI S21 2 5))) = kPay q C := by
  have a4 : ∀ S : zM, (b2 (gX7_takeWord S 10027) fun r18 S19 => if r18 = J 0 then some (J 0, S19) else b2 (gX7_takeWhole S19 (J 0) (J 100)) fun r20 S21 => if r20 = J 0 then some (J 0, S21) else some (J 1, pI S21 q 4 (gI S21 2 5))) = cMus 10027 (cNum (fun S => gX7_takeWhole S (J 0) (J 100)) q 4 eC) S := fun S => rfl
  simp only [a4]
  rw [c_amount (K := fun S => b2 (gX7_takeAmount S 10024) fun r12 S13 => if r12 = J 0 then some (J 0, S13) else b2 (gX7_takeAmount (pI S13 q 1 (gI S13 2 5)) 10025) fun r14 S15 => if r14 = J 0 then some (J 0, S15) else b2 (gX7_takeAmount (pI S15 q 2 (gI S15 2 5)) 10026) fun r16 S17 => if r16 = J 0 then some (J 0, S17) else cMus 10027 (cNum (fun S => gX7_takeWhole S (J 0) (J 100)) q 4 eC) (pI S17 q 3 (gI S17 2 5)))]
  unfold kPay
  congr 2
  funext S
  rw [c_amount (K := fun S => b2 (gX7_takeAmount S 10025) fun r14 S15 => if r14 = J 0 then some (J 0, S15) else b2 (gX7_takeAmount (pI S15 q 2 (gI S15 2 5)) 10026) fun r16 S17 => if r16 = J 0 then some (J 0, S17) else cMus 10027 (cNum (fun S => gX7_takeWhole S (J 0) (J 100)) q 4 eC) (pI S17 q 3 (gI S17 2 5)))]
  congr 2
  funext S
  rw [c_amount (K := fun S => b2 (gX7_takeAmount S 10026) fun r16 S17 => if r16 = J 0 then some (J 0, S17) else cMus 10027 (cNum (fun S => gX7_takeWhole S (J 0) (J 100)) q 4 eC) (pI S17 q 3 (gI S17 2 5)))]
  congr 2
  funext S
  exact c_amount (K := cMus 10027 (cNum (fun S => gX7_takeWhole S (J 0) (J 100)) q 4 eC))
section
variable {b : Nat → Int} {n T k : Nat} {C M : zM} {q l : Nat} {z : Int}
theorem qa_s {m : Nat} (hm : m < 4) {f : Nat → Int} (h : Qa m f) {v : Int} (h1 : -99 ≤ v) (h2 : v ≤ 99) : Qa (m + 1) (upF f m v) := by
  refine ⟨fun j hj h4 => ?_, fun w => by omega⟩
  unfold upF
  by_cases e : j = m
  · rw [if_pos e]; exact ⟨h1, h2⟩
  · rw [if_neg e]; exact h.1 j (by omega) h4
theorem b_sig {x : Int32} {M : zM} (h : gI M 0 13 = J 1) : ∃ r, (fun S => gX12_signed S x) M = some (r, M) := ⟨_, b_signed h⟩
theorem wayPay (hq : 6 ≤ q) (hl : l < 4) : wayP b n T 218 q l 241 z 0 (Qa 0) (Ea q l z) (kPay q) (mPay l) := by
  have ec : kPay q = cMus (10000 + 23) (cNum (fun S => gX7_takeSigned S (J 99)) q 0 (cMus (10000 + 24) (cNum (fun S => gX7_takeSigned S (J 99)) q 1 (cMus (10000 + 25) (cNum (fun S => gX7_takeSigned S (J 99)) q 2 (cMus (10000 + 26) (cNum (fun S => gX7_takeSigned S (J 99)) q 3 (cMus (10000 + 27) (cNum (fun S => gX7_takeWhole S (J 0) (J 100)) q 4 eC))))))))) := rfl
  have em : mPay l = mMus (10000 + 23) (mNum (fun S => gX12_signed S (J 99)) (218 + 4 * 0 + l) (mMus (10000 + 24) (mNum (fun S => gX12_signed S (J 99)) (218 + 4 * 1 + l) (mMus (10000 + 25) (mNum (fun S => gX12_signed S (J 99)) (218 + 4 * 2 + l) (mMus (10000 + 26) (mNum (fun S => gX12_signed S (J 99)) (218 + 4 * 3 + l) (mMus (10000 + 27) (mNum (fun S => gX12_number S (J 0) (J 100)) (218 + 4 * 4 + l) (eM 241)))))))))) := rfl
  have k241 : ¬ kBm 218 l 241 := by unfold kBm; omega
  have we : wayP b n T 218 q l 241 z 5 (Qa 5) (Ea q l z) eC (eM 241) := by
    refine ⟨fun C M k f h p hQ => ?_, fun M h13 => ⟨_, rfl, fr_pI ⟨rfl, Or.inr rfl⟩⟩⟩
    obtain ⟨r', C', M', t1, t2, t3, t4, t5⟩ := endP h p k241 rfl
    refine ⟨r', C', M', t1, t2, t3, t4, ?_⟩
    rcases t5 with ⟨x1, x3, x4⟩ | ⟨x1, x2⟩
    · exact Or.inl ⟨x1, x3, f, x4, hQ⟩
    · exact Or.inr ⟨x1, x2⟩
  rw [ec, em]
  have sg : ∀ {m : Nat}, m < 4 → ∀ {C M : zM} {k : Nat} {f : Nat → Int}, rdS b n T C M k → pV5 218 q l 241 z m f C M → Qa m f → ∃ lo hi, twoN b n T k lo hi C M ((fun S => gX7_takeSigned S (J 99)) C) ((fun S => gX12_signed S (J 99)) M) ∧ ∀ v, lo ≤ v → v ≤ hi → Qa (m + 1) (upF f m v) := fun {m} hm {C M k f} h p hQ => ⟨-99, 99, rd_signed h (hi := 99) (by decide), fun v h1 h2 => qa_s hm hQ h1 h2⟩
  refine mus_w (by decide) hq (num_w (Q' := Qa 1) hq hl (by decide) (by omega) (mus_w (by decide) hq (num_w (Q' := Qa 2) hq hl (by decide) (by omega) (mus_w (by decide) hq (num_w (Q' := Qa 3) hq hl (by decide) (by omega) (mus_w (by decide) hq (num_w (Q' := Qa 4) hq hl (by decide) (by omega) (mus_w (by decide) hq (num_w (Q' := Qa 5) hq hl (by decide) (by omega) we ?_ ?_)) (sg (by decide)) (fun M h => b_sig h))) (sg (by decide)) (fun M h => b_sig h))) (sg (by decide)) (fun M h => b_sig h))) (sg (by decide)) (fun M h => b_sig h))
  · intro C M k f h p hQ
    refine ⟨0, 100, rd_number h (lo := 0) (hi := 100) (by decide) (by decide), fun v h1 h2 => ⟨fun j hj h4 => ?_, fun _ => ?_⟩⟩
    · rw [up_n (by omega)]; exact hQ.1 j (by omega) h4
    · rw [up_e]; exact ⟨h1, h2⟩
  · exact fun M h => ⟨_, b_number h⟩
end
