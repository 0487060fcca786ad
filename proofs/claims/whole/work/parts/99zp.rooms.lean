/-! A room, by both: what ends the reading. -/
theorem b1_b1 {α β γ : Type} {x : Option α} {f : α → Option β} {g : β → Option γ} : b1 (b1 x f) g = b1 x (fun a => b1 (f a) g) := by cases x <;> rfl
def mFin (S : zM) : Option (Int32 × zM) := b1 (gX12_room_L170 FU S (J 0)) fun S46 => b1 (gX12_room_L212 FU (pI (pI (pI S46 0 14 (J 1)) 0 20 (J 0)) 0 21 (J 0)) (J 0)) fun S49 => gX12_room_L240 FU S49 (J 0)
def mNo4 (S : zM) : Option (Int32 × zM) := b2 (gX12_no S (J 4)) fun r S' => some (r, S')
def mRm (S14 : zM) : Option (Int32 × zM) := if gI S14 0 13 = J 0 then (if gI S14 0 6 = J 0 then (if gI S14 0 13 = J 0 then ck (ixb (J 238) 463) <| if gI S14 4 (ix (J 238)) = J 0 then b1 (gX12_wrong S14 (J 6) (gI S14 0 4)) fun S85 => gX12_room_J155 S85 else (if gI S14 0 13 = J 0 then mFin S14 else mNo4 S14) else (if gI S14 0 13 = J 0 then mFin S14 else mNo4 S14)) else b1 (gX12_wrong S14 (J 1) (gI S14 0 4)) fun S87 => gX12_room_J127 S87) else (if gI S14 0 13 = J 0 then ck (ixb (J 238) 463) <| if gI S14 4 (ix (J 238)) = J 0 then b1 (gX12_wrong S14 (J 6) (gI S14 0 4)) fun S43 => gX12_room_J155 S43 else (if gI S14 0 13 = J 0 then mFin S14 else mNo4 S14) else (if gI S14 0 13 = J 0 then mFin S14 else mNo4 S14))
section
variable {M M' : zM}
theorem mNo4_e : mNo4 M = some (J (-1), pI M 0 11 (J 4)) := by
  unfold mNo4
  rw [m_noR, b2s]
theorem J155_b (h : gI M 0 13 = J 1) : gX12_room_J155 M = some (J (-1), pI M 0 11 (J 4)) := by
  unfold gX12_room_J155
  simp only [J_0, J_1, J_2, J_3, J_4, J_5, J_6, J_7, J_8, J_9, J_10, J_11, J_12, J_14, J_15, J_16, J_19, J_20, J_21, J_22, J_23, J_24, J_25, J_28, J_30, J_31, J_32, J_40, J_44, J_47, J_48, J_49, J_50, J_53, J_54, J_57, J_59, J_74, J_75, J_78, J_84, J_97, J_99, J_100, J_120, J_122, J_126, J_132, J_138, J_144, J_150, J_156, J_162, J_198, J_200, J_202, J_206, J_210, J_214, J_218, J_222, J_226, J_230, J_234, J_238, J_239, J_240, J_241, J_242, J_243, J_255, J_263, J_283, J_303, J_399, J_400, J_401, J_463, J_700, J_701, J_999, J_1000, J_2048, J_4095, J_4096, J_6000, J_9999, J_10000, J_65536, J_65537, J_2147483647, J_neg]
  rw [h, if_neg (by decide), m_noR, b2s]
theorem J127_b (h : gI M 0 13 = J 1) : gX12_room_J127 M = some (J (-1), pI M 0 11 (J 4)) := by
  unfold gX12_room_J127
  simp only [J_0, J_1, J_2, J_3, J_4, J_5, J_6, J_7, J_8, J_9, J_10, J_11, J_12, J_14, J_15, J_16, J_19, J_20, J_21, J_22, J_23, J_24, J_25, J_28, J_30, J_31, J_32, J_40, J_44, J_47, J_48, J_49, J_50, J_53, J_54, J_57, J_59, J_74, J_75, J_78, J_84, J_97, J_99, J_100, J_120, J_122, J_126, J_132, J_138, J_144, J_150, J_156, J_162, J_198, J_200, J_202, J_206, J_210, J_214, J_218, J_222, J_226, J_230, J_234, J_238, J_239, J_240, J_241, J_242, J_243, J_255, J_263, J_283, J_303, J_399, J_400, J_401, J_463, J_700, J_701, J_999, J_1000, J_2048, J_4095, J_4096, J_6000, J_9999, J_10000, J_65536, J_65537, J_2147483647, J_neg]
  rw [h, if_neg (by decide), if_neg (by decide), m_noR, b2s]
theorem mRm_b (h : gI M 0 13 = J 1) : mRm M = some (J (-1), pI M 0 11 (J 4)) := by
  unfold mRm
  rw [h, if_neg (show ¬ J 1 = J 0 by decide), if_neg (show ¬ J 1 = J 0 by decide), if_neg (show ¬ J 1 = J 0 by decide), mNo4_e]
theorem mRm_t (h : gI M 0 13 = J 0) (h6 : ¬ gI M 0 6 = J 0) (hw : gX12_wrong M (J 1) (gI M 0 4) = some M') (h' : gI M' 0 13 = J 1) : mRm M = some (J (-1), pI M' 0 11 (J 4)) := by
  unfold mRm
  rw [h, if_pos rfl, if_neg h6, hw, b1s, J127_b h']
theorem mRm_n (h : gI M 0 13 = J 0) (h6 : gI M 0 6 = J 0) (hn : gI M 4 238 = J 0) (hw : gX12_wrong M (J 6) (gI M 0 4) = some M') (h' : gI M' 0 13 = J 1) : mRm M = some (J (-1), pI M' 0 11 (J 4)) := by
  unfold mRm
  rw [h, if_pos rfl, h6, if_pos rfl, if_pos rfl, show ixb (J 238) 463 = true by decide, ckt, show ix (J 238) = 238 by decide, hn, if_pos rfl, hw, b1s, J155_b h']
theorem mRm_o (h : gI M 0 13 = J 0) (h6 : gI M 0 6 = J 0) (hn : ¬ gI M 4 238 = J 0) : mRm M = mFin M := by
  unfold mRm
  rw [h, if_pos rfl, h6, if_pos rfl, if_pos rfl, show ixb (J 238) 463 = true by decide, ckt, show ix (J 238) = 238 by decide, if_neg hn, if_pos rfl]
/-- the model's room from the text on -/
def mTx (M : zM) (a : Int32) : Option (Int32 × zM) := b1 (gX12_room_L39 a FU (pI (pI (pI M 0 2 (J 0)) 0 9 (J 0)) 0 13 (J 0)) (J 0)) fun S5 => b1 (gX12_next (pI (pI S5 0 3 a) 0 5 (J 0))) fun S7 => b1 (b1 (gX12_readLine S7) fun S => gX12_room_L77 FU S) mRm
theorem m_room {a : Int} (ha : -2147483648 ≤ a ∧ a ≤ 2147483647) (hb : 0 ≤ iI M 0 2 ∧ iI M 0 2 ≤ 700) : gX12_room M (J a) = if 0 ≤ a ∧ a ≤ iI M 0 2 then mTx (mgd M) (J a) else some (J (-1), mno M 2) := by
  have e2 : gI (mgd M) 0 2 = J (iI M 0 2) := by rw [mgd_o (by omega)]; exact gI_J _ _ _
  unfold gX12_room
  simp only [J_0, J_1, J_2, J_3, J_4, J_5, J_6, J_7, J_8, J_9, J_10, J_11, J_12, J_14, J_15, J_16, J_19, J_20, J_21, J_22, J_23, J_24, J_25, J_28, J_30, J_31, J_32, J_40, J_44, J_47, J_48, J_49, J_50, J_53, J_54, J_57, J_59, J_74, J_75, J_78, J_84, J_97, J_99, J_100, J_120, J_122, J_126, J_132, J_138, J_144, J_150, J_156, J_162, J_198, J_200, J_202, J_206, J_210, J_214, J_218, J_222, J_226, J_230, J_234, J_238, J_239, J_240, J_241, J_242, J_243, J_255, J_263, J_283, J_303, J_399, J_400, J_401, J_463, J_700, J_701, J_999, J_1000, J_2048, J_4095, J_4096, J_6000, J_9999, J_10000, J_65536, J_65537, J_2147483647, J_neg]
  rw [m_good, b1s, e2, m_within (by omega) (by omega) (by decide) (by decide) (by omega) (by omega), b1s, iB0, m_no, b2s]
  by_cases e : 0 ≤ a ∧ a ≤ iI M 0 2
  · rw [if_pos e, if_pos e]
    unfold mTx mRm mFin mNo4
    simp only [b1_b1]
  · rw [if_neg e, if_neg e]
end
