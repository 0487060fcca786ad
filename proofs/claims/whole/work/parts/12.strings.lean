theorem zstrf9 : Cond.fieldLink "java/lang/String" 9 "java/lang/String" "value" "[B" ∈ zT := (zTm (tk_9 (tl100 (tl100 (tl1 (tl1 (tl1 (tl1 List.mem_cons_self))))))) rfl)
theorem zstrf15 : Cond.fieldLink "java/lang/String" 15 "java/lang/String" "code\x72" "B" ∈ zT := (zTm (tk_9 (tl100 (tl100 (tl1 (tl1 (tl1 (tl1 (tl1 List.mem_cons_self)))))))) rfl)
theorem zstrf38 : Cond.fieldLink "java/lang/String" 38 "java/lang/String" "COMPACT_STRINGS" "Z" ∈ zT := (zTm (tk_3 (tl10 (tl10 (tl10 (tl10 (tl10 (tl10 (tl10 (tl10 (tl1 List.mem_cons_self)))))))))) rfl)
theorem zstrf1053 : Cond.fieldLink "java/lang/String" 1053 "jdk/internal/util/Preconditions" "SIOOBE_FORMATTER" "Ljava/util/function/BiFunction;" ∈ zT := (zTm (tk_3 (tl10 (tl10 (tl10 (tl10 (tl10 (tl10 (tl10 (tl10 (tl10 (tl1 (tl1 (tl1 (tl1 (tl1 (tl1 (tl1 List.mem_cons_self))))))))))))))))) rfl)
/-! strings: constants, their lengths and letters; copying a row of longs -/
theorem zgetD_mem {α : Type} {l : List α} {i : Nat} {d : α} (h : i < l.length) : l.getD i d ∈ l := by
  rw [List.getD_eq_getElem?_getD, List.getElem?_eq_getElem h]
  exact List.getElem_mem h
theorem zstr_k {q : Nat} (h : zstr q) : ∃ k, k < 29 ∧ q = 10000 + k := ⟨q - 10000, by unfold zstr at h; omega, by unfold zstr at h; omega⟩
theorem zS0_len : zS0.1.length = 29 := by decide +kernel
theorem zS0_bytes : ∀ k, k < 29 → ((zS0.2.1.getD k []).length = zS0.1.getD k 0 ∧ zS0.1.getD k 0 < 128 ∧ ∀ b ∈ zS0.2.1.getD k [], (0 ≤ b ∧ b < 128)) := by decide +kernel
theorem zchr : ∀ n : Nat, n < 128 → (((nI n &&& 255).toUInt32 % 65536).toInt32 = nI n ∧ narrow .char (.int (nI n)) = .int (nI n)) := by decide +kernel
theorem zchr' {b : Int32} (h : 0 ≤ b ∧ b < 128) : ((b &&& 255).toUInt32 % 65536).toInt32 = b ∧ narrow .char (.int b) = .int b := by
  obtain ⟨j, hj, rfl⟩ := nI_of2 (M := 127) (n := 127) (by decide) (Int32.not_lt.mpr h.1) (by
    have h2 := Int32.lt_iff_toInt_lt.mp h.2
    rw [Int32.le_iff_toInt_le]
    have e1 : (128 : Int32).toInt = 128 := by decide
    have e2 : (127 : Int32).toInt = 127 := by decide
    omega)
  exact zchr j (by omega)
section ZStr
variable {K : zK} {cc : ByteArray} {own : String} {n fr lo pc : Nat} {w : zWd} {L : zL} {st : List Value} {S : zM}
theorem V_ldcS (C : zC K cc own n fr lo w) {j i k : Nat} {tx : String} (d : decode cc pc = .ok (.ldc i, 2)) (h : zS0.2.2[j]? = some (own, i, tx, k)) (kk : V K (pc + 2) L (.ref (10000 + k) :: st) S) : V K pc L st S := by
  obtain ⟨⟨p, l, e, R, s, m, args, below, meth, c⟩, ⟨D, A, cA, μ⟩, ⟨n', Q, w', z⟩⟩ := K
  obtain ⟨hx, hb, hts, hown, hK, hD, hA, hml, hfr, hlo, hz, rfl, rfl, rfl⟩ := C
  intro H locs ls hP hS hl
  exact va_ldcS hx hb hown (hz.2.1 _ (List.mem_of_getElem? h)) d (kk H locs ls hP hS hl)
theorem V_ldcwS (C : zC K cc own n fr lo w) {j i k : Nat} {tx : String} (d : decode cc pc = .ok (.ldc_w i, 3)) (h : zS0.2.2[j]? = some (own, i, tx, k)) (kk : V K (pc + 3) L (.ref (10000 + k) :: st) S) : V K pc L st S := by
  obtain ⟨⟨p, l, e, R, s, m, args, below, meth, c⟩, ⟨D, A, cA, μ⟩, ⟨n', Q, w', z⟩⟩ := K
  obtain ⟨hx, hb, hts, hown, hK, hD, hA, hml, hfr, hlo, hz, rfl, rfl, rfl⟩ := C
  intro H locs ls hP hS hl
  have hZ : vk_R own i tx (μ (10000 + k)) s := hz.2.1 _ (List.mem_of_getElem? h)
  intro T hT X
  obtain ⟨t, a1, b1⟩ := kk H locs ls hP hS hl T hT X
  exact ⟨t, X.ldcStringW hx hown (text := tx) (a := μ (10000 + k)) hZ.1 hZ.2 (g := F0 m pc ls (st.map (ztr μ))) rfl (by rw [hb]; exact d) t a1, b1⟩

theorem V_strV (C : zC K cc "java/lang/String" n fr lo w) {k : Nat} (hk : k < 29) (d : decode cc pc = .ok (.getfield 9, 3)) (kk : V K (pc + 3) L (.ref (20000 + k) :: st) S) : V K pc L (.ref (10000 + k) :: st) S := by
  obtain ⟨⟨p, l, e, R, s, m, args, below, meth, c⟩, ⟨D, A, cA, μ⟩, ⟨n', Q, w', z⟩⟩ := K
  obtain ⟨hx, hb, hts, hown, hK, hD, hA, hml, hfr, hlo, hz, rfl, rfl, rfl⟩ := C
  intro H locs ls hP hS hl
  exact vk_getf (ref := "java/lang/String") hx hb ((hz.1.1 k (by rw [zS0_len]; exact hk)).2.2.1) hS hown (hts _ zstrf9) (fun _ h => h) d (kk H locs ls hP hS hl)
theorem V_strC (C : zC K cc "java/lang/String" n fr lo w) {k : Nat} (hk : k < 29) (d : decode cc pc = .ok (.getfield 15, 3)) (kk : V K (pc + 3) L (.int 0 :: st) S) : V K pc L (.ref (10000 + k) :: st) S := by
  obtain ⟨⟨p, l, e, R, s, m, args, below, meth, c⟩, ⟨D, A, cA, μ⟩, ⟨n', Q, w', z⟩⟩ := K
  obtain ⟨hx, hb, hts, hown, hK, hD, hA, hml, hfr, hlo, hz, rfl, rfl, rfl⟩ := C
  intro H locs ls hP hS hl
  exact vk_getf (ref := "java/lang/String") hx hb ((hz.1.1 k (by rw [zS0_len]; exact hk)).2.1) hS hown (hts _ zstrf15) (fun _ h => h) d (kk H locs ls hP hS hl)
theorem V_strN (C : zC K cc own n fr lo w) {k : Nat} (hk : k < 29) (d : decode cc pc = .ok (.arraylength, 1)) (kk : V K (pc + 1) L (.int (nI (zS0.1.getD k 0)) :: st) S) : V K pc L (.ref (20000 + k) :: st) S := by
  obtain ⟨⟨p, l, e, R, s, m, args, below, meth, c⟩, ⟨D, A, cA, μ⟩, ⟨n', Q, w', z⟩⟩ := K
  obtain ⟨hx, hb, hts, hown, hK, hD, hA, hml, hfr, hlo, hz, rfl, rfl, rfl⟩ := C
  intro H locs ls hP hS hl
  exact va_tlen hx hb ((hz.1.1 k (by rw [zS0_len]; exact hk)).2.2.2) hS rfl d (kk H locs ls hP hS hl)
theorem V_strB (C : zC K cc own n fr lo w) {k : Nat} {i : Int32} (hk : k < 29) (hi : ixb i (zS0.1.getD k 0) = true) (d : decode cc pc = .ok (.baload, 1)) (kk : V K (pc + 1) L (.int ((zS0.2.1.getD k []).getD (ix i) 0) :: st) S) : V K pc L (.int i :: .ref (20000 + k) :: st) S := by
  obtain ⟨⟨p, l, e, R, s, m, args, below, meth, c⟩, ⟨D, A, cA, μ⟩, ⟨n', Q, w', z⟩⟩ := K
  obtain ⟨hx, hb, hts, hown, hK, hD, hA, hml, hfr, hlo, hz, rfl, rfl, rfl⟩ := C
  intro H locs ls hP hS hl
  exact va_tb hx hb ((hz.1.1 k (by rw [zS0_len]; exact hk)).2.2.2) hS (ixb_in hi) rfl d (kk H locs ls hP hS hl)
theorem V_strS (C : zC K cc "java/lang/String" n fr lo w) (d : decode cc pc = .ok (.getstatic 38, 3)) (kk : V K (pc + 3) L (.int 1 :: st) S) : V K pc L st S := by
  obtain ⟨⟨p, l, e, R, s, m, args, below, meth, c⟩, ⟨D, A, cA, μ⟩, ⟨n', Q, w', z⟩⟩ := K
  obtain ⟨hx, hb, hts, hown, hK, hD, hA, hml, hfr, hlo, hz, rfl, rfl, rfl⟩ := C
  intro H locs ls hP hS hl
  exact va_gets (ref := "java/lang/String") hx hb hz.2.2.1 hS hown (hts _ zstrf38) (fun _ h => h) d (kk H locs ls hP hS hl)
theorem V_strF (C : zC K cc "java/lang/String" n fr lo w) (d : decode cc pc = .ok (.getstatic 1053, 3)) (kk : ∀ v : Value, (v = .null ∨ v = .ref 30000) → V K (pc + 3) L (v :: st) S) : V K pc L st S := by
  obtain ⟨⟨p, l, e, R, s, m, args, below, meth, c⟩, ⟨D, A, cA, μ⟩, ⟨n', Q, w', z⟩⟩ := K
  obtain ⟨hx, hb, hts, hown, hK, hD, hA, hml, hfr, hlo, hz, rfl, rfl, rfl⟩ := C
  intro H locs ls hP hS hl
  obtain ⟨v, h1, h2⟩ := hz.2.2.2.1
  exact va_gets (ref := "jdk/internal/util/Preconditions") hx hb h2 hS hown (hts _ zstrf1053) (fun _ h => h) d (kk v h1 H locs ls hP hS hl)
theorem V_callVS (C : zC K cc own n fr lo w) {y : MethodName} {cc' : ByteArray} {n' k1 fr' lo' i kk : Nat} {ret : Option FieldType} {As : List Value} {stk : List Value} {ro : Option Value} {S' : zM}
    (hM : zMet K.1.2.1 w zS0 y cc' n' ret fr' lo' (.ref (10000 + kk) :: As) S ro S') (hm : zMth y cc' n' ret k1) (hi : zInst y) (hlink : Cond.methodLink own i y ∈ zT)
    (hq : kk < 29) (hc : y.cls = "java/lang/String") (hroom : fr' + 1 ≤ fr ∧ 8 + (n' + 11) + lo' ≤ lo) (hn : As.length = k1) (hstk : stk = As.reverse ++ .ref (10000 + kk) :: st) (hst : (st.map fun v => v.category).sum ≤ 8) (d : decode cc pc = .ok (.invokevirtual i, 3))
    (k : V K (pc + 3) L (ro.toList ++ st) S') : V K pc L stk S := by
  obtain ⟨⟨p, l, e, R, s, m, args, below, meth, c⟩, ⟨D, A, cA, μ⟩, ⟨n0, Q, w', z'⟩⟩ := K
  obtain ⟨hx, hb, hts, hown, hK, hD, hA, hml, hfr, hlo, hzz, rfl, rfl, rfl⟩ := C
  subst hstk
  intro H locs ls hP hS hl
  have hAA : ∀ q, va_A (zws w' μ cA S) H.size q → A q := by
    intro q h
    rcases h with ⟨k, e, h⟩ | h
    · exact (hD S).2 k (q, e) h
    · exact hA q (Nat.le_trans hS.1 h)
  have hcw : CallW R s args own y.cls i y cc' n' ret (Cond.code y cc' n' ret :: zT) { frames := fr', cells := 0, slots := 0, locals := lo' } 0 0 k1 :=
    cwV k1 hts (zTgood (fun w hw => by
      rcases List.mem_append.mp hw with h | h
      · rcases List.mem_cons.mp h with rfl | h
        · exact hlink
        · rcases List.mem_cons.mp h with rfl | h
          · exact hi.1
          · rcases List.mem_cons.mp h with rfl | h
            · exact hi.2
            · rcases List.mem_cons.mp h with rfl | h
              · exact hm.2.1
              · cases h
      · rcases List.mem_cons.mp h with rfl | h
        · exact hm.1
        · exact h)) rfl rfl rfl ⟨rfl, hm.2.2⟩ ⟨by rw [hfr]; exact hroom.1, by rw [hlo]; exact hroom.2⟩
  refine zrun (ro := ro) (rest := st.map (ztr μ)) (a := (Value.ref (μ (10000 + kk)) :: As.map (ztr μ)).toArray) (va_runV (As := As.map (ztr μ)) ⟨hx, hb, hml, hown, hts⟩ (hM D cA μ H.size) hcw
    ⟨zPre_blind, by rw [hc]; exact vk_recv (i := kk) (adK := fun i => μ (10000 + i)) hzz.1 (by rw [zS0_len]; exact hq) hS, fun U hU hW => ⟨by simp [ztr], by rw [hU], by rw [hU]; exact hP, va_K.moved hW.alike hK, fun S' => (hD S').weaken (fun _ _ _ _ => trivial), by rw [hU]; exact zOK_call hzz hS hW hAA⟩⟩
    rfl (by rw [List.length_map]; exact hn) hl.1 (by simp [ztr]) (lv_room (by rw [ztr_cats]; exact hst)) d ⟨Nat.zero_le _, Nat.zero_le _⟩) hS hAA (fun H1 locs1 hP1 hS1 => ?_)
  have := k H1 locs1 ls hP1 hS1 hl
  rw [List.map_append] at this
  cases ro <;> exact this
end ZStr
theorem mJ0_coder (l : Launch) {w : zWd} {S : zM} {k : Nat} (hk : k < 29) : zMet l w zS0 yJ0_coder_7d493 cJ0_coder_7d493 1 (some .byte) 0 0 [.ref (10000 + k)] S (some (.int 0)) S := by
  refine zmeth (by decide +kernel) (by rfl) (fun K hKl C hR => ?_)
  show V K 0 [some (.ref (10000 + k))] [] S
  refine V_strS (pc := 0) C dJ0_coder_7d493_0 ?_
  refine V_if_eq (tgt := 13) (pc := 3) C dJ0_coder_7d493_3 (by decide) (fun hc => absurd hc (by decide)) (fun _ => ?_)
  refine V_aload_n (pc := 6) C dJ0_coder_7d493_6 rfl rfl ?_
  refine V_strC (pc := 7) C hk dJ0_coder_7d493_7 ?_
  refine V_goto (tgt := 14) (pc := 10) C dJ0_coder_7d493_10 (by decide) ?_
  exact hR 14 _ ⟨_, rfl, by decide +kernel⟩ dJ0_coder_7d493_14
theorem mJ0_isLatin1 (l : Launch) {w : zWd} {S : zM} {k : Nat} (hk : k < 29) : zMet l w zS0 yJ0_isLatin1_aae02 cJ0_isLatin1_aae02 1 (some .boolean) 0 0 [.ref (10000 + k)] S (some (.int 1)) S := by
  refine zmeth (by decide +kernel) (by rfl) (fun K hKl C hR => ?_)
  show V K 0 [some (.ref (10000 + k))] [] S
  refine V_strS (pc := 0) C dJ0_isLatin1_aae02_0 ?_
  refine V_if_eq (tgt := 17) (pc := 3) C dJ0_isLatin1_aae02_3 (by decide) (fun hc => absurd hc (by decide)) (fun _ => ?_)
  refine V_aload_n (pc := 6) C dJ0_isLatin1_aae02_6 rfl rfl ?_
  refine V_strC (pc := 7) C hk dJ0_isLatin1_aae02_7 ?_
  refine V_if_ne (tgt := 17) (pc := 10) C dJ0_isLatin1_aae02_10 (by decide) (fun hc => absurd rfl hc) (fun _ => ?_)
  refine V_iconst (pc := 13) C dJ0_isLatin1_aae02_13 (v := 1) (by decide +kernel) ?_
  refine V_goto (tgt := 18) (pc := 14) C dJ0_isLatin1_aae02_14 (by decide) ?_
  exact hR 18 _ ⟨_, rfl, by decide +kernel⟩ dJ0_isLatin1_aae02_18
theorem mJ0_length (l : Launch) {w : zWd} {S : zM} {k : Nat} (hk : k < 29) : zMet l w zS0 yJ0_length_8abf5 cJ0_length_8abf5 1 (some .int) 1 20 [.ref (10000 + k)] S (some (.int (nI (zS0.1.getD k 0)))) S := by
  refine zmeth (by decide +kernel) (by rfl) (fun K hKl C hR => ?_)
  show V K 0 [some (.ref (10000 + k))] [] S
  refine V_aload_n (pc := 0) C dJ0_length_8abf5_0 rfl rfl ?_
  refine V_strV (pc := 1) C hk dJ0_length_8abf5_1 ?_
  refine V_strN (pc := 4) C hk dJ0_length_8abf5_4 ?_
  refine V_aload_n (pc := 5) C dJ0_length_8abf5_5 rfl rfl ?_
  refine V_callVS (As := []) (pc := 6) C (mJ0_coder _ hk) zm_J0_coder_7d493 zi_J0_coder_7d493 ml_RJ0_335 hk rfl ⟨Nat.le_of_ble_eq_true rfl, Nat.le_of_ble_eq_true rfl⟩ rfl rfl (Nat.le_of_ble_eq_true rfl) dJ0_length_8abf5_6 ?_
  refine V_ishr (pc := 9) C dJ0_length_8abf5_9 ?_
  rw [sb_shr0]
  exact hR 10 _ ⟨_, rfl, rfl⟩ dJ0_length_8abf5_10
theorem mJ3_checkIndex (l : Launch) {w : zWd} {S : zM} {i j : Int32} {v : Value} (hv : v = .null ∨ v = .ref 30000) (h1 : ¬ i < 0) (h2 : i < j) : zMet l w zS0 yJ3_checkIndex_8e157 cJ3_checkIndex_8e157 3 (some .int) 0 0 [.int i, .int j, v] S (some (.int i)) S := by
  refine zmeth (by decide +kernel) (by rcases hv with rfl | rfl <;> rfl) (fun K hKl C hR => ?_)
  have e : zent 3 [.int i, .int j, v] = [some (.int i), some (.int j), some v] := by rcases hv with rfl | rfl <;> rfl
  rw [e]
  refine V_iload_n (pc := 0) C dJ3_checkIndex_8e157_0 rfl rfl ?_
  refine V_if_lt (tgt := 9) (pc := 1) C dJ3_checkIndex_8e157_1 (by decide) (fun hc => absurd hc h1) (fun _ => ?_)
  refine V_iload_n (pc := 4) C dJ3_checkIndex_8e157_4 rfl rfl ?_
  refine V_iload_n (pc := 5) C dJ3_checkIndex_8e157_5 rfl rfl ?_
  refine V_icmp_lt (tgt := 16) (pc := 6) C dJ3_checkIndex_8e157_6 (by decide) (fun _ => ?_) (fun hc => absurd h2 hc)
  refine V_iload_n (pc := 16) C dJ3_checkIndex_8e157_16 rfl rfl ?_
  exact hR 17 _ ⟨_, rfl, rfl⟩ dJ3_checkIndex_8e157_17
theorem mJ0_checkIndex (l : Launch) {w : zWd} {S : zM} {i j : Int32} (h1 : ¬ i < 0) (h2 : i < j) : zMet l w zS0 yJ0_checkIndex_df160 cJ0_checkIndex_df160 2 none 1 22 [.int i, .int j] S none S := by
  refine zmeth (by decide +kernel) (by rfl) (fun K hKl C hR => ?_)
  show V K 0 [some (.int i), some (.int j)] [] S
  refine V_iload_n (pc := 0) C dJ0_checkIndex_df160_0 rfl rfl ?_
  refine V_iload_n (pc := 1) C dJ0_checkIndex_df160_1 rfl rfl ?_
  refine V_strF (pc := 2) C dJ0_checkIndex_df160_2 (fun v hv => ?_)
  refine V_callS (As := [.int i, .int j, v]) (pc := 5) C (mJ3_checkIndex _ hv h1 h2) zm_J3_checkIndex_8e157 zs_J3_checkIndex_8e157 ml_RJ0_1059 ⟨Nat.le_of_ble_eq_true rfl, Nat.le_of_ble_eq_true rfl⟩ rfl rfl (Nat.le_of_ble_eq_true rfl) dJ0_checkIndex_df160_5 ?_
  refine V_pop (pc := 8) C dJ0_checkIndex_df160_8 rfl ?_
  exact hR 9 _ rfl dJ0_checkIndex_df160_9
theorem mJ1_charAt (l : Launch) {w : zWd} {S : zM} {k : Nat} {i : Int32} (hk : k < 29) (hi : ixb i (zS0.1.getD k 0) = true) : zMet l w zS0 yJ1_charAt_3b067 cJ1_charAt_3b067 2 (some .char) 2 43 [.ref (20000 + k), .int i] S (some (.int ((zS0.2.1.getD k []).getD (ix i) 0))) S := by
  have hb := zS0_bytes k hk
  have hlt := ix_lt hi
  have hneg : ¬ i < 0 := fun z => (ixb_in hi) (Or.inl z)
  obtain ⟨j, hj, ej⟩ := nI_of hneg
  have hj2 : j < zS0.1.getD k 0 := by
    subst ej
    unfold ix at hlt
    rwa [nI_clamp hj] at hlt
  have hin : i < nI (zS0.1.getD k 0) := by
    rw [ej]
    exact nI_lt hj2 (by omega)
  have hmem : (zS0.2.1.getD k []).getD (ix i) 0 ∈ zS0.2.1.getD k [] := by
    have h9 : ix i < (zS0.2.1.getD k []).length := by rw [hb.1]; exact hlt
    exact zgetD_mem h9
  have hch := zchr' (hb.2.2 _ hmem)
  refine zmeth (by decide +kernel) (by rfl) (fun K hKl C hR => ?_)
  show V K 0 [some (.ref (20000 + k)), some (.int i)] [] S
  refine V_iload_n (pc := 0) C dJ1_charAt_3b067_0 rfl rfl ?_
  refine V_aload_n (pc := 1) C dJ1_charAt_3b067_1 rfl rfl ?_
  refine V_strN (pc := 2) C hk dJ1_charAt_3b067_2 ?_
  refine V_callS (As := [.int i, .int (nI (zS0.1.getD k 0))]) (pc := 3) C (mJ0_checkIndex _ hneg hin) zm_J0_checkIndex_df160 zs_J0_checkIndex_df160 ml_RJ1_9 ⟨Nat.le_of_ble_eq_true rfl, Nat.le_of_ble_eq_true rfl⟩ rfl rfl (Nat.le_of_ble_eq_true rfl) dJ1_charAt_3b067_3 ?_
  refine V_aload_n (pc := 6) C dJ1_charAt_3b067_6 rfl rfl ?_
  refine V_iload_n (pc := 7) C dJ1_charAt_3b067_7 rfl rfl ?_
  refine V_strB (pc := 8) C hk hi dJ1_charAt_3b067_8 ?_
  refine V_sipush (pc := 9) C dJ1_charAt_3b067_9 (v := 255) (by decide +kernel) ?_
  refine V_iand (pc := 12) C dJ1_charAt_3b067_12 ?_
  refine V_i2c (pc := 13) C dJ1_charAt_3b067_13 ?_
  rw [hch.1]
  exact hR 14 _ ⟨_, rfl, hch.2⟩ dJ1_charAt_3b067_14
theorem mJ0_charAt (l : Launch) {w : zWd} {S : zM} {k : Nat} {i : Int32} (hk : k < 29) (hi : ixb i (zS0.1.getD k 0) = true) : zMet l w zS0 yJ0_charAt_5068e cJ0_charAt_5068e 2 (some .char) 3 64 [.ref (10000 + k), .int i] S (some (.int ((zS0.2.1.getD k []).getD (ix i) 0))) S := by
  have hb := zS0_bytes k hk
  have hlt := ix_lt hi
  have hmem : (zS0.2.1.getD k []).getD (ix i) 0 ∈ zS0.2.1.getD k [] := by
    have h9 : ix i < (zS0.2.1.getD k []).length := by rw [hb.1]; exact hlt
    exact zgetD_mem h9
  have hch := zchr' (hb.2.2 _ hmem)
  refine zmeth (by decide +kernel) (by rfl) (fun K hKl C hR => ?_)
  show V K 0 [some (.ref (10000 + k)), some (.int i)] [] S
  refine V_aload_n (pc := 0) C dJ0_charAt_5068e_0 rfl rfl ?_
  refine V_callVS (As := []) (pc := 1) C (mJ0_isLatin1 _ hk) zm_J0_isLatin1_aae02 zi_J0_isLatin1_aae02 ml_RJ0_492 hk rfl ⟨Nat.le_of_ble_eq_true rfl, Nat.le_of_ble_eq_true rfl⟩ rfl rfl (Nat.le_of_ble_eq_true rfl) dJ0_charAt_5068e_1 ?_
  refine V_if_eq (tgt := 16) (pc := 4) C dJ0_charAt_5068e_4 (by decide) (fun hc => absurd hc (by decide)) (fun _ => ?_)
  refine V_aload_n (pc := 7) C dJ0_charAt_5068e_7 rfl rfl ?_
  refine V_strV (pc := 8) C hk dJ0_charAt_5068e_8 ?_
  refine V_iload_n (pc := 11) C dJ0_charAt_5068e_11 rfl rfl ?_
  refine V_callS (As := [.ref (20000 + k), .int i]) (pc := 12) C (mJ1_charAt _ hk hi) zm_J1_charAt_3b067 zs_J1_charAt_3b067 ml_RJ0_495 ⟨Nat.le_of_ble_eq_true rfl, Nat.le_of_ble_eq_true rfl⟩ rfl rfl (Nat.le_of_ble_eq_true rfl) dJ0_charAt_5068e_12 ?_
  exact hR 15 _ ⟨_, rfl, hch.2⟩ dJ0_charAt_5068e_15
section ZStr2
variable {K : zK} {cc : ByteArray} {own : String} {n fr lo pc : Nat} {w : zWd} {L : zL} {st : List Value} {S : zM}
theorem V_strlen (C : zC K cc own n fr lo w) {q i : Nat} (hq : zstr q) (hlink : Cond.methodLink own i yJ0_length_8abf5 ∈ zT) (hroom : 1 + 1 ≤ fr ∧ 8 + (1 + 11) + 20 ≤ lo) (hst : (st.map fun v => v.category).sum ≤ 8) (d : decode cc pc = .ok (.invokevirtual i, 3))
    (k : V K (pc + 3) L (.int (slen q) :: st) S) : V K pc L (.ref q :: st) S := by
  obtain ⟨j, hj, rfl⟩ := zstr_k hq
  refine V_callVS (As := []) C (mJ0_length _ hj) zm_J0_length_8abf5 zi_J0_length_8abf5 hlink hj rfl hroom rfl rfl hst d ?_
  have e : slen (10000 + j) = nI (zS0.1.getD j 0) := by unfold slen slnN; rw [Nat.add_sub_cancel_left]
  rw [e] at k
  exact k
theorem V_strch (C : zC K cc own n fr lo w) {q j : Nat} {i : Int32} (hq : zstr q) (hi : ixb i (slnN q) = true) (hlink : Cond.methodLink own j yJ0_charAt_5068e ∈ zT) (hroom : 3 + 1 ≤ fr ∧ 8 + (2 + 11) + 64 ≤ lo) (hst : (st.map fun v => v.category).sum ≤ 8) (d : decode cc pc = .ok (.invokevirtual j, 3))
    (k : V K (pc + 3) L (.int (sch q i) :: st) S) : V K pc L (.int i :: .ref q :: st) S := by
  obtain ⟨a, ha, rfl⟩ := zstr_k hq
  have e : sch (10000 + a) i = (zS0.2.1.getD a []).getD (ix i) 0 := by unfold sch; rw [Nat.add_sub_cancel_left]
  have e2 : slnN (10000 + a) = zS0.1.getD a 0 := by unfold slnN; rw [Nat.add_sub_cancel_left]
  rw [e] at k
  rw [e2] at hi
  exact V_callVS (As := [.int i]) C (mJ0_charAt _ ha hi) zm_J0_charAt_5068e zi_J0_charAt_5068e hlink ha rfl hroom rfl rfl hst d k
end ZStr2
