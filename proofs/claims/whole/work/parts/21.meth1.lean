set_option maxRecDepth 100000 in
theorem mX2_isOverfull_L2 {K : zK} (C : zC K cX2_isOverfull yX2_isOverfull.cls 3 0 0 cW) {S : zM} {v1 : Int32}  : ∀ (f : Nat) (v2 : Int32) (r : Int32), gX2_isOverfull_L2 S v1 f v2 = some r → zR K cX2_isOverfull (some .boolean) S (some (.int r)) → V K 2 [some (.ref 221), some (.int v1), some (.int v2)] [] S := by
  intro f
  induction f with
  | zero => intro v2 r h hR; cases h
  | succ n ih =>
    intro v2 r h hR
    unfold gX2_isOverfull_L2 at h
    refine V_iload_n (pc := 2) C dX2_isOverfull_2 rfl rfl ?_
    refine V_aload_n (pc := 3) C dX2_isOverfull_3 rfl rfl ?_
    refine V_getI (pc := 4) C z1_cW_2 fl_RX2_45 (by decide) dX2_isOverfull_4 ?_
    refine V_icmp_ge (tgt := 39) (pc := 7) C dX2_isOverfull_7 (by decide) (fun hc => ?_) (fun hc => ?_)
    · have h := it_t hc h
      refine V_iconst (pc := 39) C dX2_isOverfull_39 kc_i_0 ?_
      cases h
      exact hR 40 _ ⟨_, rfl, zB0⟩ dX2_isOverfull_40
    · have h := it_f hc h
      refine V_aload_n (pc := 10) C dX2_isOverfull_10 rfl rfl ?_
      refine V_getF (p1 := 223) (pc := 11) C z1_cW_2 fl_RX2_15 rfl (zf_cW_2_1 z1_cW_2) dX2_isOverfull_11 ?_
      refine V_iload_n (pc := 14) C dX2_isOverfull_14 rfl rfl ?_
      obtain ⟨k1, h⟩ := ck_some h
      refine V_iald (pc := 15) C (za_cW_2_1 z1_cW_2) k1 dX2_isOverfull_15 ?_
      refine V_iload_n (pc := 16) C dX2_isOverfull_16 rfl rfl ?_
      refine V_icmp_ne (tgt := 33) (pc := 17) C dX2_isOverfull_17 (by decide) (fun hc => ?_) (fun hc => ?_)
      · have h := it_f hc h
        refine V_iinc (L' := [some (.ref 221), some (.int v1), some (.int (v2 + (1 : Int32)))]) (v := (v2 + (1 : Int32))) (pc := 33) C dX2_isOverfull_33 rfl (congrArg (v2 + ·) kc_i_1) (by decide) rfl ?_
        refine V_goto (tgt := 2) (pc := 36) C dX2_isOverfull_36 (by decide) ?_
        exact V_mask [true, true, true] (ih _ _ h hR)
      · have h := it_t hc h
        refine V_aload_n (pc := 20) C dX2_isOverfull_20 rfl rfl ?_
        refine V_getF (p1 := 227) (pc := 21) C z1_cW_2 fl_RX2_27 rfl (zf_cW_2_5 z1_cW_2) dX2_isOverfull_21 ?_
        refine V_iload_n (pc := 24) C dX2_isOverfull_24 rfl rfl ?_
        obtain ⟨k2, h⟩ := ck_some h
        refine V_iald (pc := 25) C (za_cW_2_5 z1_cW_2) k2 dX2_isOverfull_25 ?_
        refine V_bipush (pc := 26) C dX2_isOverfull_26 kc_b_40 ?_
        refine V_icmp_le (tgt := 33) (pc := 28) C dX2_isOverfull_28 (by decide) (fun hc => ?_) (fun hc => ?_)
        · have h := it_t hc h
          refine V_iinc (L' := [some (.ref 221), some (.int v1), some (.int (v2 + (1 : Int32)))]) (v := (v2 + (1 : Int32))) (pc := 33) C dX2_isOverfull_33 rfl (congrArg (v2 + ·) kc_i_1) (by decide) rfl ?_
          refine V_goto (tgt := 2) (pc := 36) C dX2_isOverfull_36 (by decide) ?_
          exact V_mask [true, true, true] (ih _ _ h hR)
        · have h := it_f hc h
          refine V_iconst (pc := 31) C dX2_isOverfull_31 kc_i_1 ?_
          cases h
          exact hR 32 _ ⟨_, rfl, zB1⟩ dX2_isOverfull_32
set_option maxRecDepth 100000 in
theorem mX2_isOverfull (l : Launch) {S : zM} {a1 : Int32} {r : Int32}  (h : gX2_isOverfull S a1 = some r) : zMet l cW zS0 yX2_isOverfull cX2_isOverfull 3 (some .boolean) 0 0 [.ref 221, .int a1] S (some (.int r)) S := by
  refine zmeth (by decide +kernel) (by rfl) (fun K hKl C hR => ?_)
  show V K 0 [some (.ref 221), some (.int a1), none] [] S
  unfold gX2_isOverfull at h
  refine V_iconst (pc := 0) C dX2_isOverfull_0 kc_i_0 ?_
  refine V_istore_n (L' := [some (.ref 221), some (.int a1), some (.int (0 : Int32))]) (pc := 1) C dX2_isOverfull_1 rfl (by decide) rfl ?_
  exact V_mask [true, true, true] (mX2_isOverfull_L2 C  FU _ _ h hR)
set_option maxRecDepth 100000 in
theorem mX9_noiseWithout (l : Launch) {S : zM} {q : Nat} {a1 : Int32} {r : Nat} (hq : zob cW 9 q) (h : gX9_noiseWithout S q a1 = some r) : zMet l cW zS0 yX9_noiseWithout cX9_noiseWithout 2 (some (.object "LittleMore$Noise")) 1 21 [.ref q, .int a1] S (some (.ref r)) S := by
  refine zmeth (by decide +kernel) (by rfl) (fun K hKl C hR => ?_)
  show V K 0 [some (.ref q), some (.int a1)] [] S
  unfold gX9_noiseWithout at h
  refine V_aload_n (pc := 0) C dX9_noiseWithout_0 rfl rfl ?_
  refine V_getF (p1 := (q + 6)) (pc := 1) C hq fl_RX9_29 rfl (zf_cW_9_5 hq) dX9_noiseWithout_1 ?_
  refine V_iconst (pc := 4) C dX9_noiseWithout_4 kc_i_0 ?_
  refine V_aload_n (pc := 5) C dX9_noiseWithout_5 rfl rfl ?_
  refine V_getF (p1 := (q + 6)) (pc := 6) C hq fl_RX9_29 rfl (zf_cW_9_5 hq) dX9_noiseWithout_6 ?_
  refine V_alen (v := (6 : Int32)) (pc := 9) C (za_cW_9_5 hq) (by decide) (fun _ => rfl) (by decide) dX9_noiseWithout_9 ?_
  refine V_iconst (pc := 10) C dX9_noiseWithout_10 kc_i_1 ?_
  refine V_isub (pc := 11) C dX9_noiseWithout_11 ?_
  refine V_aload_n (pc := 12) C dX9_noiseWithout_12 rfl rfl ?_
  refine V_getI (pc := 13) C hq fl_RX9_38 (by decide) dX9_noiseWithout_13 ?_
  refine V_iconst (pc := 16) C dX9_noiseWithout_16 kc_i_1 ?_
  refine V_isub (pc := 17) C dX9_noiseWithout_17 ?_
  refine V_iload_n (pc := 18) C dX9_noiseWithout_18 rfl rfl ?_
  refine V_isub (pc := 19) C dX9_noiseWithout_19 ?_
  refine V_min (pc := 20) C ml_RX9_67 mt_min.1 mt_min.2.1 mt_min.2.2 ⟨Nat.le_of_ble_eq_true rfl, Nat.le_of_ble_eq_true rfl⟩ dX9_noiseWithout_20 ?_
  refine V_max (pc := 23) C ml_RX9_61 mt_max.1 mt_max.2.1 mt_max.2.2 ⟨Nat.le_of_ble_eq_true rfl, Nat.le_of_ble_eq_true rfl⟩ dX9_noiseWithout_23 ?_
  obtain ⟨k1, h⟩ := ck_some h
  refine V_aald (p1 := (q + 7 + 4 * ix (jmax (0 : Int32) (jmin ((6 : Int32) - (1 : Int32)) (((gI S q 7) - (1 : Int32)) - a1))))) (pc := 26) C (za_cW_9_5 hq) (fun _ => rfl) k1 (ze_cW_9_5 hq k1) dX9_noiseWithout_26 ?_
  cases h
  exact hR 27 _ ⟨_, rfl⟩ dX9_noiseWithout_27
theorem mX9_noiseWithout_f {S : zM} {q r : Nat} {a1 : Int32} (hq : zob cW 9 q) (h : gX9_noiseWithout S q a1 = some r) : zob cW 4 r := by
  unfold gX9_noiseWithout at h
  obtain ⟨k, h⟩ := ck_some h
  cases h
  exact zx_cW_9_5 hq k
set_option maxRecDepth 100000 in
theorem mX9_fresh (l : Launch) {S : zM} {q : Nat} {r : Nat} (hq : zob cW 9 q) (h : gX9_fresh S q = some r) : zMet l cW zS0 yX9_fresh cX9_fresh 1 (some (.object "LittleMore$Noise")) 2 42 [.ref q] S (some (.ref r)) S := by
  refine zmeth (by decide +kernel) (by rfl) (fun K hKl C hR => ?_)
  show V K 0 [some (.ref q)] [] S
  unfold gX9_fresh at h
  refine V_aload_n (pc := 0) C dX9_fresh_0 rfl rfl ?_
  refine V_iconst (pc := 1) C dX9_fresh_1 kc_i_0 ?_
  obtain ⟨r1, er1, h⟩ := b1_some h
  refine V_callV (As := [.int (0 : Int32)]) (pc := 2) C (mX9_noiseWithout _ hq er1) zm_X9_noiseWithout zi_X9_noiseWithout ml_RX9_74 hq rfl ⟨Nat.le_of_ble_eq_true rfl, Nat.le_of_ble_eq_true rfl⟩ rfl rfl (Nat.le_of_ble_eq_true rfl) dX9_fresh_2 ?_
  show V K 5 [some (.ref q)] [.ref r1] S
  cases h
  exact hR 5 _ ⟨_, rfl⟩ dX9_fresh_5
theorem mX9_fresh_f {S : zM} {q r : Nat} (hq : zob cW 9 q) (h : gX9_fresh S q = some r) : zob cW 4 r := by
  unfold gX9_fresh at h
  obtain ⟨r1, er1, h⟩ := b1_some h
  cases h
  exact mX9_noiseWithout_f hq er1
set_option maxRecDepth 100000 in
theorem mX4_above (l : Launch) {S : zM} {q : Nat} {a1 : Int32} {r : Int32} (hq : zob cW 4 q) (h : gX4_above S q a1 = some r) : zMet l cW zS0 yX4_above cX4_above 2 (some .int) 1 21 [.ref q, .int a1] S (some (.int r)) S := by
  refine zmeth (by decide +kernel) (by rfl) (fun K hKl C hR => ?_)
  show V K 0 [some (.ref q), some (.int a1)] [] S
  unfold gX4_above at h
  refine V_aload_n (pc := 0) C dX4_above_0 rfl rfl ?_
  refine V_getF (p1 := (q + 2)) (pc := 1) C hq fl_RX4_15 rfl (zf_cW_4_1 hq) dX4_above_1 ?_
  refine V_iconst (pc := 4) C dX4_above_4 kc_i_0 ?_
  refine V_aload_n (pc := 5) C dX4_above_5 rfl rfl ?_
  refine V_getF (p1 := (q + 2)) (pc := 6) C hq fl_RX4_15 rfl (zf_cW_4_1 hq) dX4_above_6 ?_
  refine V_alen (v := (12 : Int32)) (pc := 9) C (za_cW_4_1 hq) (by decide) (fun _ => rfl) (by decide) dX4_above_9 ?_
  refine V_iconst (pc := 10) C dX4_above_10 kc_i_1 ?_
  refine V_isub (pc := 11) C dX4_above_11 ?_
  refine V_iload_n (pc := 12) C dX4_above_12 rfl rfl ?_
  refine V_iconst (pc := 13) C dX4_above_13 kc_i_5 ?_
  refine V_iadd (pc := 14) C dX4_above_14 ?_
  refine V_iconst (pc := 15) C dX4_above_15 kc_i_1 ?_
  refine V_iadd (pc := 16) C dX4_above_16 ?_
  refine V_min (pc := 17) C ml_RX4_35 mt_min.1 mt_min.2.1 mt_min.2.2 ⟨Nat.le_of_ble_eq_true rfl, Nat.le_of_ble_eq_true rfl⟩ dX4_above_17 ?_
  refine V_max (pc := 20) C ml_RX4_41 mt_max.1 mt_max.2.1 mt_max.2.2 ⟨Nat.le_of_ble_eq_true rfl, Nat.le_of_ble_eq_true rfl⟩ dX4_above_20 ?_
  obtain ⟨k1, h⟩ := ck_some h
  refine V_iald (pc := 23) C (za_cW_4_1 hq) k1 dX4_above_23 ?_
  cases h
  exact hR 24 _ ⟨_, rfl, rfl⟩ dX4_above_24
set_option maxRecDepth 100000 in
theorem mX4_aloneOdds (l : Launch) {S : zM} {q : Nat} {a1 : Int32} {a2 : Int32} {r : Int32} (hq : zob cW 4 q) (h : gX4_aloneOdds S q a1 a2 = some r) : zMet l cW zS0 yX4_aloneOdds cX4_aloneOdds 3 (some .int) 2 42 [.ref q, .int a1, .int a2] S (some (.int r)) S := by
  refine zmeth (by decide +kernel) (by rfl) (fun K hKl C hR => ?_)
  show V K 0 [some (.ref q), some (.int a1), some (.int a2)] [] S
  unfold gX4_aloneOdds at h
  refine V_iload_n (pc := 0) C dX4_aloneOdds_0 rfl rfl ?_
  refine V_iconst (pc := 1) C dX4_aloneOdds_1 kc_i_1 ?_
  refine V_icmp_ne (tgt := 14) (pc := 2) C dX4_aloneOdds_2 (by decide) (fun hc => ?_) (fun hc => ?_)
  · have h := it_f hc h
    refine V_aload_n (pc := 14) C dX4_aloneOdds_14 rfl rfl ?_
    refine V_getI (pc := 15) C hq fl_RX4_31 (by decide) dX4_aloneOdds_15 ?_
    refine V_aload_n (pc := 18) C dX4_aloneOdds_18 rfl rfl ?_
    refine V_iload_n (pc := 19) C dX4_aloneOdds_19 rfl rfl ?_
    refine V_ineg (pc := 20) C dX4_aloneOdds_20 ?_
    obtain ⟨r1, er1, h⟩ := b1_some h
    refine V_callV (As := [.int (-a1)]) (pc := 21) C (mX4_above _ hq er1) zm_X4_above zi_X4_above ml_RX4_52 hq rfl ⟨Nat.le_of_ble_eq_true rfl, Nat.le_of_ble_eq_true rfl⟩ rfl rfl (Nat.le_of_ble_eq_true rfl) dX4_aloneOdds_21 ?_
    show V K 24 [some (.ref q), some (.int a1), some (.int a2)] [.int r1, .int (gI S q 3)] S
    refine V_isub (pc := 24) C dX4_aloneOdds_24 ?_
    cases h
    exact hR 25 _ ⟨_, rfl, rfl⟩ dX4_aloneOdds_25
  · have h := it_t hc h
    refine V_aload_n (pc := 5) C dX4_aloneOdds_5 rfl rfl ?_
    refine V_iload_n (pc := 6) C dX4_aloneOdds_6 rfl rfl ?_
    refine V_ineg (pc := 7) C dX4_aloneOdds_7 ?_
    obtain ⟨r2, er2, h⟩ := b1_some h
    refine V_callV (As := [.int (-a1)]) (pc := 8) C (mX4_above _ hq er2) zm_X4_above zi_X4_above ml_RX4_52 hq rfl ⟨Nat.le_of_ble_eq_true rfl, Nat.le_of_ble_eq_true rfl⟩ rfl rfl (Nat.le_of_ble_eq_true rfl) dX4_aloneOdds_8 ?_
    show V K 11 [some (.ref q), some (.int a1), some (.int a2)] [.int r2] S
    refine V_goto (tgt := 25) (pc := 11) C dX4_aloneOdds_11 (by decide) ?_
    cases h
    exact hR 25 _ ⟨_, rfl, rfl⟩ dX4_aloneOdds_25
set_option maxRecDepth 100000 in
theorem mX10_setTo_L3 {K : zK} (C : zC K cX10_setTo yX10_setTo.cls 5 0 0 cW) {v1 : Nat} {v2 : Int64} (hv1 : zar cW 2 3 15 v1) : ∀ (f : Nat) (S : zM) (v4 : Int32) (S' : zM), gX10_setTo_L3 v1 v2 f S v4 = some S' → zR K cX10_setTo (none) S' none → V K 3 [some (.ref 233), some (.ref v1), some (.long v2), none, some (.int v4)] [] S := by
  intro f
  induction f with
  | zero => intro S v4 S' h hR; cases h
  | succ n ih =>
    intro S v4 S' h hR
    unfold gX10_setTo_L3 at h
    refine V_iload (pc := 3) C dX10_setTo_3 rfl ?_
    refine V_aload_n (pc := 5) C dX10_setTo_5 rfl rfl ?_
    refine V_getI (pc := 6) C z1_cW_10 fl_RX10_50 (by decide) dX10_setTo_6 ?_
    refine V_icmp_ge (tgt := 23) (pc := 9) C dX10_setTo_9 (by decide) (fun hc => ?_) (fun hc => ?_)
    · have h := it_t hc h
      refine V_aload_n (pc := 23) C dX10_setTo_23 rfl rfl ?_
      refine V_iconst (pc := 24) C dX10_setTo_24 kc_i_0 ?_
      refine V_lload_n (pc := 25) C dX10_setTo_25 rfl rfl ?_
      obtain ⟨k1, h⟩ := ck_some h
      refine V_last (pc := 26) C hv1 k1 dX10_setTo_26 ?_
      cases h
      exact hR 27 _ rfl dX10_setTo_27
    · have h := it_f hc h
      refine V_aload_n (pc := 12) C dX10_setTo_12 rfl rfl ?_
      refine V_iload (pc := 13) C dX10_setTo_13 rfl ?_
      refine V_lconst (pc := 15) C dX10_setTo_15 (v := (0 : Int64)) rfl ?_
      obtain ⟨k2, h⟩ := ck_some h
      refine V_last (pc := 16) C hv1 k2 dX10_setTo_16 ?_
      refine V_iinc (L' := [some (.ref 233), some (.ref v1), some (.long v2), none, some (.int (v4 + (1 : Int32)))]) (v := (v4 + (1 : Int32))) (pc := 17) C dX10_setTo_17 rfl (congrArg (v4 + ·) kc_i_1) (by decide) rfl ?_
      refine V_goto (tgt := 3) (pc := 20) C dX10_setTo_20 (by decide) ?_
      exact V_mask [true, true, true, false, true] (ih _ _ _ h hR)
set_option maxRecDepth 100000 in
theorem mX10_setTo (l : Launch) {S : zM} {a1 : Nat} {a2 : Int64} {S' : zM} (ha1 : zar cW 2 3 15 a1) (h : gX10_setTo S a1 a2 = some S') : zMet l cW zS0 yX10_setTo cX10_setTo 5 (none) 0 0 [.ref 233, .ref a1, .long a2] S none S' := by
  refine zmeth (by decide +kernel) (by rfl) (fun K hKl C hR => ?_)
  show V K 0 [some (.ref 233), some (.ref a1), some (.long a2), none, none] [] S
  unfold gX10_setTo at h
  refine V_iconst (pc := 0) C dX10_setTo_0 kc_i_1 ?_
  refine V_istore (L' := [some (.ref 233), some (.ref a1), some (.long a2), none, some (.int (1 : Int32))]) (pc := 1) C dX10_setTo_1 (by decide) rfl ?_
  exact V_mask [true, true, true, false, true] (mX10_setTo_L3 C ha1 FU _ _ _ h hR)
set_option maxRecDepth 100000 in
theorem mX10_multiply_L6 {K : zK} (C : zC K cX10_multiply yX10_multiply.cls 7 0 0 cW) {v1 : Nat} {v2 : Int64} (hv1 : zar cW 2 3 15 v1) : ∀ (f : Nat) (S : zM) (v4 : Int64) (v6 : Int32) (S' : zM), gX10_multiply_L6 v1 v2 f S v4 v6 = some S' → zR K cX10_multiply (none) S' none → V K 6 [some (.ref 233), some (.ref v1), some (.long v2), none, some (.long v4), none, some (.int v6)] [] S := by
  intro f
  induction f with
  | zero => intro S v4 v6 S' h hR; cases h
  | succ n ih =>
    intro S v4 v6 S' h hR
    unfold gX10_multiply_L6 at h
    refine V_iload (pc := 6) C dX10_multiply_6 rfl ?_
    refine V_aload_n (pc := 8) C dX10_multiply_8 rfl rfl ?_
    refine V_getI (pc := 9) C z1_cW_10 fl_RX10_50 (by decide) dX10_multiply_9 ?_
    refine V_icmp_ge (tgt := 49) (pc := 12) C dX10_multiply_12 (by decide) (fun hc => ?_) (fun hc => ?_)
    · have h := it_t hc h
      cases h
      exact hR 49 _ rfl dX10_multiply_49
    · have h := it_f hc h
      refine V_lload (pc := 15) C dX10_multiply_15 rfl ?_
      refine V_aload_n (pc := 17) C dX10_multiply_17 rfl rfl ?_
      refine V_iload (pc := 18) C dX10_multiply_18 rfl ?_
      obtain ⟨k1, h⟩ := ck_some h
      refine V_lald (pc := 20) C hv1 k1 dX10_multiply_20 ?_
      refine V_lload_n (pc := 21) C dX10_multiply_21 rfl rfl ?_
      refine V_lmul (pc := 22) C dX10_multiply_22 ?_
      refine V_ladd (pc := 23) C dX10_multiply_23 ?_
      obtain ⟨x2, ex2, h⟩ := lt_some h
      refine V_nmJ ex2 ?_
      refine V_lstore (L' := [some (.ref 233), some (.ref v1), some (.long v2), none, some (.long x2), none, some (.int v6)]) (pc := 24) C dX10_multiply_24 (by decide) rfl ?_
      refine V_aload_n (pc := 26) C dX10_multiply_26 rfl rfl ?_
      refine V_iload (pc := 27) C dX10_multiply_27 rfl ?_
      refine V_lload (pc := 29) C dX10_multiply_29 rfl ?_
      refine V_ldc2 (pc := 31) C dX10_multiply_31 kl_RX10_74 ?_
      refine V_land (pc := 34) C dX10_multiply_34 ?_
      obtain ⟨k3, h⟩ := ck_some h
      refine V_last (pc := 35) C hv1 k3 dX10_multiply_35 ?_
      refine V_lload (pc := 36) C dX10_multiply_36 rfl ?_
      refine V_bipush (pc := 38) C dX10_multiply_38 kc_b_40 ?_
      refine V_lushr (pc := 40) C dX10_multiply_40 ?_
      obtain ⟨x4, ex4, h⟩ := lt_some h
      refine V_nmJ ex4 ?_
      refine V_lstore (L' := [some (.ref 233), some (.ref v1), some (.long v2), none, some (.long x4), none, some (.int v6)]) (pc := 41) C dX10_multiply_41 (by decide) rfl ?_
      refine V_iinc (L' := [some (.ref 233), some (.ref v1), some (.long v2), none, some (.long x4), none, some (.int (v6 + (1 : Int32)))]) (v := (v6 + (1 : Int32))) (pc := 43) C dX10_multiply_43 rfl (congrArg (v6 + ·) kc_i_1) (by decide) rfl ?_
      refine V_goto (tgt := 6) (pc := 46) C dX10_multiply_46 (by decide) ?_
      exact V_mask [true, true, true, false, true, false, true] (ih _ _ _ _ h hR)
set_option maxRecDepth 100000 in
theorem mX10_multiply (l : Launch) {S : zM} {a1 : Nat} {a2 : Int64} {S' : zM} (ha1 : zar cW 2 3 15 a1) (h : gX10_multiply S a1 a2 = some S') : zMet l cW zS0 yX10_multiply cX10_multiply 7 (none) 0 0 [.ref 233, .ref a1, .long a2] S none S' := by
  refine zmeth (by decide +kernel) (by rfl) (fun K hKl C hR => ?_)
  show V K 0 [some (.ref 233), some (.ref a1), some (.long a2), none, none, none, none] [] S
  unfold gX10_multiply at h
  refine V_lconst (pc := 0) C dX10_multiply_0 (v := (0 : Int64)) rfl ?_
  refine V_lstore (L' := [some (.ref 233), some (.ref a1), some (.long a2), none, some (.long (0 : Int64)), none, none]) (pc := 1) C dX10_multiply_1 (by decide) rfl ?_
  refine V_iconst (pc := 3) C dX10_multiply_3 kc_i_0 ?_
  refine V_istore (L' := [some (.ref 233), some (.ref a1), some (.long a2), none, some (.long (0 : Int64)), none, some (.int (0 : Int32))]) (pc := 4) C dX10_multiply_4 (by decide) rfl ?_
  exact V_mask [true, true, true, false, true, false, true] (mX10_multiply_L6 C ha1 FU _ _ _ _ h hR)
set_option maxRecDepth 100000 in
theorem mX10_add_L5 {K : zK} (C : zC K cX10_add yX10_add.cls 6 0 0 cW) {v1 : Nat} {v2 : Nat} (hv1 : zar cW 2 3 15 v1) (hv2 : zar cW 2 3 15 v2) : ∀ (f : Nat) (S : zM) (v3 : Int64) (v5 : Int32) (S' : zM), gX10_add_L5 v1 v2 f S v3 v5 = some S' → zR K cX10_add (none) S' none → V K 5 [some (.ref 233), some (.ref v1), some (.ref v2), some (.long v3), none, some (.int v5)] [] S := by
  intro f
  induction f with
  | zero => intro S v3 v5 S' h hR; cases h
  | succ n ih =>
    intro S v3 v5 S' h hR
    unfold gX10_add_L5 at h
    refine V_iload (pc := 5) C dX10_add_5 rfl ?_
    refine V_aload_n (pc := 7) C dX10_add_7 rfl rfl ?_
    refine V_getI (pc := 8) C z1_cW_10 fl_RX10_50 (by decide) dX10_add_8 ?_
    refine V_icmp_ge (tgt := 46) (pc := 11) C dX10_add_11 (by decide) (fun hc => ?_) (fun hc => ?_)
    · have h := it_t hc h
      cases h
      exact hR 46 _ rfl dX10_add_46
    · have h := it_f hc h
      refine V_lload_n (pc := 14) C dX10_add_14 rfl rfl ?_
      refine V_aload_n (pc := 15) C dX10_add_15 rfl rfl ?_
      refine V_iload (pc := 16) C dX10_add_16 rfl ?_
      obtain ⟨k1, h⟩ := ck_some h
      refine V_lald (pc := 18) C hv1 k1 dX10_add_18 ?_
      refine V_aload_n (pc := 19) C dX10_add_19 rfl rfl ?_
      refine V_iload (pc := 20) C dX10_add_20 rfl ?_
      obtain ⟨k2, h⟩ := ck_some h
      refine V_lald (pc := 22) C hv2 k2 dX10_add_22 ?_
      refine V_ladd (pc := 23) C dX10_add_23 ?_
      refine V_ladd (pc := 24) C dX10_add_24 ?_
      obtain ⟨x3, ex3, h⟩ := lt_some h
      refine V_nmJ ex3 ?_
      refine V_lstore_n (L' := [some (.ref 233), some (.ref v1), some (.ref v2), some (.long x3), none, some (.int v5)]) (pc := 25) C dX10_add_25 rfl (by decide) rfl ?_
      refine V_aload_n (pc := 26) C dX10_add_26 rfl rfl ?_
      refine V_iload (pc := 27) C dX10_add_27 rfl ?_
      refine V_lload_n (pc := 29) C dX10_add_29 rfl rfl ?_
      refine V_ldc2 (pc := 30) C dX10_add_30 kl_RX10_74 ?_
      refine V_land (pc := 33) C dX10_add_33 ?_
      obtain ⟨k4, h⟩ := ck_some h
      refine V_last (pc := 34) C hv1 k4 dX10_add_34 ?_
      refine V_lload_n (pc := 35) C dX10_add_35 rfl rfl ?_
      refine V_bipush (pc := 36) C dX10_add_36 kc_b_40 ?_
      refine V_lushr (pc := 38) C dX10_add_38 ?_
      obtain ⟨x5, ex5, h⟩ := lt_some h
      refine V_nmJ ex5 ?_
      refine V_lstore_n (L' := [some (.ref 233), some (.ref v1), some (.ref v2), some (.long x5), none, some (.int v5)]) (pc := 39) C dX10_add_39 rfl (by decide) rfl ?_
      refine V_iinc (L' := [some (.ref 233), some (.ref v1), some (.ref v2), some (.long x5), none, some (.int (v5 + (1 : Int32)))]) (v := (v5 + (1 : Int32))) (pc := 40) C dX10_add_40 rfl (congrArg (v5 + ·) kc_i_1) (by decide) rfl ?_
      refine V_goto (tgt := 5) (pc := 43) C dX10_add_43 (by decide) ?_
      exact V_mask [true, true, true, true, false, true] (ih _ _ _ _ h hR)
set_option maxRecDepth 100000 in
theorem mX10_add (l : Launch) {S : zM} {a1 : Nat} {a2 : Nat} {S' : zM} (ha1 : zar cW 2 3 15 a1) (ha2 : zar cW 2 3 15 a2) (h : gX10_add S a1 a2 = some S') : zMet l cW zS0 yX10_add cX10_add 6 (none) 0 0 [.ref 233, .ref a1, .ref a2] S none S' := by
  refine zmeth (by decide +kernel) (by rfl) (fun K hKl C hR => ?_)
  show V K 0 [some (.ref 233), some (.ref a1), some (.ref a2), none, none, none] [] S
  unfold gX10_add at h
  refine V_lconst (pc := 0) C dX10_add_0 (v := (0 : Int64)) rfl ?_
  refine V_lstore_n (L' := [some (.ref 233), some (.ref a1), some (.ref a2), some (.long (0 : Int64)), none, none]) (pc := 1) C dX10_add_1 rfl (by decide) rfl ?_
  refine V_iconst (pc := 2) C dX10_add_2 kc_i_0 ?_
  refine V_istore (L' := [some (.ref 233), some (.ref a1), some (.ref a2), some (.long (0 : Int64)), none, some (.int (0 : Int32))]) (pc := 3) C dX10_add_3 (by decide) rfl ?_
  exact V_mask [true, true, true, true, false, true] (mX10_add_L5 C ha1 ha2 FU _ _ _ _ h hR)
set_option maxRecDepth 100000 in
theorem mX10_isLess_L7 {K : zK} (C : zC K cX10_isLess yX10_isLess.cls 4 0 0 cW) {S : zM} {v1 : Nat} {v2 : Nat} (hv1 : zar cW 2 3 15 v1) (hv2 : zar cW 2 3 15 v2) : ∀ (f : Nat) (v3 : Int32) (r : Int32), gX10_isLess_L7 S v1 v2 f v3 = some r → zR K cX10_isLess (some .boolean) S (some (.int r)) → V K 7 [none, some (.ref v1), some (.ref v2), some (.int v3)] [] S := by
  intro f
  induction f with
  | zero => intro v3 r h hR; cases h
  | succ n ih =>
    intro v3 r h hR
    unfold gX10_isLess_L7 at h
    refine V_iload_n (pc := 7) C dX10_isLess_7 rfl rfl ?_
    refine V_if_lt (tgt := 43) (pc := 8) C dX10_isLess_8 (by decide) (fun hc => ?_) (fun hc => ?_)
    · have h := it_t hc h
      refine V_iconst (pc := 43) C dX10_isLess_43 kc_i_0 ?_
      cases h
      exact hR 44 _ ⟨_, rfl, zB0⟩ dX10_isLess_44
    · have h := it_f hc h
      refine V_aload_n (pc := 11) C dX10_isLess_11 rfl rfl ?_
      refine V_iload_n (pc := 12) C dX10_isLess_12 rfl rfl ?_
      obtain ⟨k1, h⟩ := ck_some h
      refine V_lald (pc := 13) C hv1 k1 dX10_isLess_13 ?_
      refine V_aload_n (pc := 14) C dX10_isLess_14 rfl rfl ?_
      refine V_iload_n (pc := 15) C dX10_isLess_15 rfl rfl ?_
      obtain ⟨k2, h⟩ := ck_some h
      refine V_lald (pc := 16) C hv2 k2 dX10_isLess_16 ?_
      refine V_lcmp_eq (tgt := 37) (pc := 17) C dX10_isLess_17 dX10_isLess_18 (by decide) (fun hc => ?_) (fun hc => ?_)
      · have h := it_t hc h
        refine V_iinc (L' := [none, some (.ref v1), some (.ref v2), some (.int (v3 + (-1 : Int32)))]) (v := (v3 + (-1 : Int32))) (pc := 37) C dX10_isLess_37 rfl (congrArg (v3 + ·) kc_i_m1) (by decide) rfl ?_
        refine V_goto (tgt := 7) (pc := 40) C dX10_isLess_40 (by decide) ?_
        exact V_mask [false, true, true, true] (ih _ _ h hR)
      · have h := it_f hc h
        refine V_aload_n (pc := 21) C dX10_isLess_21 rfl rfl ?_
        refine V_iload_n (pc := 22) C dX10_isLess_22 rfl rfl ?_
        obtain ⟨k3, h⟩ := ck_some h
        refine V_lald (pc := 23) C hv1 k3 dX10_isLess_23 ?_
        refine V_aload_n (pc := 24) C dX10_isLess_24 rfl rfl ?_
        refine V_iload_n (pc := 25) C dX10_isLess_25 rfl rfl ?_
        obtain ⟨k4, h⟩ := ck_some h
        refine V_lald (pc := 26) C hv2 k4 dX10_isLess_26 ?_
        refine V_lcmp_ge (tgt := 35) (pc := 27) C dX10_isLess_27 dX10_isLess_28 (by decide) (fun hc => ?_) (fun hc => ?_)
        · have h := it_t hc h
          refine V_iconst (pc := 35) C dX10_isLess_35 kc_i_0 ?_
          cases h
          exact hR 36 _ ⟨_, rfl, zB0⟩ dX10_isLess_36
        · have h := it_f hc h
          refine V_iconst (pc := 31) C dX10_isLess_31 kc_i_1 ?_
          refine V_goto (tgt := 36) (pc := 32) C dX10_isLess_32 (by decide) ?_
          cases h
          exact hR 36 _ ⟨_, rfl, zB1⟩ dX10_isLess_36
set_option maxRecDepth 100000 in
theorem mX10_isLess (l : Launch) {S : zM} {a1 : Nat} {a2 : Nat} {r : Int32} (ha1 : zar cW 2 3 15 a1) (ha2 : zar cW 2 3 15 a2) (h : gX10_isLess S a1 a2 = some r) : zMet l cW zS0 yX10_isLess cX10_isLess 4 (some .boolean) 0 0 [.ref 233, .ref a1, .ref a2] S (some (.int r)) S := by
  refine zmeth (by decide +kernel) (by rfl) (fun K hKl C hR => ?_)
  show V K 0 [some (.ref 233), some (.ref a1), some (.ref a2), none] [] S
  unfold gX10_isLess at h
  refine V_aload_n (pc := 0) C dX10_isLess_0 rfl rfl ?_
  refine V_getI (pc := 1) C z1_cW_10 fl_RX10_50 (by decide) dX10_isLess_1 ?_
  refine V_iconst (pc := 4) C dX10_isLess_4 kc_i_1 ?_
  refine V_isub (pc := 5) C dX10_isLess_5 ?_
  refine V_istore_n (L' := [some (.ref 233), some (.ref a1), some (.ref a2), some (.int ((gI S 233 3) - (1 : Int32)))]) (pc := 6) C dX10_isLess_6 rfl (by decide) rfl ?_
  exact V_mask [false, true, true, true] (mX10_isLess_L7 C ha1 ha2 FU _ _ h hR)
set_option maxRecDepth 100000 in
theorem mX10_divide_L18 {K : zK} (C : zC K cX10_divide yX10_divide.cls 7 0 0 cW) {v1 : Nat} {v2 : Int64} (hv1 : zar cW 2 3 15 v1) : ∀ (f : Nat) (S : zM) (v4 : Int64) (v6 : Int32) (S' : zM), gX10_divide_L18 v1 v2 f S v4 v6 = some S' → zR K cX10_divide (none) S' none → V K 18 [none, some (.ref v1), some (.long v2), none, some (.long v4), none, some (.int v6)] [] S := by
  intro f
  induction f with
  | zero => intro S v4 v6 S' h hR; cases h
  | succ n ih =>
    intro S v4 v6 S' h hR
    unfold gX10_divide_L18 at h
    refine V_iload (pc := 18) C dX10_divide_18 rfl ?_
    refine V_if_lt (tgt := 55) (pc := 20) C dX10_divide_20 (by decide) (fun hc => ?_) (fun hc => ?_)
    · have h := it_t hc h
      cases h
      exact hR 55 _ rfl dX10_divide_55
    · have h := it_f hc h
      refine V_lload (pc := 23) C dX10_divide_23 rfl ?_
      refine V_bipush (pc := 25) C dX10_divide_25 kc_b_40 ?_
      refine V_lshl (pc := 27) C dX10_divide_27 ?_
      refine V_aload_n (pc := 28) C dX10_divide_28 rfl rfl ?_
      refine V_iload (pc := 29) C dX10_divide_29 rfl ?_
      obtain ⟨k1, h⟩ := ck_some h
      refine V_lald (pc := 31) C hv1 k1 dX10_divide_31 ?_
      refine V_ladd (pc := 32) C dX10_divide_32 ?_
      obtain ⟨x2, ex2, h⟩ := lt_some h
      refine V_nmJ ex2 ?_
      refine V_lstore (L' := [none, some (.ref v1), some (.long v2), none, some (.long x2), none, some (.int v6)]) (pc := 33) C dX10_divide_33 (by decide) rfl ?_
      refine V_aload_n (pc := 35) C dX10_divide_35 rfl rfl ?_
      refine V_iload (pc := 36) C dX10_divide_36 rfl ?_
      refine V_lload (pc := 38) C dX10_divide_38 rfl ?_
      refine V_lload_n (pc := 40) C dX10_divide_40 rfl rfl ?_
      obtain ⟨k3, h⟩ := ck_some h
      refine V_ldiv (pc := 41) C dX10_divide_41 (of_decide_eq_true k3) ?_
      obtain ⟨k4, h⟩ := ck_some h
      refine V_last (pc := 42) C hv1 k4 dX10_divide_42 ?_
      refine V_lload (pc := 43) C dX10_divide_43 rfl ?_
      refine V_lload_n (pc := 45) C dX10_divide_45 rfl rfl ?_
      obtain ⟨k5, h⟩ := ck_some h
      refine V_lrem (pc := 46) C dX10_divide_46 (of_decide_eq_true k5) ?_
      refine V_lstore (L' := [none, some (.ref v1), some (.long v2), none, some (.long (x2 - x2 / v2 * v2)), none, some (.int v6)]) (pc := 47) C dX10_divide_47 (by decide) rfl ?_
      refine V_iinc (L' := [none, some (.ref v1), some (.long v2), none, some (.long (x2 - x2 / v2 * v2)), none, some (.int (v6 + (-1 : Int32)))]) (v := (v6 + (-1 : Int32))) (pc := 49) C dX10_divide_49 rfl (congrArg (v6 + ·) kc_i_m1) (by decide) rfl ?_
      refine V_goto (tgt := 18) (pc := 52) C dX10_divide_52 (by decide) ?_
      exact V_mask [false, true, true, false, true, false, true] (ih _ _ _ _ h hR)
set_option maxRecDepth 100000 in
theorem mX10_divide (l : Launch) {S : zM} {a1 : Nat} {a2 : Int64} {S' : zM} (ha1 : zar cW 2 3 15 a1) (h : gX10_divide S a1 a2 = some S') : zMet l cW zS0 yX10_divide cX10_divide 7 (none) 0 0 [.ref 233, .ref a1, .long a2] S none S' := by
  refine zmeth (by decide +kernel) (by rfl) (fun K hKl C hR => ?_)
  show V K 0 [some (.ref 233), some (.ref a1), some (.long a2), none, none, none, none] [] S
  unfold gX10_divide at h
  refine V_lload_n (pc := 0) C dX10_divide_0 rfl rfl ?_
  refine V_lconst (pc := 1) C dX10_divide_1 (v := (1 : Int64)) rfl ?_
  refine V_lcmp_ge (tgt := 7) (pc := 2) C dX10_divide_2 dX10_divide_3 (by decide) (fun hc => ?_) (fun hc => ?_)
  · have h := it_t hc h
    refine V_lconst (pc := 7) C dX10_divide_7 (v := (0 : Int64)) rfl ?_
    refine V_lstore (L' := [some (.ref 233), some (.ref a1), some (.long a2), none, some (.long (0 : Int64)), none, none]) (pc := 8) C dX10_divide_8 (by decide) rfl ?_
    refine V_aload_n (pc := 10) C dX10_divide_10 rfl rfl ?_
    refine V_getI (pc := 11) C z1_cW_10 fl_RX10_50 (by decide) dX10_divide_11 ?_
    refine V_iconst (pc := 14) C dX10_divide_14 kc_i_1 ?_
    refine V_isub (pc := 15) C dX10_divide_15 ?_
    refine V_istore (L' := [some (.ref 233), some (.ref a1), some (.long a2), none, some (.long (0 : Int64)), none, some (.int ((gI S 233 3) - (1 : Int32)))]) (pc := 16) C dX10_divide_16 (by decide) rfl ?_
    exact V_mask [false, true, true, false, true, false, true] (mX10_divide_L18 C ha1 FU _ _ _ _ h hR)
  · have h := it_f hc h
    cases h
    exact hR 6 _ rfl dX10_divide_6
set_option maxRecDepth 100000 in
theorem mX10_worked_L48 {K : zK} (C : zC K cX10_worked yX10_worked.cls 6 1 26 cW) {v1 : Int32} {v2 : Int32} {v3 : Int32}  : ∀ (f : Nat) (S : zM) (v4 : Int32) (S' : zM), gX10_worked_L48 v1 v2 v3 f S v4 = some S' → V K 80 [some (.ref 233), some (.int v1), some (.int v2), some (.int v3), none, none] [] S' → V K 48 [some (.ref 233), some (.int v1), some (.int v2), some (.int v3), some (.int v4), none] [] S := by
  intro f
  induction f with
  | zero => intro S v4 S' h hx; cases h
  | succ n ih =>
    intro S v4 S' h hx
    unfold gX10_worked_L48 at h
    refine V_iload (pc := 48) C dX10_worked_48 rfl ?_
    refine V_iload_n (pc := 50) C dX10_worked_50 rfl rfl ?_
    refine V_icmp_ge (tgt := 80) (pc := 51) C dX10_worked_51 (by decide) (fun hc => ?_) (fun hc => ?_)
    · have h := it_t hc h
      cases h
      exact V_mask [true, true, true, true, false, false] hx
    · have h := it_f hc h
      refine V_aload_n (pc := 54) C dX10_worked_54 rfl rfl ?_
      refine V_aload_n (pc := 55) C dX10_worked_55 rfl rfl ?_
      refine V_getF (p1 := 234) (pc := 56) C z1_cW_10 fl_RX10_11 rfl (zf_cW_10_0 z1_cW_10) dX10_worked_56 ?_
      refine V_iload_n (pc := 59) C dX10_worked_59 rfl rfl ?_
      refine V_i2l (pc := 60) C dX10_worked_60 ?_
      obtain ⟨S7, euS7, h⟩ := b1_some h
      refine V_callV (As := [.ref 234, .long v3.toInt64]) (pc := 61) C (mX10_multiply _ (za_cW_10_0 z1_cW_10) euS7) zm_X10_multiply zi_X10_multiply ml_RX10_60 z1_cW_10 rfl ⟨Nat.le_of_ble_eq_true rfl, Nat.le_of_ble_eq_true rfl⟩ rfl rfl (Nat.le_of_ble_eq_true rfl) dX10_worked_61 ?_
      show V K 64 [some (.ref 233), some (.int v1), some (.int v2), some (.int v3), some (.int v4), none] [] S7
      refine V_aload_n (pc := 64) C dX10_worked_64 rfl rfl ?_
      refine V_aload_n (pc := 65) C dX10_worked_65 rfl rfl ?_
      refine V_getF (p1 := 235) (pc := 66) C z1_cW_10 fl_RX10_15 rfl (zf_cW_10_1 z1_cW_10) dX10_worked_66 ?_
      refine V_iload_n (pc := 69) C dX10_worked_69 rfl rfl ?_
      refine V_i2l (pc := 70) C dX10_worked_70 ?_
      obtain ⟨S9, euS9, h⟩ := b1_some h
      refine V_callV (As := [.ref 235, .long v2.toInt64]) (pc := 71) C (mX10_multiply _ (za_cW_10_1 z1_cW_10) euS9) zm_X10_multiply zi_X10_multiply ml_RX10_60 z1_cW_10 rfl ⟨Nat.le_of_ble_eq_true rfl, Nat.le_of_ble_eq_true rfl⟩ rfl rfl (Nat.le_of_ble_eq_true rfl) dX10_worked_71 ?_
      show V K 74 [some (.ref 233), some (.int v1), some (.int v2), some (.int v3), some (.int v4), none] [] S9
      refine V_iinc (L' := [some (.ref 233), some (.int v1), some (.int v2), some (.int v3), some (.int (v4 + (1 : Int32))), none]) (v := (v4 + (1 : Int32))) (pc := 74) C dX10_worked_74 rfl (congrArg (v4 + ·) kc_i_1) (by decide) rfl ?_
      refine V_goto (tgt := 48) (pc := 77) C dX10_worked_77 (by decide) ?_
      exact V_mask [true, true, true, true, true, false] (ih _ _ _ h hx)
set_option maxRecDepth 100000 in
theorem mX10_worked_L107 {K : zK} (C : zC K cX10_worked yX10_worked.cls 6 1 26 cW) {v1 : Int32} {v2 : Int32} {v3 : Int32}  : ∀ (f : Nat) (S : zM) (v4 : Int32) (v5 : Int32) (r : Int32) (S' : zM), gX10_worked_L107 v1 v2 v3 f S v4 v5 = some (r, S') → zR K cX10_worked (some .int) S' (some (.int r)) → V K 107 [some (.ref 233), some (.int v1), some (.int v2), some (.int v3), some (.int v4), some (.int v5)] [] S := by
  intro f
  induction f with
  | zero => intro S v4 v5 r S' h hR; cases h
  | succ n ih =>
    intro S v4 v5 r S' h hR
    unfold gX10_worked_L107 at h
    refine V_iload (pc := 107) C dX10_worked_107 rfl ?_
    refine V_iload_n (pc := 109) C dX10_worked_109 rfl rfl ?_
    refine V_icmp_ge (tgt := 183) (pc := 110) C dX10_worked_110 (by decide) (fun hc => ?_) (fun hc => ?_)
    · have h := it_t hc h
      refine V_iload (pc := 183) C dX10_worked_183 rfl ?_
      cases h
      exact hR 185 _ ⟨_, rfl, rfl⟩ dX10_worked_185
    · have h := it_f hc h
      refine V_aload_n (pc := 113) C dX10_worked_113 rfl rfl ?_
      refine V_aload_n (pc := 114) C dX10_worked_114 rfl rfl ?_
      refine V_getF (p1 := 236) (pc := 115) C z1_cW_10 fl_RX10_18 rfl (zf_cW_10_2 z1_cW_10) dX10_worked_115 ?_
      refine V_aload_n (pc := 118) C dX10_worked_118 rfl rfl ?_
      refine V_getF (p1 := 234) (pc := 119) C z1_cW_10 fl_RX10_11 rfl (zf_cW_10_0 z1_cW_10) dX10_worked_119 ?_
      obtain ⟨r15, er15, h⟩ := b1_some h
      refine V_callV (As := [.ref 236, .ref 234]) (pc := 122) C (mX10_isLess _ (za_cW_10_2 z1_cW_10) (za_cW_10_0 z1_cW_10) er15) zm_X10_isLess zi_X10_isLess ml_RX10_67 z1_cW_10 rfl ⟨Nat.le_of_ble_eq_true rfl, Nat.le_of_ble_eq_true rfl⟩ rfl rfl (Nat.le_of_ble_eq_true rfl) dX10_worked_122 ?_
      show V K 125 [some (.ref 233), some (.int v1), some (.int v2), some (.int v3), some (.int v4), some (.int v5)] [.int r15] S
      refine V_if_eq (tgt := 183) (pc := 125) C dX10_worked_125 (by decide) (fun hc => ?_) (fun hc => ?_)
      · have h := it_t hc h
        refine V_iload (pc := 183) C dX10_worked_183 rfl ?_
        cases h
        exact hR 185 _ ⟨_, rfl, rfl⟩ dX10_worked_185
      · have h := it_f hc h
        refine V_aload_n (pc := 128) C dX10_worked_128 rfl rfl ?_
        refine V_aload_n (pc := 129) C dX10_worked_129 rfl rfl ?_
        refine V_getF (p1 := 235) (pc := 130) C z1_cW_10 fl_RX10_15 rfl (zf_cW_10_1 z1_cW_10) dX10_worked_130 ?_
        refine V_iload (pc := 133) C dX10_worked_133 rfl ?_
        refine V_i2l (pc := 135) C dX10_worked_135 ?_
        refine V_iload_n (pc := 136) C dX10_worked_136 rfl rfl ?_
        refine V_iload_n (pc := 137) C dX10_worked_137 rfl rfl ?_
        refine V_isub (pc := 138) C dX10_worked_138 ?_
        refine V_i2l (pc := 139) C dX10_worked_139 ?_
        refine V_lmul (pc := 140) C dX10_worked_140 ?_
        obtain ⟨S17, euS17, h⟩ := b1_some h
        refine V_callV (As := [.ref 235, .long (v4.toInt64 * (v3 - v2).toInt64)]) (pc := 141) C (mX10_multiply _ (za_cW_10_1 z1_cW_10) euS17) zm_X10_multiply zi_X10_multiply ml_RX10_60 z1_cW_10 rfl ⟨Nat.le_of_ble_eq_true rfl, Nat.le_of_ble_eq_true rfl⟩ rfl rfl (Nat.le_of_ble_eq_true rfl) dX10_worked_141 ?_
        show V K 144 [some (.ref 233), some (.int v1), some (.int v2), some (.int v3), some (.int v4), some (.int v5)] [] S17
        refine V_aload_n (pc := 144) C dX10_worked_144 rfl rfl ?_
        refine V_aload_n (pc := 145) C dX10_worked_145 rfl rfl ?_
        refine V_getF (p1 := 235) (pc := 146) C z1_cW_10 fl_RX10_15 rfl (zf_cW_10_1 z1_cW_10) dX10_worked_146 ?_
        refine V_iload_n (pc := 149) C dX10_worked_149 rfl rfl ?_
        refine V_iload (pc := 150) C dX10_worked_150 rfl ?_
        refine V_isub (pc := 152) C dX10_worked_152 ?_
        refine V_iconst (pc := 153) C dX10_worked_153 kc_i_1 ?_
        refine V_iadd (pc := 154) C dX10_worked_154 ?_
        refine V_i2l (pc := 155) C dX10_worked_155 ?_
        refine V_iload_n (pc := 156) C dX10_worked_156 rfl rfl ?_
        refine V_i2l (pc := 157) C dX10_worked_157 ?_
        refine V_lmul (pc := 158) C dX10_worked_158 ?_
        obtain ⟨S19, euS19, h⟩ := b1_some h
        refine V_callV (As := [.ref 235, .long (((v1 - v4) + (1 : Int32)).toInt64 * v2.toInt64)]) (pc := 159) C (mX10_divide _ (za_cW_10_1 z1_cW_10) euS19) zm_X10_divide zi_X10_divide ml_RX10_71 z1_cW_10 rfl ⟨Nat.le_of_ble_eq_true rfl, Nat.le_of_ble_eq_true rfl⟩ rfl rfl (Nat.le_of_ble_eq_true rfl) dX10_worked_159 ?_
        show V K 162 [some (.ref 233), some (.int v1), some (.int v2), some (.int v3), some (.int v4), some (.int v5)] [] S19
        refine V_aload_n (pc := 162) C dX10_worked_162 rfl rfl ?_
        refine V_aload_n (pc := 163) C dX10_worked_163 rfl rfl ?_
        refine V_getF (p1 := 236) (pc := 164) C z1_cW_10 fl_RX10_18 rfl (zf_cW_10_2 z1_cW_10) dX10_worked_164 ?_
        refine V_aload_n (pc := 167) C dX10_worked_167 rfl rfl ?_
        refine V_getF (p1 := 235) (pc := 168) C z1_cW_10 fl_RX10_15 rfl (zf_cW_10_1 z1_cW_10) dX10_worked_168 ?_
        obtain ⟨S21, euS21, h⟩ := b1_some h
        refine V_callV (As := [.ref 236, .ref 235]) (pc := 171) C (mX10_add _ (za_cW_10_2 z1_cW_10) (za_cW_10_1 z1_cW_10) euS21) zm_X10_add zi_X10_add ml_RX10_63 z1_cW_10 rfl ⟨Nat.le_of_ble_eq_true rfl, Nat.le_of_ble_eq_true rfl⟩ rfl rfl (Nat.le_of_ble_eq_true rfl) dX10_worked_171 ?_
        show V K 174 [some (.ref 233), some (.int v1), some (.int v2), some (.int v3), some (.int v4), some (.int v5)] [] S21
        refine V_iinc (L' := [some (.ref 233), some (.int v1), some (.int v2), some (.int v3), some (.int (v4 + (-1 : Int32))), some (.int v5)]) (v := (v4 + (-1 : Int32))) (pc := 174) C dX10_worked_174 rfl (congrArg (v4 + ·) kc_i_m1) (by decide) rfl ?_
        refine V_iinc (L' := [some (.ref 233), some (.int v1), some (.int v2), some (.int v3), some (.int (v4 + (-1 : Int32))), some (.int (v5 + (1 : Int32)))]) (v := (v5 + (1 : Int32))) (pc := 177) C dX10_worked_177 rfl (congrArg (v5 + ·) kc_i_1) (by decide) rfl ?_
        refine V_goto (tgt := 107) (pc := 180) C dX10_worked_180 (by decide) ?_
        exact V_mask [true, true, true, true, true, true] (ih _ _ _ _ _ h hR)
set_option maxRecDepth 100000 in
theorem mX10_worked (l : Launch) {S : zM} {a1 : Int32} {a2 : Int32} {a3 : Int32} {r : Int32} {S' : zM}  (h : gX10_worked S a1 a2 a3 = some (r, S')) : zMet l cW zS0 yX10_worked cX10_worked 6 (some .int) 1 26 [.ref 233, .int a1, .int a2, .int a3] S (some (.int r)) S' := by
  refine zmeth (by decide +kernel) (by rfl) (fun K hKl C hR => ?_)
  show V K 0 [some (.ref 233), some (.int a1), some (.int a2), some (.int a3), none, none] [] S
  unfold gX10_worked at h
  refine V_aload_n (pc := 0) C dX10_worked_0 rfl rfl ?_
  refine V_iconst (pc := 1) C dX10_worked_1 kc_i_1 ?_
  refine V_bipush (pc := 2) C dX10_worked_2 kc_b_15 ?_
  refine V_iload_n (pc := 4) C dX10_worked_4 rfl rfl ?_
  refine V_bipush (pc := 5) C dX10_worked_5 kc_b_14 ?_
  refine V_imul (pc := 7) C dX10_worked_7 ?_
  refine V_bipush (pc := 8) C dX10_worked_8 kc_b_25 ?_
  refine V_iadd (pc := 10) C dX10_worked_10 ?_
  refine V_bipush (pc := 11) C dX10_worked_11 kc_b_40 ?_
  refine V_idiv (pc := 13) C dX10_worked_13 (by decide) ?_
  refine V_iconst (pc := 14) C dX10_worked_14 kc_i_1 ?_
  refine V_iadd (pc := 15) C dX10_worked_15 ?_
  refine V_min (pc := 16) C ml_RX10_41 mt_min.1 mt_min.2.1 mt_min.2.2 ⟨Nat.le_of_ble_eq_true rfl, Nat.le_of_ble_eq_true rfl⟩ dX10_worked_16 ?_
  refine V_max (pc := 19) C ml_RX10_47 mt_max.1 mt_max.2.1 mt_max.2.2 ⟨Nat.le_of_ble_eq_true rfl, Nat.le_of_ble_eq_true rfl⟩ dX10_worked_19 ?_
  refine V_putI (pc := 22) C z1_cW_10 fp_RX10_50 rfl rfl dX10_worked_22 ?_
  obtain ⟨S1, eS1, h⟩ := lt_some h
  refine V_nmS eS1 ?_
  refine V_aload_n (pc := 25) C dX10_worked_25 rfl rfl ?_
  refine V_aload_n (pc := 26) C dX10_worked_26 rfl rfl ?_
  refine V_getF (p1 := 234) (pc := 27) C z1_cW_10 fl_RX10_11 rfl (zf_cW_10_0 z1_cW_10) dX10_worked_27 ?_
  refine V_lconst (pc := 30) C dX10_worked_30 (v := (1 : Int64)) rfl ?_
  obtain ⟨S3, euS3, h⟩ := b1_some h
  refine V_callV (As := [.ref 234, .long (1 : Int64)]) (pc := 31) C (mX10_setTo _ (za_cW_10_0 z1_cW_10) euS3) zm_X10_setTo zi_X10_setTo ml_RX10_54 z1_cW_10 rfl ⟨Nat.le_of_ble_eq_true rfl, Nat.le_of_ble_eq_true rfl⟩ rfl rfl (Nat.le_of_ble_eq_true rfl) dX10_worked_31 ?_
  show V K 34 [some (.ref 233), some (.int a1), some (.int a2), some (.int a3), none, none] [] S3
  refine V_aload_n (pc := 34) C dX10_worked_34 rfl rfl ?_
  refine V_aload_n (pc := 35) C dX10_worked_35 rfl rfl ?_
  refine V_getF (p1 := 235) (pc := 36) C z1_cW_10 fl_RX10_15 rfl (zf_cW_10_1 z1_cW_10) dX10_worked_36 ?_
  refine V_ldc2 (pc := 39) C dX10_worked_39 kl_RX10_58 ?_
  obtain ⟨S5, euS5, h⟩ := b1_some h
  refine V_callV (As := [.ref 235, .long (40 : Int64)]) (pc := 42) C (mX10_setTo _ (za_cW_10_1 z1_cW_10) euS5) zm_X10_setTo zi_X10_setTo ml_RX10_54 z1_cW_10 rfl ⟨Nat.le_of_ble_eq_true rfl, Nat.le_of_ble_eq_true rfl⟩ rfl rfl (Nat.le_of_ble_eq_true rfl) dX10_worked_42 ?_
  show V K 45 [some (.ref 233), some (.int a1), some (.int a2), some (.int a3), none, none] [] S5
  refine V_iconst (pc := 45) C dX10_worked_45 kc_i_0 ?_
  refine V_istore (L' := [some (.ref 233), some (.int a1), some (.int a2), some (.int a3), some (.int (0 : Int32)), none]) (pc := 46) C dX10_worked_46 (by decide) rfl ?_
  obtain ⟨S10, e48, h⟩ := b1_some h
  refine V_mask [true, true, true, true, true, false] (mX10_worked_L48 C  FU _ _ _ e48 ?_)
  refine V_aload_n (pc := 80) C dX10_worked_80 rfl rfl ?_
  refine V_aload_n (pc := 81) C dX10_worked_81 rfl rfl ?_
  refine V_getF (p1 := 236) (pc := 82) C z1_cW_10 fl_RX10_18 rfl (zf_cW_10_2 z1_cW_10) dX10_worked_82 ?_
  refine V_lconst (pc := 85) C dX10_worked_85 (v := (0 : Int64)) rfl ?_
  obtain ⟨S12, euS12, h⟩ := b1_some h
  refine V_callV (As := [.ref 236, .long (0 : Int64)]) (pc := 86) C (mX10_setTo _ (za_cW_10_2 z1_cW_10) euS12) zm_X10_setTo zi_X10_setTo ml_RX10_54 z1_cW_10 rfl ⟨Nat.le_of_ble_eq_true rfl, Nat.le_of_ble_eq_true rfl⟩ rfl rfl (Nat.le_of_ble_eq_true rfl) dX10_worked_86 ?_
  show V K 89 [some (.ref 233), some (.int a1), some (.int a2), some (.int a3), none, none] [] S12
  refine V_aload_n (pc := 89) C dX10_worked_89 rfl rfl ?_
  refine V_aload_n (pc := 90) C dX10_worked_90 rfl rfl ?_
  refine V_getF (p1 := 236) (pc := 91) C z1_cW_10 fl_RX10_18 rfl (zf_cW_10_2 z1_cW_10) dX10_worked_91 ?_
  refine V_aload_n (pc := 94) C dX10_worked_94 rfl rfl ?_
  refine V_getF (p1 := 235) (pc := 95) C z1_cW_10 fl_RX10_15 rfl (zf_cW_10_1 z1_cW_10) dX10_worked_95 ?_
  obtain ⟨S14, euS14, h⟩ := b1_some h
  refine V_callV (As := [.ref 236, .ref 235]) (pc := 98) C (mX10_add _ (za_cW_10_2 z1_cW_10) (za_cW_10_1 z1_cW_10) euS14) zm_X10_add zi_X10_add ml_RX10_63 z1_cW_10 rfl ⟨Nat.le_of_ble_eq_true rfl, Nat.le_of_ble_eq_true rfl⟩ rfl rfl (Nat.le_of_ble_eq_true rfl) dX10_worked_98 ?_
  show V K 101 [some (.ref 233), some (.int a1), some (.int a2), some (.int a3), none, none] [] S14
  refine V_iload_n (pc := 101) C dX10_worked_101 rfl rfl ?_
  refine V_istore (L' := [some (.ref 233), some (.int a1), some (.int a2), some (.int a3), some (.int a1), none]) (pc := 102) C dX10_worked_102 (by decide) rfl ?_
  refine V_iconst (pc := 104) C dX10_worked_104 kc_i_0 ?_
  refine V_istore (L' := [some (.ref 233), some (.int a1), some (.int a2), some (.int a3), some (.int a1), some (.int (0 : Int32))]) (pc := 105) C dX10_worked_105 (by decide) rfl ?_
  exact V_mask [true, true, true, true, true, true] (mX10_worked_L107 C  FU _ _ _ _ _ h hR)
set_option maxRecDepth 100000 in
theorem mX10_greatest (l : Launch) {S : zM} {a1 : Int32} {a2 : Int32} {a3 : Int32} {r : Int32} {S' : zM}  (h : gX10_greatest S a1 a2 a3 = some (r, S')) : zMet l cW zS0 yX10_greatest cX10_greatest 7 (some .int) 2 51 [.ref 233, .int a1, .int a2, .int a3] S (some (.int r)) S' := by
  refine zmeth (by decide +kernel) (by rfl) (fun K hKl C hR => ?_)
  show V K 0 [some (.ref 233), some (.int a1), some (.int a2), some (.int a3), none, none, none] [] S
  unfold gX10_greatest at h
  refine V_iload_n (pc := 0) C dX10_greatest_0 rfl rfl ?_
  refine V_if_gt (tgt := 6) (pc := 1) C dX10_greatest_1 (by decide) (fun hc => ?_) (fun hc => ?_)
  · have h := it_t hc h
    refine V_iload_n (pc := 6) C dX10_greatest_6 rfl rfl ?_
    refine V_iload_n (pc := 7) C dX10_greatest_7 rfl rfl ?_
    refine V_icmp_lt (tgt := 13) (pc := 8) C dX10_greatest_8 (by decide) (fun hc => ?_) (fun hc => ?_)
    · have h := it_t hc h
      refine V_iload_n (pc := 13) C dX10_greatest_13 rfl rfl ?_
      refine V_i2l (pc := 14) C dX10_greatest_14 ?_
      refine V_ldc2 (pc := 15) C dX10_greatest_15 kl_RX10_32 ?_
      refine V_lmul (pc := 18) C dX10_greatest_18 ?_
      refine V_iload_n (pc := 19) C dX10_greatest_19 rfl rfl ?_
      refine V_i2l (pc := 20) C dX10_greatest_20 ?_
      refine V_ladd (pc := 21) C dX10_greatest_21 ?_
      refine V_ldc2 (pc := 22) C dX10_greatest_22 kl_RX10_34 ?_
      refine V_lmul (pc := 25) C dX10_greatest_25 ?_
      refine V_iload_n (pc := 26) C dX10_greatest_26 rfl rfl ?_
      refine V_i2l (pc := 27) C dX10_greatest_27 ?_
      refine V_ladd (pc := 28) C dX10_greatest_28 ?_
      obtain ⟨x1, ex1, h⟩ := lt_some h
      refine V_nmJ ex1 ?_
      refine V_lstore (L' := [some (.ref 233), some (.int a1), some (.int a2), some (.int a3), some (.long x1), none, none]) (pc := 29) C dX10_greatest_29 (by decide) rfl ?_
      refine V_lload (pc := 31) C dX10_greatest_31 rfl ?_
      refine V_ldc2 (pc := 33) C dX10_greatest_33 kl_RX10_36 ?_
      refine V_lmul (pc := 36) C dX10_greatest_36 ?_
      refine V_bipush (pc := 37) C dX10_greatest_37 kc_b_53 ?_
      refine V_lushr (pc := 39) C dX10_greatest_39 ?_
      refine V_l2i (pc := 40) C dX10_greatest_40 ?_
      obtain ⟨x2, ex2, h⟩ := lt_some h
      refine V_nmI ex2 ?_
      refine V_istore (L' := [some (.ref 233), some (.int a1), some (.int a2), some (.int a3), some (.long x1), none, some (.int x2)]) (pc := 41) C dX10_greatest_41 (by decide) rfl ?_
      refine V_aload_n (pc := 43) C dX10_greatest_43 rfl rfl ?_
      refine V_getF (p1 := 237) (pc := 44) C z1_cW_10 fl_RX10_21 rfl (zf_cW_10_4 z1_cW_10) dX10_greatest_44 ?_
      refine V_iload (pc := 47) C dX10_greatest_47 rfl ?_
      obtain ⟨k3, h⟩ := ck_some h
      refine V_lald (pc := 49) C (za_cW_10_4 z1_cW_10) k3 dX10_greatest_49 ?_
      refine V_lload (pc := 50) C dX10_greatest_50 rfl ?_
      refine V_lcmp_eq (tgt := 79) (pc := 52) C dX10_greatest_52 dX10_greatest_53 (by decide) (fun hc => ?_) (fun hc => ?_)
      · have h := it_t hc h
        refine V_aload_n (pc := 79) C dX10_greatest_79 rfl rfl ?_
        refine V_getF (p1 := 238) (pc := 80) C z1_cW_10 fl_RX10_24 rfl (zf_cW_10_5 z1_cW_10) dX10_greatest_80 ?_
        refine V_iload (pc := 83) C dX10_greatest_83 rfl ?_
        obtain ⟨k4, h⟩ := ck_some h
        refine V_iald (pc := 85) C (za_cW_10_5 z1_cW_10) k4 dX10_greatest_85 ?_
        cases h
        exact hR 86 _ ⟨_, rfl, rfl⟩ dX10_greatest_86
      · have h := it_f hc h
        refine V_aload_n (pc := 56) C dX10_greatest_56 rfl rfl ?_
        refine V_getF (p1 := 238) (pc := 57) C z1_cW_10 fl_RX10_24 rfl (zf_cW_10_5 z1_cW_10) dX10_greatest_57 ?_
        refine V_iload (pc := 60) C dX10_greatest_60 rfl ?_
        refine V_aload_n (pc := 62) C dX10_greatest_62 rfl rfl ?_
        refine V_iload_n (pc := 63) C dX10_greatest_63 rfl rfl ?_
        refine V_iload_n (pc := 64) C dX10_greatest_64 rfl rfl ?_
        refine V_iload_n (pc := 65) C dX10_greatest_65 rfl rfl ?_
        obtain ⟨r5, S6, er5, h⟩ := b2_some h
        refine V_callV (As := [.int a1, .int a2, .int a3]) (pc := 66) C (mX10_worked _ er5) zm_X10_worked zi_X10_worked ml_RX10_38 z1_cW_10 rfl ⟨Nat.le_of_ble_eq_true rfl, Nat.le_of_ble_eq_true rfl⟩ rfl rfl (Nat.le_of_ble_eq_true rfl) dX10_greatest_66 ?_
        show V K 69 [some (.ref 233), some (.int a1), some (.int a2), some (.int a3), some (.long x1), none, some (.int x2)] [.int r5, .int x2, .ref 238] S6
        obtain ⟨k7, h⟩ := ck_some h
        refine V_iast (pc := 69) C (za_cW_10_5 z1_cW_10) k7 dX10_greatest_69 ?_
        refine V_aload_n (pc := 70) C dX10_greatest_70 rfl rfl ?_
        refine V_getF (p1 := 237) (pc := 71) C z1_cW_10 fl_RX10_21 rfl (zf_cW_10_4 z1_cW_10) dX10_greatest_71 ?_
        refine V_iload (pc := 74) C dX10_greatest_74 rfl ?_
        refine V_lload (pc := 76) C dX10_greatest_76 rfl ?_
        obtain ⟨k8, h⟩ := ck_some h
        refine V_last (pc := 78) C (za_cW_10_4 z1_cW_10) k8 dX10_greatest_78 ?_
        refine V_aload_n (pc := 79) C dX10_greatest_79 rfl rfl ?_
        refine V_getF (p1 := 238) (pc := 80) C z1_cW_10 fl_RX10_24 rfl (zf_cW_10_5 z1_cW_10) dX10_greatest_80 ?_
        refine V_iload (pc := 83) C dX10_greatest_83 rfl ?_
        obtain ⟨k9, h⟩ := ck_some h
        refine V_iald (pc := 85) C (za_cW_10_5 z1_cW_10) k9 dX10_greatest_85 ?_
        cases h
        exact hR 86 _ ⟨_, rfl, rfl⟩ dX10_greatest_86
    · have h := it_f hc h
      refine V_iload_n (pc := 11) C dX10_greatest_11 rfl rfl ?_
      cases h
      exact hR 12 _ ⟨_, rfl, rfl⟩ dX10_greatest_12
  · have h := it_f hc h
    refine V_iconst (pc := 4) C dX10_greatest_4 kc_i_0 ?_
    cases h
    exact hR 5 _ ⟨_, rfl, rfl⟩ dX10_greatest_5
set_option maxRecDepth 100000 in
theorem mX10_holds (l : Launch) {S : zM} {a1 : Int32} {a2 : Int32} {a3 : Int32} {a4 : Int32} {r : Int32} {S' : zM}  (h : gX10_holds S a1 a2 a3 a4 = some (r, S')) : zMet l cW zS0 yX10_holds cX10_holds 5 (some .boolean) 3 77 [.ref 233, .int a1, .int a2, .int a3, .int a4] S (some (.int r)) S' := by
  refine zmeth (by decide +kernel) (by rfl) (fun K hKl C hR => ?_)
  show V K 0 [some (.ref 233), some (.int a1), some (.int a2), some (.int a3), some (.int a4)] [] S
  unfold gX10_holds at h
  refine V_iload (pc := 0) C dX10_holds_0 rfl ?_
  refine V_aload_n (pc := 2) C dX10_holds_2 rfl rfl ?_
  refine V_iload_n (pc := 3) C dX10_holds_3 rfl rfl ?_
  refine V_iload_n (pc := 4) C dX10_holds_4 rfl rfl ?_
  refine V_iload_n (pc := 5) C dX10_holds_5 rfl rfl ?_
  obtain ⟨r1, S2, er1, h⟩ := b2_some h
  refine V_callV (As := [.int a1, .int a2, .int a3]) (pc := 6) C (mX10_greatest _ er1) zm_X10_greatest zi_X10_greatest ml_RX10_28 z1_cW_10 rfl ⟨Nat.le_of_ble_eq_true rfl, Nat.le_of_ble_eq_true rfl⟩ rfl rfl (Nat.le_of_ble_eq_true rfl) dX10_holds_6 ?_
  show V K 9 [some (.ref 233), some (.int a1), some (.int a2), some (.int a3), some (.int a4)] [.int r1, .int a4] S2
  refine V_icmp_gt (tgt := 32) (pc := 9) C dX10_holds_9 (by decide) (fun hc => ?_) (fun hc => ?_)
  · have h := it_t hc h
    refine V_iconst (pc := 32) C dX10_holds_32 kc_i_0 ?_
    cases h
    exact hR 33 _ ⟨_, rfl, zB0⟩ dX10_holds_33
  · have h := it_f hc h
    refine V_iload_n (pc := 12) C dX10_holds_12 rfl rfl ?_
    refine V_iload (pc := 13) C dX10_holds_13 rfl ?_
    refine V_isub (pc := 15) C dX10_holds_15 ?_
    refine V_aload_n (pc := 16) C dX10_holds_16 rfl rfl ?_
    refine V_iload_n (pc := 17) C dX10_holds_17 rfl rfl ?_
    refine V_iload_n (pc := 18) C dX10_holds_18 rfl rfl ?_
    refine V_iload_n (pc := 19) C dX10_holds_19 rfl rfl ?_
    refine V_isub (pc := 20) C dX10_holds_20 ?_
    refine V_iload_n (pc := 21) C dX10_holds_21 rfl rfl ?_
    obtain ⟨r3, S4, er3, h⟩ := b2_some h
    refine V_callV (As := [.int a1, .int (a3 - a2), .int a3]) (pc := 22) C (mX10_greatest _ er3) zm_X10_greatest zi_X10_greatest ml_RX10_28 z1_cW_10 rfl ⟨Nat.le_of_ble_eq_true rfl, Nat.le_of_ble_eq_true rfl⟩ rfl rfl (Nat.le_of_ble_eq_true rfl) dX10_holds_22 ?_
    show V K 25 [some (.ref 233), some (.int a1), some (.int a2), some (.int a3), some (.int a4)] [.int r3, .int (a1 - a4)] S4
    refine V_icmp_gt (tgt := 32) (pc := 25) C dX10_holds_25 (by decide) (fun hc => ?_) (fun hc => ?_)
    · have h := it_t hc h
      refine V_iconst (pc := 32) C dX10_holds_32 kc_i_0 ?_
      cases h
      exact hR 33 _ ⟨_, rfl, zB0⟩ dX10_holds_33
    · have h := it_f hc h
      refine V_iconst (pc := 28) C dX10_holds_28 kc_i_1 ?_
      refine V_goto (tgt := 33) (pc := 29) C dX10_holds_29 (by decide) ?_
      cases h
      exact hR 33 _ ⟨_, rfl, zB1⟩ dX10_holds_33
set_option maxRecDepth 100000 in
theorem mX2_lineLets_L58 {K : zK} (C : zC K cX2_lineLets yX2_lineLets.cls 9 4 101 cW) {v1 : Int32} {v2 : Nat} {v3 : Int32} {v5 : Nat} {v6 : Int32} {v7 : Int32} (hv2 : zob cW 9 v2) (hv5 : zob cW 4 v5) : ∀ (f : Nat) (S : zM) (v8 : Int32) (out : ((Int32 × zM) ⊕ zM)), gX2_lineLets_L58 v1 v2 v3 v5 v6 v7 f S v8 = some out → (∀ (S' : zM), out = .inr S' → V K 113 [some (.ref 221), some (.int v1), some (.ref v2), some (.int v3), some (.ref 233), some (.ref v5), some (.int v6), none, none] [] S') → (∀ r' : (Int32 × zM), out = .inl r' → zR K cX2_lineLets (some .boolean) r'.2 (some (.int (r'.1)))) → V K 58 [some (.ref 221), some (.int v1), some (.ref v2), some (.int v3), some (.ref 233), some (.ref v5), some (.int v6), some (.int v7), some (.int v8)] [] S := by
  intro f
  induction f with
  | zero => intro S v8 out h hx hret; cases h
  | succ n ih =>
    intro S v8 out h hx hret
    unfold gX2_lineLets_L58 at h
    refine V_iload (pc := 58) C dX2_lineLets_58 rfl ?_
    refine V_iconst (pc := 60) C dX2_lineLets_60 kc_i_1 ?_
    refine V_icmp_gt (tgt := 113) (pc := 61) C dX2_lineLets_61 (by decide) (fun hc => ?_) (fun hc => ?_)
    · have h := it_t hc h
      cases h
      exact V_mask [true, true, true, true, true, true, true, false, false] (hx _ rfl)
    · have h := it_f hc h
      refine V_aload (pc := 64) C dX2_lineLets_64 rfl ?_
      refine V_aload_n (pc := 66) C dX2_lineLets_66 rfl rfl ?_
      refine V_getF (p1 := 227) (pc := 67) C z1_cW_2 fl_RX2_27 rfl (zf_cW_2_5 z1_cW_2) dX2_lineLets_67 ?_
      refine V_iload (pc := 70) C dX2_lineLets_70 rfl ?_
      obtain ⟨k6, h⟩ := ck_some h
      refine V_iald (pc := 72) C (za_cW_2_5 z1_cW_2) k6 dX2_lineLets_72 ?_
      refine V_aload (pc := 73) C dX2_lineLets_73 rfl ?_
      refine V_iload (pc := 75) C dX2_lineLets_75 rfl ?_
      refine V_iload (pc := 77) C dX2_lineLets_77 rfl ?_
      obtain ⟨r7, er7, h⟩ := b1_some h
      refine V_callV (As := [.int v7, .int v8]) (pc := 79) C (mX4_aloneOdds _ hv5 er7) zm_X4_aloneOdds zi_X4_aloneOdds ml_RX2_97 hv5 rfl ⟨Nat.le_of_ble_eq_true rfl, Nat.le_of_ble_eq_true rfl⟩ rfl rfl (Nat.le_of_ble_eq_true rfl) dX2_lineLets_79 ?_
      show V K 82 [some (.ref 221), some (.int v1), some (.ref v2), some (.int v3), some (.ref 233), some (.ref v5), some (.int v6), some (.int v7), some (.int v8)] [.int r7, .int (gI S 227 (ix v6)), .ref 233] S
      refine V_aload (pc := 82) C dX2_lineLets_82 rfl ?_
      refine V_getI (pc := 84) C hv5 fl_RX2_102 (by decide) dX2_lineLets_84 ?_
      refine V_aload_n (pc := 87) C dX2_lineLets_87 rfl rfl ?_
      refine V_getF (p1 := 228) (pc := 88) C z1_cW_2 fl_RX2_30 rfl (zf_cW_2_6 z1_cW_2) dX2_lineLets_88 ?_
      refine V_iload (pc := 91) C dX2_lineLets_91 rfl ?_
      refine V_iconst (pc := 93) C dX2_lineLets_93 kc_i_3 ?_
      refine V_imul (pc := 94) C dX2_lineLets_94 ?_
      refine V_iload (pc := 95) C dX2_lineLets_95 rfl ?_
      refine V_iadd (pc := 97) C dX2_lineLets_97 ?_
      obtain ⟨k8, h⟩ := ck_some h
      refine V_iald (pc := 98) C (za_cW_2_6 z1_cW_2) k8 dX2_lineLets_98 ?_
      obtain ⟨r9, S10, er9, h⟩ := b2_some h
      refine V_callV (As := [.int (gI S 227 (ix v6)), .int r7, .int (gI S v5 3), .int (gI S 228 (ix ((v6 * (3 : Int32)) + v8)))]) (pc := 99) C (mX10_holds _ er9) zm_X10_holds zi_X10_holds ml_RX2_105 z1_cW_10 rfl ⟨Nat.le_of_ble_eq_true rfl, Nat.le_of_ble_eq_true rfl⟩ rfl rfl (Nat.le_of_ble_eq_true rfl) dX2_lineLets_99 ?_
      show V K 102 [some (.ref 221), some (.int v1), some (.ref v2), some (.int v3), some (.ref 233), some (.ref v5), some (.int v6), some (.int v7), some (.int v8)] [.int r9] S10
      refine V_if_ne (tgt := 107) (pc := 102) C dX2_lineLets_102 (by decide) (fun hc => ?_) (fun hc => ?_)
      · have h := it_f hc h
        refine V_iinc (L' := [some (.ref 221), some (.int v1), some (.ref v2), some (.int v3), some (.ref 233), some (.ref v5), some (.int v6), some (.int v7), some (.int (v8 + (1 : Int32)))]) (v := (v8 + (1 : Int32))) (pc := 107) C dX2_lineLets_107 rfl (congrArg (v8 + ·) kc_i_1) (by decide) rfl ?_
        refine V_goto (tgt := 58) (pc := 110) C dX2_lineLets_110 (by decide) ?_
        exact V_mask [true, true, true, true, true, true, true, true, true] (ih _ _ _ h hx hret)
      · have h := it_t hc h
        refine V_iconst (pc := 105) C dX2_lineLets_105 kc_i_0 ?_
        cases h
        exact (hret _ rfl) 106 _ ⟨_, rfl, zB0⟩ dX2_lineLets_106
set_option maxRecDepth 100000 in
theorem mX2_lineLets_L9 {K : zK} (C : zC K cX2_lineLets yX2_lineLets.cls 9 4 101 cW) {v1 : Int32} {v2 : Nat} {v3 : Int32} {v5 : Nat} (hv2 : zob cW 9 v2) (hv5 : zob cW 4 v5) : ∀ (f : Nat) (S : zM) (v6 : Int32) (r : Int32) (S' : zM), gX2_lineLets_L9 v1 v2 v3 v5 f S v6 = some (r, S') → zR K cX2_lineLets (some .boolean) S' (some (.int r)) → V K 9 [some (.ref 221), some (.int v1), some (.ref v2), some (.int v3), some (.ref 233), some (.ref v5), some (.int v6), none, none] [] S := by
  intro f
  induction f with
  | zero => intro S v6 r S' h hR; cases h
  | succ n ih =>
    intro S v6 r S' h hR
    unfold gX2_lineLets_L9 at h
    refine V_iload (pc := 9) C dX2_lineLets_9 rfl ?_
    refine V_aload_n (pc := 11) C dX2_lineLets_11 rfl rfl ?_
    refine V_getI (pc := 12) C z1_cW_2 fl_RX2_45 (by decide) dX2_lineLets_12 ?_
    refine V_icmp_ge (tgt := 119) (pc := 15) C dX2_lineLets_15 (by decide) (fun hc => ?_) (fun hc => ?_)
    · have h := it_t hc h
      refine V_iconst (pc := 119) C dX2_lineLets_119 kc_i_1 ?_
      cases h
      exact hR 120 _ ⟨_, rfl, zB1⟩ dX2_lineLets_120
    · have h := it_f hc h
      refine V_aload_n (pc := 18) C dX2_lineLets_18 rfl rfl ?_
      refine V_getF (p1 := 223) (pc := 19) C z1_cW_2 fl_RX2_15 rfl (zf_cW_2_1 z1_cW_2) dX2_lineLets_19 ?_
      refine V_iload (pc := 22) C dX2_lineLets_22 rfl ?_
      obtain ⟨k2, h⟩ := ck_some h
      refine V_iald (pc := 24) C (za_cW_2_1 z1_cW_2) k2 dX2_lineLets_24 ?_
      refine V_iload_n (pc := 25) C dX2_lineLets_25 rfl rfl ?_
      refine V_icmp_ne (tgt := 113) (pc := 26) C dX2_lineLets_26 (by decide) (fun hc => ?_) (fun hc => ?_)
      · have h := it_f hc h
        refine V_iinc (L' := [some (.ref 221), some (.int v1), some (.ref v2), some (.int v3), some (.ref 233), some (.ref v5), some (.int (v6 + (1 : Int32))), none, none]) (v := (v6 + (1 : Int32))) (pc := 113) C dX2_lineLets_113 rfl (congrArg (v6 + ·) kc_i_1) (by decide) rfl ?_
        refine V_goto (tgt := 9) (pc := 116) C dX2_lineLets_116 (by decide) ?_
        exact V_mask [true, true, true, true, true, true, true, false, false] (ih _ _ _ _ h hR)
      · have h := it_t hc h
        refine V_aload_n (pc := 29) C dX2_lineLets_29 rfl rfl ?_
        refine V_getF (p1 := 224) (pc := 30) C z1_cW_2 fl_RX2_18 rfl (zf_cW_2_2 z1_cW_2) dX2_lineLets_30 ?_
        refine V_iload (pc := 33) C dX2_lineLets_33 rfl ?_
        obtain ⟨k3, h⟩ := ck_some h
        refine V_iald (pc := 35) C (za_cW_2_2 z1_cW_2) k3 dX2_lineLets_35 ?_
        refine V_iconst (pc := 36) C dX2_lineLets_36 kc_i_1 ?_
        refine V_icmp_ne (tgt := 113) (pc := 37) C dX2_lineLets_37 (by decide) (fun hc => ?_) (fun hc => ?_)
        · have h := it_f hc h
          refine V_iinc (L' := [some (.ref 221), some (.int v1), some (.ref v2), some (.int v3), some (.ref 233), some (.ref v5), some (.int (v6 + (1 : Int32))), none, none]) (v := (v6 + (1 : Int32))) (pc := 113) C dX2_lineLets_113 rfl (congrArg (v6 + ·) kc_i_1) (by decide) rfl ?_
          refine V_goto (tgt := 9) (pc := 116) C dX2_lineLets_116 (by decide) ?_
          exact V_mask [true, true, true, true, true, true, true, false, false] (ih _ _ _ _ h hR)
        · have h := it_t hc h
          refine V_aload_n (pc := 40) C dX2_lineLets_40 rfl rfl ?_
          refine V_aload_n (pc := 41) C dX2_lineLets_41 rfl rfl ?_
          refine V_getF (p1 := 225) (pc := 42) C z1_cW_2 fl_RX2_21 rfl (zf_cW_2_3 z1_cW_2) dX2_lineLets_42 ?_
          refine V_iload (pc := 45) C dX2_lineLets_45 rfl ?_
          obtain ⟨k4, h⟩ := ck_some h
          refine V_iald (pc := 47) C (za_cW_2_3 z1_cW_2) k4 dX2_lineLets_47 ?_
          obtain ⟨r5, er5, h⟩ := b1_some h
          refine V_callV (As := [.int (gI S 225 (ix v6))]) (pc := 48) C (mX9_levelAt _ hv2 er5) zm_X9_levelAt zi_X9_levelAt ml_RX2_93 hv2 rfl ⟨Nat.le_of_ble_eq_true rfl, Nat.le_of_ble_eq_true rfl⟩ rfl rfl (Nat.le_of_ble_eq_true rfl) dX2_lineLets_48 ?_
          show V K 51 [some (.ref 221), some (.int v1), some (.ref v2), some (.int v3), some (.ref 233), some (.ref v5), some (.int v6), none, none] [.int r5] S
          refine V_iload_n (pc := 51) C dX2_lineLets_51 rfl rfl ?_
          refine V_isub (pc := 52) C dX2_lineLets_52 ?_
          refine V_istore (L' := [some (.ref 221), some (.int v1), some (.ref v2), some (.int v3), some (.ref 233), some (.ref v5), some (.int v6), some (.int (r5 - v3)), none]) (pc := 53) C dX2_lineLets_53 (by decide) rfl ?_
          refine V_iconst (pc := 55) C dX2_lineLets_55 kc_i_0 ?_
          refine V_istore (L' := [some (.ref 221), some (.int v1), some (.ref v2), some (.int v3), some (.ref 233), some (.ref v5), some (.int v6), some (.int (r5 - v3)), some (.int (0 : Int32))]) (pc := 56) C dX2_lineLets_56 (by decide) rfl ?_
          obtain ⟨out58, e58, hr58, hx58⟩ := lm_some h
          refine V_mask [true, true, true, true, true, true, true, true, true] (mX2_lineLets_L58 C hv2 hv5 FU _ _ _ e58 ?_ ?_)
          · intro S11 eo
            have h := hx58 _ eo
            refine V_iinc (L' := [some (.ref 221), some (.int v1), some (.ref v2), some (.int v3), some (.ref 233), some (.ref v5), some (.int (v6 + (1 : Int32))), none, none]) (v := (v6 + (1 : Int32))) (pc := 113) C dX2_lineLets_113 rfl (congrArg (v6 + ·) kc_i_1) (by decide) rfl ?_
            refine V_goto (tgt := 9) (pc := 116) C dX2_lineLets_116 (by decide) ?_
            exact V_mask [true, true, true, true, true, true, true, false, false] (ih _ _ _ _ h hR)
          · intro r' eo
            cases hr58 _ eo
            exact hR
set_option maxRecDepth 100000 in
theorem mX2_lineLets (l : Launch) {S : zM} {a1 : Int32} {a2 : Nat} {a3 : Int32} {r : Int32} {S' : zM} (ha2 : zob cW 9 a2) (h : gX2_lineLets S a1 a2 a3 = some (r, S')) : zMet l cW zS0 yX2_lineLets cX2_lineLets 9 (some .boolean) 4 101 [.ref 221, .int a1, .ref a2, .int a3, .ref 233] S (some (.int r)) S' := by
  refine zmeth (by decide +kernel) (by rfl) (fun K hKl C hR => ?_)
  show V K 0 [some (.ref 221), some (.int a1), some (.ref a2), some (.int a3), some (.ref 233), none, none, none, none] [] S
  unfold gX2_lineLets at h
  refine V_aload_n (pc := 0) C dX2_lineLets_0 rfl rfl ?_
  obtain ⟨r1, er1, h⟩ := b1_some h
  refine V_callV (As := []) (pc := 1) C (mX9_fresh _ ha2 er1) zm_X9_fresh zi_X9_fresh ml_RX2_87 ha2 rfl ⟨Nat.le_of_ble_eq_true rfl, Nat.le_of_ble_eq_true rfl⟩ rfl rfl (Nat.le_of_ble_eq_true rfl) dX2_lineLets_1 ?_
  show V K 4 [some (.ref 221), some (.int a1), some (.ref a2), some (.int a3), some (.ref 233), none, none, none, none] [.ref r1] S
  refine V_astore (L' := [some (.ref 221), some (.int a1), some (.ref a2), some (.int a3), some (.ref 233), some (.ref r1), none, none, none]) (pc := 4) C dX2_lineLets_4 (by decide) rfl ?_
  refine V_iconst (pc := 6) C dX2_lineLets_6 kc_i_0 ?_
  refine V_istore (L' := [some (.ref 221), some (.int a1), some (.ref a2), some (.int a3), some (.ref 233), some (.ref r1), some (.int (0 : Int32)), none, none]) (pc := 7) C dX2_lineLets_7 (by decide) rfl ?_
  exact V_mask [true, true, true, true, true, true, true, false, false] (mX2_lineLets_L9 C ha2 (mX9_fresh_f ha2 er1) FU _ _ _ _ h hR)
set_option maxRecDepth 100000 in
theorem mX4_pairsAbove (l : Launch) {S : zM} {q : Nat} {a1 : Int32} {r : Int32} (hq : zob cW 4 q) (h : gX4_pairsAbove S q a1 = some r) : zMet l cW zS0 yX4_pairsAbove cX4_pairsAbove 2 (some .int) 1 21 [.ref q, .int a1] S (some (.int r)) S := by
  refine zmeth (by decide +kernel) (by rfl) (fun K hKl C hR => ?_)
  show V K 0 [some (.ref q), some (.int a1)] [] S
  unfold gX4_pairsAbove at h
  refine V_aload_n (pc := 0) C dX4_pairsAbove_0 rfl rfl ?_
  refine V_getF (p1 := (q + 3)) (pc := 1) C hq fl_RX4_18 rfl (zf_cW_4_2 hq) dX4_pairsAbove_1 ?_
  refine V_iconst (pc := 4) C dX4_pairsAbove_4 kc_i_0 ?_
  refine V_aload_n (pc := 5) C dX4_pairsAbove_5 rfl rfl ?_
  refine V_getF (p1 := (q + 3)) (pc := 6) C hq fl_RX4_18 rfl (zf_cW_4_2 hq) dX4_pairsAbove_6 ?_
  refine V_alen (v := (22 : Int32)) (pc := 9) C (za_cW_4_2 hq) (by decide) (fun _ => rfl) (by decide) dX4_pairsAbove_9 ?_
  refine V_iconst (pc := 10) C dX4_pairsAbove_10 kc_i_1 ?_
  refine V_isub (pc := 11) C dX4_pairsAbove_11 ?_
  refine V_iload_n (pc := 12) C dX4_pairsAbove_12 rfl rfl ?_
  refine V_bipush (pc := 13) C dX4_pairsAbove_13 kc_b_10 ?_
  refine V_iadd (pc := 15) C dX4_pairsAbove_15 ?_
  refine V_iconst (pc := 16) C dX4_pairsAbove_16 kc_i_1 ?_
  refine V_iadd (pc := 17) C dX4_pairsAbove_17 ?_
  refine V_min (pc := 18) C ml_RX4_35 mt_min.1 mt_min.2.1 mt_min.2.2 ⟨Nat.le_of_ble_eq_true rfl, Nat.le_of_ble_eq_true rfl⟩ dX4_pairsAbove_18 ?_
  refine V_max (pc := 21) C ml_RX4_41 mt_max.1 mt_max.2.1 mt_max.2.2 ⟨Nat.le_of_ble_eq_true rfl, Nat.le_of_ble_eq_true rfl⟩ dX4_pairsAbove_21 ?_
  obtain ⟨k1, h⟩ := ck_some h
  refine V_iald (pc := 24) C (za_cW_4_2 hq) k1 dX4_pairsAbove_24 ?_
  cases h
  exact hR 25 _ ⟨_, rfl, rfl⟩ dX4_pairsAbove_25
set_option maxRecDepth 100000 in
theorem mX4_pairs (l : Launch) {S : zM} {q : Nat} {r : Int32} (hq : zob cW 4 q) (h : gX4_pairs S q = some r) : zMet l cW zS0 yX4_pairs cX4_pairs 1 (some .int) 0 0 [.ref q] S (some (.int r)) S := by
  refine zmeth (by decide +kernel) (by rfl) (fun K hKl C hR => ?_)
  show V K 0 [some (.ref q)] [] S
  unfold gX4_pairs at h
  refine V_aload_n (pc := 0) C dX4_pairs_0 rfl rfl ?_
  refine V_getI (pc := 1) C hq fl_RX4_31 (by decide) dX4_pairs_1 ?_
  refine V_aload_n (pc := 4) C dX4_pairs_4 rfl rfl ?_
  refine V_getI (pc := 5) C hq fl_RX4_31 (by decide) dX4_pairs_5 ?_
  refine V_imul (pc := 8) C dX4_pairs_8 ?_
  cases h
  exact hR 9 _ ⟨_, rfl, rfl⟩ dX4_pairs_9
set_option maxRecDepth 100000 in
theorem mX4_pairOdds_J25 {K : zK} (C : zC K cX4_pairOdds yX4_pairOdds.cls 6 2 42 cW) {S : zM} {v0 : Nat} {v3 : Int32} {v4 : Int32} {s0 : Int32} {r : Int32} (hv0 : zob cW 4 v0) (hR : zR K cX4_pairOdds (some .int) S (some (.int r))) (h : gX4_pairOdds_J25 S v0 v3 v4 s0 = some r) : V K 25 [some (.ref v0), none, none, some (.int v3), some (.int v4), none] [.int s0] S := by
  unfold gX4_pairOdds_J25 at h
  refine V_istore (L' := [some (.ref v0), none, none, some (.int v3), some (.int v4), some (.int s0)]) (pc := 25) C dX4_pairOdds_25 (by decide) rfl ?_
  refine V_iload_n (pc := 27) C dX4_pairOdds_27 rfl rfl ?_
  by_cases c28_0 : v3 = (0 : Int32)
  · have h := it_t c28_0 h
    refine V_case (tgt := 56) (off := (28)) (pc := 28) C dX4_pairOdds_28 c28_0 (by decide +kernel) (by decide) ?_
    refine V_aload_n (pc := 56) C dX4_pairOdds_56 rfl rfl ?_
    obtain ⟨r3, er3, h⟩ := b1_some h
    refine V_callV (As := []) (pc := 57) C (mX4_pairs _ hv0 er3) zm_X4_pairs zi_X4_pairs ml_RX4_48 hv0 rfl ⟨Nat.le_of_ble_eq_true rfl, Nat.le_of_ble_eq_true rfl⟩ rfl rfl (Nat.le_of_ble_eq_true rfl) dX4_pairOdds_57 ?_
    show V K 60 [some (.ref v0), none, none, some (.int v3), some (.int v4), some (.int s0)] [.int r3] S
    refine V_iload (pc := 60) C dX4_pairOdds_60 rfl ?_
    refine V_isub (pc := 62) C dX4_pairOdds_62 ?_
    cases h
    exact hR 63 _ ⟨_, rfl, rfl⟩ dX4_pairOdds_63
  · have h := it_f c28_0 h
    by_cases c28_1 : v3 = (1 : Int32)
    · have h := it_t c28_1 h
      refine V_case (tgt := 64) (off := (36)) (pc := 28) C dX4_pairOdds_28 c28_1 (by decide +kernel) (by decide) ?_
      refine V_iload (pc := 64) C dX4_pairOdds_64 rfl ?_
      cases h
      exact hR 66 _ ⟨_, rfl, rfl⟩ dX4_pairOdds_66
    · have h := it_f c28_1 h
      by_cases c28_2 : v3 = (2 : Int32)
      · have h := it_t c28_2 h
        refine V_case (tgt := 67) (off := (39)) (pc := 28) C dX4_pairOdds_28 c28_2 (by decide +kernel) (by decide) ?_
        refine V_iload (pc := 67) C dX4_pairOdds_67 rfl ?_
        refine V_iload (pc := 69) C dX4_pairOdds_69 rfl ?_
        refine V_isub (pc := 71) C dX4_pairOdds_71 ?_
        cases h
        exact hR 72 _ ⟨_, rfl, rfl⟩ dX4_pairOdds_72
      · have h := it_f c28_2 h
        refine V_dflt (tgt := 73) (m := 3) (pc := 28) C dX4_pairOdds_28 (by decide) (fun i hi => match i, hi with | 0, _ => c28_0 | 1, _ => c28_1 | 2, _ => c28_2 | k + 3, hi => absurd hi (by omega)) (by decide) ?_
        refine V_iconst (pc := 73) C dX4_pairOdds_73 kc_i_0 ?_
        cases h
        exact hR 74 _ ⟨_, rfl, rfl⟩ dX4_pairOdds_74
set_option maxRecDepth 100000 in
theorem mX4_pairOdds (l : Launch) {S : zM} {q : Nat} {a1 : Int32} {a2 : Int32} {a3 : Int32} {r : Int32} (hq : zob cW 4 q) (h : gX4_pairOdds S q a1 a2 a3 = some r) : zMet l cW zS0 yX4_pairOdds cX4_pairOdds 6 (some .int) 2 42 [.ref q, .int a1, .int a2, .int a3] S (some (.int r)) S := by
  refine zmeth (by decide +kernel) (by rfl) (fun K hKl C hR => ?_)
  show V K 0 [some (.ref q), some (.int a1), some (.int a2), some (.int a3), none, none] [] S
  unfold gX4_pairOdds at h
  refine V_aload_n (pc := 0) C dX4_pairOdds_0 rfl rfl ?_
  refine V_iload_n (pc := 1) C dX4_pairOdds_1 rfl rfl ?_
  refine V_ineg (pc := 2) C dX4_pairOdds_2 ?_
  refine V_iconst (pc := 3) C dX4_pairOdds_3 kc_i_1 ?_
  refine V_isub (pc := 4) C dX4_pairOdds_4 ?_
  obtain ⟨r1, er1, h⟩ := b1_some h
  refine V_callV (As := [.int ((-a1) - (1 : Int32))]) (pc := 5) C (mX4_pairsAbove _ hq er1) zm_X4_pairsAbove zi_X4_pairsAbove ml_RX4_44 hq rfl ⟨Nat.le_of_ble_eq_true rfl, Nat.le_of_ble_eq_true rfl⟩ rfl rfl (Nat.le_of_ble_eq_true rfl) dX4_pairOdds_5 ?_
  show V K 8 [some (.ref q), some (.int a1), some (.int a2), some (.int a3), none, none] [.int r1] S
  refine V_istore (L' := [some (.ref q), some (.int a1), some (.int a2), some (.int a3), some (.int r1), none]) (pc := 8) C dX4_pairOdds_8 (by decide) rfl ?_
  refine V_iload_n (pc := 10) C dX4_pairOdds_10 rfl rfl ?_
  refine V_if_eq (tgt := 19) (pc := 11) C dX4_pairOdds_11 (by decide) (fun hc => ?_) (fun hc => ?_)
  · have h := it_t hc h
    refine V_aload_n (pc := 19) C dX4_pairOdds_19 rfl rfl ?_
    refine V_iload_n (pc := 20) C dX4_pairOdds_20 rfl rfl ?_
    refine V_ineg (pc := 21) C dX4_pairOdds_21 ?_
    obtain ⟨r2, er2, h⟩ := b1_some h
    refine V_callV (As := [.int (-a1)]) (pc := 22) C (mX4_pairsAbove _ hq er2) zm_X4_pairsAbove zi_X4_pairsAbove ml_RX4_44 hq rfl ⟨Nat.le_of_ble_eq_true rfl, Nat.le_of_ble_eq_true rfl⟩ rfl rfl (Nat.le_of_ble_eq_true rfl) dX4_pairOdds_22 ?_
    show V K 25 [some (.ref q), some (.int a1), some (.int a2), some (.int a3), some (.int r1), none] [.int r2] S
    exact V_mask [true, false, false, true, true, false] (mX4_pairOdds_J25 C hq hR h)
  · have h := it_f hc h
    refine V_iload (pc := 14) C dX4_pairOdds_14 rfl ?_
    refine V_goto (tgt := 25) (pc := 16) C dX4_pairOdds_16 (by decide) ?_
    exact V_mask [true, false, false, true, true, false] (mX4_pairOdds_J25 C hq hR h)
set_option maxRecDepth 100000 in
theorem mX2_secondLets_L81 {K : zK} (C : zC K cX2_secondLets yX2_secondLets.cls 11 4 101 cW) {v1 : Int32} {v2 : Nat} {v3 : Int32} {v4 : Int32} {v6 : Nat} {v7 : Int32} {v8 : Int32} {v9 : Int32} (hv2 : zob cW 9 v2) (hv6 : zob cW 4 v6) : ∀ (f : Nat) (S : zM) (v10 : Int32) (out : ((Int32 × zM) ⊕ zM)), gX2_secondLets_L81 v1 v2 v3 v4 v6 v7 v8 v9 f S v10 = some out → (∀ (S' : zM), out = .inr S' → V K 139 [some (.ref 221), some (.int v1), some (.ref v2), some (.int v3), some (.int v4), some (.ref 233), some (.ref v6), some (.int v7), some (.int v8), none, none] [] S') → (∀ r' : (Int32 × zM), out = .inl r' → zR K cX2_secondLets (some .boolean) r'.2 (some (.int (r'.1)))) → V K 81 [some (.ref 221), some (.int v1), some (.ref v2), some (.int v3), some (.int v4), some (.ref 233), some (.ref v6), some (.int v7), some (.int v8), some (.int v9), some (.int v10)] [] S := by
  intro f
  induction f with
  | zero => intro S v10 out h hx hret; cases h
  | succ n ih =>
    intro S v10 out h hx hret
    unfold gX2_secondLets_L81 at h
    refine V_iload (pc := 81) C dX2_secondLets_81 rfl ?_
    refine V_iload (pc := 83) C dX2_secondLets_83 rfl ?_
    refine V_icmp_gt (tgt := 139) (pc := 85) C dX2_secondLets_85 (by decide) (fun hc => ?_) (fun hc => ?_)
    · have h := it_t hc h
      cases h
      exact V_mask [true, true, true, true, true, true, true, true, true, false, false] (hx _ rfl)
    · have h := it_f hc h
      refine V_aload (pc := 88) C dX2_secondLets_88 rfl ?_
      refine V_aload_n (pc := 90) C dX2_secondLets_90 rfl rfl ?_
      refine V_getF (p1 := 227) (pc := 91) C z1_cW_2 fl_RX2_27 rfl (zf_cW_2_5 z1_cW_2) dX2_secondLets_91 ?_
      refine V_iload (pc := 94) C dX2_secondLets_94 rfl ?_
      obtain ⟨k8, h⟩ := ck_some h
      refine V_iald (pc := 96) C (za_cW_2_5 z1_cW_2) k8 dX2_secondLets_96 ?_
      refine V_aload (pc := 97) C dX2_secondLets_97 rfl ?_
      refine V_iload (pc := 99) C dX2_secondLets_99 rfl ?_
      refine V_iload (pc := 101) C dX2_secondLets_101 rfl ?_
      refine V_iload (pc := 103) C dX2_secondLets_103 rfl ?_
      obtain ⟨r9, er9, h⟩ := b1_some h
      refine V_callV (As := [.int v9, .int v4, .int v10]) (pc := 105) C (mX4_pairOdds _ hv6 er9) zm_X4_pairOdds zi_X4_pairOdds ml_RX2_111 hv6 rfl ⟨Nat.le_of_ble_eq_true rfl, Nat.le_of_ble_eq_true rfl⟩ rfl rfl (Nat.le_of_ble_eq_true rfl) dX2_secondLets_105 ?_
      show V K 108 [some (.ref 221), some (.int v1), some (.ref v2), some (.int v3), some (.int v4), some (.ref 233), some (.ref v6), some (.int v7), some (.int v8), some (.int v9), some (.int v10)] [.int r9, .int (gI S 227 (ix v8)), .ref 233] S
      refine V_aload (pc := 108) C dX2_secondLets_108 rfl ?_
      obtain ⟨r10, er10, h⟩ := b1_some h
      refine V_callV (As := []) (pc := 110) C (mX4_pairs _ hv6 er10) zm_X4_pairs zi_X4_pairs ml_RX2_115 hv6 rfl ⟨Nat.le_of_ble_eq_true rfl, Nat.le_of_ble_eq_true rfl⟩ rfl rfl (Nat.le_of_ble_eq_true rfl) dX2_secondLets_110 ?_
      show V K 113 [some (.ref 221), some (.int v1), some (.ref v2), some (.int v3), some (.int v4), some (.ref 233), some (.ref v6), some (.int v7), some (.int v8), some (.int v9), some (.int v10)] [.int r10, .int r9, .int (gI S 227 (ix v8)), .ref 233] S
      refine V_aload_n (pc := 113) C dX2_secondLets_113 rfl rfl ?_
      refine V_getF (p1 := 228) (pc := 114) C z1_cW_2 fl_RX2_30 rfl (zf_cW_2_6 z1_cW_2) dX2_secondLets_114 ?_
      refine V_iload (pc := 117) C dX2_secondLets_117 rfl ?_
      refine V_iconst (pc := 119) C dX2_secondLets_119 kc_i_3 ?_
      refine V_imul (pc := 120) C dX2_secondLets_120 ?_
      refine V_iload (pc := 121) C dX2_secondLets_121 rfl ?_
      refine V_iadd (pc := 123) C dX2_secondLets_123 ?_
      obtain ⟨k11, h⟩ := ck_some h
      refine V_iald (pc := 124) C (za_cW_2_6 z1_cW_2) k11 dX2_secondLets_124 ?_
      obtain ⟨r12, S13, er12, h⟩ := b2_some h
      refine V_callV (As := [.int (gI S 227 (ix v8)), .int r9, .int r10, .int (gI S 228 (ix ((v8 * (3 : Int32)) + v10)))]) (pc := 125) C (mX10_holds _ er12) zm_X10_holds zi_X10_holds ml_RX2_105 z1_cW_10 rfl ⟨Nat.le_of_ble_eq_true rfl, Nat.le_of_ble_eq_true rfl⟩ rfl rfl (Nat.le_of_ble_eq_true rfl) dX2_secondLets_125 ?_
      show V K 128 [some (.ref 221), some (.int v1), some (.ref v2), some (.int v3), some (.int v4), some (.ref 233), some (.ref v6), some (.int v7), some (.int v8), some (.int v9), some (.int v10)] [.int r12] S13
      refine V_if_ne (tgt := 133) (pc := 128) C dX2_secondLets_128 (by decide) (fun hc => ?_) (fun hc => ?_)
      · have h := it_f hc h
        refine V_iinc (L' := [some (.ref 221), some (.int v1), some (.ref v2), some (.int v3), some (.int v4), some (.ref 233), some (.ref v6), some (.int v7), some (.int v8), some (.int v9), some (.int (v10 + (1 : Int32)))]) (v := (v10 + (1 : Int32))) (pc := 133) C dX2_secondLets_133 rfl (congrArg (v10 + ·) kc_i_1) (by decide) rfl ?_
        refine V_goto (tgt := 81) (pc := 136) C dX2_secondLets_136 (by decide) ?_
        exact V_mask [true, true, true, true, true, true, true, true, true, true, true] (ih _ _ _ h hx hret)
      · have h := it_t hc h
        refine V_iconst (pc := 131) C dX2_secondLets_131 kc_i_0 ?_
        cases h
        exact (hret _ rfl) 132 _ ⟨_, rfl, zB0⟩ dX2_secondLets_132
set_option maxRecDepth 100000 in
theorem mX2_secondLets_L21 {K : zK} (C : zC K cX2_secondLets yX2_secondLets.cls 11 4 101 cW) {v1 : Int32} {v2 : Nat} {v3 : Int32} {v4 : Int32} {v6 : Nat} {v7 : Int32} (hv2 : zob cW 9 v2) (hv6 : zob cW 4 v6) : ∀ (f : Nat) (S : zM) (v8 : Int32) (r : Int32) (S' : zM), gX2_secondLets_L21 v1 v2 v3 v4 v6 v7 f S v8 = some (r, S') → zR K cX2_secondLets (some .boolean) S' (some (.int r)) → V K 21 [some (.ref 221), some (.int v1), some (.ref v2), some (.int v3), some (.int v4), some (.ref 233), some (.ref v6), some (.int v7), some (.int v8), none, none] [] S := by
  intro f
  induction f with
  | zero => intro S v8 r S' h hR; cases h
  | succ n ih =>
    intro S v8 r S' h hR
    unfold gX2_secondLets_L21 at h
    refine V_iload (pc := 21) C dX2_secondLets_21 rfl ?_
    refine V_aload_n (pc := 23) C dX2_secondLets_23 rfl rfl ?_
    refine V_getI (pc := 24) C z1_cW_2 fl_RX2_45 (by decide) dX2_secondLets_24 ?_
    refine V_icmp_ge (tgt := 145) (pc := 27) C dX2_secondLets_27 (by decide) (fun hc => ?_) (fun hc => ?_)
    · have h := it_t hc h
      refine V_iconst (pc := 145) C dX2_secondLets_145 kc_i_1 ?_
      cases h
      exact hR 146 _ ⟨_, rfl, zB1⟩ dX2_secondLets_146
    · have h := it_f hc h
      refine V_aload_n (pc := 30) C dX2_secondLets_30 rfl rfl ?_
      refine V_getF (p1 := 223) (pc := 31) C z1_cW_2 fl_RX2_15 rfl (zf_cW_2_1 z1_cW_2) dX2_secondLets_31 ?_
      refine V_iload (pc := 34) C dX2_secondLets_34 rfl ?_
      obtain ⟨k2, h⟩ := ck_some h
      refine V_iald (pc := 36) C (za_cW_2_1 z1_cW_2) k2 dX2_secondLets_36 ?_
      refine V_iload_n (pc := 37) C dX2_secondLets_37 rfl rfl ?_
      refine V_icmp_ne (tgt := 139) (pc := 38) C dX2_secondLets_38 (by decide) (fun hc => ?_) (fun hc => ?_)
      · have h := it_f hc h
        refine V_iinc (L' := [some (.ref 221), some (.int v1), some (.ref v2), some (.int v3), some (.int v4), some (.ref 233), some (.ref v6), some (.int v7), some (.int (v8 + (1 : Int32))), none, none]) (v := (v8 + (1 : Int32))) (pc := 139) C dX2_secondLets_139 rfl (congrArg (v8 + ·) kc_i_1) (by decide) rfl ?_
        refine V_goto (tgt := 21) (pc := 142) C dX2_secondLets_142 (by decide) ?_
        exact V_mask [true, true, true, true, true, true, true, true, true, false, false] (ih _ _ _ _ h hR)
      · have h := it_t hc h
        refine V_aload_n (pc := 41) C dX2_secondLets_41 rfl rfl ?_
        refine V_getF (p1 := 224) (pc := 42) C z1_cW_2 fl_RX2_18 rfl (zf_cW_2_2 z1_cW_2) dX2_secondLets_42 ?_
        refine V_iload (pc := 45) C dX2_secondLets_45 rfl ?_
        obtain ⟨k3, h⟩ := ck_some h
        refine V_iald (pc := 47) C (za_cW_2_2 z1_cW_2) k3 dX2_secondLets_47 ?_
        refine V_if_ne (tgt := 139) (pc := 48) C dX2_secondLets_48 (by decide) (fun hc => ?_) (fun hc => ?_)
        · have h := it_f hc h
          refine V_iinc (L' := [some (.ref 221), some (.int v1), some (.ref v2), some (.int v3), some (.int v4), some (.ref 233), some (.ref v6), some (.int v7), some (.int (v8 + (1 : Int32))), none, none]) (v := (v8 + (1 : Int32))) (pc := 139) C dX2_secondLets_139 rfl (congrArg (v8 + ·) kc_i_1) (by decide) rfl ?_
          refine V_goto (tgt := 21) (pc := 142) C dX2_secondLets_142 (by decide) ?_
          exact V_mask [true, true, true, true, true, true, true, true, true, false, false] (ih _ _ _ _ h hR)
        · have h := it_t hc h
          refine V_aload_n (pc := 51) C dX2_secondLets_51 rfl rfl ?_
          refine V_aload_n (pc := 52) C dX2_secondLets_52 rfl rfl ?_
          refine V_getF (p1 := 226) (pc := 53) C z1_cW_2 fl_RX2_24 rfl (zf_cW_2_4 z1_cW_2) dX2_secondLets_53 ?_
          refine V_iload (pc := 56) C dX2_secondLets_56 rfl ?_
          obtain ⟨k4, h⟩ := ck_some h
          refine V_iald (pc := 58) C (za_cW_2_4 z1_cW_2) k4 dX2_secondLets_58 ?_
          obtain ⟨r5, er5, h⟩ := b1_some h
          refine V_callV (As := [.int (gI S 226 (ix v8))]) (pc := 59) C (mX9_levelAt _ hv2 er5) zm_X9_levelAt zi_X9_levelAt ml_RX2_93 hv2 rfl ⟨Nat.le_of_ble_eq_true rfl, Nat.le_of_ble_eq_true rfl⟩ rfl rfl (Nat.le_of_ble_eq_true rfl) dX2_secondLets_59 ?_
          show V K 62 [some (.ref 221), some (.int v1), some (.ref v2), some (.int v3), some (.int v4), some (.ref 233), some (.ref v6), some (.int v7), some (.int v8), none, none] [.int r5] S
          refine V_iload_n (pc := 62) C dX2_secondLets_62 rfl rfl ?_
          refine V_iadd (pc := 63) C dX2_secondLets_63 ?_
          refine V_aload_n (pc := 64) C dX2_secondLets_64 rfl rfl ?_
          refine V_aload_n (pc := 65) C dX2_secondLets_65 rfl rfl ?_
          refine V_getF (p1 := 225) (pc := 66) C z1_cW_2 fl_RX2_21 rfl (zf_cW_2_3 z1_cW_2) dX2_secondLets_66 ?_
          refine V_iload (pc := 69) C dX2_secondLets_69 rfl ?_
          obtain ⟨k6, h⟩ := ck_some h
          refine V_iald (pc := 71) C (za_cW_2_3 z1_cW_2) k6 dX2_secondLets_71 ?_
          obtain ⟨r7, er7, h⟩ := b1_some h
          refine V_callV (As := [.int (gI S 225 (ix v8))]) (pc := 72) C (mX9_levelAt _ hv2 er7) zm_X9_levelAt zi_X9_levelAt ml_RX2_93 hv2 rfl ⟨Nat.le_of_ble_eq_true rfl, Nat.le_of_ble_eq_true rfl⟩ rfl rfl (Nat.le_of_ble_eq_true rfl) dX2_secondLets_72 ?_
          show V K 75 [some (.ref 221), some (.int v1), some (.ref v2), some (.int v3), some (.int v4), some (.ref 233), some (.ref v6), some (.int v7), some (.int v8), none, none] [.int r7, .int (r5 + v3)] S
          refine V_isub (pc := 75) C dX2_secondLets_75 ?_
          refine V_istore (L' := [some (.ref 221), some (.int v1), some (.ref v2), some (.int v3), some (.int v4), some (.ref 233), some (.ref v6), some (.int v7), some (.int v8), some (.int ((r5 + v3) - r7)), none]) (pc := 76) C dX2_secondLets_76 (by decide) rfl ?_
          refine V_iconst (pc := 78) C dX2_secondLets_78 kc_i_0 ?_
          refine V_istore (L' := [some (.ref 221), some (.int v1), some (.ref v2), some (.int v3), some (.int v4), some (.ref 233), some (.ref v6), some (.int v7), some (.int v8), some (.int ((r5 + v3) - r7)), some (.int (0 : Int32))]) (pc := 79) C dX2_secondLets_79 (by decide) rfl ?_
          obtain ⟨out81, e81, hr81, hx81⟩ := lm_some h
          refine V_mask [true, true, true, true, true, true, true, true, true, true, true] (mX2_secondLets_L81 C hv2 hv6 FU _ _ _ e81 ?_ ?_)
          · intro S14 eo
            have h := hx81 _ eo
            refine V_iinc (L' := [some (.ref 221), some (.int v1), some (.ref v2), some (.int v3), some (.int v4), some (.ref 233), some (.ref v6), some (.int v7), some (.int (v8 + (1 : Int32))), none, none]) (v := (v8 + (1 : Int32))) (pc := 139) C dX2_secondLets_139 rfl (congrArg (v8 + ·) kc_i_1) (by decide) rfl ?_
            refine V_goto (tgt := 21) (pc := 142) C dX2_secondLets_142 (by decide) ?_
            exact V_mask [true, true, true, true, true, true, true, true, true, false, false] (ih _ _ _ _ h hR)
          · intro r' eo
            cases hr81 _ eo
            exact hR
set_option maxRecDepth 100000 in
theorem mX2_secondLets (l : Launch) {S : zM} {a1 : Int32} {a2 : Nat} {a3 : Int32} {a4 : Int32} {r : Int32} {S' : zM} (ha2 : zob cW 9 a2) (h : gX2_secondLets S a1 a2 a3 a4 = some (r, S')) : zMet l cW zS0 yX2_secondLets cX2_secondLets 11 (some .boolean) 4 101 [.ref 221, .int a1, .ref a2, .int a3, .int a4, .ref 233] S (some (.int r)) S' := by
  refine zmeth (by decide +kernel) (by rfl) (fun K hKl C hR => ?_)
  show V K 0 [some (.ref 221), some (.int a1), some (.ref a2), some (.int a3), some (.int a4), some (.ref 233), none, none, none, none, none] [] S
  unfold gX2_secondLets at h
  refine V_aload_n (pc := 0) C dX2_secondLets_0 rfl rfl ?_
  obtain ⟨r1, er1, h⟩ := b1_some h
  refine V_callV (As := []) (pc := 1) C (mX9_fresh _ ha2 er1) zm_X9_fresh zi_X9_fresh ml_RX2_87 ha2 rfl ⟨Nat.le_of_ble_eq_true rfl, Nat.le_of_ble_eq_true rfl⟩ rfl rfl (Nat.le_of_ble_eq_true rfl) dX2_secondLets_1 ?_
  show V K 4 [some (.ref 221), some (.int a1), some (.ref a2), some (.int a3), some (.int a4), some (.ref 233), none, none, none, none, none] [.ref r1] S
  refine V_astore (L' := [some (.ref 221), some (.int a1), some (.ref a2), some (.int a3), some (.int a4), some (.ref 233), some (.ref r1), none, none, none, none]) (pc := 4) C dX2_secondLets_4 (by decide) rfl ?_
  refine V_iload (pc := 6) C dX2_secondLets_6 rfl ?_
  refine V_if_eq (tgt := 15) (pc := 8) C dX2_secondLets_8 (by decide) (fun hc => ?_) (fun hc => ?_)
  · have h := it_t hc h
    refine V_iconst (pc := 15) C dX2_secondLets_15 kc_i_2 ?_
    refine V_istore (L' := [some (.ref 221), some (.int a1), some (.ref a2), some (.int a3), some (.int a4), some (.ref 233), some (.ref r1), some (.int (2 : Int32)), none, none, none]) (pc := 16) C dX2_secondLets_16 (by decide) rfl ?_
    refine V_iconst (pc := 18) C dX2_secondLets_18 kc_i_0 ?_
    refine V_istore (L' := [some (.ref 221), some (.int a1), some (.ref a2), some (.int a3), some (.int a4), some (.ref 233), some (.ref r1), some (.int (2 : Int32)), some (.int (0 : Int32)), none, none]) (pc := 19) C dX2_secondLets_19 (by decide) rfl ?_
    exact V_mask [true, true, true, true, true, true, true, true, true, false, false] (mX2_secondLets_L21 C ha2 (mX9_fresh_f ha2 er1) FU _ _ _ _ h hR)
  · have h := it_f hc h
    refine V_iconst (pc := 11) C dX2_secondLets_11 kc_i_1 ?_
    refine V_goto (tgt := 16) (pc := 12) C dX2_secondLets_12 (by decide) ?_
    refine V_istore (L' := [some (.ref 221), some (.int a1), some (.ref a2), some (.int a3), some (.int a4), some (.ref 233), some (.ref r1), some (.int (1 : Int32)), none, none, none]) (pc := 16) C dX2_secondLets_16 (by decide) rfl ?_
    refine V_iconst (pc := 18) C dX2_secondLets_18 kc_i_0 ?_
    refine V_istore (L' := [some (.ref 221), some (.int a1), some (.ref a2), some (.int a3), some (.int a4), some (.ref 233), some (.ref r1), some (.int (1 : Int32)), some (.int (0 : Int32)), none, none]) (pc := 19) C dX2_secondLets_19 (by decide) rfl ?_
    exact V_mask [true, true, true, true, true, true, true, true, true, false, false] (mX2_secondLets_L21 C ha2 (mX9_fresh_f ha2 er1) FU _ _ _ _ h hR)
set_option maxRecDepth 100000 in
theorem mX2_judge_L26 {K : zK} (C : zC K cX2_judge yX2_judge.cls 10 5 131 cW) {v1 : Int32} {v2 : Int32} {v5 : Nat} {v6 : Int32} (hv5 : zob cW 9 v5) : ∀ (f : Nat) (S : zM) (v7 : Int32) (v8 : Int32) (o7 : Int32) (S' : zM), gX2_judge_L26 v1 v2 v5 v6 f S v7 v8 = some (o7, S') → V K 70 [some (.ref 221), some (.int v1), some (.int v2), none, some (.ref 233), some (.ref v5), some (.int v6), some (.int o7), none, none] [] S' → V K 26 [some (.ref 221), some (.int v1), some (.int v2), none, some (.ref 233), some (.ref v5), some (.int v6), some (.int v7), some (.int v8), none] [] S := by
  intro f
  induction f with
  | zero => intro S v7 v8 o7 S' h hx; cases h
  | succ n ih =>
    intro S v7 v8 o7 S' h hx
    unfold gX2_judge_L26 at h
    refine V_iload (pc := 26) C dX2_judge_26 rfl ?_
    refine V_bipush (pc := 28) C dX2_judge_28 kc_b_10 ?_
    refine V_icmp_gt (tgt := 70) (pc := 30) C dX2_judge_30 (by decide) (fun hc => ?_) (fun hc => ?_)
    · have h := it_t hc h
      cases h
      exact V_mask [true, true, true, false, true, true, true, true, false, false] hx
    · have h := it_f hc h
      refine V_aload_n (pc := 33) C dX2_judge_33 rfl rfl ?_
      refine V_iload_n (pc := 34) C dX2_judge_34 rfl rfl ?_
      refine V_aload (pc := 35) C dX2_judge_35 rfl ?_
      refine V_iload (pc := 37) C dX2_judge_37 rfl ?_
      refine V_aload (pc := 39) C dX2_judge_39 rfl ?_
      obtain ⟨r4, S5, er4, h⟩ := b2_some h
      refine V_callV (As := [.int v1, .ref v5, .int v8, .ref 233]) (pc := 41) C (mX2_lineLets _ hv5 er4) zm_X2_lineLets zi_X2_lineLets ml_RX2_134 z1_cW_2 rfl ⟨Nat.le_of_ble_eq_true rfl, Nat.le_of_ble_eq_true rfl⟩ rfl rfl (Nat.le_of_ble_eq_true rfl) dX2_judge_41 ?_
      show V K 44 [some (.ref 221), some (.int v1), some (.int v2), none, some (.ref 233), some (.ref v5), some (.int v6), some (.int v7), some (.int v8), none] [.int r4] S5
      refine V_if_eq (tgt := 64) (pc := 44) C dX2_judge_44 (by decide) (fun hc => ?_) (fun hc => ?_)
      · have h := it_t hc h
        refine V_iinc (L' := [some (.ref 221), some (.int v1), some (.int v2), none, some (.ref 233), some (.ref v5), some (.int v6), some (.int v7), some (.int (v8 + (1 : Int32))), none]) (v := (v8 + (1 : Int32))) (pc := 64) C dX2_judge_64 rfl (congrArg (v8 + ·) kc_i_1) (by decide) rfl ?_
        refine V_goto (tgt := 26) (pc := 67) C dX2_judge_67 (by decide) ?_
        exact V_mask [true, true, true, false, true, true, true, true, true, false] (ih _ _ _ _ _ h hx)
      · have h := it_f hc h
        refine V_aload_n (pc := 47) C dX2_judge_47 rfl rfl ?_
        refine V_getF (p1 := 229) (pc := 48) C z1_cW_2 fl_RX2_33 rfl (zf_cW_2_8 z1_cW_2) dX2_judge_48 ?_
        refine V_iload_n (pc := 51) C dX2_judge_51 rfl rfl ?_
        refine V_bipush (pc := 52) C dX2_judge_52 kc_b_21 ?_
        refine V_imul (pc := 54) C dX2_judge_54 ?_
        refine V_iload (pc := 55) C dX2_judge_55 rfl ?_
        refine V_iadd (pc := 57) C dX2_judge_57 ?_
        refine V_iload (pc := 58) C dX2_judge_58 rfl ?_
        obtain ⟨k6, h⟩ := ck_some h
        refine V_iast (pc := 60) C (za_cW_2_8 z1_cW_2) k6 dX2_judge_60 ?_
        refine V_iinc (L' := [some (.ref 221), some (.int v1), some (.int v2), none, some (.ref 233), some (.ref v5), some (.int v6), some (.int (v7 + (1 : Int32))), some (.int v8), none]) (v := (v7 + (1 : Int32))) (pc := 61) C dX2_judge_61 rfl (congrArg (v7 + ·) kc_i_1) (by decide) rfl ?_
        refine V_iinc (L' := [some (.ref 221), some (.int v1), some (.int v2), none, some (.ref 233), some (.ref v5), some (.int v6), some (.int (v7 + (1 : Int32))), some (.int (v8 + (1 : Int32))), none]) (v := (v8 + (1 : Int32))) (pc := 64) C dX2_judge_64 rfl (congrArg (v8 + ·) kc_i_1) (by decide) rfl ?_
        refine V_goto (tgt := 26) (pc := 67) C dX2_judge_67 (by decide) ?_
        exact V_mask [true, true, true, false, true, true, true, true, true, false] (ih _ _ _ _ _ h hx)
set_option maxRecDepth 100000 in
theorem mX2_judge_L77 {K : zK} (C : zC K cX2_judge yX2_judge.cls 10 5 131 cW) {v1 : Int32} {v2 : Int32} {v5 : Nat} {v6 : Int32} {v7 : Int32} (hv5 : zob cW 9 v5) : ∀ (f : Nat) (S : zM) (v8 : Int32) (v9 : Int32) (S' : zM), gX2_judge_L77 v1 v2 v5 v6 v7 f S v8 v9 = some S' → zR K cX2_judge (none) S' none → V K 77 [some (.ref 221), some (.int v1), some (.int v2), none, some (.ref 233), some (.ref v5), some (.int v6), some (.int v7), some (.int v8), some (.int v9)] [] S := by
  intro f
  induction f with
  | zero => intro S v8 v9 S' h hR; cases h
  | succ n ih =>
    intro S v8 v9 S' h hR
    unfold gX2_judge_L77 at h
    refine V_iload (pc := 77) C dX2_judge_77 rfl ?_
    refine V_iconst (pc := 79) C dX2_judge_79 kc_i_5 ?_
    refine V_icmp_gt (tgt := 127) (pc := 80) C dX2_judge_80 (by decide) (fun hc => ?_) (fun hc => ?_)
    · have h := it_t hc h
      refine V_aload_n (pc := 127) C dX2_judge_127 rfl rfl ?_
      refine V_getF (p1 := 231) (pc := 128) C z1_cW_2 fl_RX2_39 rfl (zf_cW_2_10 z1_cW_2) dX2_judge_128 ?_
      refine V_iload_n (pc := 131) C dX2_judge_131 rfl rfl ?_
      refine V_iload (pc := 132) C dX2_judge_132 rfl ?_
      obtain ⟨k9, h⟩ := ck_some h
      refine V_iast (pc := 134) C (za_cW_2_10 z1_cW_2) k9 dX2_judge_134 ?_
      refine V_aload_n (pc := 135) C dX2_judge_135 rfl rfl ?_
      refine V_getF (p1 := 232) (pc := 136) C z1_cW_2 fl_RX2_42 rfl (zf_cW_2_11 z1_cW_2) dX2_judge_136 ?_
      refine V_iload_n (pc := 139) C dX2_judge_139 rfl rfl ?_
      refine V_iload (pc := 140) C dX2_judge_140 rfl ?_
      obtain ⟨k10, h⟩ := ck_some h
      refine V_iast (pc := 142) C (za_cW_2_11 z1_cW_2) k10 dX2_judge_142 ?_
      cases h
      exact hR 143 _ rfl dX2_judge_143
    · have h := it_f hc h
      refine V_iload (pc := 83) C dX2_judge_83 rfl ?_
      refine V_if_le (tgt := 121) (pc := 85) C dX2_judge_85 (by decide) (fun hc => ?_) (fun hc => ?_)
      · have h := it_t hc h
        refine V_iinc (L' := [some (.ref 221), some (.int v1), some (.int v2), none, some (.ref 233), some (.ref v5), some (.int v6), some (.int v7), some (.int v8), some (.int (v9 + (1 : Int32)))]) (v := (v9 + (1 : Int32))) (pc := 121) C dX2_judge_121 rfl (congrArg (v9 + ·) kc_i_1) (by decide) rfl ?_
        refine V_goto (tgt := 77) (pc := 124) C dX2_judge_124 (by decide) ?_
        exact V_mask [true, true, true, false, true, true, true, true, true, true] (ih _ _ _ _ h hR)
      · have h := it_f hc h
        refine V_aload_n (pc := 88) C dX2_judge_88 rfl rfl ?_
        refine V_iload_n (pc := 89) C dX2_judge_89 rfl rfl ?_
        refine V_aload (pc := 90) C dX2_judge_90 rfl ?_
        refine V_iload (pc := 92) C dX2_judge_92 rfl ?_
        refine V_iload (pc := 94) C dX2_judge_94 rfl ?_
        refine V_aload (pc := 96) C dX2_judge_96 rfl ?_
        obtain ⟨r11, S12, er11, h⟩ := b2_some h
        refine V_callV (As := [.int v1, .ref v5, .int v9, .int v6, .ref 233]) (pc := 98) C (mX2_secondLets _ hv5 er11) zm_X2_secondLets zi_X2_secondLets ml_RX2_138 z1_cW_2 rfl ⟨Nat.le_of_ble_eq_true rfl, Nat.le_of_ble_eq_true rfl⟩ rfl rfl (Nat.le_of_ble_eq_true rfl) dX2_judge_98 ?_
        show V K 101 [some (.ref 221), some (.int v1), some (.int v2), none, some (.ref 233), some (.ref v5), some (.int v6), some (.int v7), some (.int v8), some (.int v9)] [.int r11] S12
        refine V_if_eq (tgt := 121) (pc := 101) C dX2_judge_101 (by decide) (fun hc => ?_) (fun hc => ?_)
        · have h := it_t hc h
          refine V_iinc (L' := [some (.ref 221), some (.int v1), some (.int v2), none, some (.ref 233), some (.ref v5), some (.int v6), some (.int v7), some (.int v8), some (.int (v9 + (1 : Int32)))]) (v := (v9 + (1 : Int32))) (pc := 121) C dX2_judge_121 rfl (congrArg (v9 + ·) kc_i_1) (by decide) rfl ?_
          refine V_goto (tgt := 77) (pc := 124) C dX2_judge_124 (by decide) ?_
          exact V_mask [true, true, true, false, true, true, true, true, true, true] (ih _ _ _ _ h hR)
        · have h := it_f hc h
          refine V_aload_n (pc := 104) C dX2_judge_104 rfl rfl ?_
          refine V_getF (p1 := 230) (pc := 105) C z1_cW_2 fl_RX2_36 rfl (zf_cW_2_9 z1_cW_2) dX2_judge_105 ?_
          refine V_iload_n (pc := 108) C dX2_judge_108 rfl rfl ?_
          refine V_bipush (pc := 109) C dX2_judge_109 kc_b_11 ?_
          refine V_imul (pc := 111) C dX2_judge_111 ?_
          refine V_iload (pc := 112) C dX2_judge_112 rfl ?_
          refine V_iadd (pc := 114) C dX2_judge_114 ?_
          refine V_iload (pc := 115) C dX2_judge_115 rfl ?_
          obtain ⟨k13, h⟩ := ck_some h
          refine V_iast (pc := 117) C (za_cW_2_9 z1_cW_2) k13 dX2_judge_117 ?_
          refine V_iinc (L' := [some (.ref 221), some (.int v1), some (.int v2), none, some (.ref 233), some (.ref v5), some (.int v6), some (.int v7), some (.int (v8 + (1 : Int32))), some (.int v9)]) (v := (v8 + (1 : Int32))) (pc := 118) C dX2_judge_118 rfl (congrArg (v8 + ·) kc_i_1) (by decide) rfl ?_
          refine V_iinc (L' := [some (.ref 221), some (.int v1), some (.int v2), none, some (.ref 233), some (.ref v5), some (.int v6), some (.int v7), some (.int (v8 + (1 : Int32))), some (.int (v9 + (1 : Int32)))]) (v := (v9 + (1 : Int32))) (pc := 121) C dX2_judge_121 rfl (congrArg (v9 + ·) kc_i_1) (by decide) rfl ?_
          refine V_goto (tgt := 77) (pc := 124) C dX2_judge_124 (by decide) ?_
          exact V_mask [true, true, true, false, true, true, true, true, true, true] (ih _ _ _ _ h hR)
set_option maxRecDepth 100000 in
theorem mX2_judge (l : Launch) {S : zM} {a1 : Int32} {a2 : Int32} {a3 : Nat} {S' : zM} (ha3 : zob cW 3 a3) (h : gX2_judge S a1 a2 a3 = some S') : zMet l cW zS0 yX2_judge cX2_judge 10 (none) 5 131 [.ref 221, .int a1, .int a2, .ref a3, .ref 233] S none S' := by
  refine zmeth (by decide +kernel) (by rfl) (fun K hKl C hR => ?_)
  show V K 0 [some (.ref 221), some (.int a1), some (.int a2), some (.ref a3), some (.ref 233), none, none, none, none, none] [] S
  unfold gX2_judge at h
  refine V_aload_n (pc := 0) C dX2_judge_0 rfl rfl ?_
  refine V_getF (p1 := (a3 + 1)) (pc := 1) C ha3 fl_RX2_119 rfl (zf_cW_3_0 ha3) dX2_judge_1 ?_
  refine V_iload_n (pc := 4) C dX2_judge_4 rfl rfl ?_
  obtain ⟨k1, h⟩ := ck_some h
  refine V_aald (p1 := (a3 + 7 + 31 * ix a2)) (pc := 5) C (za_cW_3_0 ha3) (fun _ => rfl) k1 (ze_cW_3_0 ha3 k1) dX2_judge_5 ?_
  refine V_astore (L' := [some (.ref 221), some (.int a1), some (.int a2), some (.ref a3), some (.ref 233), some (.ref (a3 + 7 + 31 * ix a2)), none, none, none, none]) (pc := 6) C dX2_judge_6 (by decide) rfl ?_
  refine V_aload_n (pc := 8) C dX2_judge_8 rfl rfl ?_
  refine V_getF (p1 := (a3 + 2)) (pc := 9) C ha3 fl_RX2_125 rfl (zf_cW_3_1 ha3) dX2_judge_9 ?_
  refine V_iload_n (pc := 12) C dX2_judge_12 rfl rfl ?_
  obtain ⟨k2, h⟩ := ck_some h
  refine V_aald (p1 := (a3 + 193 + 2 * ix a1)) (pc := 13) C (za_cW_3_1 ha3) (fun _ => rfl) k2 (ze_cW_3_1 ha3 k2) dX2_judge_13 ?_
  refine V_getI (pc := 14) C (zx_cW_3_1 ha3 k2) fl_RX2_128 (by decide) dX2_judge_14 ?_
  obtain ⟨x3, ex3, h⟩ := lt_some h
  refine V_nmI ex3 ?_
  refine V_istore (L' := [some (.ref 221), some (.int a1), some (.int a2), some (.ref a3), some (.ref 233), some (.ref (a3 + 7 + 31 * ix a2)), some (.int x3), none, none, none]) (pc := 17) C dX2_judge_17 (by decide) rfl ?_
  refine V_iconst (pc := 19) C dX2_judge_19 kc_i_0 ?_
  refine V_istore (L' := [some (.ref 221), some (.int a1), some (.int a2), some (.ref a3), some (.ref 233), some (.ref (a3 + 7 + 31 * ix a2)), some (.int x3), some (.int (0 : Int32)), none, none]) (pc := 20) C dX2_judge_20 (by decide) rfl ?_
  refine V_bipush (pc := 22) C dX2_judge_22 kc_b_m10 ?_
  refine V_istore (L' := [some (.ref 221), some (.int a1), some (.int a2), some (.ref a3), some (.ref 233), some (.ref (a3 + 7 + 31 * ix a2)), some (.int x3), some (.int (0 : Int32)), some (.int (-10 : Int32)), none]) (pc := 24) C dX2_judge_24 (by decide) rfl ?_
  obtain ⟨w7, S8, e26, h⟩ := bu2_some h
  refine V_mask [true, true, true, false, true, true, true, true, true, false] (mX2_judge_L26 C (zx_cW_3_0 ha3 k1) FU _ _ _ _ _ e26 ?_)
  refine V_iconst (pc := 70) C dX2_judge_70 kc_i_0 ?_
  refine V_istore (L' := [some (.ref 221), some (.int a1), some (.int a2), none, some (.ref 233), some (.ref (a3 + 7 + 31 * ix a2)), some (.int x3), some (.int w7), some (.int (0 : Int32)), none]) (pc := 71) C dX2_judge_71 (by decide) rfl ?_
  refine V_bipush (pc := 73) C dX2_judge_73 kc_b_m5 ?_
  refine V_istore (L' := [some (.ref 221), some (.int a1), some (.int a2), none, some (.ref 233), some (.ref (a3 + 7 + 31 * ix a2)), some (.int x3), some (.int w7), some (.int (0 : Int32)), some (.int (-5 : Int32))]) (pc := 75) C dX2_judge_75 (by decide) rfl ?_
  exact V_mask [true, true, true, false, true, true, true, true, true, true] (mX2_judge_L77 C (zx_cW_3_0 ha3 k1) FU _ _ _ _ h hR)
set_option maxRecDepth 100000 in
theorem mX2_fitsOf (l : Launch) {S : zM} {a1 : Int32} {r : Int32}  (h : gX2_fitsOf S a1 = some r) : zMet l cW zS0 yX2_fitsOf cX2_fitsOf 2 (some .int) 0 0 [.ref 221, .int a1] S (some (.int r)) S := by
  refine zmeth (by decide +kernel) (by rfl) (fun K hKl C hR => ?_)
  show V K 0 [some (.ref 221), some (.int a1)] [] S
  unfold gX2_fitsOf at h
  refine V_aload_n (pc := 0) C dX2_fitsOf_0 rfl rfl ?_
  refine V_getF (p1 := 231) (pc := 1) C z1_cW_2 fl_RX2_39 rfl (zf_cW_2_10 z1_cW_2) dX2_fitsOf_1 ?_
  refine V_iload_n (pc := 4) C dX2_fitsOf_4 rfl rfl ?_
  obtain ⟨k1, h⟩ := ck_some h
  refine V_iald (pc := 5) C (za_cW_2_10 z1_cW_2) k1 dX2_fitsOf_5 ?_
  refine V_aload_n (pc := 6) C dX2_fitsOf_6 rfl rfl ?_
  refine V_getF (p1 := 232) (pc := 7) C z1_cW_2 fl_RX2_42 rfl (zf_cW_2_11 z1_cW_2) dX2_fitsOf_7 ?_
  refine V_iload_n (pc := 10) C dX2_fitsOf_10 rfl rfl ?_
  obtain ⟨k2, h⟩ := ck_some h
  refine V_iald (pc := 11) C (za_cW_2_11 z1_cW_2) k2 dX2_fitsOf_11 ?_
  refine V_imul (pc := 12) C dX2_fitsOf_12 ?_
  cases h
  exact hR 13 _ ⟨_, rfl, rfl⟩ dX2_fitsOf_13
set_option maxRecDepth 100000 in
theorem mX2_fitLine (l : Launch) {S : zM} {a1 : Int32} {a2 : Int32} {r : Int32}  (h : gX2_fitLine S a1 a2 = some r) : zMet l cW zS0 yX2_fitLine cX2_fitLine 3 (some .int) 1 21 [.ref 221, .int a1, .int a2] S (some (.int r)) S := by
  refine zmeth (by decide +kernel) (by rfl) (fun K hKl C hR => ?_)
  show V K 0 [some (.ref 221), some (.int a1), some (.int a2)] [] S
  unfold gX2_fitLine at h
  refine V_iload_n (pc := 0) C dX2_fitLine_0 rfl rfl ?_
  refine V_if_lt (tgt := 13) (pc := 1) C dX2_fitLine_1 (by decide) (fun hc => ?_) (fun hc => ?_)
  · have h := it_t hc h
    refine V_iconst (pc := 13) C dX2_fitLine_13 kc_i_0 ?_
    refine V_goto (tgt := 35) (pc := 14) C dX2_fitLine_14 (by decide) ?_
    cases h
    exact hR 35 _ ⟨_, rfl, rfl⟩ dX2_fitLine_35
  · have h := it_f hc h
    refine V_iload_n (pc := 4) C dX2_fitLine_4 rfl rfl ?_
    refine V_aload_n (pc := 5) C dX2_fitLine_5 rfl rfl ?_
    refine V_iload_n (pc := 6) C dX2_fitLine_6 rfl rfl ?_
    obtain ⟨r1, er1, h⟩ := b1_some h
    refine V_callV (As := [.int a1]) (pc := 7) C (mX2_fitsOf _ er1) zm_X2_fitsOf zi_X2_fitsOf ml_RX2_142 z1_cW_2 rfl ⟨Nat.le_of_ble_eq_true rfl, Nat.le_of_ble_eq_true rfl⟩ rfl rfl (Nat.le_of_ble_eq_true rfl) dX2_fitLine_7 ?_
    show V K 10 [some (.ref 221), some (.int a1), some (.int a2)] [.int r1, .int a2] S
    refine V_icmp_lt (tgt := 17) (pc := 10) C dX2_fitLine_10 (by decide) (fun hc => ?_) (fun hc => ?_)
    · have h := it_t hc h
      refine V_aload_n (pc := 17) C dX2_fitLine_17 rfl rfl ?_
      refine V_getF (p1 := 229) (pc := 18) C z1_cW_2 fl_RX2_33 rfl (zf_cW_2_8 z1_cW_2) dX2_fitLine_18 ?_
      refine V_iload_n (pc := 21) C dX2_fitLine_21 rfl rfl ?_
      refine V_bipush (pc := 22) C dX2_fitLine_22 kc_b_21 ?_
      refine V_imul (pc := 24) C dX2_fitLine_24 ?_
      refine V_iload_n (pc := 25) C dX2_fitLine_25 rfl rfl ?_
      refine V_aload_n (pc := 26) C dX2_fitLine_26 rfl rfl ?_
      refine V_getF (p1 := 232) (pc := 27) C z1_cW_2 fl_RX2_42 rfl (zf_cW_2_11 z1_cW_2) dX2_fitLine_27 ?_
      refine V_iload_n (pc := 30) C dX2_fitLine_30 rfl rfl ?_
      obtain ⟨k2, h⟩ := ck_some h
      refine V_iald (pc := 31) C (za_cW_2_11 z1_cW_2) k2 dX2_fitLine_31 ?_
      obtain ⟨k3, h⟩ := ck_some h
      refine V_idiv (pc := 32) C dX2_fitLine_32 (of_decide_eq_true k3) ?_
      refine V_iadd (pc := 33) C dX2_fitLine_33 ?_
      obtain ⟨k4, h⟩ := ck_some h
      refine V_iald (pc := 34) C (za_cW_2_8 z1_cW_2) k4 dX2_fitLine_34 ?_
      cases h
      exact hR 35 _ ⟨_, rfl, rfl⟩ dX2_fitLine_35
    · have h := it_f hc h
      refine V_iconst (pc := 13) C dX2_fitLine_13 kc_i_0 ?_
      refine V_goto (tgt := 35) (pc := 14) C dX2_fitLine_14 (by decide) ?_
      cases h
      exact hR 35 _ ⟨_, rfl, rfl⟩ dX2_fitLine_35
set_option maxRecDepth 100000 in
theorem mX2_fitSecond (l : Launch) {S : zM} {a1 : Int32} {a2 : Int32} {r : Int32}  (h : gX2_fitSecond S a1 a2 = some r) : zMet l cW zS0 yX2_fitSecond cX2_fitSecond 3 (some .int) 1 21 [.ref 221, .int a1, .int a2] S (some (.int r)) S := by
  refine zmeth (by decide +kernel) (by rfl) (fun K hKl C hR => ?_)
  show V K 0 [some (.ref 221), some (.int a1), some (.int a2)] [] S
  unfold gX2_fitSecond at h
  refine V_iload_n (pc := 0) C dX2_fitSecond_0 rfl rfl ?_
  refine V_if_lt (tgt := 13) (pc := 1) C dX2_fitSecond_1 (by decide) (fun hc => ?_) (fun hc => ?_)
  · have h := it_t hc h
    refine V_iconst (pc := 13) C dX2_fitSecond_13 kc_i_0 ?_
    refine V_goto (tgt := 35) (pc := 14) C dX2_fitSecond_14 (by decide) ?_
    cases h
    exact hR 35 _ ⟨_, rfl, rfl⟩ dX2_fitSecond_35
  · have h := it_f hc h
    refine V_iload_n (pc := 4) C dX2_fitSecond_4 rfl rfl ?_
    refine V_aload_n (pc := 5) C dX2_fitSecond_5 rfl rfl ?_
    refine V_iload_n (pc := 6) C dX2_fitSecond_6 rfl rfl ?_
    obtain ⟨r1, er1, h⟩ := b1_some h
    refine V_callV (As := [.int a1]) (pc := 7) C (mX2_fitsOf _ er1) zm_X2_fitsOf zi_X2_fitsOf ml_RX2_142 z1_cW_2 rfl ⟨Nat.le_of_ble_eq_true rfl, Nat.le_of_ble_eq_true rfl⟩ rfl rfl (Nat.le_of_ble_eq_true rfl) dX2_fitSecond_7 ?_
    show V K 10 [some (.ref 221), some (.int a1), some (.int a2)] [.int r1, .int a2] S
    refine V_icmp_lt (tgt := 17) (pc := 10) C dX2_fitSecond_10 (by decide) (fun hc => ?_) (fun hc => ?_)
    · have h := it_t hc h
      refine V_aload_n (pc := 17) C dX2_fitSecond_17 rfl rfl ?_
      refine V_getF (p1 := 230) (pc := 18) C z1_cW_2 fl_RX2_36 rfl (zf_cW_2_9 z1_cW_2) dX2_fitSecond_18 ?_
      refine V_iload_n (pc := 21) C dX2_fitSecond_21 rfl rfl ?_
      refine V_bipush (pc := 22) C dX2_fitSecond_22 kc_b_11 ?_
      refine V_imul (pc := 24) C dX2_fitSecond_24 ?_
      refine V_iload_n (pc := 25) C dX2_fitSecond_25 rfl rfl ?_
      refine V_aload_n (pc := 26) C dX2_fitSecond_26 rfl rfl ?_
      refine V_getF (p1 := 232) (pc := 27) C z1_cW_2 fl_RX2_42 rfl (zf_cW_2_11 z1_cW_2) dX2_fitSecond_27 ?_
      refine V_iload_n (pc := 30) C dX2_fitSecond_30 rfl rfl ?_
      obtain ⟨k2, h⟩ := ck_some h
      refine V_iald (pc := 31) C (za_cW_2_11 z1_cW_2) k2 dX2_fitSecond_31 ?_
      obtain ⟨k3, h⟩ := ck_some h
      refine V_irem (pc := 32) C dX2_fitSecond_32 (of_decide_eq_true k3) ?_
      refine V_iadd (pc := 33) C dX2_fitSecond_33 ?_
      obtain ⟨k4, h⟩ := ck_some h
      refine V_iald (pc := 34) C (za_cW_2_9 z1_cW_2) k4 dX2_fitSecond_34 ?_
      cases h
      exact hR 35 _ ⟨_, rfl, rfl⟩ dX2_fitSecond_35
    · have h := it_f hc h
      refine V_iconst (pc := 13) C dX2_fitSecond_13 kc_i_0 ?_
      refine V_goto (tgt := 35) (pc := 14) C dX2_fitSecond_14 (by decide) ?_
      cases h
      exact hR 35 _ ⟨_, rfl, rfl⟩ dX2_fitSecond_35
set_option maxRecDepth 100000 in
theorem mX3_empty (l : Launch) {S : zM} {q : Nat} {S' : zM} (hq : zob cW 3 q) (h : gX3_empty S q = some S') : zMet l cW zS0 yX3_empty cX3_empty 1 (none) 0 0 [.ref q] S none S' := by
  refine zmeth (by decide +kernel) (by rfl) (fun K hKl C hR => ?_)
  show V K 0 [some (.ref q)] [] S
  unfold gX3_empty at h
  refine V_aload_n (pc := 0) C dX3_empty_0 rfl rfl ?_
  refine V_iconst (pc := 1) C dX3_empty_1 kc_i_0 ?_
  refine V_putI (pc := 2) C hq fp_RX3_47 rfl rfl dX3_empty_2 ?_
  refine V_aload_n (pc := 5) C dX3_empty_5 rfl rfl ?_
  refine V_iconst (pc := 6) C dX3_empty_6 kc_i_0 ?_
  refine V_putI (pc := 7) C hq fp_RX3_51 rfl rfl dX3_empty_7 ?_
  refine V_aload_n (pc := 10) C dX3_empty_10 rfl rfl ?_
  refine V_iconst (pc := 11) C dX3_empty_11 kc_i_0 ?_
  refine V_putI (pc := 12) C hq fp_RX3_54 rfl rfl dX3_empty_12 ?_
  refine V_aload_n (pc := 15) C dX3_empty_15 rfl rfl ?_
  refine V_iconst (pc := 16) C dX3_empty_16 kc_i_0 ?_
  refine V_putI (pc := 17) C hq fp_RX3_57 rfl rfl dX3_empty_17 ?_
  refine V_aload_n (pc := 20) C dX3_empty_20 rfl rfl ?_
  refine V_iconst (pc := 21) C dX3_empty_21 kc_i_0 ?_
  refine V_putI (pc := 22) C hq fp_RX3_60 rfl rfl dX3_empty_22 ?_
  obtain ⟨S1, eS1, h⟩ := lt_some h
  refine V_nmS eS1 ?_
  cases h
  exact hR 25 _ rfl dX3_empty_25
set_option maxRecDepth 100000 in
theorem mX9_passMarks_L18 {K : zK} (C : zC K cX9_passMarks yX9_passMarks.cls 6 1 21 cW) {S : zM} {v0 : Nat} {v1 : Int32} {v4 : Int32} (hv0 : zob cW 9 v0) : ∀ (f : Nat) (v2 : Int32) (v3 : Int32) (v5 : Int32) (o2 : Int32) (o3 : Int32), gX9_passMarks_L18 S v0 v1 v4 f v2 v3 v5 = some (o2, o3) → V K 60 [some (.ref v0), some (.int v1), some (.int o2), some (.int o3), some (.int v4), none] [] S → V K 18 [some (.ref v0), some (.int v1), some (.int v2), some (.int v3), some (.int v4), some (.int v5)] [] S := by
  intro f
  induction f with
  | zero => intro v2 v3 v5 o2 o3 h hx; cases h
  | succ n ih =>
    intro v2 v3 v5 o2 o3 h hx
    unfold gX9_passMarks_L18 at h
    refine V_iload (pc := 18) C dX9_passMarks_18 rfl ?_
    refine V_sipush (pc := 20) C dX9_passMarks_20 kc_s_9999 ?_
    refine V_icmp_gt (tgt := 60) (pc := 23) C dX9_passMarks_23 (by decide) (fun hc => ?_) (fun hc => ?_)
    · have h := it_t hc h
      cases h
      exact V_mask [true, true, true, true, true, false] hx
    · have h := it_f hc h
      refine V_iload_n (pc := 26) C dX9_passMarks_26 rfl rfl ?_
      refine V_aload_n (pc := 27) C dX9_passMarks_27 rfl rfl ?_
      refine V_getF (p1 := (v0 + 5)) (pc := 28) C hv0 fl_RX9_24 rfl (zf_cW_9_4 hv0) dX9_passMarks_28 ?_
      refine V_iload (pc := 31) C dX9_passMarks_31 rfl ?_
      obtain ⟨k1, h⟩ := ck_some h
      refine V_iald (pc := 33) C (za_cW_9_4 hv0) k1 dX9_passMarks_33 ?_
      refine V_icmp_gt (tgt := 60) (pc := 34) C dX9_passMarks_34 (by decide) (fun hc => ?_) (fun hc => ?_)
      · have h := it_t hc h
        cases h
        exact V_mask [true, true, true, true, true, false] hx
      · have h := it_f hc h
        refine V_iload_n (pc := 37) C dX9_passMarks_37 rfl rfl ?_
        refine V_iconst (pc := 38) C dX9_passMarks_38 kc_i_1 ?_
        refine V_iload_n (pc := 39) C dX9_passMarks_39 rfl rfl ?_
        refine V_iconst (pc := 40) C dX9_passMarks_40 kc_i_1 ?_
        refine V_iload_n (pc := 41) C dX9_passMarks_41 rfl rfl ?_
        refine V_max (pc := 42) C ml_RX9_61 mt_max.1 mt_max.2.1 mt_max.2.2 ⟨Nat.le_of_ble_eq_true rfl, Nat.le_of_ble_eq_true rfl⟩ dX9_passMarks_42 ?_
        obtain ⟨k2, h⟩ := ck_some h
        refine V_idiv (pc := 45) C dX9_passMarks_45 (of_decide_eq_true k2) ?_
        refine V_max (pc := 46) C ml_RX9_61 mt_max.1 mt_max.2.1 mt_max.2.2 ⟨Nat.le_of_ble_eq_true rfl, Nat.le_of_ble_eq_true rfl⟩ dX9_passMarks_46 ?_
        refine V_iadd (pc := 49) C dX9_passMarks_49 ?_
        obtain ⟨x3, ex3, h⟩ := lt_some h
        refine V_nmI ex3 ?_
        refine V_istore_n (L' := [some (.ref v0), some (.int v1), some (.int x3), some (.int v3), some (.int v4), some (.int v5)]) (pc := 50) C dX9_passMarks_50 rfl (by decide) rfl ?_
        refine V_iinc (L' := [some (.ref v0), some (.int v1), some (.int x3), some (.int (v3 + (1 : Int32))), some (.int v4), some (.int v5)]) (v := (v3 + (1 : Int32))) (pc := 51) C dX9_passMarks_51 rfl (congrArg (v3 + ·) kc_i_1) (by decide) rfl ?_
        refine V_iinc (L' := [some (.ref v0), some (.int v1), some (.int x3), some (.int (v3 + (1 : Int32))), some (.int v4), some (.int (v5 + (1 : Int32)))]) (v := (v5 + (1 : Int32))) (pc := 54) C dX9_passMarks_54 rfl (congrArg (v5 + ·) kc_i_1) (by decide) rfl ?_
        refine V_goto (tgt := 18) (pc := 57) C dX9_passMarks_57 (by decide) ?_
        exact V_mask [true, true, true, true, true, true] (ih _ _ _ _ _ h hx)
set_option maxRecDepth 100000 in
theorem mX9_passMarks_L7 {K : zK} (C : zC K cX9_passMarks yX9_passMarks.cls 6 1 21 cW) {v0 : Nat} {v1 : Int32} (hv0 : zob cW 9 v0) : ∀ (f : Nat) (S : zM) (v2 : Int32) (v3 : Int32) (v4 : Int32) (S' : zM), gX9_passMarks_L7 v0 v1 f S v2 v3 v4 = some S' → zR K cX9_passMarks (none) S' none → V K 7 [some (.ref v0), some (.int v1), some (.int v2), some (.int v3), some (.int v4), none] [] S := by
  intro f
  induction f with
  | zero => intro S v2 v3 v4 S' h hR; cases h
  | succ n ih =>
    intro S v2 v3 v4 S' h hR
    unfold gX9_passMarks_L7 at h
    refine V_iload (pc := 7) C dX9_passMarks_7 rfl ?_
    refine V_sipush (pc := 9) C dX9_passMarks_9 kc_s_400 ?_
    refine V_icmp_gt (tgt := 74) (pc := 12) C dX9_passMarks_12 (by decide) (fun hc => ?_) (fun hc => ?_)
    · have h := it_t hc h
      cases h
      exact hR 74 _ rfl dX9_passMarks_74
    · have h := it_f hc h
      refine V_iconst (pc := 15) C dX9_passMarks_15 kc_i_0 ?_
      refine V_istore (L' := [some (.ref v0), some (.int v1), some (.int v2), some (.int v3), some (.int v4), some (.int (0 : Int32))]) (pc := 16) C dX9_passMarks_16 (by decide) rfl ?_
      obtain ⟨w4, w5, e18, h⟩ := bu2_some h
      refine V_mask [true, true, true, true, true, true] (mX9_passMarks_L18 C hv0 FU _ _ _ _ _ e18 ?_)
      refine V_aload_n (pc := 60) C dX9_passMarks_60 rfl rfl ?_
      refine V_getF (p1 := (v0 + 5)) (pc := 61) C hv0 fl_RX9_24 rfl (zf_cW_9_4 hv0) dX9_passMarks_61 ?_
      refine V_iload (pc := 64) C dX9_passMarks_64 rfl ?_
      refine V_iload_n (pc := 66) C dX9_passMarks_66 rfl rfl ?_
      obtain ⟨k6, h⟩ := ck_some h
      refine V_iast (pc := 67) C (za_cW_9_4 hv0) k6 dX9_passMarks_67 ?_
      refine V_iinc (L' := [some (.ref v0), some (.int v1), some (.int w4), some (.int w5), some (.int (v4 + (1 : Int32))), none]) (v := (v4 + (1 : Int32))) (pc := 68) C dX9_passMarks_68 rfl (congrArg (v4 + ·) kc_i_1) (by decide) rfl ?_
      refine V_goto (tgt := 7) (pc := 71) C dX9_passMarks_71 (by decide) ?_
      exact V_mask [true, true, true, true, true, false] (ih _ _ _ _ _ h hR)
set_option maxRecDepth 100000 in
theorem mX9_passMarks (l : Launch) {S : zM} {q : Nat} {a1 : Int32} {S' : zM} (hq : zob cW 9 q) (h : gX9_passMarks S q a1 = some S') : zMet l cW zS0 yX9_passMarks cX9_passMarks 6 (none) 1 21 [.ref q, .int a1] S none S' := by
  refine zmeth (by decide +kernel) (by rfl) (fun K hKl C hR => ?_)
  show V K 0 [some (.ref q), some (.int a1), none, none, none, none] [] S
  unfold gX9_passMarks at h
  refine V_iconst (pc := 0) C dX9_passMarks_0 kc_i_1 ?_
  refine V_istore_n (L' := [some (.ref q), some (.int a1), some (.int (1 : Int32)), none, none, none]) (pc := 1) C dX9_passMarks_1 rfl (by decide) rfl ?_
  refine V_iconst (pc := 2) C dX9_passMarks_2 kc_i_0 ?_
  refine V_istore_n (L' := [some (.ref q), some (.int a1), some (.int (1 : Int32)), some (.int (0 : Int32)), none, none]) (pc := 3) C dX9_passMarks_3 rfl (by decide) rfl ?_
  refine V_iconst (pc := 4) C dX9_passMarks_4 kc_i_0 ?_
  refine V_istore (L' := [some (.ref q), some (.int a1), some (.int (1 : Int32)), some (.int (0 : Int32)), some (.int (0 : Int32)), none]) (pc := 5) C dX9_passMarks_5 (by decide) rfl ?_
  exact V_mask [true, true, true, true, true, false] (mX9_passMarks_L7 C hq FU _ _ _ _ _ h hR)
set_option maxRecDepth 100000 in
theorem mX9_raised_L5 {K : zK} (C : zC K cX9_raised yX9_raised.cls 6 0 0 cW) {S : zM} {v0 : Int64} {v2 : Int32}  : ∀ (f : Nat) (v3 : Int64) (v5 : Int32) (r : Int64), gX9_raised_L5 v0 v2 f v3 v5 = some r → zR K cX9_raised (some .long) S (some (.long r)) → V K 5 [some (.long v0), none, some (.int v2), some (.long v3), none, some (.int v5)] [] S := by
  intro f
  induction f with
  | zero => intro v3 v5 r h hR; cases h
  | succ n ih =>
    intro v3 v5 r h hR
    unfold gX9_raised_L5 at h
    refine V_iload (pc := 5) C dX9_raised_5 rfl ?_
    refine V_iload_n (pc := 7) C dX9_raised_7 rfl rfl ?_
    refine V_icmp_ge (tgt := 21) (pc := 8) C dX9_raised_8 (by decide) (fun hc => ?_) (fun hc => ?_)
    · have h := it_t hc h
      refine V_lload_n (pc := 21) C dX9_raised_21 rfl rfl ?_
      cases h
      exact hR 22 _ rfl dX9_raised_22
    · have h := it_f hc h
      refine V_lload_n (pc := 11) C dX9_raised_11 rfl rfl ?_
      refine V_lload_n (pc := 12) C dX9_raised_12 rfl rfl ?_
      refine V_lmul (pc := 13) C dX9_raised_13 ?_
      refine V_lstore_n (L' := [some (.long v0), none, some (.int v2), some (.long (v3 * v0)), none, some (.int v5)]) (pc := 14) C dX9_raised_14 rfl (by decide) rfl ?_
      refine V_iinc (L' := [some (.long v0), none, some (.int v2), some (.long (v3 * v0)), none, some (.int (v5 + (1 : Int32)))]) (v := (v5 + (1 : Int32))) (pc := 15) C dX9_raised_15 rfl (congrArg (v5 + ·) kc_i_1) (by decide) rfl ?_
      refine V_goto (tgt := 5) (pc := 18) C dX9_raised_18 (by decide) ?_
      exact V_mask [true, false, true, true, false, true] (ih _ _ _ h hR)
set_option maxRecDepth 100000 in
theorem mX9_raised (l : Launch) {S : zM} {a0 : Int64} {a2 : Int32} {r : Int64}  (h : gX9_raised a0 a2 = some r) : zMet l cW zS0 yX9_raised cX9_raised 6 (some .long) 0 0 [.long a0, .int a2] S (some (.long r)) S := by
  refine zmeth (by decide +kernel) (by rfl) (fun K hKl C hR => ?_)
  show V K 0 [some (.long a0), none, some (.int a2), none, none, none] [] S
  unfold gX9_raised at h
  refine V_lconst (pc := 0) C dX9_raised_0 (v := (1 : Int64)) rfl ?_
  refine V_lstore_n (L' := [some (.long a0), none, some (.int a2), some (.long (1 : Int64)), none, none]) (pc := 1) C dX9_raised_1 rfl (by decide) rfl ?_
  refine V_iconst (pc := 2) C dX9_raised_2 kc_i_0 ?_
  refine V_istore (L' := [some (.long a0), none, some (.int a2), some (.long (1 : Int64)), none, some (.int (0 : Int32))]) (pc := 3) C dX9_raised_3 (by decide) rfl ?_
  exact V_mask [true, false, true, true, false, true] (mX9_raised_L5 C  FU _ _ _ h hR)
set_option maxRecDepth 100000 in
theorem mX9_root_L10 {K : zK} (C : zC K cX9_root yX9_root.cls 7 1 25 cW) {S : zM} {v0 : Int64} {v2 : Int32}  : ∀ (f : Nat) (v3 : Int32) (v4 : Int32) (v5 : Int32) (r : Int32), gX9_root_L10 v0 v2 f v3 v4 v5 = some r → zR K cX9_root (some .int) S (some (.int r)) → V K 10 [some (.long v0), none, some (.int v2), some (.int v3), some (.int v4), some (.int v5), none] [] S := by
  intro f
  induction f with
  | zero => intro v3 v4 v5 r h hR; cases h
  | succ n ih =>
    intro v3 v4 v5 r h hR
    unfold gX9_root_L10 at h
    refine V_iload (pc := 10) C dX9_root_10 rfl ?_
    refine V_bipush (pc := 12) C dX9_root_12 kc_b_32 ?_
    refine V_icmp_ge (tgt := 63) (pc := 14) C dX9_root_14 (by decide) (fun hc => ?_) (fun hc => ?_)
    · have h := it_t hc h
      refine V_iload_n (pc := 63) C dX9_root_63 rfl rfl ?_
      cases h
      exact hR 64 _ ⟨_, rfl, rfl⟩ dX9_root_64
    · have h := it_f hc h
      refine V_iload_n (pc := 17) C dX9_root_17 rfl rfl ?_
      refine V_iload (pc := 18) C dX9_root_18 rfl ?_
      refine V_icmp_ge (tgt := 63) (pc := 20) C dX9_root_20 (by decide) (fun hc => ?_) (fun hc => ?_)
      · have h := it_t hc h
        refine V_iload_n (pc := 63) C dX9_root_63 rfl rfl ?_
        cases h
        exact hR 64 _ ⟨_, rfl, rfl⟩ dX9_root_64
      · have h := it_f hc h
        refine V_iload_n (pc := 23) C dX9_root_23 rfl rfl ?_
        refine V_iload (pc := 24) C dX9_root_24 rfl ?_
        refine V_iadd (pc := 26) C dX9_root_26 ?_
        refine V_iconst (pc := 27) C dX9_root_27 kc_i_1 ?_
        refine V_iadd (pc := 28) C dX9_root_28 ?_
        refine V_iconst (pc := 29) C dX9_root_29 kc_i_2 ?_
        refine V_idiv (pc := 30) C dX9_root_30 (by decide) ?_
        obtain ⟨x1, ex1, h⟩ := lt_some h
        refine V_nmI ex1 ?_
        refine V_istore (L' := [some (.long v0), none, some (.int v2), some (.int v3), some (.int v4), some (.int v5), some (.int x1)]) (pc := 31) C dX9_root_31 (by decide) rfl ?_
        refine V_iload (pc := 33) C dX9_root_33 rfl ?_
        refine V_i2l (pc := 35) C dX9_root_35 ?_
        refine V_iload_n (pc := 36) C dX9_root_36 rfl rfl ?_
        obtain ⟨r2, er2, h⟩ := b1_some h
        refine V_callS (As := [.long x1.toInt64, .int v2]) (pc := 37) C (mX9_raised _ er2) zm_X9_raised zs_X9_raised ml_RX9_53 ⟨Nat.le_of_ble_eq_true rfl, Nat.le_of_ble_eq_true rfl⟩ rfl rfl (Nat.le_of_ble_eq_true rfl) dX9_root_37 ?_
        show V K 40 [some (.long v0), none, some (.int v2), some (.int v3), some (.int v4), some (.int v5), some (.int x1)] [.long r2] S
        refine V_lload_n (pc := 40) C dX9_root_40 rfl rfl ?_
        refine V_lcmp_gt (tgt := 51) (pc := 41) C dX9_root_41 dX9_root_42 (by decide) (fun hc => ?_) (fun hc => ?_)
        · have h := it_t hc h
          refine V_iload (pc := 51) C dX9_root_51 rfl ?_
          refine V_iconst (pc := 53) C dX9_root_53 kc_i_1 ?_
          refine V_isub (pc := 54) C dX9_root_54 ?_
          refine V_istore (L' := [some (.long v0), none, some (.int v2), some (.int v3), some (.int (x1 - (1 : Int32))), some (.int v5), some (.int x1)]) (pc := 55) C dX9_root_55 (by decide) rfl ?_
          refine V_iinc (L' := [some (.long v0), none, some (.int v2), some (.int v3), some (.int (x1 - (1 : Int32))), some (.int (v5 + (1 : Int32))), some (.int x1)]) (v := (v5 + (1 : Int32))) (pc := 57) C dX9_root_57 rfl (congrArg (v5 + ·) kc_i_1) (by decide) rfl ?_
          refine V_goto (tgt := 10) (pc := 60) C dX9_root_60 (by decide) ?_
          exact V_mask [true, false, true, true, true, true, false] (ih _ _ _ _ h hR)
        · have h := it_f hc h
          refine V_iload (pc := 45) C dX9_root_45 rfl ?_
          refine V_istore_n (L' := [some (.long v0), none, some (.int v2), some (.int x1), some (.int v4), some (.int v5), some (.int x1)]) (pc := 47) C dX9_root_47 rfl (by decide) rfl ?_
          refine V_goto (tgt := 57) (pc := 48) C dX9_root_48 (by decide) ?_
          refine V_iinc (L' := [some (.long v0), none, some (.int v2), some (.int x1), some (.int v4), some (.int (v5 + (1 : Int32))), some (.int x1)]) (v := (v5 + (1 : Int32))) (pc := 57) C dX9_root_57 rfl (congrArg (v5 + ·) kc_i_1) (by decide) rfl ?_
          refine V_goto (tgt := 10) (pc := 60) C dX9_root_60 (by decide) ?_
          exact V_mask [true, false, true, true, true, true, false] (ih _ _ _ _ h hR)
set_option maxRecDepth 100000 in
theorem mX9_root (l : Launch) {S : zM} {a0 : Int64} {a2 : Int32} {r : Int32}  (h : gX9_root a0 a2 = some r) : zMet l cW zS0 yX9_root cX9_root 7 (some .int) 1 25 [.long a0, .int a2] S (some (.int r)) S := by
  refine zmeth (by decide +kernel) (by rfl) (fun K hKl C hR => ?_)
  show V K 0 [some (.long a0), none, some (.int a2), none, none, none, none] [] S
  unfold gX9_root at h
  refine V_iconst (pc := 0) C dX9_root_0 kc_i_0 ?_
  refine V_istore_n (L' := [some (.long a0), none, some (.int a2), some (.int (0 : Int32)), none, none, none]) (pc := 1) C dX9_root_1 rfl (by decide) rfl ?_
  refine V_sipush (pc := 2) C dX9_root_2 kc_s_9999 ?_
  refine V_istore (L' := [some (.long a0), none, some (.int a2), some (.int (0 : Int32)), some (.int (9999 : Int32)), none, none]) (pc := 5) C dX9_root_5 (by decide) rfl ?_
  refine V_iconst (pc := 7) C dX9_root_7 kc_i_0 ?_
  refine V_istore (L' := [some (.long a0), none, some (.int a2), some (.int (0 : Int32)), some (.int (9999 : Int32)), some (.int (0 : Int32)), none]) (pc := 8) C dX9_root_8 (by decide) rfl ?_
  exact V_mask [true, false, true, true, true, true, false] (mX9_root_L10 C  FU _ _ _ _ h hR)
set_option maxRecDepth 100000 in
theorem mX9_take_L13 {K : zK} (C : zC K cX9_take yX9_take.cls 6 2 51 cW) {v0 : Nat} {v1 : Int32} {v2 : Int32} {v3 : Int32} (hv0 : zob cW 9 v0) : ∀ (f : Nat) (S : zM) (v4 : Int32) (S' : zM), gX9_take_L13 v0 v1 v2 v3 f S v4 = some S' → zR K cX9_take (none) S' none → V K 13 [some (.ref v0), some (.int v1), some (.int v2), some (.int v3), some (.int v4), none] [] S := by
  intro f
  induction f with
  | zero => intro S v4 S' h hR; cases h
  | succ n ih =>
    intro S v4 S' h hR
    unfold gX9_take_L13 at h
    refine V_iload (pc := 13) C dX9_take_13 rfl ?_
    refine V_sipush (pc := 15) C dX9_take_15 kc_s_400 ?_
    refine V_icmp_gt (tgt := 94) (pc := 18) C dX9_take_18 (by decide) (fun hc => ?_) (fun hc => ?_)
    · have h := it_t hc h
      cases h
      exact hR 94 _ rfl dX9_take_94
    · have h := it_f hc h
      refine V_aload_n (pc := 21) C dX9_take_21 rfl rfl ?_
      refine V_getF (p1 := (v0 + 5)) (pc := 22) C hv0 fl_RX9_24 rfl (zf_cW_9_4 hv0) dX9_take_22 ?_
      refine V_iload (pc := 25) C dX9_take_25 rfl ?_
      obtain ⟨k1, h⟩ := ck_some h
      refine V_iald (pc := 27) C (za_cW_9_4 hv0) k1 dX9_take_27 ?_
      refine V_istore (L' := [some (.ref v0), some (.int v1), some (.int v2), some (.int v3), some (.int v4), some (.int (gI S (v0 + 5) (ix v4)))]) (pc := 28) C dX9_take_28 (by decide) rfl ?_
      refine V_aload_n (pc := 30) C dX9_take_30 rfl rfl ?_
      refine V_getF (p1 := (v0 + 5)) (pc := 31) C hv0 fl_RX9_24 rfl (zf_cW_9_4 hv0) dX9_take_31 ?_
      refine V_iload (pc := 34) C dX9_take_34 rfl ?_
      refine V_iload_n (pc := 36) C dX9_take_36 rfl rfl ?_
      refine V_iconst (pc := 37) C dX9_take_37 kc_i_1 ?_
      refine V_icmp_ne (tgt := 55) (pc := 38) C dX9_take_38 (by decide) (fun hc => ?_) (fun hc => ?_)
      · have h := it_f hc h
        refine V_iload_n (pc := 55) C dX9_take_55 rfl rfl ?_
        refine V_iconst (pc := 56) C dX9_take_56 kc_i_2 ?_
        refine V_icmp_ne (tgt := 79) (pc := 57) C dX9_take_57 (by decide) (fun hc => ?_) (fun hc => ?_)
        · have h := it_f hc h
          refine V_iconst (pc := 79) C dX9_take_79 kc_i_0 ?_
          refine V_iload (pc := 80) C dX9_take_80 rfl ?_
          refine V_iload_n (pc := 82) C dX9_take_82 rfl rfl ?_
          refine V_isub (pc := 83) C dX9_take_83 ?_
          refine V_max (pc := 84) C ml_RX9_61 mt_max.1 mt_max.2.1 mt_max.2.2 ⟨Nat.le_of_ble_eq_true rfl, Nat.le_of_ble_eq_true rfl⟩ dX9_take_84 ?_
          obtain ⟨k2, h⟩ := ck_some h
          refine V_iast (pc := 87) C (za_cW_9_4 hv0) k2 dX9_take_87 ?_
          refine V_iinc (L' := [some (.ref v0), some (.int v1), some (.int v2), some (.int v3), some (.int (v4 + (1 : Int32))), some (.int (gI S (v0 + 5) (ix v4)))]) (v := (v4 + (1 : Int32))) (pc := 88) C dX9_take_88 rfl (congrArg (v4 + ·) kc_i_1) (by decide) rfl ?_
          refine V_goto (tgt := 13) (pc := 91) C dX9_take_91 (by decide) ?_
          exact V_mask [true, true, true, true, true, false] (ih _ _ _ h hR)
        · have h := it_t hc h
          refine V_sipush (pc := 60) C dX9_take_60 kc_s_9999 ?_
          refine V_iload_n (pc := 63) C dX9_take_63 rfl rfl ?_
          refine V_iload (pc := 64) C dX9_take_64 rfl ?_
          refine V_imul (pc := 66) C dX9_take_66 ?_
          refine V_iconst (pc := 67) C dX9_take_67 kc_i_1 ?_
          refine V_iload_n (pc := 68) C dX9_take_68 rfl rfl ?_
          refine V_max (pc := 69) C ml_RX9_61 mt_max.1 mt_max.2.1 mt_max.2.2 ⟨Nat.le_of_ble_eq_true rfl, Nat.le_of_ble_eq_true rfl⟩ dX9_take_69 ?_
          obtain ⟨k3, h⟩ := ck_some h
          refine V_idiv (pc := 72) C dX9_take_72 (of_decide_eq_true k3) ?_
          refine V_min (pc := 73) C ml_RX9_67 mt_min.1 mt_min.2.1 mt_min.2.2 ⟨Nat.le_of_ble_eq_true rfl, Nat.le_of_ble_eq_true rfl⟩ dX9_take_73 ?_
          refine V_goto (tgt := 87) (pc := 76) C dX9_take_76 (by decide) ?_
          obtain ⟨k4, h⟩ := ck_some h
          refine V_iast (pc := 87) C (za_cW_9_4 hv0) k4 dX9_take_87 ?_
          obtain ⟨S5, eS5, h⟩ := lt_some h
          refine V_nmS eS5 ?_
          refine V_iinc (L' := [some (.ref v0), some (.int v1), some (.int v2), some (.int v3), some (.int (v4 + (1 : Int32))), some (.int (gI S (v0 + 5) (ix v4)))]) (v := (v4 + (1 : Int32))) (pc := 88) C dX9_take_88 rfl (congrArg (v4 + ·) kc_i_1) (by decide) rfl ?_
          refine V_goto (tgt := 13) (pc := 91) C dX9_take_91 (by decide) ?_
          exact V_mask [true, true, true, true, true, false] (ih _ _ _ h hR)
      · have h := it_t hc h
        refine V_iload (pc := 41) C dX9_take_41 rfl ?_
        refine V_i2l (pc := 43) C dX9_take_43 ?_
        refine V_iload_n (pc := 44) C dX9_take_44 rfl rfl ?_
        obtain ⟨r6, er6, h⟩ := b1_some h
        refine V_callS (As := [.long ((gI S (v0 + 5) (ix v4)).toInt64), .int v2]) (pc := 45) C (mX9_raised _ er6) zm_X9_raised zs_X9_raised ml_RX9_53 ⟨Nat.le_of_ble_eq_true rfl, Nat.le_of_ble_eq_true rfl⟩ rfl rfl (Nat.le_of_ble_eq_true rfl) dX9_take_45 ?_
        show V K 48 [some (.ref v0), some (.int v1), some (.int v2), some (.int v3), some (.int v4), some (.int (gI S (v0 + 5) (ix v4)))] [.long r6, .int v4, .ref (v0 + 5)] S
        refine V_iload_n (pc := 48) C dX9_take_48 rfl rfl ?_
        obtain ⟨r7, er7, h⟩ := b1_some h
        refine V_callS (As := [.long r6, .int v3]) (pc := 49) C (mX9_root _ er7) zm_X9_root zs_X9_root ml_RX9_57 ⟨Nat.le_of_ble_eq_true rfl, Nat.le_of_ble_eq_true rfl⟩ rfl rfl (Nat.le_of_ble_eq_true rfl) dX9_take_49 ?_
        show V K 52 [some (.ref v0), some (.int v1), some (.int v2), some (.int v3), some (.int v4), some (.int (gI S (v0 + 5) (ix v4)))] [.int r7, .int v4, .ref (v0 + 5)] S
        refine V_goto (tgt := 87) (pc := 52) C dX9_take_52 (by decide) ?_
        obtain ⟨k8, h⟩ := ck_some h
        refine V_iast (pc := 87) C (za_cW_9_4 hv0) k8 dX9_take_87 ?_
        refine V_iinc (L' := [some (.ref v0), some (.int v1), some (.int v2), some (.int v3), some (.int (v4 + (1 : Int32))), some (.int (gI S (v0 + 5) (ix v4)))]) (v := (v4 + (1 : Int32))) (pc := 88) C dX9_take_88 rfl (congrArg (v4 + ·) kc_i_1) (by decide) rfl ?_
        refine V_goto (tgt := 13) (pc := 91) C dX9_take_91 (by decide) ?_
        exact V_mask [true, true, true, true, true, false] (ih _ _ _ h hR)
set_option maxRecDepth 100000 in
theorem mX9_take (l : Launch) {S : zM} {q : Nat} {a1 : Int32} {a2 : Int32} {a3 : Int32} {S' : zM} (hq : zob cW 9 q) (h : gX9_take S q a1 a2 a3 = some S') : zMet l cW zS0 yX9_take cX9_take 6 (none) 2 51 [.ref q, .int a1, .int a2, .int a3] S none S' := by
  refine zmeth (by decide +kernel) (by rfl) (fun K hKl C hR => ?_)
  show V K 0 [some (.ref q), some (.int a1), some (.int a2), some (.int a3), none, none] [] S
  unfold gX9_take at h
  refine V_iload_n (pc := 0) C dX9_take_0 rfl rfl ?_
  refine V_if_ne (tgt := 10) (pc := 1) C dX9_take_1 (by decide) (fun hc => ?_) (fun hc => ?_)
  · have h := it_f hc h
    refine V_iconst (pc := 10) C dX9_take_10 kc_i_0 ?_
    refine V_istore (L' := [some (.ref q), some (.int a1), some (.int a2), some (.int a3), some (.int (0 : Int32)), none]) (pc := 11) C dX9_take_11 (by decide) rfl ?_
    exact V_mask [true, true, true, true, true, false] (mX9_take_L13 C hq FU _ _ _ h hR)
  · have h := it_t hc h
    refine V_aload_n (pc := 4) C dX9_take_4 rfl rfl ?_
    refine V_iload_n (pc := 5) C dX9_take_5 rfl rfl ?_
    obtain ⟨S10, euS10, h⟩ := b1_some h
    refine V_callV (As := [.int a2]) (pc := 6) C (mX9_passMarks _ hq euS10) zm_X9_passMarks zi_X9_passMarks ml_RX9_49 hq rfl ⟨Nat.le_of_ble_eq_true rfl, Nat.le_of_ble_eq_true rfl⟩ rfl rfl (Nat.le_of_ble_eq_true rfl) dX9_take_6 ?_
    show V K 9 [some (.ref q), some (.int a1), some (.int a2), some (.int a3), none, none] [] S10
    cases h
    exact hR 9 _ rfl dX9_take_9
set_option maxRecDepth 100000 in
theorem mX4_sumFromBehind_L5 {K : zK} (C : zC K cX4_sumFromBehind yX4_sumFromBehind.cls 2 0 0 cW) {v0 : Nat} {nv0 : Nat} (hv0 : zar cW 1 0 nv0 v0) : ∀ (f : Nat) (S : zM) (v1 : Int32) (S' : zM), gX4_sumFromBehind_L5 v0 nv0 f S v1 = some S' → zR K cX4_sumFromBehind (none) S' none → V K 5 [some (.ref v0), some (.int v1)] [] S := by
  intro f
  induction f with
  | zero => intro S v1 S' h hR; cases h
  | succ n ih =>
    intro S v1 S' h hR
    unfold gX4_sumFromBehind_L5 at h
    refine V_iload_n (pc := 5) C dX4_sumFromBehind_5 rfl rfl ?_
    refine V_if_lt (tgt := 26) (pc := 6) C dX4_sumFromBehind_6 (by decide) (fun hc => ?_) (fun hc => ?_)
    · have h := it_t hc h
      cases h
      exact hR 26 _ rfl dX4_sumFromBehind_26
    · have h := it_f hc h
      refine V_aload_n (pc := 9) C dX4_sumFromBehind_9 rfl rfl ?_
      refine V_iload_n (pc := 10) C dX4_sumFromBehind_10 rfl rfl ?_
      refine V_dup2 (pc := 11) C dX4_sumFromBehind_11 rfl rfl ?_
      obtain ⟨k2, h⟩ := ck_some h
      refine V_iald (pc := 12) C hv0 k2 dX4_sumFromBehind_12 ?_
      refine V_aload_n (pc := 13) C dX4_sumFromBehind_13 rfl rfl ?_
      refine V_iload_n (pc := 14) C dX4_sumFromBehind_14 rfl rfl ?_
      refine V_iconst (pc := 15) C dX4_sumFromBehind_15 kc_i_1 ?_
      refine V_iadd (pc := 16) C dX4_sumFromBehind_16 ?_
      obtain ⟨k3, h⟩ := ck_some h
      refine V_iald (pc := 17) C hv0 k3 dX4_sumFromBehind_17 ?_
      refine V_iadd (pc := 18) C dX4_sumFromBehind_18 ?_
      obtain ⟨k4, h⟩ := ck_some h
      refine V_iast (pc := 19) C hv0 k4 dX4_sumFromBehind_19 ?_
      refine V_iinc (L' := [some (.ref v0), some (.int (v1 + (-1 : Int32)))]) (v := (v1 + (-1 : Int32))) (pc := 20) C dX4_sumFromBehind_20 rfl (congrArg (v1 + ·) kc_i_m1) (by decide) rfl ?_
      refine V_goto (tgt := 5) (pc := 23) C dX4_sumFromBehind_23 (by decide) ?_
      exact V_mask [true, true] (ih _ _ _ h hR)
set_option maxRecDepth 100000 in
theorem mX4_sumFromBehind (l : Launch) {S : zM} {a0 : Nat} {na0 : Nat} {S' : zM} (ha0 : zar cW 1 0 na0 a0) (h : gX4_sumFromBehind S a0 na0 = some S') : zMet l cW zS0 yX4_sumFromBehind cX4_sumFromBehind 2 (none) 0 0 [.ref a0] S none S' := by
  refine zmeth (by decide +kernel) (by rfl) (fun K hKl C hR => ?_)
  show V K 0 [some (.ref a0), none] [] S
  unfold gX4_sumFromBehind at h
  refine V_aload_n (pc := 0) C dX4_sumFromBehind_0 rfl rfl ?_
  refine V_alen (v := (Int32.ofNat na0)) (pc := 1) C ha0 (by decide) (fun _ => rfl) rfl dX4_sumFromBehind_1 ?_
  refine V_iconst (pc := 2) C dX4_sumFromBehind_2 kc_i_2 ?_
  refine V_isub (pc := 3) C dX4_sumFromBehind_3 ?_
  obtain ⟨x1, ex1, h⟩ := lt_some h
  refine V_nmI ex1 ?_
  refine V_istore_n (L' := [some (.ref a0), some (.int x1)]) (pc := 4) C dX4_sumFromBehind_4 rfl (by decide) rfl ?_
  exact V_mask [true, true] (mX4_sumFromBehind_L5 C ha0 FU _ _ _ h hR)
set_option maxRecDepth 100000 in
theorem mX4_fill_L10 {K : zK} (C : zC K cX4_fill yX4_fill.cls 5 1 23 cW) {v0 : Nat} {v1 : Nat} {v2 : Int32} (hv0 : zob cW 4 v0) (hv1 : zar cW 1 0 6 v1) : ∀ (f : Nat) (S : zM) (v3 : Int32) (S' : zM), gX4_fill_L10 v0 v1 v2 f S v3 = some S' → V K 54 [some (.ref v0), none, none, none, none] [] S' → V K 10 [some (.ref v0), some (.ref v1), some (.int v2), some (.int v3), none] [] S := by
  intro f
  induction f with
  | zero => intro S v3 S' h hx; cases h
  | succ n ih =>
    intro S v3 S' h hx
    unfold gX4_fill_L10 at h
    refine V_iload_n (pc := 10) C dX4_fill_10 rfl rfl ?_
    refine V_iload_n (pc := 11) C dX4_fill_11 rfl rfl ?_
    refine V_icmp_ge (tgt := 54) (pc := 12) C dX4_fill_12 (by decide) (fun hc => ?_) (fun hc => ?_)
    · have h := it_t hc h
      cases h
      exact V_mask [true, false, false, false, false] hx
    · have h := it_f hc h
      refine V_iload_n (pc := 15) C dX4_fill_15 rfl rfl ?_
      refine V_aload_n (pc := 16) C dX4_fill_16 rfl rfl ?_
      refine V_alen (v := (6 : Int32)) (pc := 17) C hv1 (by decide) (fun _ => rfl) (by decide) dX4_fill_17 ?_
      refine V_icmp_ge (tgt := 54) (pc := 18) C dX4_fill_18 (by decide) (fun hc => ?_) (fun hc => ?_)
      · have h := it_t hc h
        cases h
        exact V_mask [true, false, false, false, false] hx
      · have h := it_f hc h
        refine V_iload_n (pc := 21) C dX4_fill_21 rfl rfl ?_
        refine V_iconst (pc := 22) C dX4_fill_22 kc_i_5 ?_
        refine V_icmp_gt (tgt := 54) (pc := 23) C dX4_fill_23 (by decide) (fun hc => ?_) (fun hc => ?_)
        · have h := it_t hc h
          cases h
          exact V_mask [true, false, false, false, false] hx
        · have h := it_f hc h
          refine V_aload_n (pc := 26) C dX4_fill_26 rfl rfl ?_
          refine V_getF (p1 := (v0 + 1)) (pc := 27) C hv0 fl_RX4_9 rfl (zf_cW_4_0 hv0) dX4_fill_27 ?_
          refine V_iconst (pc := 30) C dX4_fill_30 kc_i_5 ?_
          refine V_iload_n (pc := 31) C dX4_fill_31 rfl rfl ?_
          refine V_iadd (pc := 32) C dX4_fill_32 ?_
          refine V_aload_n (pc := 33) C dX4_fill_33 rfl rfl ?_
          refine V_iload_n (pc := 34) C dX4_fill_34 rfl rfl ?_
          obtain ⟨k3, h⟩ := ck_some h
          refine V_iald (pc := 35) C hv1 k3 dX4_fill_35 ?_
          obtain ⟨k4, h⟩ := ck_some h
          refine V_iast (pc := 36) C (za_cW_4_0 hv0) k4 dX4_fill_36 ?_
          refine V_aload_n (pc := 37) C dX4_fill_37 rfl rfl ?_
          refine V_getF (p1 := (v0 + 1)) (pc := 38) C hv0 fl_RX4_9 rfl (zf_cW_4_0 hv0) dX4_fill_38 ?_
          refine V_iconst (pc := 41) C dX4_fill_41 kc_i_5 ?_
          refine V_iload_n (pc := 42) C dX4_fill_42 rfl rfl ?_
          refine V_isub (pc := 43) C dX4_fill_43 ?_
          refine V_aload_n (pc := 44) C dX4_fill_44 rfl rfl ?_
          refine V_iload_n (pc := 45) C dX4_fill_45 rfl rfl ?_
          obtain ⟨k5, h⟩ := ck_some h
          refine V_iald (pc := 46) C hv1 k5 dX4_fill_46 ?_
          obtain ⟨k6, h⟩ := ck_some h
          refine V_iast (pc := 47) C (za_cW_4_0 hv0) k6 dX4_fill_47 ?_
          obtain ⟨S7, eS7, h⟩ := lt_some h
          refine V_nmS eS7 ?_
          refine V_iinc (L' := [some (.ref v0), some (.ref v1), some (.int v2), some (.int (v3 + (1 : Int32))), none]) (v := (v3 + (1 : Int32))) (pc := 48) C dX4_fill_48 rfl (congrArg (v3 + ·) kc_i_1) (by decide) rfl ?_
          refine V_goto (tgt := 10) (pc := 51) C dX4_fill_51 (by decide) ?_
          exact V_mask [true, true, true, true, false] (ih _ _ _ h hx)
set_option maxRecDepth 100000 in
theorem mX4_fill_L96 {K : zK} (C : zC K cX4_fill yX4_fill.cls 5 1 23 cW) {v0 : Nat} {v3 : Int32} (hv0 : zob cW 4 v0) : ∀ (f : Nat) (S : zM) (v4 : Int32) (S' : zM), gX4_fill_L96 v0 v3 f S v4 = some S' → V K 141 [some (.ref v0), none, none, some (.int v3), none] [] S' → V K 96 [some (.ref v0), none, none, some (.int v3), some (.int v4)] [] S := by
  intro f
  induction f with
  | zero => intro S v4 S' h hx; cases h
  | succ n ih =>
    intro S v4 S' h hx
    unfold gX4_fill_L96 at h
    refine V_iload (pc := 96) C dX4_fill_96 rfl ?_
    refine V_aload_n (pc := 98) C dX4_fill_98 rfl rfl ?_
    refine V_getF (p1 := (v0 + 1)) (pc := 99) C hv0 fl_RX4_9 rfl (zf_cW_4_0 hv0) dX4_fill_99 ?_
    refine V_alen (v := (11 : Int32)) (pc := 102) C (za_cW_4_0 hv0) (by decide) (fun _ => rfl) (by decide) dX4_fill_102 ?_
    refine V_icmp_ge (tgt := 141) (pc := 103) C dX4_fill_103 (by decide) (fun hc => ?_) (fun hc => ?_)
    · have h := it_t hc h
      cases h
      exact V_mask [true, false, false, true, false] hx
    · have h := it_f hc h
      refine V_aload_n (pc := 106) C dX4_fill_106 rfl rfl ?_
      refine V_getF (p1 := (v0 + 3)) (pc := 107) C hv0 fl_RX4_18 rfl (zf_cW_4_2 hv0) dX4_fill_107 ?_
      refine V_iload (pc := 110) C dX4_fill_110 rfl ?_
      refine V_iload_n (pc := 112) C dX4_fill_112 rfl rfl ?_
      refine V_isub (pc := 113) C dX4_fill_113 ?_
      refine V_bipush (pc := 114) C dX4_fill_114 kc_b_10 ?_
      refine V_iadd (pc := 116) C dX4_fill_116 ?_
      refine V_dup2 (pc := 117) C dX4_fill_117 rfl rfl ?_
      obtain ⟨k20, h⟩ := ck_some h
      refine V_iald (pc := 118) C (za_cW_4_2 hv0) k20 dX4_fill_118 ?_
      refine V_aload_n (pc := 119) C dX4_fill_119 rfl rfl ?_
      refine V_getF (p1 := (v0 + 1)) (pc := 120) C hv0 fl_RX4_9 rfl (zf_cW_4_0 hv0) dX4_fill_120 ?_
      refine V_iload_n (pc := 123) C dX4_fill_123 rfl rfl ?_
      obtain ⟨k21, h⟩ := ck_some h
      refine V_iald (pc := 124) C (za_cW_4_0 hv0) k21 dX4_fill_124 ?_
      refine V_aload_n (pc := 125) C dX4_fill_125 rfl rfl ?_
      refine V_getF (p1 := (v0 + 1)) (pc := 126) C hv0 fl_RX4_9 rfl (zf_cW_4_0 hv0) dX4_fill_126 ?_
      refine V_iload (pc := 129) C dX4_fill_129 rfl ?_
      obtain ⟨k22, h⟩ := ck_some h
      refine V_iald (pc := 131) C (za_cW_4_0 hv0) k22 dX4_fill_131 ?_
      refine V_imul (pc := 132) C dX4_fill_132 ?_
      refine V_iadd (pc := 133) C dX4_fill_133 ?_
      obtain ⟨k23, h⟩ := ck_some h
      refine V_iast (pc := 134) C (za_cW_4_2 hv0) k23 dX4_fill_134 ?_
      obtain ⟨S24, eS24, h⟩ := lt_some h
      refine V_nmS eS24 ?_
      refine V_iinc (L' := [some (.ref v0), none, none, some (.int v3), some (.int (v4 + (1 : Int32)))]) (v := (v4 + (1 : Int32))) (pc := 135) C dX4_fill_135 rfl (congrArg (v4 + ·) kc_i_1) (by decide) rfl ?_
      refine V_goto (tgt := 96) (pc := 138) C dX4_fill_138 (by decide) ?_
      exact V_mask [true, false, false, true, true] (ih _ _ _ h hx)
set_option maxRecDepth 100000 in
theorem mX4_fill_L72 {K : zK} (C : zC K cX4_fill yX4_fill.cls 5 1 23 cW) {v0 : Nat} (hv0 : zob cW 4 v0) : ∀ (f : Nat) (S : zM) (v3 : Int32) (S' : zM), gX4_fill_L72 v0 f S v3 = some S' → zR K cX4_fill (none) S' none → V K 72 [some (.ref v0), none, none, some (.int v3), none] [] S := by
  intro f
  induction f with
  | zero => intro S v3 S' h hR; cases h
  | succ n ih =>
    intro S v3 S' h hR
    unfold gX4_fill_L72 at h
    refine V_iload_n (pc := 72) C dX4_fill_72 rfl rfl ?_
    refine V_aload_n (pc := 73) C dX4_fill_73 rfl rfl ?_
    refine V_getF (p1 := (v0 + 1)) (pc := 74) C hv0 fl_RX4_9 rfl (zf_cW_4_0 hv0) dX4_fill_74 ?_
    refine V_alen (v := (11 : Int32)) (pc := 77) C (za_cW_4_0 hv0) (by decide) (fun _ => rfl) (by decide) dX4_fill_77 ?_
    refine V_icmp_ge (tgt := 147) (pc := 78) C dX4_fill_78 (by decide) (fun hc => ?_) (fun hc => ?_)
    · have h := it_t hc h
      refine V_aload_n (pc := 147) C dX4_fill_147 rfl rfl ?_
      refine V_getF (p1 := (v0 + 2)) (pc := 148) C hv0 fl_RX4_15 rfl (zf_cW_4_1 hv0) dX4_fill_148 ?_
      obtain ⟨S14, euS14, h⟩ := b1_some h
      refine V_callS (As := [.ref (v0 + 2)]) (pc := 151) C (mX4_sumFromBehind _ (za_cW_4_1 hv0) euS14) zm_X4_sumFromBehind zs_X4_sumFromBehind ml_RX4_27 ⟨Nat.le_of_ble_eq_true rfl, Nat.le_of_ble_eq_true rfl⟩ rfl rfl (Nat.le_of_ble_eq_true rfl) dX4_fill_151 ?_
      show V K 154 [some (.ref v0), none, none, some (.int v3), none] [] S14
      refine V_aload_n (pc := 154) C dX4_fill_154 rfl rfl ?_
      refine V_getF (p1 := (v0 + 3)) (pc := 155) C hv0 fl_RX4_18 rfl (zf_cW_4_2 hv0) dX4_fill_155 ?_
      obtain ⟨S16, euS16, h⟩ := b1_some h
      refine V_callS (As := [.ref (v0 + 3)]) (pc := 158) C (mX4_sumFromBehind _ (za_cW_4_2 hv0) euS16) zm_X4_sumFromBehind zs_X4_sumFromBehind ml_RX4_27 ⟨Nat.le_of_ble_eq_true rfl, Nat.le_of_ble_eq_true rfl⟩ rfl rfl (Nat.le_of_ble_eq_true rfl) dX4_fill_158 ?_
      show V K 161 [some (.ref v0), none, none, some (.int v3), none] [] S16
      refine V_aload_n (pc := 161) C dX4_fill_161 rfl rfl ?_
      refine V_aload_n (pc := 162) C dX4_fill_162 rfl rfl ?_
      refine V_getF (p1 := (v0 + 2)) (pc := 163) C hv0 fl_RX4_15 rfl (zf_cW_4_1 hv0) dX4_fill_163 ?_
      refine V_iconst (pc := 166) C dX4_fill_166 kc_i_0 ?_
      obtain ⟨k17, h⟩ := ck_some h
      refine V_iald (pc := 167) C (za_cW_4_1 hv0) k17 dX4_fill_167 ?_
      refine V_putI (pc := 168) C hv0 fp_RX4_31 rfl rfl dX4_fill_168 ?_
      cases h
      exact hR 171 _ rfl dX4_fill_171
    · have h := it_f hc h
      refine V_aload_n (pc := 81) C dX4_fill_81 rfl rfl ?_
      refine V_getF (p1 := (v0 + 2)) (pc := 82) C hv0 fl_RX4_15 rfl (zf_cW_4_1 hv0) dX4_fill_82 ?_
      refine V_iload_n (pc := 85) C dX4_fill_85 rfl rfl ?_
      refine V_aload_n (pc := 86) C dX4_fill_86 rfl rfl ?_
      refine V_getF (p1 := (v0 + 1)) (pc := 87) C hv0 fl_RX4_9 rfl (zf_cW_4_0 hv0) dX4_fill_87 ?_
      refine V_iload_n (pc := 90) C dX4_fill_90 rfl rfl ?_
      obtain ⟨k18, h⟩ := ck_some h
      refine V_iald (pc := 91) C (za_cW_4_0 hv0) k18 dX4_fill_91 ?_
      obtain ⟨k19, h⟩ := ck_some h
      refine V_iast (pc := 92) C (za_cW_4_1 hv0) k19 dX4_fill_92 ?_
      refine V_iconst (pc := 93) C dX4_fill_93 kc_i_0 ?_
      refine V_istore (L' := [some (.ref v0), none, none, some (.int v3), some (.int (0 : Int32))]) (pc := 94) C dX4_fill_94 (by decide) rfl ?_
      obtain ⟨S25, e96, h⟩ := b1_some h
      refine V_mask [true, false, false, true, true] (mX4_fill_L96 C hv0 FU _ _ _ e96 ?_)
      refine V_iinc (L' := [some (.ref v0), none, none, some (.int (v3 + (1 : Int32))), none]) (v := (v3 + (1 : Int32))) (pc := 141) C dX4_fill_141 rfl (congrArg (v3 + ·) kc_i_1) (by decide) rfl ?_
      refine V_goto (tgt := 72) (pc := 144) C dX4_fill_144 (by decide) ?_
      exact V_mask [true, false, false, true, false] (ih _ _ _ h hR)
set_option maxRecDepth 100000 in
theorem mX4_fill (l : Launch) {S : zM} {q : Nat} {a1 : Nat} {a2 : Int32} {S' : zM} (hq : zob cW 4 q) (ha1 : zar cW 1 0 6 a1) (h : gX4_fill S q a1 a2 = some S') : zMet l cW zS0 yX4_fill cX4_fill 5 (none) 1 23 [.ref q, .ref a1, .int a2] S none S' := by
  refine zmeth (by decide +kernel) (by rfl) (fun K hKl C hR => ?_)
  show V K 0 [some (.ref q), some (.ref a1), some (.int a2), none, none] [] S
  unfold gX4_fill at h
  refine V_aload_n (pc := 0) C dX4_fill_0 rfl rfl ?_
  refine V_getF (p1 := (q + 1)) (pc := 1) C hq fl_RX4_9 rfl (zf_cW_4_0 hq) dX4_fill_1 ?_
  refine V_iconst (pc := 4) C dX4_fill_4 kc_i_0 ?_
  obtain ⟨S2, euS2, h⟩ := b1_some h
  refine V_callS (As := [.ref (q + 1), .int (0 : Int32)]) (pc := 5) C (mJ7_fill_53178 _ (za_cW_4_0 hq) euS2) zm_J7_fill_53178 zs_J7_fill_53178 ml_RX4_21 ⟨Nat.le_of_ble_eq_true rfl, Nat.le_of_ble_eq_true rfl⟩ rfl rfl (Nat.le_of_ble_eq_true rfl) dX4_fill_5 ?_
  show V K 8 [some (.ref q), some (.ref a1), some (.int a2), none, none] [] S2
  refine V_iconst (pc := 8) C dX4_fill_8 kc_i_0 ?_
  refine V_istore_n (L' := [some (.ref q), some (.ref a1), some (.int a2), some (.int (0 : Int32)), none]) (pc := 9) C dX4_fill_9 rfl (by decide) rfl ?_
  obtain ⟨S8, e10, h⟩ := b1_some h
  refine V_mask [true, true, true, true, false] (mX4_fill_L10 C hq ha1 FU _ _ _ e10 ?_)
  refine V_aload_n (pc := 54) C dX4_fill_54 rfl rfl ?_
  refine V_getF (p1 := (q + 2)) (pc := 55) C hq fl_RX4_15 rfl (zf_cW_4_1 hq) dX4_fill_55 ?_
  refine V_iconst (pc := 58) C dX4_fill_58 kc_i_0 ?_
  obtain ⟨S10, euS10, h⟩ := b1_some h
  refine V_callS (As := [.ref (q + 2), .int (0 : Int32)]) (pc := 59) C (mJ7_fill_53178 _ (za_cW_4_1 hq) euS10) zm_J7_fill_53178 zs_J7_fill_53178 ml_RX4_21 ⟨Nat.le_of_ble_eq_true rfl, Nat.le_of_ble_eq_true rfl⟩ rfl rfl (Nat.le_of_ble_eq_true rfl) dX4_fill_59 ?_
  show V K 62 [some (.ref q), none, none, none, none] [] S10
  refine V_aload_n (pc := 62) C dX4_fill_62 rfl rfl ?_
  refine V_getF (p1 := (q + 3)) (pc := 63) C hq fl_RX4_18 rfl (zf_cW_4_2 hq) dX4_fill_63 ?_
  refine V_iconst (pc := 66) C dX4_fill_66 kc_i_0 ?_
  obtain ⟨S12, euS12, h⟩ := b1_some h
  refine V_callS (As := [.ref (q + 3), .int (0 : Int32)]) (pc := 67) C (mJ7_fill_53178 _ (za_cW_4_2 hq) euS12) zm_J7_fill_53178 zs_J7_fill_53178 ml_RX4_21 ⟨Nat.le_of_ble_eq_true rfl, Nat.le_of_ble_eq_true rfl⟩ rfl rfl (Nat.le_of_ble_eq_true rfl) dX4_fill_67 ?_
  show V K 70 [some (.ref q), none, none, none, none] [] S12
  refine V_iconst (pc := 70) C dX4_fill_70 kc_i_0 ?_
  refine V_istore_n (L' := [some (.ref q), none, none, some (.int (0 : Int32)), none]) (pc := 71) C dX4_fill_71 rfl (by decide) rfl ?_
  exact V_mask [true, false, false, true, false] (mX4_fill_L72 C hq FU _ _ _ h hR)
