set_option maxRecDepth 100000 in
theorem mX9_settle_L2 {K : zK} (C : zC K cX9_settle yX9_settle.cls 2 3 76 cW) {v0 : Nat} (hv0 : zob cW 9 v0) : ∀ (f : Nat) (S : zM) (v1 : Int32) (S' : zM), gX9_settle_L2 v0 f S v1 = some S' → V K 22 [some (.ref v0), none] [] S' → V K 2 [some (.ref v0), some (.int v1)] [] S := by
  intro f
  induction f with
  | zero => intro S v1 S' h hx; cases h
  | succ n ih =>
    intro S v1 S' h hx
    unfold gX9_settle_L2 at h
    refine V_iload_n (pc := 2) C dX9_settle_2 rfl rfl ?_
    refine V_sipush (pc := 3) C dX9_settle_3 kc_s_400 ?_
    refine V_icmp_gt (tgt := 22) (pc := 6) C dX9_settle_6 (by decide) (fun hc => ?_) (fun hc => ?_)
    · have h := it_t hc h
      cases h
      exact V_mask [true, false] hx
    · have h := it_f hc h
      refine V_aload_n (pc := 9) C dX9_settle_9 rfl rfl ?_
      refine V_getF (p1 := (v0 + 5)) (pc := 10) C hv0 fl_RX9_24 rfl (zf_cW_9_4 hv0) dX9_settle_10 ?_
      refine V_iload_n (pc := 13) C dX9_settle_13 rfl rfl ?_
      refine V_iload_n (pc := 14) C dX9_settle_14 rfl rfl ?_
      obtain ⟨k1, h⟩ := ck_some h
      refine V_iast (pc := 15) C (za_cW_9_4 hv0) k1 dX9_settle_15 ?_
      refine V_iinc (L' := [some (.ref v0), some (.int (v1 + (1 : Int32)))]) (v := (v1 + (1 : Int32))) (pc := 16) C dX9_settle_16 rfl (congrArg (v1 + ·) kc_i_1) (by decide) rfl ?_
      refine V_goto (tgt := 2) (pc := 19) C dX9_settle_19 (by decide) ?_
      exact V_mask [true, true] (ih _ _ _ h hx)
set_option maxRecDepth 100000 in
theorem mX9_settle_L24 {K : zK} (C : zC K cX9_settle yX9_settle.cls 2 3 76 cW) {v0 : Nat} (hv0 : zob cW 9 v0) : ∀ (f : Nat) (S : zM) (v1 : Int32) (S' : zM), gX9_settle_L24 v0 f S v1 = some S' → V K 65 [some (.ref v0), none] [] S' → V K 24 [some (.ref v0), some (.int v1)] [] S := by
  intro f
  induction f with
  | zero => intro S v1 S' h hx; cases h
  | succ n ih =>
    intro S v1 S' h hx
    unfold gX9_settle_L24 at h
    refine V_iload_n (pc := 24) C dX9_settle_24 rfl rfl ?_
    refine V_aload_n (pc := 25) C dX9_settle_25 rfl rfl ?_
    refine V_getI (pc := 26) C hv0 fl_RX9_34 (by decide) dX9_settle_26 ?_
    refine V_icmp_ge (tgt := 65) (pc := 29) C dX9_settle_29 (by decide) (fun hc => ?_) (fun hc => ?_)
    · have h := it_t hc h
      cases h
      exact V_mask [true, false] hx
    · have h := it_f hc h
      refine V_iload_n (pc := 32) C dX9_settle_32 rfl rfl ?_
      refine V_iconst (pc := 33) C dX9_settle_33 kc_i_4 ?_
      refine V_icmp_ge (tgt := 65) (pc := 34) C dX9_settle_34 (by decide) (fun hc => ?_) (fun hc => ?_)
      · have h := it_t hc h
        cases h
        exact V_mask [true, false] hx
      · have h := it_f hc h
        refine V_aload_n (pc := 37) C dX9_settle_37 rfl rfl ?_
        refine V_aload_n (pc := 38) C dX9_settle_38 rfl rfl ?_
        refine V_getF (p1 := (v0 + 1)) (pc := 39) C hv0 fl_RX9_9 rfl (zf_cW_9_0 hv0) dX9_settle_39 ?_
        refine V_iload_n (pc := 42) C dX9_settle_42 rfl rfl ?_
        obtain ⟨k3, h⟩ := ck_some h
        refine V_iald (pc := 43) C (za_cW_9_0 hv0) k3 dX9_settle_43 ?_
        refine V_aload_n (pc := 44) C dX9_settle_44 rfl rfl ?_
        refine V_getF (p1 := (v0 + 2)) (pc := 45) C hv0 fl_RX9_15 rfl (zf_cW_9_1 hv0) dX9_settle_45 ?_
        refine V_iload_n (pc := 48) C dX9_settle_48 rfl rfl ?_
        obtain ⟨k4, h⟩ := ck_some h
        refine V_iald (pc := 49) C (za_cW_9_1 hv0) k4 dX9_settle_49 ?_
        refine V_aload_n (pc := 50) C dX9_settle_50 rfl rfl ?_
        refine V_getF (p1 := (v0 + 3)) (pc := 51) C hv0 fl_RX9_18 rfl (zf_cW_9_2 hv0) dX9_settle_51 ?_
        refine V_iload_n (pc := 54) C dX9_settle_54 rfl rfl ?_
        obtain ⟨k5, h⟩ := ck_some h
        refine V_iald (pc := 55) C (za_cW_9_2 hv0) k5 dX9_settle_55 ?_
        obtain ⟨S7, euS7, h⟩ := b1_some h
        refine V_callV (As := [.int (gI S (v0 + 1) (ix v1)), .int (gI S (v0 + 2) (ix v1)), .int (gI S (v0 + 3) (ix v1))]) (pc := 56) C (mX9_take _ hv0 euS7) zm_X9_take zi_X9_take ml_RX9_41 hv0 rfl ⟨Nat.le_of_ble_eq_true rfl, Nat.le_of_ble_eq_true rfl⟩ rfl rfl (Nat.le_of_ble_eq_true rfl) dX9_settle_56 ?_
        show V K 59 [some (.ref v0), some (.int v1)] [] S7
        refine V_iinc (L' := [some (.ref v0), some (.int (v1 + (1 : Int32)))]) (v := (v1 + (1 : Int32))) (pc := 59) C dX9_settle_59 rfl (congrArg (v1 + ·) kc_i_1) (by decide) rfl ?_
        refine V_goto (tgt := 24) (pc := 62) C dX9_settle_62 (by decide) ?_
        exact V_mask [true, true] (ih _ _ _ h hx)
set_option maxRecDepth 100000 in
theorem mX9_settle_L67 {K : zK} (C : zC K cX9_settle yX9_settle.cls 2 3 76 cW) {v0 : Nat} (hv0 : zob cW 9 v0) : ∀ (f : Nat) (S : zM) (v1 : Int32) (S' : zM), gX9_settle_L67 v0 f S v1 = some S' → zR K cX9_settle (none) S' none → V K 67 [some (.ref v0), some (.int v1)] [] S := by
  intro f
  induction f with
  | zero => intro S v1 S' h hR; cases h
  | succ n ih =>
    intro S v1 S' h hR
    unfold gX9_settle_L67 at h
    refine V_iload_n (pc := 67) C dX9_settle_67 rfl rfl ?_
    refine V_aload_n (pc := 68) C dX9_settle_68 rfl rfl ?_
    refine V_getI (pc := 69) C hv0 fl_RX9_38 (by decide) dX9_settle_69 ?_
    refine V_icmp_ge (tgt := 103) (pc := 72) C dX9_settle_72 (by decide) (fun hc => ?_) (fun hc => ?_)
    · have h := it_t hc h
      cases h
      exact hR 103 _ rfl dX9_settle_103
    · have h := it_f hc h
      refine V_iload_n (pc := 75) C dX9_settle_75 rfl rfl ?_
      refine V_bipush (pc := 76) C dX9_settle_76 kc_b_6 ?_
      refine V_icmp_ge (tgt := 103) (pc := 78) C dX9_settle_78 (by decide) (fun hc => ?_) (fun hc => ?_)
      · have h := it_t hc h
        cases h
        exact hR 103 _ rfl dX9_settle_103
      · have h := it_f hc h
        refine V_aload_n (pc := 81) C dX9_settle_81 rfl rfl ?_
        refine V_getF (p1 := (v0 + 6)) (pc := 82) C hv0 fl_RX9_29 rfl (zf_cW_9_5 hv0) dX9_settle_82 ?_
        refine V_iload_n (pc := 85) C dX9_settle_85 rfl rfl ?_
        obtain ⟨k9, h⟩ := ck_some h
        refine V_aald (p1 := (v0 + 7 + 4 * ix v1)) (pc := 86) C (za_cW_9_5 hv0) (fun _ => rfl) k9 (ze_cW_9_5 hv0 k9) dX9_settle_86 ?_
        refine V_aload_n (pc := 87) C dX9_settle_87 rfl rfl ?_
        refine V_getF (p1 := (v0 + 4)) (pc := 88) C hv0 fl_RX9_21 rfl (zf_cW_9_3 hv0) dX9_settle_88 ?_
        refine V_iload_n (pc := 91) C dX9_settle_91 rfl rfl ?_
        refine V_iconst (pc := 92) C dX9_settle_92 kc_i_1 ?_
        refine V_iadd (pc := 93) C dX9_settle_93 ?_
        obtain ⟨S11, euS11, h⟩ := b1_some h
        refine V_callV (As := [.ref (v0 + 4), .int (v1 + (1 : Int32))]) (pc := 94) C (mX4_fill _ (zx_cW_9_5 hv0 k9) (za_cW_9_3 hv0) euS11) zm_X4_fill zi_X4_fill ml_RX9_45 (zx_cW_9_5 hv0 k9) rfl ⟨Nat.le_of_ble_eq_true rfl, Nat.le_of_ble_eq_true rfl⟩ rfl rfl (Nat.le_of_ble_eq_true rfl) dX9_settle_94 ?_
        show V K 97 [some (.ref v0), some (.int v1)] [] S11
        refine V_iinc (L' := [some (.ref v0), some (.int (v1 + (1 : Int32)))]) (v := (v1 + (1 : Int32))) (pc := 97) C dX9_settle_97 rfl (congrArg (v1 + ·) kc_i_1) (by decide) rfl ?_
        refine V_goto (tgt := 67) (pc := 100) C dX9_settle_100 (by decide) ?_
        exact V_mask [true, true] (ih _ _ _ h hR)
set_option maxRecDepth 100000 in
theorem mX9_settle (l : Launch) {S : zM} {q : Nat} {S' : zM} (hq : zob cW 9 q) (h : gX9_settle S q = some S') : zMet l cW zS0 yX9_settle cX9_settle 2 (none) 3 76 [.ref q] S none S' := by
  refine zmeth (by decide +kernel) (by rfl) (fun K hKl C hR => ?_)
  show V K 0 [some (.ref q), none] [] S
  unfold gX9_settle at h
  refine V_iconst (pc := 0) C dX9_settle_0 kc_i_0 ?_
  refine V_istore_n (L' := [some (.ref q), some (.int (0 : Int32))]) (pc := 1) C dX9_settle_1 rfl (by decide) rfl ?_
  obtain ⟨S2, e2, h⟩ := b1_some h
  refine V_mask [true, true] (mX9_settle_L2 C hq FU _ _ _ e2 ?_)
  refine V_iconst (pc := 22) C dX9_settle_22 kc_i_0 ?_
  refine V_istore_n (L' := [some (.ref q), some (.int (0 : Int32))]) (pc := 23) C dX9_settle_23 rfl (by decide) rfl ?_
  obtain ⟨S8, e24, h⟩ := b1_some h
  refine V_mask [true, true] (mX9_settle_L24 C hq FU _ _ _ e24 ?_)
  refine V_iconst (pc := 65) C dX9_settle_65 kc_i_0 ?_
  refine V_istore_n (L' := [some (.ref q), some (.int (0 : Int32))]) (pc := 66) C dX9_settle_66 rfl (by decide) rfl ?_
  exact V_mask [true, true] (mX9_settle_L67 C hq FU _ _ _ h hR)
set_option maxRecDepth 100000 in
theorem mX3_settle_L2 {K : zK} (C : zC K cX3_settle yX3_settle.cls 2 4 97 cW) {v0 : Nat} (hv0 : zob cW 3 v0) : ∀ (f : Nat) (S : zM) (v1 : Int32) (S' : zM), gX3_settle_L2 v0 f S v1 = some S' → zR K cX3_settle (none) S' none → V K 2 [some (.ref v0), some (.int v1)] [] S := by
  intro f
  induction f with
  | zero => intro S v1 S' h hR; cases h
  | succ n ih =>
    intro S v1 S' h hR
    unfold gX3_settle_L2 at h
    refine V_iload_n (pc := 2) C dX3_settle_2 rfl rfl ?_
    refine V_aload_n (pc := 3) C dX3_settle_3 rfl rfl ?_
    refine V_getI (pc := 4) C hv0 fl_RX3_47 (by decide) dX3_settle_4 ?_
    refine V_icmp_ge (tgt := 31) (pc := 7) C dX3_settle_7 (by decide) (fun hc => ?_) (fun hc => ?_)
    · have h := it_t hc h
      cases h
      exact hR 31 _ rfl dX3_settle_31
    · have h := it_f hc h
      refine V_iload_n (pc := 10) C dX3_settle_10 rfl rfl ?_
      refine V_bipush (pc := 11) C dX3_settle_11 kc_b_6 ?_
      refine V_icmp_ge (tgt := 31) (pc := 13) C dX3_settle_13 (by decide) (fun hc => ?_) (fun hc => ?_)
      · have h := it_t hc h
        cases h
        exact hR 31 _ rfl dX3_settle_31
      · have h := it_f hc h
        refine V_aload_n (pc := 16) C dX3_settle_16 rfl rfl ?_
        refine V_getF (p1 := (v0 + 1)) (pc := 17) C hv0 fl_RX3_11 rfl (zf_cW_3_0 hv0) dX3_settle_17 ?_
        refine V_iload_n (pc := 20) C dX3_settle_20 rfl rfl ?_
        obtain ⟨k1, h⟩ := ck_some h
        refine V_aald (p1 := (v0 + 7 + 31 * ix v1)) (pc := 21) C (za_cW_3_0 hv0) (fun _ => rfl) k1 (ze_cW_3_0 hv0 k1) dX3_settle_21 ?_
        obtain ⟨S3, euS3, h⟩ := b1_some h
        refine V_callV (As := []) (pc := 22) C (mX9_settle _ (zx_cW_3_0 hv0 k1) euS3) zm_X9_settle zi_X9_settle ml_RX3_63 (zx_cW_3_0 hv0 k1) rfl ⟨Nat.le_of_ble_eq_true rfl, Nat.le_of_ble_eq_true rfl⟩ rfl rfl (Nat.le_of_ble_eq_true rfl) dX3_settle_22 ?_
        show V K 25 [some (.ref v0), some (.int v1)] [] S3
        refine V_iinc (L' := [some (.ref v0), some (.int (v1 + (1 : Int32)))]) (v := (v1 + (1 : Int32))) (pc := 25) C dX3_settle_25 rfl (congrArg (v1 + ·) kc_i_1) (by decide) rfl ?_
        refine V_goto (tgt := 2) (pc := 28) C dX3_settle_28 (by decide) ?_
        exact V_mask [true, true] (ih _ _ _ h hR)
set_option maxRecDepth 100000 in
theorem mX3_settle (l : Launch) {S : zM} {q : Nat} {S' : zM} (hq : zob cW 3 q) (h : gX3_settle S q = some S') : zMet l cW zS0 yX3_settle cX3_settle 2 (none) 4 97 [.ref q] S none S' := by
  refine zmeth (by decide +kernel) (by rfl) (fun K hKl C hR => ?_)
  show V K 0 [some (.ref q), none] [] S
  unfold gX3_settle at h
  refine V_iconst (pc := 0) C dX3_settle_0 kc_i_0 ?_
  refine V_istore_n (L' := [some (.ref q), some (.int (0 : Int32))]) (pc := 1) C dX3_settle_1 rfl (by decide) rfl ?_
  exact V_mask [true, true] (mX3_settle_L2 C hq FU _ _ _ h hR)
set_option maxRecDepth 100000 in
theorem mX3_addName (l : Launch) {S : zM} {q : Nat} {a1 : Int64} {a3 : Int32} {S' : zM} (hq : zob cW 3 q) (h : gX3_addName S q a1 a3 = some S') : zMet l cW zS0 yX3_addName cX3_addName 4 (none) 0 0 [.ref q, .long a1, .int a3] S none S' := by
  refine zmeth (by decide +kernel) (by rfl) (fun K hKl C hR => ?_)
  show V K 0 [some (.ref q), some (.long a1), none, some (.int a3)] [] S
  unfold gX3_addName at h
  refine V_aload_n (pc := 0) C dX3_addName_0 rfl rfl ?_
  refine V_getI (pc := 1) C hq fl_RX3_60 (by decide) dX3_addName_1 ?_
  refine V_aload_n (pc := 4) C dX3_addName_4 rfl rfl ?_
  refine V_getF (p1 := (q + 5)) (pc := 5) C hq fl_RX3_35 rfl (zf_cW_3_4 hq) dX3_addName_5 ?_
  refine V_alen (v := (20 : Int32)) (pc := 8) C (za_cW_3_4 hq) (by decide) (fun _ => rfl) (by decide) dX3_addName_8 ?_
  refine V_icmp_ge (tgt := 42) (pc := 9) C dX3_addName_9 (by decide) (fun hc => ?_) (fun hc => ?_)
  · have h := it_t hc h
    cases h
    exact hR 42 _ rfl dX3_addName_42
  · have h := it_f hc h
    refine V_aload_n (pc := 12) C dX3_addName_12 rfl rfl ?_
    refine V_getF (p1 := (q + 5)) (pc := 13) C hq fl_RX3_35 rfl (zf_cW_3_4 hq) dX3_addName_13 ?_
    refine V_aload_n (pc := 16) C dX3_addName_16 rfl rfl ?_
    refine V_getI (pc := 17) C hq fl_RX3_60 (by decide) dX3_addName_17 ?_
    refine V_lload_n (pc := 20) C dX3_addName_20 rfl rfl ?_
    obtain ⟨k1, h⟩ := ck_some h
    refine V_last (pc := 21) C (za_cW_3_4 hq) k1 dX3_addName_21 ?_
    refine V_aload_n (pc := 22) C dX3_addName_22 rfl rfl ?_
    refine V_getF (p1 := (q + 6)) (pc := 23) C hq fl_RX3_39 rfl (zf_cW_3_5 hq) dX3_addName_23 ?_
    refine V_aload_n (pc := 26) C dX3_addName_26 rfl rfl ?_
    refine V_getI (pc := 27) C hq fl_RX3_60 (by decide) dX3_addName_27 ?_
    refine V_iload_n (pc := 30) C dX3_addName_30 rfl rfl ?_
    obtain ⟨k2, h⟩ := ck_some h
    refine V_iast (pc := 31) C (za_cW_3_5 hq) k2 dX3_addName_31 ?_
    obtain ⟨S3, eS3, h⟩ := lt_some h
    refine V_nmS eS3 ?_
    refine V_aload_n (pc := 32) C dX3_addName_32 rfl rfl ?_
    refine V_dup (pc := 33) C dX3_addName_33 rfl ?_
    refine V_getI (pc := 34) C hq fl_RX3_60 (by decide) dX3_addName_34 ?_
    refine V_iconst (pc := 37) C dX3_addName_37 kc_i_1 ?_
    refine V_iadd (pc := 38) C dX3_addName_38 ?_
    refine V_putI (pc := 39) C hq fp_RX3_60 rfl rfl dX3_addName_39 ?_
    cases h
    exact hR 42 _ rfl dX3_addName_42
set_option maxRecDepth 100000 in
theorem mX3_namedBy_L2 {K : zK} (C : zC K cX3_namedBy yX3_namedBy.cls 4 0 0 cW) {S : zM} {v0 : Nat} {v1 : Int64} (hv0 : zob cW 3 v0) : ∀ (f : Nat) (v3 : Int32) (r : Int32), gX3_namedBy_L2 S v0 v1 f v3 = some r → zR K cX3_namedBy (some .int) S (some (.int r)) → V K 2 [some (.ref v0), some (.long v1), none, some (.int v3)] [] S := by
  intro f
  induction f with
  | zero => intro v3 r h hR; cases h
  | succ n ih =>
    intro v3 r h hR
    unfold gX3_namedBy_L2 at h
    refine V_iload_n (pc := 2) C dX3_namedBy_2 rfl rfl ?_
    refine V_aload_n (pc := 3) C dX3_namedBy_3 rfl rfl ?_
    refine V_getI (pc := 4) C hv0 fl_RX3_60 (by decide) dX3_namedBy_4 ?_
    refine V_icmp_ge (tgt := 43) (pc := 7) C dX3_namedBy_7 (by decide) (fun hc => ?_) (fun hc => ?_)
    · have h := it_t hc h
      refine V_bipush (pc := 43) C dX3_namedBy_43 kc_b_m2 ?_
      cases h
      exact hR 45 _ ⟨_, rfl, rfl⟩ dX3_namedBy_45
    · have h := it_f hc h
      refine V_iload_n (pc := 10) C dX3_namedBy_10 rfl rfl ?_
      refine V_aload_n (pc := 11) C dX3_namedBy_11 rfl rfl ?_
      refine V_getF (p1 := (v0 + 5)) (pc := 12) C hv0 fl_RX3_35 rfl (zf_cW_3_4 hv0) dX3_namedBy_12 ?_
      refine V_alen (v := (20 : Int32)) (pc := 15) C (za_cW_3_4 hv0) (by decide) (fun _ => rfl) (by decide) dX3_namedBy_15 ?_
      refine V_icmp_ge (tgt := 43) (pc := 16) C dX3_namedBy_16 (by decide) (fun hc => ?_) (fun hc => ?_)
      · have h := it_t hc h
        refine V_bipush (pc := 43) C dX3_namedBy_43 kc_b_m2 ?_
        cases h
        exact hR 45 _ ⟨_, rfl, rfl⟩ dX3_namedBy_45
      · have h := it_f hc h
        refine V_aload_n (pc := 19) C dX3_namedBy_19 rfl rfl ?_
        refine V_getF (p1 := (v0 + 5)) (pc := 20) C hv0 fl_RX3_35 rfl (zf_cW_3_4 hv0) dX3_namedBy_20 ?_
        refine V_iload_n (pc := 23) C dX3_namedBy_23 rfl rfl ?_
        obtain ⟨k1, h⟩ := ck_some h
        refine V_lald (pc := 24) C (za_cW_3_4 hv0) k1 dX3_namedBy_24 ?_
        refine V_lload_n (pc := 25) C dX3_namedBy_25 rfl rfl ?_
        refine V_lcmp_ne (tgt := 37) (pc := 26) C dX3_namedBy_26 dX3_namedBy_27 (by decide) (fun hc => ?_) (fun hc => ?_)
        · have h := it_f hc h
          refine V_iinc (L' := [some (.ref v0), some (.long v1), none, some (.int (v3 + (1 : Int32)))]) (v := (v3 + (1 : Int32))) (pc := 37) C dX3_namedBy_37 rfl (congrArg (v3 + ·) kc_i_1) (by decide) rfl ?_
          refine V_goto (tgt := 2) (pc := 40) C dX3_namedBy_40 (by decide) ?_
          exact V_mask [true, true, false, true] (ih _ _ h hR)
        · have h := it_t hc h
          refine V_aload_n (pc := 30) C dX3_namedBy_30 rfl rfl ?_
          refine V_getF (p1 := (v0 + 6)) (pc := 31) C hv0 fl_RX3_39 rfl (zf_cW_3_5 hv0) dX3_namedBy_31 ?_
          refine V_iload_n (pc := 34) C dX3_namedBy_34 rfl rfl ?_
          obtain ⟨k2, h⟩ := ck_some h
          refine V_iald (pc := 35) C (za_cW_3_5 hv0) k2 dX3_namedBy_35 ?_
          cases h
          exact hR 36 _ ⟨_, rfl, rfl⟩ dX3_namedBy_36
set_option maxRecDepth 100000 in
theorem mX3_namedBy (l : Launch) {S : zM} {q : Nat} {a1 : Int64} {r : Int32} (hq : zob cW 3 q) (h : gX3_namedBy S q a1 = some r) : zMet l cW zS0 yX3_namedBy cX3_namedBy 4 (some .int) 0 0 [.ref q, .long a1] S (some (.int r)) S := by
  refine zmeth (by decide +kernel) (by rfl) (fun K hKl C hR => ?_)
  show V K 0 [some (.ref q), some (.long a1), none, none] [] S
  unfold gX3_namedBy at h
  refine V_iconst (pc := 0) C dX3_namedBy_0 kc_i_0 ?_
  refine V_istore_n (L' := [some (.ref q), some (.long a1), none, some (.int (0 : Int32))]) (pc := 1) C dX3_namedBy_1 rfl (by decide) rfl ?_
  exact V_mask [true, true, false, true] (mX3_namedBy_L2 C hq FU _ _ h hR)
set_option maxRecDepth 100000 in
theorem mX4_numberOdds (l : Launch) {S : zM} {q : Nat} {a1 : Int32} {a2 : Int32} {r : Int32} (hq : zob cW 4 q) (h : gX4_numberOdds S q a1 a2 = some r) : zMet l cW zS0 yX4_numberOdds cX4_numberOdds 3 (some .int) 2 42 [.ref q, .int a1, .int a2] S (some (.int r)) S := by
  refine zmeth (by decide +kernel) (by rfl) (fun K hKl C hR => ?_)
  show V K 0 [some (.ref q), some (.int a1), some (.int a2)] [] S
  unfold gX4_numberOdds at h
  refine V_iload_n (pc := 0) C dX4_numberOdds_0 rfl rfl ?_
  refine V_if_le (tgt := 14) (pc := 1) C dX4_numberOdds_1 (by decide) (fun hc => ?_) (fun hc => ?_)
  · have h := it_t hc h
    refine V_aload_n (pc := 14) C dX4_numberOdds_14 rfl rfl ?_
    refine V_getI (pc := 15) C hq fl_RX4_31 (by decide) dX4_numberOdds_15 ?_
    refine V_aload_n (pc := 18) C dX4_numberOdds_18 rfl rfl ?_
    refine V_iload_n (pc := 19) C dX4_numberOdds_19 rfl rfl ?_
    refine V_ineg (pc := 20) C dX4_numberOdds_20 ?_
    obtain ⟨r1, er1, h⟩ := b1_some h
    refine V_callV (As := [.int (-a1)]) (pc := 21) C (mX4_above _ hq er1) zm_X4_above zi_X4_above ml_RX4_52 hq rfl ⟨Nat.le_of_ble_eq_true rfl, Nat.le_of_ble_eq_true rfl⟩ rfl rfl (Nat.le_of_ble_eq_true rfl) dX4_numberOdds_21 ?_
    show V K 24 [some (.ref q), some (.int a1), some (.int a2)] [.int r1, .int (gI S q 3)] S
    refine V_isub (pc := 24) C dX4_numberOdds_24 ?_
    cases h
    exact hR 25 _ ⟨_, rfl, rfl⟩ dX4_numberOdds_25
  · have h := it_f hc h
    refine V_aload_n (pc := 4) C dX4_numberOdds_4 rfl rfl ?_
    refine V_iload_n (pc := 5) C dX4_numberOdds_5 rfl rfl ?_
    refine V_iload_n (pc := 6) C dX4_numberOdds_6 rfl rfl ?_
    refine V_isub (pc := 7) C dX4_numberOdds_7 ?_
    obtain ⟨r2, er2, h⟩ := b1_some h
    refine V_callV (As := [.int (a2 - a1)]) (pc := 8) C (mX4_oftenAt _ hq er2) zm_X4_oftenAt zi_X4_oftenAt ml_RX4_55 hq rfl ⟨Nat.le_of_ble_eq_true rfl, Nat.le_of_ble_eq_true rfl⟩ rfl rfl (Nat.le_of_ble_eq_true rfl) dX4_numberOdds_8 ?_
    show V K 11 [some (.ref q), some (.int a1), some (.int a2)] [.int r2] S
    refine V_goto (tgt := 25) (pc := 11) C dX4_numberOdds_11 (by decide) ?_
    cases h
    exact hR 25 _ ⟨_, rfl, rfl⟩ dX4_numberOdds_25
set_option maxRecDepth 100000 in
theorem mX4_countedOff_L4 {K : zK} (C : zC K cX4_countedOff yX4_countedOff.cls 4 0 0 cW) {S : zM} {v0 : Nat} (hv0 : zob cW 4 v0) : ∀ (f : Nat) (v2 : Int32) (v3 : Int32) (r : Int32), gX4_countedOff_L4 S v0 f v2 v3 = some r → zR K cX4_countedOff (some .int) S (some (.int r)) → V K 4 [some (.ref v0), none, some (.int v2), some (.int v3)] [] S := by
  intro f
  induction f with
  | zero => intro v2 v3 r h hR; cases h
  | succ n ih =>
    intro v2 v3 r h hR
    unfold gX4_countedOff_L4 at h
    refine V_iload_n (pc := 4) C dX4_countedOff_4 rfl rfl ?_
    refine V_aload_n (pc := 5) C dX4_countedOff_5 rfl rfl ?_
    refine V_getF (p1 := (v0 + 1)) (pc := 6) C hv0 fl_RX4_9 rfl (zf_cW_4_0 hv0) dX4_countedOff_6 ?_
    refine V_alen (v := (11 : Int32)) (pc := 9) C (za_cW_4_0 hv0) (by decide) (fun _ => rfl) (by decide) dX4_countedOff_9 ?_
    refine V_icmp_ge (tgt := 42) (pc := 10) C dX4_countedOff_10 (by decide) (fun hc => ?_) (fun hc => ?_)
    · have h := it_t hc h
      refine V_iconst (pc := 42) C dX4_countedOff_42 kc_i_0 ?_
      cases h
      exact hR 43 _ ⟨_, rfl, rfl⟩ dX4_countedOff_43
    · have h := it_f hc h
      refine V_iload_n (pc := 13) C dX4_countedOff_13 rfl rfl ?_
      refine V_aload_n (pc := 14) C dX4_countedOff_14 rfl rfl ?_
      refine V_getF (p1 := (v0 + 1)) (pc := 15) C hv0 fl_RX4_9 rfl (zf_cW_4_0 hv0) dX4_countedOff_15 ?_
      refine V_iload_n (pc := 18) C dX4_countedOff_18 rfl rfl ?_
      obtain ⟨k1, h⟩ := ck_some h
      refine V_iald (pc := 19) C (za_cW_4_0 hv0) k1 dX4_countedOff_19 ?_
      refine V_icmp_ge (tgt := 27) (pc := 20) C dX4_countedOff_20 (by decide) (fun hc => ?_) (fun hc => ?_)
      · have h := it_t hc h
        refine V_iload_n (pc := 27) C dX4_countedOff_27 rfl rfl ?_
        refine V_aload_n (pc := 28) C dX4_countedOff_28 rfl rfl ?_
        refine V_getF (p1 := (v0 + 1)) (pc := 29) C hv0 fl_RX4_9 rfl (zf_cW_4_0 hv0) dX4_countedOff_29 ?_
        refine V_iload_n (pc := 32) C dX4_countedOff_32 rfl rfl ?_
        obtain ⟨k2, h⟩ := ck_some h
        refine V_iald (pc := 33) C (za_cW_4_0 hv0) k2 dX4_countedOff_33 ?_
        refine V_isub (pc := 34) C dX4_countedOff_34 ?_
        obtain ⟨x3, ex3, h⟩ := lt_some h
        refine V_nmI ex3 ?_
        refine V_istore_n (L' := [some (.ref v0), none, some (.int x3), some (.int v3)]) (pc := 35) C dX4_countedOff_35 rfl (by decide) rfl ?_
        refine V_iinc (L' := [some (.ref v0), none, some (.int x3), some (.int (v3 + (1 : Int32)))]) (v := (v3 + (1 : Int32))) (pc := 36) C dX4_countedOff_36 rfl (congrArg (v3 + ·) kc_i_1) (by decide) rfl ?_
        refine V_goto (tgt := 4) (pc := 39) C dX4_countedOff_39 (by decide) ?_
        exact V_mask [true, false, true, true] (ih _ _ _ h hR)
      · have h := it_f hc h
        refine V_iload_n (pc := 23) C dX4_countedOff_23 rfl rfl ?_
        refine V_iconst (pc := 24) C dX4_countedOff_24 kc_i_5 ?_
        refine V_isub (pc := 25) C dX4_countedOff_25 ?_
        cases h
        exact hR 26 _ ⟨_, rfl, rfl⟩ dX4_countedOff_26
set_option maxRecDepth 100000 in
theorem mX4_countedOff (l : Launch) {S : zM} {q : Nat} {a1 : Int32} {r : Int32} (hq : zob cW 4 q) (h : gX4_countedOff S q a1 = some r) : zMet l cW zS0 yX4_countedOff cX4_countedOff 4 (some .int) 0 0 [.ref q, .int a1] S (some (.int r)) S := by
  refine zmeth (by decide +kernel) (by rfl) (fun K hKl C hR => ?_)
  show V K 0 [some (.ref q), some (.int a1), none, none] [] S
  unfold gX4_countedOff at h
  refine V_iload_n (pc := 0) C dX4_countedOff_0 rfl rfl ?_
  refine V_istore_n (L' := [some (.ref q), some (.int a1), some (.int a1), none]) (pc := 1) C dX4_countedOff_1 rfl (by decide) rfl ?_
  refine V_iconst (pc := 2) C dX4_countedOff_2 kc_i_0 ?_
  refine V_istore_n (L' := [some (.ref q), some (.int a1), some (.int a1), some (.int (0 : Int32))]) (pc := 3) C dX4_countedOff_3 rfl (by decide) rfl ?_
  exact V_mask [true, false, true, true] (mX4_countedOff_L4 C hq FU _ _ _ h hR)
set_option maxRecDepth 100000 in
theorem mX6_sizes (l : Launch) {S : zM} {q : Nat} {r : Int32} (hq : zob cW 6 q) (h : gX6_sizes S q = some r) : zMet l cW zS0 yX6_sizes cX6_sizes 1 (some .int) 1 21 [.ref q] S (some (.int r)) S := by
  refine zmeth (by decide +kernel) (by rfl) (fun K hKl C hR => ?_)
  show V K 0 [some (.ref q)] [] S
  unfold gX6_sizes at h
  refine V_aload_n (pc := 0) C dX6_sizes_0 rfl rfl ?_
  refine V_getI (pc := 1) C hq fl_RX6_7 (by decide) dX6_sizes_1 ?_
  refine V_aload_n (pc := 4) C dX6_sizes_4 rfl rfl ?_
  refine V_getI (pc := 5) C hq fl_RX6_13 (by decide) dX6_sizes_5 ?_
  refine V_isub (pc := 8) C dX6_sizes_8 ?_
  refine V_iconst (pc := 9) C dX6_sizes_9 kc_i_1 ?_
  refine V_aload_n (pc := 10) C dX6_sizes_10 rfl rfl ?_
  refine V_getI (pc := 11) C hq fl_RX6_16 (by decide) dX6_sizes_11 ?_
  refine V_max (pc := 14) C ml_RX6_19 mt_max.1 mt_max.2.1 mt_max.2.2 ⟨Nat.le_of_ble_eq_true rfl, Nat.le_of_ble_eq_true rfl⟩ dX6_sizes_14 ?_
  obtain ⟨k1, h⟩ := ck_some h
  refine V_idiv (pc := 17) C dX6_sizes_17 (of_decide_eq_true k1) ?_
  refine V_iconst (pc := 18) C dX6_sizes_18 kc_i_1 ?_
  refine V_iadd (pc := 19) C dX6_sizes_19 ?_
  cases h
  exact hR 20 _ ⟨_, rfl, rfl⟩ dX6_sizes_20
set_option maxRecDepth 100000 in
theorem mX6_trials (l : Launch) {S : zM} {q : Nat} {r : Int32} (hq : zob cW 6 q) (h : gX6_trials S q = some r) : zMet l cW zS0 yX6_trials cX6_trials 1 (some .int) 2 41 [.ref q] S (some (.int r)) S := by
  refine zmeth (by decide +kernel) (by rfl) (fun K hKl C hR => ?_)
  show V K 0 [some (.ref q)] [] S
  unfold gX6_trials at h
  refine V_aload_n (pc := 0) C dX6_trials_0 rfl rfl ?_
  obtain ⟨r1, er1, h⟩ := b1_some h
  refine V_callV (As := []) (pc := 1) C (mX6_sizes _ hq er1) zm_X6_sizes zi_X6_sizes ml_RX6_25 hq rfl ⟨Nat.le_of_ble_eq_true rfl, Nat.le_of_ble_eq_true rfl⟩ rfl rfl (Nat.le_of_ble_eq_true rfl) dX6_trials_1 ?_
  show V K 4 [some (.ref q)] [.int r1] S
  refine V_aload_n (pc := 4) C dX6_trials_4 rfl rfl ?_
  refine V_getI (pc := 5) C hq fl_RX6_29 (by decide) dX6_trials_5 ?_
  refine V_imul (pc := 8) C dX6_trials_8 ?_
  cases h
  exact hR 9 _ ⟨_, rfl, rfl⟩ dX6_trials_9
set_option maxRecDepth 100000 in
theorem mX6_layOut_L2 {K : zK} (C : zC K cX6_layOut yX6_layOut.cls 4 3 61 cW) {v0 : Nat} (hv0 : zob cW 6 v0) : ∀ (f : Nat) (S : zM) (v2 : Int32) (S' : zM), gX6_layOut_L2 v0 f S v2 = some S' → zR K cX6_layOut (none) S' none → V K 2 [some (.ref v0), some (.ref 239), some (.int v2), none] [] S := by
  intro f
  induction f with
  | zero => intro S v2 S' h hR; cases h
  | succ n ih =>
    intro S v2 S' h hR
    unfold gX6_layOut_L2 at h
    refine V_iload_n (pc := 2) C dX6_layOut_2 rfl rfl ?_
    refine V_aload_n (pc := 3) C dX6_layOut_3 rfl rfl ?_
    obtain ⟨r1, er1, h⟩ := b1_some h
    refine V_callV (As := []) (pc := 4) C (mX6_trials _ hv0 er1) zm_X6_trials zi_X6_trials ml_RX6_32 hv0 rfl ⟨Nat.le_of_ble_eq_true rfl, Nat.le_of_ble_eq_true rfl⟩ rfl rfl (Nat.le_of_ble_eq_true rfl) dX6_layOut_4 ?_
    show V K 7 [some (.ref v0), some (.ref 239), some (.int v2), none] [.int r1, .int v2] S
    refine V_icmp_ge (tgt := 66) (pc := 7) C dX6_layOut_7 (by decide) (fun hc => ?_) (fun hc => ?_)
    · have h := it_t hc h
      cases h
      exact hR 66 _ rfl dX6_layOut_66
    · have h := it_f hc h
      refine V_iload_n (pc := 10) C dX6_layOut_10 rfl rfl ?_
      refine V_aload_n (pc := 11) C dX6_layOut_11 rfl rfl ?_
      refine V_alen (v := (200 : Int32)) (pc := 12) C (za_cW_11_4 z1_cW_11) (by decide) (fun _ => rfl) (by decide) dX6_layOut_12 ?_
      refine V_icmp_ge (tgt := 66) (pc := 13) C dX6_layOut_13 (by decide) (fun hc => ?_) (fun hc => ?_)
      · have h := it_t hc h
        cases h
        exact hR 66 _ rfl dX6_layOut_66
      · have h := it_f hc h
        refine V_iload_n (pc := 16) C dX6_layOut_16 rfl rfl ?_
        refine V_iconst (pc := 17) C dX6_layOut_17 kc_i_1 ?_
        refine V_aload_n (pc := 18) C dX6_layOut_18 rfl rfl ?_
        refine V_getI (pc := 19) C hv0 fl_RX6_29 (by decide) dX6_layOut_19 ?_
        refine V_max (pc := 22) C ml_RX6_19 mt_max.1 mt_max.2.1 mt_max.2.2 ⟨Nat.le_of_ble_eq_true rfl, Nat.le_of_ble_eq_true rfl⟩ dX6_layOut_22 ?_
        obtain ⟨k2, h⟩ := ck_some h
        refine V_idiv (pc := 25) C dX6_layOut_25 (of_decide_eq_true k2) ?_
        obtain ⟨x3, ex3, h⟩ := lt_some h
        refine V_nmI ex3 ?_
        refine V_istore_n (L' := [some (.ref v0), some (.ref 239), some (.int v2), some (.int x3)]) (pc := 26) C dX6_layOut_26 rfl (by decide) rfl ?_
        refine V_aload_n (pc := 27) C dX6_layOut_27 rfl rfl ?_
        refine V_iload_n (pc := 28) C dX6_layOut_28 rfl rfl ?_
        refine V_aload_n (pc := 29) C dX6_layOut_29 rfl rfl ?_
        refine V_getI (pc := 30) C hv0 fl_RX6_13 (by decide) dX6_layOut_30 ?_
        refine V_aload_n (pc := 33) C dX6_layOut_33 rfl rfl ?_
        refine V_getI (pc := 34) C hv0 fl_RX6_16 (by decide) dX6_layOut_34 ?_
        refine V_aload_n (pc := 37) C dX6_layOut_37 rfl rfl ?_
        refine V_getI (pc := 38) C hv0 fl_RX6_35 (by decide) dX6_layOut_38 ?_
        refine V_iconst (pc := 41) C dX6_layOut_41 kc_i_1 ?_
        refine V_icmp_ne (tgt := 56) (pc := 42) C dX6_layOut_42 (by decide) (fun hc => ?_) (fun hc => ?_)
        · have h := it_f hc h
          refine V_iload_n (pc := 56) C dX6_layOut_56 rfl rfl ?_
          refine V_imul (pc := 57) C dX6_layOut_57 ?_
          refine V_iadd (pc := 58) C dX6_layOut_58 ?_
          obtain ⟨k4, h⟩ := ck_some h
          refine V_iast (pc := 59) C (za_cW_11_4 z1_cW_11) k4 dX6_layOut_59 ?_
          refine V_iinc (L' := [some (.ref v0), some (.ref 239), some (.int (v2 + (1 : Int32))), some (.int x3)]) (v := (v2 + (1 : Int32))) (pc := 60) C dX6_layOut_60 rfl (congrArg (v2 + ·) kc_i_1) (by decide) rfl ?_
          refine V_goto (tgt := 2) (pc := 63) C dX6_layOut_63 (by decide) ?_
          exact V_mask [true, true, true, false] (ih _ _ _ h hR)
        · have h := it_t hc h
          refine V_aload_n (pc := 45) C dX6_layOut_45 rfl rfl ?_
          obtain ⟨r5, er5, h⟩ := b1_some h
          refine V_callV (As := []) (pc := 46) C (mX6_sizes _ hv0 er5) zm_X6_sizes zi_X6_sizes ml_RX6_25 hv0 rfl ⟨Nat.le_of_ble_eq_true rfl, Nat.le_of_ble_eq_true rfl⟩ rfl rfl (Nat.le_of_ble_eq_true rfl) dX6_layOut_46 ?_
          show V K 49 [some (.ref v0), some (.ref 239), some (.int v2), some (.int x3)] [.int r5, .int (gI S v0 3), .int (gI S v0 1), .int v2, .ref 239] S
          refine V_iconst (pc := 49) C dX6_layOut_49 kc_i_1 ?_
          refine V_isub (pc := 50) C dX6_layOut_50 ?_
          refine V_iload_n (pc := 51) C dX6_layOut_51 rfl rfl ?_
          refine V_isub (pc := 52) C dX6_layOut_52 ?_
          refine V_goto (tgt := 57) (pc := 53) C dX6_layOut_53 (by decide) ?_
          refine V_imul (pc := 57) C dX6_layOut_57 ?_
          refine V_iadd (pc := 58) C dX6_layOut_58 ?_
          obtain ⟨k6, h⟩ := ck_some h
          refine V_iast (pc := 59) C (za_cW_11_4 z1_cW_11) k6 dX6_layOut_59 ?_
          refine V_iinc (L' := [some (.ref v0), some (.ref 239), some (.int (v2 + (1 : Int32))), some (.int x3)]) (v := (v2 + (1 : Int32))) (pc := 60) C dX6_layOut_60 rfl (congrArg (v2 + ·) kc_i_1) (by decide) rfl ?_
          refine V_goto (tgt := 2) (pc := 63) C dX6_layOut_63 (by decide) ?_
          exact V_mask [true, true, true, false] (ih _ _ _ h hR)
set_option maxRecDepth 100000 in
theorem mX6_layOut (l : Launch) {S : zM} {q : Nat} {S' : zM} (hq : zob cW 6 q) (h : gX6_layOut S q = some S') : zMet l cW zS0 yX6_layOut cX6_layOut 4 (none) 3 61 [.ref q, .ref 239] S none S' := by
  refine zmeth (by decide +kernel) (by rfl) (fun K hKl C hR => ?_)
  show V K 0 [some (.ref q), some (.ref 239), none, none] [] S
  unfold gX6_layOut at h
  refine V_iconst (pc := 0) C dX6_layOut_0 kc_i_0 ?_
  refine V_istore_n (L' := [some (.ref q), some (.ref 239), some (.int (0 : Int32)), none]) (pc := 1) C dX6_layOut_1 rfl (by decide) rfl ?_
  exact V_mask [true, true, true, false] (mX6_layOut_L2 C hq FU _ _ _ h hR)
set_option maxRecDepth 100000 in
theorem mX7_isLetter (l : Launch) {S : zM} {a0 : Int32} {r : Int32}  (h : gX7_isLetter a0 = some r) : zMet l cW zS0 yX7_isLetter cX7_isLetter 1 (some .boolean) 0 0 [.int a0] S (some (.int r)) S := by
  refine zmeth (by decide +kernel) (by rfl) (fun K hKl C hR => ?_)
  show V K 0 [some (.int a0)] [] S
  unfold gX7_isLetter at h
  refine V_iload_n (pc := 0) C dX7_isLetter_0 rfl rfl ?_
  refine V_bipush (pc := 1) C dX7_isLetter_1 kc_b_97 ?_
  refine V_icmp_lt (tgt := 16) (pc := 3) C dX7_isLetter_3 (by decide) (fun hc => ?_) (fun hc => ?_)
  · have h := it_t hc h
    refine V_iconst (pc := 16) C dX7_isLetter_16 kc_i_0 ?_
    cases h
    exact hR 17 _ ⟨_, rfl, zB0⟩ dX7_isLetter_17
  · have h := it_f hc h
    refine V_iload_n (pc := 6) C dX7_isLetter_6 rfl rfl ?_
    refine V_bipush (pc := 7) C dX7_isLetter_7 kc_b_122 ?_
    refine V_icmp_gt (tgt := 16) (pc := 9) C dX7_isLetter_9 (by decide) (fun hc => ?_) (fun hc => ?_)
    · have h := it_t hc h
      refine V_iconst (pc := 16) C dX7_isLetter_16 kc_i_0 ?_
      cases h
      exact hR 17 _ ⟨_, rfl, zB0⟩ dX7_isLetter_17
    · have h := it_f hc h
      refine V_iconst (pc := 12) C dX7_isLetter_12 kc_i_1 ?_
      refine V_goto (tgt := 17) (pc := 13) C dX7_isLetter_13 (by decide) ?_
      cases h
      exact hR 17 _ ⟨_, rfl, zB1⟩ dX7_isLetter_17
set_option maxRecDepth 100000 in
theorem mX7_addToken (l : Launch) {S : zM} {a1 : Int32} {a2 : Int32} {a3 : Int64} {S' : zM}  (h : gX7_addToken S a1 a2 a3 = some S') : zMet l cW zS0 yX7_addToken cX7_addToken 5 (none) 0 0 [.ref 2, .int a1, .int a2, .long a3] S none S' := by
  refine zmeth (by decide +kernel) (by rfl) (fun K hKl C hR => ?_)
  show V K 0 [some (.ref 2), some (.int a1), some (.int a2), some (.long a3), none] [] S
  unfold gX7_addToken at h
  refine V_aload_n (pc := 0) C dX7_addToken_0 rfl rfl ?_
  refine V_getI (pc := 1) C z1_cW_7 fl_RX7_52 (by decide) dX7_addToken_1 ?_
  refine V_aload_n (pc := 4) C dX7_addToken_4 rfl rfl ?_
  refine V_getF (p1 := 3) (pc := 5) C z1_cW_7 fl_RX7_9 rfl (zf_cW_7_0 z1_cW_7) dX7_addToken_5 ?_
  refine V_alen (v := (701 : Int32)) (pc := 8) C (za_cW_7_0 z1_cW_7) (by decide) (fun _ => rfl) (by decide) dX7_addToken_8 ?_
  refine V_icmp_ge (tgt := 52) (pc := 9) C dX7_addToken_9 (by decide) (fun hc => ?_) (fun hc => ?_)
  · have h := it_t hc h
    cases h
    exact hR 52 _ rfl dX7_addToken_52
  · have h := it_f hc h
    refine V_aload_n (pc := 12) C dX7_addToken_12 rfl rfl ?_
    refine V_getF (p1 := 3) (pc := 13) C z1_cW_7 fl_RX7_9 rfl (zf_cW_7_0 z1_cW_7) dX7_addToken_13 ?_
    refine V_aload_n (pc := 16) C dX7_addToken_16 rfl rfl ?_
    refine V_getI (pc := 17) C z1_cW_7 fl_RX7_52 (by decide) dX7_addToken_17 ?_
    refine V_iload_n (pc := 20) C dX7_addToken_20 rfl rfl ?_
    obtain ⟨k1, h⟩ := ck_some h
    refine V_iast (pc := 21) C (za_cW_7_0 z1_cW_7) k1 dX7_addToken_21 ?_
    refine V_aload_n (pc := 22) C dX7_addToken_22 rfl rfl ?_
    refine V_getF (p1 := 4) (pc := 23) C z1_cW_7 fl_RX7_15 rfl (zf_cW_7_1 z1_cW_7) dX7_addToken_23 ?_
    refine V_aload_n (pc := 26) C dX7_addToken_26 rfl rfl ?_
    refine V_getI (pc := 27) C z1_cW_7 fl_RX7_52 (by decide) dX7_addToken_27 ?_
    refine V_iload_n (pc := 30) C dX7_addToken_30 rfl rfl ?_
    obtain ⟨k2, h⟩ := ck_some h
    refine V_iast (pc := 31) C (za_cW_7_1 z1_cW_7) k2 dX7_addToken_31 ?_
    refine V_aload_n (pc := 32) C dX7_addToken_32 rfl rfl ?_
    refine V_getF (p1 := 5) (pc := 33) C z1_cW_7 fl_RX7_18 rfl (zf_cW_7_2 z1_cW_7) dX7_addToken_33 ?_
    refine V_aload_n (pc := 36) C dX7_addToken_36 rfl rfl ?_
    refine V_getI (pc := 37) C z1_cW_7 fl_RX7_52 (by decide) dX7_addToken_37 ?_
    refine V_lload_n (pc := 40) C dX7_addToken_40 rfl rfl ?_
    obtain ⟨k3, h⟩ := ck_some h
    refine V_last (pc := 41) C (za_cW_7_2 z1_cW_7) k3 dX7_addToken_41 ?_
    obtain ⟨S4, eS4, h⟩ := lt_some h
    refine V_nmS eS4 ?_
    refine V_aload_n (pc := 42) C dX7_addToken_42 rfl rfl ?_
    refine V_dup (pc := 43) C dX7_addToken_43 rfl ?_
    refine V_getI (pc := 44) C z1_cW_7 fl_RX7_52 (by decide) dX7_addToken_44 ?_
    refine V_iconst (pc := 47) C dX7_addToken_47 kc_i_1 ?_
    refine V_iadd (pc := 48) C dX7_addToken_48 ?_
    refine V_putI (pc := 49) C z1_cW_7 fp_RX7_52 rfl rfl dX7_addToken_49 ?_
    cases h
    exact hR 52 _ rfl dX7_addToken_52
set_option maxRecDepth 100000 in
theorem mX7_scanWord_L6 {K : zK} (C : zC K cX7_scanWord yX7_scanWord.cls 7 1 24 cW) {S : zM} {v2 : Int32} {v3 : Int32}  : ∀ (f : Nat) (v4 : Int64) (v6 : Int32) (r : Int32) (S' : zM), gX7_scanWord_L6 S v2 v3 f v4 v6 = some (r, S') → zR K cX7_scanWord (some .int) S' (some (.int r)) → V K 6 [some (.ref 2), some (.ref 1), some (.int v2), some (.int v3), some (.long v4), none, some (.int v6)] [] S := by
  intro f
  induction f with
  | zero => intro v4 v6 r S' h hR; cases h
  | succ n ih =>
    intro v4 v6 r S' h hR
    unfold gX7_scanWord_L6 at h
    refine V_iload (pc := 6) C dX7_scanWord_6 rfl ?_
    refine V_iload_n (pc := 8) C dX7_scanWord_8 rfl rfl ?_
    refine V_icmp_ge (tgt := 55) (pc := 9) C dX7_scanWord_9 (by decide) (fun hc => ?_) (fun hc => ?_)
    · have h := it_t hc h
      refine V_aload_n (pc := 55) C dX7_scanWord_55 rfl rfl ?_
      refine V_iload (pc := 56) C dX7_scanWord_56 rfl ?_
      refine V_iload_n (pc := 58) C dX7_scanWord_58 rfl rfl ?_
      refine V_isub (pc := 59) C dX7_scanWord_59 ?_
      refine V_bipush (pc := 60) C dX7_scanWord_60 kc_b_8 ?_
      refine V_icmp_le (tgt := 69) (pc := 62) C dX7_scanWord_62 (by decide) (fun hc => ?_) (fun hc => ?_)
      · have h := it_t hc h
        refine V_iconst (pc := 69) C dX7_scanWord_69 kc_i_1 ?_
        refine V_iload_n (pc := 70) C dX7_scanWord_70 rfl rfl ?_
        refine V_lload (pc := 71) C dX7_scanWord_71 rfl ?_
        obtain ⟨S2, euS2, h⟩ := b1_some h
        refine V_callV (As := [.int (1 : Int32), .int v2, .long v4]) (pc := 73) C (mX7_addToken _ euS2) zm_X7_addToken zi_X7_addToken ml_RX7_101 z1_cW_7 rfl ⟨Nat.le_of_ble_eq_true rfl, Nat.le_of_ble_eq_true rfl⟩ rfl rfl (Nat.le_of_ble_eq_true rfl) dX7_scanWord_73 ?_
        show V K 76 [some (.ref 2), some (.ref 1), some (.int v2), some (.int v3), some (.long v4), none, some (.int v6)] [] S2
        refine V_iload (pc := 76) C dX7_scanWord_76 rfl ?_
        cases h
        exact hR 78 _ ⟨_, rfl, rfl⟩ dX7_scanWord_78
      · have h := it_f hc h
        refine V_iconst (pc := 65) C dX7_scanWord_65 kc_i_4 ?_
        refine V_goto (tgt := 70) (pc := 66) C dX7_scanWord_66 (by decide) ?_
        refine V_iload_n (pc := 70) C dX7_scanWord_70 rfl rfl ?_
        refine V_lload (pc := 71) C dX7_scanWord_71 rfl ?_
        obtain ⟨S4, euS4, h⟩ := b1_some h
        refine V_callV (As := [.int (4 : Int32), .int v2, .long v4]) (pc := 73) C (mX7_addToken _ euS4) zm_X7_addToken zi_X7_addToken ml_RX7_101 z1_cW_7 rfl ⟨Nat.le_of_ble_eq_true rfl, Nat.le_of_ble_eq_true rfl⟩ rfl rfl (Nat.le_of_ble_eq_true rfl) dX7_scanWord_73 ?_
        show V K 76 [some (.ref 2), some (.ref 1), some (.int v2), some (.int v3), some (.long v4), none, some (.int v6)] [] S4
        refine V_iload (pc := 76) C dX7_scanWord_76 rfl ?_
        cases h
        exact hR 78 _ ⟨_, rfl, rfl⟩ dX7_scanWord_78
    · have h := it_f hc h
      refine V_iload (pc := 12) C dX7_scanWord_12 rfl ?_
      refine V_aload_n (pc := 14) C dX7_scanWord_14 rfl rfl ?_
      refine V_alen (v := (700 : Int32)) (pc := 15) C (za_cW_11_0 z1_cW_11) (by decide) (fun _ => rfl) (by decide) dX7_scanWord_15 ?_
      refine V_icmp_ge (tgt := 55) (pc := 16) C dX7_scanWord_16 (by decide) (fun hc => ?_) (fun hc => ?_)
      · have h := it_t hc h
        refine V_aload_n (pc := 55) C dX7_scanWord_55 rfl rfl ?_
        refine V_iload (pc := 56) C dX7_scanWord_56 rfl ?_
        refine V_iload_n (pc := 58) C dX7_scanWord_58 rfl rfl ?_
        refine V_isub (pc := 59) C dX7_scanWord_59 ?_
        refine V_bipush (pc := 60) C dX7_scanWord_60 kc_b_8 ?_
        refine V_icmp_le (tgt := 69) (pc := 62) C dX7_scanWord_62 (by decide) (fun hc => ?_) (fun hc => ?_)
        · have h := it_t hc h
          refine V_iconst (pc := 69) C dX7_scanWord_69 kc_i_1 ?_
          refine V_iload_n (pc := 70) C dX7_scanWord_70 rfl rfl ?_
          refine V_lload (pc := 71) C dX7_scanWord_71 rfl ?_
          obtain ⟨S6, euS6, h⟩ := b1_some h
          refine V_callV (As := [.int (1 : Int32), .int v2, .long v4]) (pc := 73) C (mX7_addToken _ euS6) zm_X7_addToken zi_X7_addToken ml_RX7_101 z1_cW_7 rfl ⟨Nat.le_of_ble_eq_true rfl, Nat.le_of_ble_eq_true rfl⟩ rfl rfl (Nat.le_of_ble_eq_true rfl) dX7_scanWord_73 ?_
          show V K 76 [some (.ref 2), some (.ref 1), some (.int v2), some (.int v3), some (.long v4), none, some (.int v6)] [] S6
          refine V_iload (pc := 76) C dX7_scanWord_76 rfl ?_
          cases h
          exact hR 78 _ ⟨_, rfl, rfl⟩ dX7_scanWord_78
        · have h := it_f hc h
          refine V_iconst (pc := 65) C dX7_scanWord_65 kc_i_4 ?_
          refine V_goto (tgt := 70) (pc := 66) C dX7_scanWord_66 (by decide) ?_
          refine V_iload_n (pc := 70) C dX7_scanWord_70 rfl rfl ?_
          refine V_lload (pc := 71) C dX7_scanWord_71 rfl ?_
          obtain ⟨S8, euS8, h⟩ := b1_some h
          refine V_callV (As := [.int (4 : Int32), .int v2, .long v4]) (pc := 73) C (mX7_addToken _ euS8) zm_X7_addToken zi_X7_addToken ml_RX7_101 z1_cW_7 rfl ⟨Nat.le_of_ble_eq_true rfl, Nat.le_of_ble_eq_true rfl⟩ rfl rfl (Nat.le_of_ble_eq_true rfl) dX7_scanWord_73 ?_
          show V K 76 [some (.ref 2), some (.ref 1), some (.int v2), some (.int v3), some (.long v4), none, some (.int v6)] [] S8
          refine V_iload (pc := 76) C dX7_scanWord_76 rfl ?_
          cases h
          exact hR 78 _ ⟨_, rfl, rfl⟩ dX7_scanWord_78
      · have h := it_f hc h
        refine V_aload_n (pc := 19) C dX7_scanWord_19 rfl rfl ?_
        refine V_iload (pc := 20) C dX7_scanWord_20 rfl ?_
        obtain ⟨k9, h⟩ := ck_some h
        refine V_bald (pc := 22) C (za_cW_11_0 z1_cW_11) k9 dX7_scanWord_22 ?_
        obtain ⟨r10, er10, h⟩ := b1_some h
        refine V_callS (As := [.int (gI S 1 (ix v6))]) (pc := 23) C (mX7_isLetter _ er10) zm_X7_isLetter zs_X7_isLetter ml_RX7_105 ⟨Nat.le_of_ble_eq_true rfl, Nat.le_of_ble_eq_true rfl⟩ rfl rfl (Nat.le_of_ble_eq_true rfl) dX7_scanWord_23 ?_
        show V K 26 [some (.ref 2), some (.ref 1), some (.int v2), some (.int v3), some (.long v4), none, some (.int v6)] [.int r10] S
        refine V_if_eq (tgt := 55) (pc := 26) C dX7_scanWord_26 (by decide) (fun hc => ?_) (fun hc => ?_)
        · have h := it_t hc h
          refine V_aload_n (pc := 55) C dX7_scanWord_55 rfl rfl ?_
          refine V_iload (pc := 56) C dX7_scanWord_56 rfl ?_
          refine V_iload_n (pc := 58) C dX7_scanWord_58 rfl rfl ?_
          refine V_isub (pc := 59) C dX7_scanWord_59 ?_
          refine V_bipush (pc := 60) C dX7_scanWord_60 kc_b_8 ?_
          refine V_icmp_le (tgt := 69) (pc := 62) C dX7_scanWord_62 (by decide) (fun hc => ?_) (fun hc => ?_)
          · have h := it_t hc h
            refine V_iconst (pc := 69) C dX7_scanWord_69 kc_i_1 ?_
            refine V_iload_n (pc := 70) C dX7_scanWord_70 rfl rfl ?_
            refine V_lload (pc := 71) C dX7_scanWord_71 rfl ?_
            obtain ⟨S12, euS12, h⟩ := b1_some h
            refine V_callV (As := [.int (1 : Int32), .int v2, .long v4]) (pc := 73) C (mX7_addToken _ euS12) zm_X7_addToken zi_X7_addToken ml_RX7_101 z1_cW_7 rfl ⟨Nat.le_of_ble_eq_true rfl, Nat.le_of_ble_eq_true rfl⟩ rfl rfl (Nat.le_of_ble_eq_true rfl) dX7_scanWord_73 ?_
            show V K 76 [some (.ref 2), some (.ref 1), some (.int v2), some (.int v3), some (.long v4), none, some (.int v6)] [] S12
            refine V_iload (pc := 76) C dX7_scanWord_76 rfl ?_
            cases h
            exact hR 78 _ ⟨_, rfl, rfl⟩ dX7_scanWord_78
          · have h := it_f hc h
            refine V_iconst (pc := 65) C dX7_scanWord_65 kc_i_4 ?_
            refine V_goto (tgt := 70) (pc := 66) C dX7_scanWord_66 (by decide) ?_
            refine V_iload_n (pc := 70) C dX7_scanWord_70 rfl rfl ?_
            refine V_lload (pc := 71) C dX7_scanWord_71 rfl ?_
            obtain ⟨S14, euS14, h⟩ := b1_some h
            refine V_callV (As := [.int (4 : Int32), .int v2, .long v4]) (pc := 73) C (mX7_addToken _ euS14) zm_X7_addToken zi_X7_addToken ml_RX7_101 z1_cW_7 rfl ⟨Nat.le_of_ble_eq_true rfl, Nat.le_of_ble_eq_true rfl⟩ rfl rfl (Nat.le_of_ble_eq_true rfl) dX7_scanWord_73 ?_
            show V K 76 [some (.ref 2), some (.ref 1), some (.int v2), some (.int v3), some (.long v4), none, some (.int v6)] [] S14
            refine V_iload (pc := 76) C dX7_scanWord_76 rfl ?_
            cases h
            exact hR 78 _ ⟨_, rfl, rfl⟩ dX7_scanWord_78
        · have h := it_f hc h
          refine V_lload (pc := 29) C dX7_scanWord_29 rfl ?_
          refine V_ldc2 (pc := 31) C dX7_scanWord_31 kl_RX7_117 ?_
          refine V_lmul (pc := 34) C dX7_scanWord_34 ?_
          refine V_aload_n (pc := 35) C dX7_scanWord_35 rfl rfl ?_
          refine V_iload (pc := 36) C dX7_scanWord_36 rfl ?_
          obtain ⟨k15, h⟩ := ck_some h
          refine V_bald (pc := 38) C (za_cW_11_0 z1_cW_11) k15 dX7_scanWord_38 ?_
          refine V_i2l (pc := 39) C dX7_scanWord_39 ?_
          refine V_ladd (pc := 40) C dX7_scanWord_40 ?_
          refine V_ldc2 (pc := 41) C dX7_scanWord_41 kl_RX7_119 ?_
          refine V_lsub (pc := 44) C dX7_scanWord_44 ?_
          refine V_lconst (pc := 45) C dX7_scanWord_45 (v := (1 : Int64)) rfl ?_
          refine V_ladd (pc := 46) C dX7_scanWord_46 ?_
          obtain ⟨x16, ex16, h⟩ := lt_some h
          refine V_nmJ ex16 ?_
          refine V_lstore (L' := [some (.ref 2), some (.ref 1), some (.int v2), some (.int v3), some (.long x16), none, some (.int v6)]) (pc := 47) C dX7_scanWord_47 (by decide) rfl ?_
          refine V_iinc (L' := [some (.ref 2), some (.ref 1), some (.int v2), some (.int v3), some (.long x16), none, some (.int (v6 + (1 : Int32)))]) (v := (v6 + (1 : Int32))) (pc := 49) C dX7_scanWord_49 rfl (congrArg (v6 + ·) kc_i_1) (by decide) rfl ?_
          refine V_goto (tgt := 6) (pc := 52) C dX7_scanWord_52 (by decide) ?_
          exact V_mask [true, true, true, true, true, false, true] (ih _ _ _ _ h hR)
set_option maxRecDepth 100000 in
theorem mX7_scanWord (l : Launch) {S : zM} {a2 : Int32} {a3 : Int32} {r : Int32} {S' : zM}  (h : gX7_scanWord S a2 a3 = some (r, S')) : zMet l cW zS0 yX7_scanWord cX7_scanWord 7 (some .int) 1 24 [.ref 2, .ref 1, .int a2, .int a3] S (some (.int r)) S' := by
  refine zmeth (by decide +kernel) (by rfl) (fun K hKl C hR => ?_)
  show V K 0 [some (.ref 2), some (.ref 1), some (.int a2), some (.int a3), none, none, none] [] S
  unfold gX7_scanWord at h
  refine V_lconst (pc := 0) C dX7_scanWord_0 (v := (0 : Int64)) rfl ?_
  refine V_lstore (L' := [some (.ref 2), some (.ref 1), some (.int a2), some (.int a3), some (.long (0 : Int64)), none, none]) (pc := 1) C dX7_scanWord_1 (by decide) rfl ?_
  refine V_iload_n (pc := 3) C dX7_scanWord_3 rfl rfl ?_
  refine V_istore (L' := [some (.ref 2), some (.ref 1), some (.int a2), some (.int a3), some (.long (0 : Int64)), none, some (.int a2)]) (pc := 4) C dX7_scanWord_4 (by decide) rfl ?_
  exact V_mask [true, true, true, true, true, false, true] (mX7_scanWord_L6 C  FU _ _ _ _ h hR)
set_option maxRecDepth 100000 in
theorem mX7_isDigit (l : Launch) {S : zM} {a0 : Int32} {r : Int32}  (h : gX7_isDigit a0 = some r) : zMet l cW zS0 yX7_isDigit cX7_isDigit 1 (some .boolean) 0 0 [.int a0] S (some (.int r)) S := by
  refine zmeth (by decide +kernel) (by rfl) (fun K hKl C hR => ?_)
  show V K 0 [some (.int a0)] [] S
  unfold gX7_isDigit at h
  refine V_iload_n (pc := 0) C dX7_isDigit_0 rfl rfl ?_
  refine V_bipush (pc := 1) C dX7_isDigit_1 kc_b_48 ?_
  refine V_icmp_lt (tgt := 16) (pc := 3) C dX7_isDigit_3 (by decide) (fun hc => ?_) (fun hc => ?_)
  · have h := it_t hc h
    refine V_iconst (pc := 16) C dX7_isDigit_16 kc_i_0 ?_
    cases h
    exact hR 17 _ ⟨_, rfl, zB0⟩ dX7_isDigit_17
  · have h := it_f hc h
    refine V_iload_n (pc := 6) C dX7_isDigit_6 rfl rfl ?_
    refine V_bipush (pc := 7) C dX7_isDigit_7 kc_b_57 ?_
    refine V_icmp_gt (tgt := 16) (pc := 9) C dX7_isDigit_9 (by decide) (fun hc => ?_) (fun hc => ?_)
    · have h := it_t hc h
      refine V_iconst (pc := 16) C dX7_isDigit_16 kc_i_0 ?_
      cases h
      exact hR 17 _ ⟨_, rfl, zB0⟩ dX7_isDigit_17
    · have h := it_f hc h
      refine V_iconst (pc := 12) C dX7_isDigit_12 kc_i_1 ?_
      refine V_goto (tgt := 17) (pc := 13) C dX7_isDigit_13 (by decide) ?_
      cases h
      exact hR 17 _ ⟨_, rfl, zB1⟩ dX7_isDigit_17
set_option maxRecDepth 100000 in
theorem mX7_scanWhole_L6 {K : zK} (C : zC K cX7_scanWhole yX7_scanWhole.cls 7 1 24 cW) {S : zM} {v2 : Int32} {v3 : Int32}  : ∀ (f : Nat) (v4 : Int64) (v6 : Int32) (r : Int32) (S' : zM), gX7_scanWhole_L6 S v2 v3 f v4 v6 = some (r, S') → zR K cX7_scanWhole (some .int) S' (some (.int r)) → V K 6 [some (.ref 2), some (.ref 1), some (.int v2), some (.int v3), some (.long v4), none, some (.int v6)] [] S := by
  intro f
  induction f with
  | zero => intro v4 v6 r S' h hR; cases h
  | succ n ih =>
    intro v4 v6 r S' h hR
    unfold gX7_scanWhole_L6 at h
    refine V_iload (pc := 6) C dX7_scanWhole_6 rfl ?_
    refine V_iload_n (pc := 8) C dX7_scanWhole_8 rfl rfl ?_
    refine V_icmp_ge (tgt := 53) (pc := 9) C dX7_scanWhole_9 (by decide) (fun hc => ?_) (fun hc => ?_)
    · have h := it_t hc h
      refine V_aload_n (pc := 53) C dX7_scanWhole_53 rfl rfl ?_
      refine V_iload (pc := 54) C dX7_scanWhole_54 rfl ?_
      refine V_iload_n (pc := 56) C dX7_scanWhole_56 rfl rfl ?_
      refine V_isub (pc := 57) C dX7_scanWhole_57 ?_
      refine V_iconst (pc := 58) C dX7_scanWhole_58 kc_i_3 ?_
      refine V_icmp_le (tgt := 66) (pc := 59) C dX7_scanWhole_59 (by decide) (fun hc => ?_) (fun hc => ?_)
      · have h := it_t hc h
        refine V_iconst (pc := 66) C dX7_scanWhole_66 kc_i_2 ?_
        refine V_iload_n (pc := 67) C dX7_scanWhole_67 rfl rfl ?_
        refine V_lload (pc := 68) C dX7_scanWhole_68 rfl ?_
        obtain ⟨S2, euS2, h⟩ := b1_some h
        refine V_callV (As := [.int (2 : Int32), .int v2, .long v4]) (pc := 70) C (mX7_addToken _ euS2) zm_X7_addToken zi_X7_addToken ml_RX7_101 z1_cW_7 rfl ⟨Nat.le_of_ble_eq_true rfl, Nat.le_of_ble_eq_true rfl⟩ rfl rfl (Nat.le_of_ble_eq_true rfl) dX7_scanWhole_70 ?_
        show V K 73 [some (.ref 2), some (.ref 1), some (.int v2), some (.int v3), some (.long v4), none, some (.int v6)] [] S2
        refine V_iload (pc := 73) C dX7_scanWhole_73 rfl ?_
        cases h
        exact hR 75 _ ⟨_, rfl, rfl⟩ dX7_scanWhole_75
      · have h := it_f hc h
        refine V_iconst (pc := 62) C dX7_scanWhole_62 kc_i_4 ?_
        refine V_goto (tgt := 67) (pc := 63) C dX7_scanWhole_63 (by decide) ?_
        refine V_iload_n (pc := 67) C dX7_scanWhole_67 rfl rfl ?_
        refine V_lload (pc := 68) C dX7_scanWhole_68 rfl ?_
        obtain ⟨S4, euS4, h⟩ := b1_some h
        refine V_callV (As := [.int (4 : Int32), .int v2, .long v4]) (pc := 70) C (mX7_addToken _ euS4) zm_X7_addToken zi_X7_addToken ml_RX7_101 z1_cW_7 rfl ⟨Nat.le_of_ble_eq_true rfl, Nat.le_of_ble_eq_true rfl⟩ rfl rfl (Nat.le_of_ble_eq_true rfl) dX7_scanWhole_70 ?_
        show V K 73 [some (.ref 2), some (.ref 1), some (.int v2), some (.int v3), some (.long v4), none, some (.int v6)] [] S4
        refine V_iload (pc := 73) C dX7_scanWhole_73 rfl ?_
        cases h
        exact hR 75 _ ⟨_, rfl, rfl⟩ dX7_scanWhole_75
    · have h := it_f hc h
      refine V_iload (pc := 12) C dX7_scanWhole_12 rfl ?_
      refine V_aload_n (pc := 14) C dX7_scanWhole_14 rfl rfl ?_
      refine V_alen (v := (700 : Int32)) (pc := 15) C (za_cW_11_0 z1_cW_11) (by decide) (fun _ => rfl) (by decide) dX7_scanWhole_15 ?_
      refine V_icmp_ge (tgt := 53) (pc := 16) C dX7_scanWhole_16 (by decide) (fun hc => ?_) (fun hc => ?_)
      · have h := it_t hc h
        refine V_aload_n (pc := 53) C dX7_scanWhole_53 rfl rfl ?_
        refine V_iload (pc := 54) C dX7_scanWhole_54 rfl ?_
        refine V_iload_n (pc := 56) C dX7_scanWhole_56 rfl rfl ?_
        refine V_isub (pc := 57) C dX7_scanWhole_57 ?_
        refine V_iconst (pc := 58) C dX7_scanWhole_58 kc_i_3 ?_
        refine V_icmp_le (tgt := 66) (pc := 59) C dX7_scanWhole_59 (by decide) (fun hc => ?_) (fun hc => ?_)
        · have h := it_t hc h
          refine V_iconst (pc := 66) C dX7_scanWhole_66 kc_i_2 ?_
          refine V_iload_n (pc := 67) C dX7_scanWhole_67 rfl rfl ?_
          refine V_lload (pc := 68) C dX7_scanWhole_68 rfl ?_
          obtain ⟨S6, euS6, h⟩ := b1_some h
          refine V_callV (As := [.int (2 : Int32), .int v2, .long v4]) (pc := 70) C (mX7_addToken _ euS6) zm_X7_addToken zi_X7_addToken ml_RX7_101 z1_cW_7 rfl ⟨Nat.le_of_ble_eq_true rfl, Nat.le_of_ble_eq_true rfl⟩ rfl rfl (Nat.le_of_ble_eq_true rfl) dX7_scanWhole_70 ?_
          show V K 73 [some (.ref 2), some (.ref 1), some (.int v2), some (.int v3), some (.long v4), none, some (.int v6)] [] S6
          refine V_iload (pc := 73) C dX7_scanWhole_73 rfl ?_
          cases h
          exact hR 75 _ ⟨_, rfl, rfl⟩ dX7_scanWhole_75
        · have h := it_f hc h
          refine V_iconst (pc := 62) C dX7_scanWhole_62 kc_i_4 ?_
          refine V_goto (tgt := 67) (pc := 63) C dX7_scanWhole_63 (by decide) ?_
          refine V_iload_n (pc := 67) C dX7_scanWhole_67 rfl rfl ?_
          refine V_lload (pc := 68) C dX7_scanWhole_68 rfl ?_
          obtain ⟨S8, euS8, h⟩ := b1_some h
          refine V_callV (As := [.int (4 : Int32), .int v2, .long v4]) (pc := 70) C (mX7_addToken _ euS8) zm_X7_addToken zi_X7_addToken ml_RX7_101 z1_cW_7 rfl ⟨Nat.le_of_ble_eq_true rfl, Nat.le_of_ble_eq_true rfl⟩ rfl rfl (Nat.le_of_ble_eq_true rfl) dX7_scanWhole_70 ?_
          show V K 73 [some (.ref 2), some (.ref 1), some (.int v2), some (.int v3), some (.long v4), none, some (.int v6)] [] S8
          refine V_iload (pc := 73) C dX7_scanWhole_73 rfl ?_
          cases h
          exact hR 75 _ ⟨_, rfl, rfl⟩ dX7_scanWhole_75
      · have h := it_f hc h
        refine V_aload_n (pc := 19) C dX7_scanWhole_19 rfl rfl ?_
        refine V_iload (pc := 20) C dX7_scanWhole_20 rfl ?_
        obtain ⟨k9, h⟩ := ck_some h
        refine V_bald (pc := 22) C (za_cW_11_0 z1_cW_11) k9 dX7_scanWhole_22 ?_
        obtain ⟨r10, er10, h⟩ := b1_some h
        refine V_callS (As := [.int (gI S 1 (ix v6))]) (pc := 23) C (mX7_isDigit _ er10) zm_X7_isDigit zs_X7_isDigit ml_RX7_111 ⟨Nat.le_of_ble_eq_true rfl, Nat.le_of_ble_eq_true rfl⟩ rfl rfl (Nat.le_of_ble_eq_true rfl) dX7_scanWhole_23 ?_
        show V K 26 [some (.ref 2), some (.ref 1), some (.int v2), some (.int v3), some (.long v4), none, some (.int v6)] [.int r10] S
        refine V_if_eq (tgt := 53) (pc := 26) C dX7_scanWhole_26 (by decide) (fun hc => ?_) (fun hc => ?_)
        · have h := it_t hc h
          refine V_aload_n (pc := 53) C dX7_scanWhole_53 rfl rfl ?_
          refine V_iload (pc := 54) C dX7_scanWhole_54 rfl ?_
          refine V_iload_n (pc := 56) C dX7_scanWhole_56 rfl rfl ?_
          refine V_isub (pc := 57) C dX7_scanWhole_57 ?_
          refine V_iconst (pc := 58) C dX7_scanWhole_58 kc_i_3 ?_
          refine V_icmp_le (tgt := 66) (pc := 59) C dX7_scanWhole_59 (by decide) (fun hc => ?_) (fun hc => ?_)
          · have h := it_t hc h
            refine V_iconst (pc := 66) C dX7_scanWhole_66 kc_i_2 ?_
            refine V_iload_n (pc := 67) C dX7_scanWhole_67 rfl rfl ?_
            refine V_lload (pc := 68) C dX7_scanWhole_68 rfl ?_
            obtain ⟨S12, euS12, h⟩ := b1_some h
            refine V_callV (As := [.int (2 : Int32), .int v2, .long v4]) (pc := 70) C (mX7_addToken _ euS12) zm_X7_addToken zi_X7_addToken ml_RX7_101 z1_cW_7 rfl ⟨Nat.le_of_ble_eq_true rfl, Nat.le_of_ble_eq_true rfl⟩ rfl rfl (Nat.le_of_ble_eq_true rfl) dX7_scanWhole_70 ?_
            show V K 73 [some (.ref 2), some (.ref 1), some (.int v2), some (.int v3), some (.long v4), none, some (.int v6)] [] S12
            refine V_iload (pc := 73) C dX7_scanWhole_73 rfl ?_
            cases h
            exact hR 75 _ ⟨_, rfl, rfl⟩ dX7_scanWhole_75
          · have h := it_f hc h
            refine V_iconst (pc := 62) C dX7_scanWhole_62 kc_i_4 ?_
            refine V_goto (tgt := 67) (pc := 63) C dX7_scanWhole_63 (by decide) ?_
            refine V_iload_n (pc := 67) C dX7_scanWhole_67 rfl rfl ?_
            refine V_lload (pc := 68) C dX7_scanWhole_68 rfl ?_
            obtain ⟨S14, euS14, h⟩ := b1_some h
            refine V_callV (As := [.int (4 : Int32), .int v2, .long v4]) (pc := 70) C (mX7_addToken _ euS14) zm_X7_addToken zi_X7_addToken ml_RX7_101 z1_cW_7 rfl ⟨Nat.le_of_ble_eq_true rfl, Nat.le_of_ble_eq_true rfl⟩ rfl rfl (Nat.le_of_ble_eq_true rfl) dX7_scanWhole_70 ?_
            show V K 73 [some (.ref 2), some (.ref 1), some (.int v2), some (.int v3), some (.long v4), none, some (.int v6)] [] S14
            refine V_iload (pc := 73) C dX7_scanWhole_73 rfl ?_
            cases h
            exact hR 75 _ ⟨_, rfl, rfl⟩ dX7_scanWhole_75
        · have h := it_f hc h
          refine V_lload (pc := 29) C dX7_scanWhole_29 rfl ?_
          refine V_ldc2 (pc := 31) C dX7_scanWhole_31 kl_RX7_121 ?_
          refine V_lmul (pc := 34) C dX7_scanWhole_34 ?_
          refine V_aload_n (pc := 35) C dX7_scanWhole_35 rfl rfl ?_
          refine V_iload (pc := 36) C dX7_scanWhole_36 rfl ?_
          obtain ⟨k15, h⟩ := ck_some h
          refine V_bald (pc := 38) C (za_cW_11_0 z1_cW_11) k15 dX7_scanWhole_38 ?_
          refine V_i2l (pc := 39) C dX7_scanWhole_39 ?_
          refine V_ladd (pc := 40) C dX7_scanWhole_40 ?_
          refine V_ldc2 (pc := 41) C dX7_scanWhole_41 kl_RX7_123 ?_
          refine V_lsub (pc := 44) C dX7_scanWhole_44 ?_
          obtain ⟨x16, ex16, h⟩ := lt_some h
          refine V_nmJ ex16 ?_
          refine V_lstore (L' := [some (.ref 2), some (.ref 1), some (.int v2), some (.int v3), some (.long x16), none, some (.int v6)]) (pc := 45) C dX7_scanWhole_45 (by decide) rfl ?_
          refine V_iinc (L' := [some (.ref 2), some (.ref 1), some (.int v2), some (.int v3), some (.long x16), none, some (.int (v6 + (1 : Int32)))]) (v := (v6 + (1 : Int32))) (pc := 47) C dX7_scanWhole_47 rfl (congrArg (v6 + ·) kc_i_1) (by decide) rfl ?_
          refine V_goto (tgt := 6) (pc := 50) C dX7_scanWhole_50 (by decide) ?_
          exact V_mask [true, true, true, true, true, false, true] (ih _ _ _ _ h hR)
set_option maxRecDepth 100000 in
theorem mX7_scanWhole (l : Launch) {S : zM} {a2 : Int32} {a3 : Int32} {r : Int32} {S' : zM}  (h : gX7_scanWhole S a2 a3 = some (r, S')) : zMet l cW zS0 yX7_scanWhole cX7_scanWhole 7 (some .int) 1 24 [.ref 2, .ref 1, .int a2, .int a3] S (some (.int r)) S' := by
  refine zmeth (by decide +kernel) (by rfl) (fun K hKl C hR => ?_)
  show V K 0 [some (.ref 2), some (.ref 1), some (.int a2), some (.int a3), none, none, none] [] S
  unfold gX7_scanWhole at h
  refine V_lconst (pc := 0) C dX7_scanWhole_0 (v := (0 : Int64)) rfl ?_
  refine V_lstore (L' := [some (.ref 2), some (.ref 1), some (.int a2), some (.int a3), some (.long (0 : Int64)), none, none]) (pc := 1) C dX7_scanWhole_1 (by decide) rfl ?_
  refine V_iload_n (pc := 3) C dX7_scanWhole_3 rfl rfl ?_
  refine V_istore (L' := [some (.ref 2), some (.ref 1), some (.int a2), some (.int a3), some (.long (0 : Int64)), none, some (.int a2)]) (pc := 4) C dX7_scanWhole_4 (by decide) rfl ?_
  exact V_mask [true, true, true, true, true, false, true] (mX7_scanWhole_L6 C  FU _ _ _ _ h hR)
set_option maxRecDepth 100000 in
theorem mX7_scanToken (l : Launch) {S : zM} {a2 : Int32} {a3 : Int32} {r : Int32} {S' : zM}  (h : gX7_scanToken S a2 a3 = some (r, S')) : zMet l cW zS0 yX7_scanToken cX7_scanToken 5 (some .int) 2 50 [.ref 2, .ref 1, .int a2, .int a3] S (some (.int r)) S' := by
  refine zmeth (by decide +kernel) (by rfl) (fun K hKl C hR => ?_)
  show V K 0 [some (.ref 2), some (.ref 1), some (.int a2), some (.int a3), none] [] S
  unfold gX7_scanToken at h
  refine V_aload_n (pc := 0) C dX7_scanToken_0 rfl rfl ?_
  refine V_iload_n (pc := 1) C dX7_scanToken_1 rfl rfl ?_
  obtain ⟨k1, h⟩ := ck_some h
  refine V_bald (pc := 2) C (za_cW_11_0 z1_cW_11) k1 dX7_scanToken_2 ?_
  refine V_istore (L' := [some (.ref 2), some (.ref 1), some (.int a2), some (.int a3), some (.int (gI S 1 (ix a2)))]) (pc := 3) C dX7_scanToken_3 (by decide) rfl ?_
  refine V_iload (pc := 5) C dX7_scanToken_5 rfl ?_
  obtain ⟨r2, er2, h⟩ := b1_some h
  refine V_callS (As := [.int (gI S 1 (ix a2))]) (pc := 7) C (mX7_isLetter _ er2) zm_X7_isLetter zs_X7_isLetter ml_RX7_105 ⟨Nat.le_of_ble_eq_true rfl, Nat.le_of_ble_eq_true rfl⟩ rfl rfl (Nat.le_of_ble_eq_true rfl) dX7_scanToken_7 ?_
  show V K 10 [some (.ref 2), some (.ref 1), some (.int a2), some (.int a3), some (.int (gI S 1 (ix a2)))] [.int r2] S
  refine V_if_eq (tgt := 21) (pc := 10) C dX7_scanToken_10 (by decide) (fun hc => ?_) (fun hc => ?_)
  · have h := it_t hc h
    refine V_iload (pc := 21) C dX7_scanToken_21 rfl ?_
    obtain ⟨r3, er3, h⟩ := b1_some h
    refine V_callS (As := [.int (gI S 1 (ix a2))]) (pc := 23) C (mX7_isDigit _ er3) zm_X7_isDigit zs_X7_isDigit ml_RX7_111 ⟨Nat.le_of_ble_eq_true rfl, Nat.le_of_ble_eq_true rfl⟩ rfl rfl (Nat.le_of_ble_eq_true rfl) dX7_scanToken_23 ?_
    show V K 26 [some (.ref 2), some (.ref 1), some (.int a2), some (.int a3), some (.int (gI S 1 (ix a2)))] [.int r3] S
    refine V_if_eq (tgt := 37) (pc := 26) C dX7_scanToken_26 (by decide) (fun hc => ?_) (fun hc => ?_)
    · have h := it_t hc h
      refine V_aload_n (pc := 37) C dX7_scanToken_37 rfl rfl ?_
      refine V_iload (pc := 38) C dX7_scanToken_38 rfl ?_
      refine V_bipush (pc := 40) C dX7_scanToken_40 kc_b_59 ?_
      refine V_icmp_eq (tgt := 59) (pc := 42) C dX7_scanToken_42 (by decide) (fun hc => ?_) (fun hc => ?_)
      · have h := it_t hc h
        refine V_iconst (pc := 59) C dX7_scanToken_59 kc_i_3 ?_
        refine V_goto (tgt := 64) (pc := 60) C dX7_scanToken_60 (by decide) ?_
        refine V_iload_n (pc := 64) C dX7_scanToken_64 rfl rfl ?_
        refine V_iload (pc := 65) C dX7_scanToken_65 rfl ?_
        refine V_i2l (pc := 67) C dX7_scanToken_67 ?_
        obtain ⟨S5, euS5, h⟩ := b1_some h
        refine V_callV (As := [.int (3 : Int32), .int a2, .long ((gI S 1 (ix a2)).toInt64)]) (pc := 68) C (mX7_addToken _ euS5) zm_X7_addToken zi_X7_addToken ml_RX7_101 z1_cW_7 rfl ⟨Nat.le_of_ble_eq_true rfl, Nat.le_of_ble_eq_true rfl⟩ rfl rfl (Nat.le_of_ble_eq_true rfl) dX7_scanToken_68 ?_
        show V K 71 [some (.ref 2), some (.ref 1), some (.int a2), some (.int a3), some (.int (gI S 1 (ix a2)))] [] S5
        refine V_iload_n (pc := 71) C dX7_scanToken_71 rfl rfl ?_
        refine V_iconst (pc := 72) C dX7_scanToken_72 kc_i_1 ?_
        refine V_iadd (pc := 73) C dX7_scanToken_73 ?_
        cases h
        exact hR 74 _ ⟨_, rfl, rfl⟩ dX7_scanToken_74
      · have h := it_f hc h
        refine V_iload (pc := 45) C dX7_scanToken_45 rfl ?_
        refine V_bipush (pc := 47) C dX7_scanToken_47 kc_b_44 ?_
        refine V_icmp_eq (tgt := 59) (pc := 49) C dX7_scanToken_49 (by decide) (fun hc => ?_) (fun hc => ?_)
        · have h := it_t hc h
          refine V_iconst (pc := 59) C dX7_scanToken_59 kc_i_3 ?_
          refine V_goto (tgt := 64) (pc := 60) C dX7_scanToken_60 (by decide) ?_
          refine V_iload_n (pc := 64) C dX7_scanToken_64 rfl rfl ?_
          refine V_iload (pc := 65) C dX7_scanToken_65 rfl ?_
          refine V_i2l (pc := 67) C dX7_scanToken_67 ?_
          obtain ⟨S7, euS7, h⟩ := b1_some h
          refine V_callV (As := [.int (3 : Int32), .int a2, .long ((gI S 1 (ix a2)).toInt64)]) (pc := 68) C (mX7_addToken _ euS7) zm_X7_addToken zi_X7_addToken ml_RX7_101 z1_cW_7 rfl ⟨Nat.le_of_ble_eq_true rfl, Nat.le_of_ble_eq_true rfl⟩ rfl rfl (Nat.le_of_ble_eq_true rfl) dX7_scanToken_68 ?_
          show V K 71 [some (.ref 2), some (.ref 1), some (.int a2), some (.int a3), some (.int (gI S 1 (ix a2)))] [] S7
          refine V_iload_n (pc := 71) C dX7_scanToken_71 rfl rfl ?_
          refine V_iconst (pc := 72) C dX7_scanToken_72 kc_i_1 ?_
          refine V_iadd (pc := 73) C dX7_scanToken_73 ?_
          cases h
          exact hR 74 _ ⟨_, rfl, rfl⟩ dX7_scanToken_74
        · have h := it_f hc h
          refine V_iload (pc := 52) C dX7_scanToken_52 rfl ?_
          refine V_bipush (pc := 54) C dX7_scanToken_54 kc_b_47 ?_
          refine V_icmp_ne (tgt := 63) (pc := 56) C dX7_scanToken_56 (by decide) (fun hc => ?_) (fun hc => ?_)
          · have h := it_f hc h
            refine V_iconst (pc := 63) C dX7_scanToken_63 kc_i_4 ?_
            refine V_iload_n (pc := 64) C dX7_scanToken_64 rfl rfl ?_
            refine V_iload (pc := 65) C dX7_scanToken_65 rfl ?_
            refine V_i2l (pc := 67) C dX7_scanToken_67 ?_
            obtain ⟨S9, euS9, h⟩ := b1_some h
            refine V_callV (As := [.int (4 : Int32), .int a2, .long ((gI S 1 (ix a2)).toInt64)]) (pc := 68) C (mX7_addToken _ euS9) zm_X7_addToken zi_X7_addToken ml_RX7_101 z1_cW_7 rfl ⟨Nat.le_of_ble_eq_true rfl, Nat.le_of_ble_eq_true rfl⟩ rfl rfl (Nat.le_of_ble_eq_true rfl) dX7_scanToken_68 ?_
            show V K 71 [some (.ref 2), some (.ref 1), some (.int a2), some (.int a3), some (.int (gI S 1 (ix a2)))] [] S9
            refine V_iload_n (pc := 71) C dX7_scanToken_71 rfl rfl ?_
            refine V_iconst (pc := 72) C dX7_scanToken_72 kc_i_1 ?_
            refine V_iadd (pc := 73) C dX7_scanToken_73 ?_
            cases h
            exact hR 74 _ ⟨_, rfl, rfl⟩ dX7_scanToken_74
          · have h := it_t hc h
            refine V_iconst (pc := 59) C dX7_scanToken_59 kc_i_3 ?_
            refine V_goto (tgt := 64) (pc := 60) C dX7_scanToken_60 (by decide) ?_
            refine V_iload_n (pc := 64) C dX7_scanToken_64 rfl rfl ?_
            refine V_iload (pc := 65) C dX7_scanToken_65 rfl ?_
            refine V_i2l (pc := 67) C dX7_scanToken_67 ?_
            obtain ⟨S11, euS11, h⟩ := b1_some h
            refine V_callV (As := [.int (3 : Int32), .int a2, .long ((gI S 1 (ix a2)).toInt64)]) (pc := 68) C (mX7_addToken _ euS11) zm_X7_addToken zi_X7_addToken ml_RX7_101 z1_cW_7 rfl ⟨Nat.le_of_ble_eq_true rfl, Nat.le_of_ble_eq_true rfl⟩ rfl rfl (Nat.le_of_ble_eq_true rfl) dX7_scanToken_68 ?_
            show V K 71 [some (.ref 2), some (.ref 1), some (.int a2), some (.int a3), some (.int (gI S 1 (ix a2)))] [] S11
            refine V_iload_n (pc := 71) C dX7_scanToken_71 rfl rfl ?_
            refine V_iconst (pc := 72) C dX7_scanToken_72 kc_i_1 ?_
            refine V_iadd (pc := 73) C dX7_scanToken_73 ?_
            cases h
            exact hR 74 _ ⟨_, rfl, rfl⟩ dX7_scanToken_74
    · have h := it_f hc h
      refine V_aload_n (pc := 29) C dX7_scanToken_29 rfl rfl ?_
      refine V_aload_n (pc := 30) C dX7_scanToken_30 rfl rfl ?_
      refine V_iload_n (pc := 31) C dX7_scanToken_31 rfl rfl ?_
      refine V_iload_n (pc := 32) C dX7_scanToken_32 rfl rfl ?_
      obtain ⟨r12, S13, er12, h⟩ := b2_some h
      refine V_callV (As := [.ref 1, .int a2, .int a3]) (pc := 33) C (mX7_scanWhole _ er12) zm_X7_scanWhole zi_X7_scanWhole ml_RX7_114 z1_cW_7 rfl ⟨Nat.le_of_ble_eq_true rfl, Nat.le_of_ble_eq_true rfl⟩ rfl rfl (Nat.le_of_ble_eq_true rfl) dX7_scanToken_33 ?_
      show V K 36 [some (.ref 2), some (.ref 1), some (.int a2), some (.int a3), some (.int (gI S 1 (ix a2)))] [.int r12] S13
      cases h
      exact hR 36 _ ⟨_, rfl, rfl⟩ dX7_scanToken_36
  · have h := it_f hc h
    refine V_aload_n (pc := 13) C dX7_scanToken_13 rfl rfl ?_
    refine V_aload_n (pc := 14) C dX7_scanToken_14 rfl rfl ?_
    refine V_iload_n (pc := 15) C dX7_scanToken_15 rfl rfl ?_
    refine V_iload_n (pc := 16) C dX7_scanToken_16 rfl rfl ?_
    obtain ⟨r14, S15, er14, h⟩ := b2_some h
    refine V_callV (As := [.ref 1, .int a2, .int a3]) (pc := 17) C (mX7_scanWord _ er14) zm_X7_scanWord zi_X7_scanWord ml_RX7_108 z1_cW_7 rfl ⟨Nat.le_of_ble_eq_true rfl, Nat.le_of_ble_eq_true rfl⟩ rfl rfl (Nat.le_of_ble_eq_true rfl) dX7_scanToken_17 ?_
    show V K 20 [some (.ref 2), some (.ref 1), some (.int a2), some (.int a3), some (.int (gI S 1 (ix a2)))] [.int r14] S15
    cases h
    exact hR 20 _ ⟨_, rfl, rfl⟩ dX7_scanToken_20
set_option maxRecDepth 100000 in
theorem mX7_scan_L15 {K : zK} (C : zC K cX7_scan yX7_scan.cls 5 3 74 cW) {v2 : Int32}  : ∀ (f : Nat) (S : zM) (v3 : Int32) (v4 : Int32) (S' : zM), gX7_scan_L15 v2 f S v3 v4 = some S' → zR K cX7_scan (none) S' none → V K 15 [some (.ref 2), some (.ref 1), some (.int v2), some (.int v3), some (.int v4)] [] S := by
  intro f
  induction f with
  | zero => intro S v3 v4 S' h hR; cases h
  | succ n ih =>
    intro S v3 v4 S' h hR
    unfold gX7_scan_L15 at h
    refine V_iload (pc := 15) C dX7_scan_15 rfl ?_
    refine V_iload_n (pc := 17) C dX7_scan_17 rfl rfl ?_
    refine V_icmp_ge (tgt := 60) (pc := 18) C dX7_scan_18 (by decide) (fun hc => ?_) (fun hc => ?_)
    · have h := it_t hc h
      refine V_aload_n (pc := 60) C dX7_scan_60 rfl rfl ?_
      refine V_iconst (pc := 61) C dX7_scan_61 kc_i_0 ?_
      refine V_iload_n (pc := 62) C dX7_scan_62 rfl rfl ?_
      refine V_lconst (pc := 63) C dX7_scan_63 (v := (0 : Int64)) rfl ?_
      obtain ⟨S2, euS2, h⟩ := b1_some h
      refine V_callV (As := [.int (0 : Int32), .int v2, .long (0 : Int64)]) (pc := 64) C (mX7_addToken _ euS2) zm_X7_addToken zi_X7_addToken ml_RX7_101 z1_cW_7 rfl ⟨Nat.le_of_ble_eq_true rfl, Nat.le_of_ble_eq_true rfl⟩ rfl rfl (Nat.le_of_ble_eq_true rfl) dX7_scan_64 ?_
      show V K 67 [some (.ref 2), some (.ref 1), some (.int v2), some (.int v3), some (.int v4)] [] S2
      cases h
      exact hR 67 _ rfl dX7_scan_67
    · have h := it_f hc h
      refine V_iload_n (pc := 21) C dX7_scan_21 rfl rfl ?_
      refine V_iload_n (pc := 22) C dX7_scan_22 rfl rfl ?_
      refine V_icmp_ge (tgt := 60) (pc := 23) C dX7_scan_23 (by decide) (fun hc => ?_) (fun hc => ?_)
      · have h := it_t hc h
        refine V_aload_n (pc := 60) C dX7_scan_60 rfl rfl ?_
        refine V_iconst (pc := 61) C dX7_scan_61 kc_i_0 ?_
        refine V_iload_n (pc := 62) C dX7_scan_62 rfl rfl ?_
        refine V_lconst (pc := 63) C dX7_scan_63 (v := (0 : Int64)) rfl ?_
        obtain ⟨S4, euS4, h⟩ := b1_some h
        refine V_callV (As := [.int (0 : Int32), .int v2, .long (0 : Int64)]) (pc := 64) C (mX7_addToken _ euS4) zm_X7_addToken zi_X7_addToken ml_RX7_101 z1_cW_7 rfl ⟨Nat.le_of_ble_eq_true rfl, Nat.le_of_ble_eq_true rfl⟩ rfl rfl (Nat.le_of_ble_eq_true rfl) dX7_scan_64 ?_
        show V K 67 [some (.ref 2), some (.ref 1), some (.int v2), some (.int v3), some (.int v4)] [] S4
        cases h
        exact hR 67 _ rfl dX7_scan_67
      · have h := it_f hc h
        refine V_iload_n (pc := 26) C dX7_scan_26 rfl rfl ?_
        refine V_aload_n (pc := 27) C dX7_scan_27 rfl rfl ?_
        refine V_alen (v := (700 : Int32)) (pc := 28) C (za_cW_11_0 z1_cW_11) (by decide) (fun _ => rfl) (by decide) dX7_scan_28 ?_
        refine V_icmp_ge (tgt := 60) (pc := 29) C dX7_scan_29 (by decide) (fun hc => ?_) (fun hc => ?_)
        · have h := it_t hc h
          refine V_aload_n (pc := 60) C dX7_scan_60 rfl rfl ?_
          refine V_iconst (pc := 61) C dX7_scan_61 kc_i_0 ?_
          refine V_iload_n (pc := 62) C dX7_scan_62 rfl rfl ?_
          refine V_lconst (pc := 63) C dX7_scan_63 (v := (0 : Int64)) rfl ?_
          obtain ⟨S6, euS6, h⟩ := b1_some h
          refine V_callV (As := [.int (0 : Int32), .int v2, .long (0 : Int64)]) (pc := 64) C (mX7_addToken _ euS6) zm_X7_addToken zi_X7_addToken ml_RX7_101 z1_cW_7 rfl ⟨Nat.le_of_ble_eq_true rfl, Nat.le_of_ble_eq_true rfl⟩ rfl rfl (Nat.le_of_ble_eq_true rfl) dX7_scan_64 ?_
          show V K 67 [some (.ref 2), some (.ref 1), some (.int v2), some (.int v3), some (.int v4)] [] S6
          cases h
          exact hR 67 _ rfl dX7_scan_67
        · have h := it_f hc h
          refine V_aload_n (pc := 32) C dX7_scan_32 rfl rfl ?_
          refine V_iload_n (pc := 33) C dX7_scan_33 rfl rfl ?_
          obtain ⟨k7, h⟩ := ck_some h
          refine V_bald (pc := 34) C (za_cW_11_0 z1_cW_11) k7 dX7_scan_34 ?_
          refine V_bipush (pc := 35) C dX7_scan_35 kc_b_32 ?_
          refine V_icmp_ne (tgt := 46) (pc := 37) C dX7_scan_37 (by decide) (fun hc => ?_) (fun hc => ?_)
          · have h := it_f hc h
            refine V_aload_n (pc := 46) C dX7_scan_46 rfl rfl ?_
            refine V_aload_n (pc := 47) C dX7_scan_47 rfl rfl ?_
            refine V_iload_n (pc := 48) C dX7_scan_48 rfl rfl ?_
            refine V_iload_n (pc := 49) C dX7_scan_49 rfl rfl ?_
            obtain ⟨r8, S9, er8, h⟩ := b2_some h
            refine V_callV (As := [.ref 1, .int v3, .int v2]) (pc := 50) C (mX7_scanToken _ er8) zm_X7_scanToken zi_X7_scanToken ml_RX7_97 z1_cW_7 rfl ⟨Nat.le_of_ble_eq_true rfl, Nat.le_of_ble_eq_true rfl⟩ rfl rfl (Nat.le_of_ble_eq_true rfl) dX7_scan_50 ?_
            show V K 53 [some (.ref 2), some (.ref 1), some (.int v2), some (.int v3), some (.int v4)] [.int r8] S9
            refine V_istore_n (L' := [some (.ref 2), some (.ref 1), some (.int v2), some (.int r8), some (.int v4)]) (pc := 53) C dX7_scan_53 rfl (by decide) rfl ?_
            refine V_iinc (L' := [some (.ref 2), some (.ref 1), some (.int v2), some (.int r8), some (.int (v4 + (1 : Int32)))]) (v := (v4 + (1 : Int32))) (pc := 54) C dX7_scan_54 rfl (congrArg (v4 + ·) kc_i_1) (by decide) rfl ?_
            refine V_goto (tgt := 15) (pc := 57) C dX7_scan_57 (by decide) ?_
            exact V_mask [true, true, true, true, true] (ih _ _ _ _ h hR)
          · have h := it_t hc h
            refine V_iload_n (pc := 40) C dX7_scan_40 rfl rfl ?_
            refine V_iconst (pc := 41) C dX7_scan_41 kc_i_1 ?_
            refine V_iadd (pc := 42) C dX7_scan_42 ?_
            refine V_goto (tgt := 53) (pc := 43) C dX7_scan_43 (by decide) ?_
            refine V_istore_n (L' := [some (.ref 2), some (.ref 1), some (.int v2), some (.int (v3 + (1 : Int32))), some (.int v4)]) (pc := 53) C dX7_scan_53 rfl (by decide) rfl ?_
            refine V_iinc (L' := [some (.ref 2), some (.ref 1), some (.int v2), some (.int (v3 + (1 : Int32))), some (.int (v4 + (1 : Int32)))]) (v := (v4 + (1 : Int32))) (pc := 54) C dX7_scan_54 rfl (congrArg (v4 + ·) kc_i_1) (by decide) rfl ?_
            refine V_goto (tgt := 15) (pc := 57) C dX7_scan_57 (by decide) ?_
            exact V_mask [true, true, true, true, true] (ih _ _ _ _ h hR)
set_option maxRecDepth 100000 in
theorem mX7_scan (l : Launch) {S : zM} {a2 : Int32} {S' : zM}  (h : gX7_scan S a2 = some S') : zMet l cW zS0 yX7_scan cX7_scan 5 (none) 3 74 [.ref 2, .ref 1, .int a2] S none S' := by
  refine zmeth (by decide +kernel) (by rfl) (fun K hKl C hR => ?_)
  show V K 0 [some (.ref 2), some (.ref 1), some (.int a2), none, none] [] S
  unfold gX7_scan at h
  refine V_aload_n (pc := 0) C dX7_scan_0 rfl rfl ?_
  refine V_iconst (pc := 1) C dX7_scan_1 kc_i_0 ?_
  refine V_putI (pc := 2) C z1_cW_7 fp_RX7_52 rfl rfl dX7_scan_2 ?_
  refine V_aload_n (pc := 5) C dX7_scan_5 rfl rfl ?_
  refine V_iconst (pc := 6) C dX7_scan_6 kc_i_0 ?_
  refine V_putI (pc := 7) C z1_cW_7 fp_RX7_91 rfl rfl dX7_scan_7 ?_
  refine V_iconst (pc := 10) C dX7_scan_10 kc_i_0 ?_
  refine V_istore_n (L' := [some (.ref 2), some (.ref 1), some (.int a2), some (.int (0 : Int32)), none]) (pc := 11) C dX7_scan_11 rfl (by decide) rfl ?_
  refine V_iconst (pc := 12) C dX7_scan_12 kc_i_0 ?_
  refine V_istore (L' := [some (.ref 2), some (.ref 1), some (.int a2), some (.int (0 : Int32)), some (.int (0 : Int32))]) (pc := 13) C dX7_scan_13 (by decide) rfl ?_
  exact V_mask [true, true, true, true, true] (mX7_scan_L15 C  FU _ _ _ _ h hR)
set_option maxRecDepth 100000 in
theorem mX7_codeOf_L4 {K : zK} (C : zC K cX7_codeOf yX7_codeOf.cls 4 6 171 cW) {S : zM} {v0 : Nat} (hv0 : zstr v0) : ∀ (f : Nat) (v1 : Int64) (v3 : Int32) (r : Int64), gX7_codeOf_L4 v0 f v1 v3 = some r → zR K cX7_codeOf (some .long) S (some (.long r)) → V K 4 [some (.ref v0), some (.long v1), none, some (.int v3)] [] S := by
  intro f
  induction f with
  | zero => intro v1 v3 r h hR; cases h
  | succ n ih =>
    intro v1 v3 r h hR
    unfold gX7_codeOf_L4 at h
    refine V_iload_n (pc := 4) C dX7_codeOf_4 rfl rfl ?_
    refine V_aload_n (pc := 5) C dX7_codeOf_5 rfl rfl ?_
    refine V_strlen (pc := 6) C hv0 ml_RX7_125 ⟨Nat.le_of_ble_eq_true rfl, Nat.le_of_ble_eq_true rfl⟩ (Nat.le_of_ble_eq_true rfl) dX7_codeOf_6 ?_
    refine V_icmp_ge (tgt := 37) (pc := 9) C dX7_codeOf_9 (by decide) (fun hc => ?_) (fun hc => ?_)
    · have h := it_t hc h
      refine V_lload_n (pc := 37) C dX7_codeOf_37 rfl rfl ?_
      cases h
      exact hR 38 _ rfl dX7_codeOf_38
    · have h := it_f hc h
      refine V_lload_n (pc := 12) C dX7_codeOf_12 rfl rfl ?_
      refine V_ldc2 (pc := 13) C dX7_codeOf_13 kl_RX7_117 ?_
      refine V_lmul (pc := 16) C dX7_codeOf_16 ?_
      refine V_aload_n (pc := 17) C dX7_codeOf_17 rfl rfl ?_
      refine V_iload_n (pc := 18) C dX7_codeOf_18 rfl rfl ?_
      obtain ⟨k1, h⟩ := ck_some h
      refine V_strch (pc := 19) C hv0 k1 ml_RX7_131 ⟨Nat.le_of_ble_eq_true rfl, Nat.le_of_ble_eq_true rfl⟩ (Nat.le_of_ble_eq_true rfl) dX7_codeOf_19 ?_
      refine V_i2l (pc := 22) C dX7_codeOf_22 ?_
      refine V_ladd (pc := 23) C dX7_codeOf_23 ?_
      refine V_ldc2 (pc := 24) C dX7_codeOf_24 kl_RX7_119 ?_
      refine V_lsub (pc := 27) C dX7_codeOf_27 ?_
      refine V_lconst (pc := 28) C dX7_codeOf_28 (v := (1 : Int64)) rfl ?_
      refine V_ladd (pc := 29) C dX7_codeOf_29 ?_
      obtain ⟨x2, ex2, h⟩ := lt_some h
      refine V_nmJ ex2 ?_
      refine V_lstore_n (L' := [some (.ref v0), some (.long x2), none, some (.int v3)]) (pc := 30) C dX7_codeOf_30 rfl (by decide) rfl ?_
      refine V_iinc (L' := [some (.ref v0), some (.long x2), none, some (.int (v3 + (1 : Int32)))]) (v := (v3 + (1 : Int32))) (pc := 31) C dX7_codeOf_31 rfl (congrArg (v3 + ·) kc_i_1) (by decide) rfl ?_
      refine V_goto (tgt := 4) (pc := 34) C dX7_codeOf_34 (by decide) ?_
      exact V_mask [true, true, false, true] (ih _ _ _ h hR)
set_option maxRecDepth 100000 in
theorem mX7_codeOf (l : Launch) {S : zM} {a0 : Nat} {r : Int64} (ha0 : zstr a0) (h : gX7_codeOf a0 = some r) : zMet l cW zS0 yX7_codeOf cX7_codeOf 4 (some .long) 6 171 [.ref a0] S (some (.long r)) S := by
  refine zmeth (by decide +kernel) (by rfl) (fun K hKl C hR => ?_)
  show V K 0 [some (.ref a0), none, none, none] [] S
  unfold gX7_codeOf at h
  refine V_lconst (pc := 0) C dX7_codeOf_0 (v := (0 : Int64)) rfl ?_
  refine V_lstore_n (L' := [some (.ref a0), some (.long (0 : Int64)), none, none]) (pc := 1) C dX7_codeOf_1 rfl (by decide) rfl ?_
  refine V_iconst (pc := 2) C dX7_codeOf_2 kc_i_0 ?_
  refine V_istore_n (L' := [some (.ref a0), some (.long (0 : Int64)), none, some (.int (0 : Int32))]) (pc := 3) C dX7_codeOf_3 rfl (by decide) rfl ?_
  exact V_mask [true, true, false, true] (mX7_codeOf_L4 C ha0 FU _ _ _ h hR)
set_option maxRecDepth 100000 in
theorem mX7_isWord (l : Launch) {S : zM} {a1 : Nat} {r : Int32} (ha1 : zstr a1) (h : gX7_isWord S a1 = some r) : zMet l cW zS0 yX7_isWord cX7_isWord 2 (some .boolean) 7 194 [.ref 2, .ref a1] S (some (.int r)) S := by
  refine zmeth (by decide +kernel) (by rfl) (fun K hKl C hR => ?_)
  show V K 0 [some (.ref 2), some (.ref a1)] [] S
  unfold gX7_isWord at h
  refine V_aload_n (pc := 0) C dX7_isWord_0 rfl rfl ?_
  refine V_getF (p1 := 3) (pc := 1) C z1_cW_7 fl_RX7_9 rfl (zf_cW_7_0 z1_cW_7) dX7_isWord_1 ?_
  refine V_aload_n (pc := 4) C dX7_isWord_4 rfl rfl ?_
  refine V_getI (pc := 5) C z1_cW_7 fl_RX7_91 (by decide) dX7_isWord_5 ?_
  obtain ⟨k1, h⟩ := ck_some h
  refine V_iald (pc := 8) C (za_cW_7_0 z1_cW_7) k1 dX7_isWord_8 ?_
  refine V_iconst (pc := 9) C dX7_isWord_9 kc_i_1 ?_
  refine V_icmp_ne (tgt := 34) (pc := 10) C dX7_isWord_10 (by decide) (fun hc => ?_) (fun hc => ?_)
  · have h := it_f hc h
    refine V_iconst (pc := 34) C dX7_isWord_34 kc_i_0 ?_
    cases h
    exact hR 35 _ ⟨_, rfl, zB0⟩ dX7_isWord_35
  · have h := it_t hc h
    refine V_aload_n (pc := 13) C dX7_isWord_13 rfl rfl ?_
    refine V_getF (p1 := 5) (pc := 14) C z1_cW_7 fl_RX7_18 rfl (zf_cW_7_2 z1_cW_7) dX7_isWord_14 ?_
    refine V_aload_n (pc := 17) C dX7_isWord_17 rfl rfl ?_
    refine V_getI (pc := 18) C z1_cW_7 fl_RX7_91 (by decide) dX7_isWord_18 ?_
    obtain ⟨k2, h⟩ := ck_some h
    refine V_lald (pc := 21) C (za_cW_7_2 z1_cW_7) k2 dX7_isWord_21 ?_
    refine V_aload_n (pc := 22) C dX7_isWord_22 rfl rfl ?_
    obtain ⟨r3, er3, h⟩ := b1_some h
    refine V_callS (As := [.ref a1]) (pc := 23) C (mX7_codeOf _ ha1 er3) zm_X7_codeOf zs_X7_codeOf ml_RX7_135 ⟨Nat.le_of_ble_eq_true rfl, Nat.le_of_ble_eq_true rfl⟩ rfl rfl (Nat.le_of_ble_eq_true rfl) dX7_isWord_23 ?_
    show V K 26 [some (.ref 2), some (.ref a1)] [.long r3, .long (gL S 5 (ix (gI S 2 4)))] S
    refine V_lcmp_ne (tgt := 34) (pc := 26) C dX7_isWord_26 dX7_isWord_27 (by decide) (fun hc => ?_) (fun hc => ?_)
    · have h := it_f hc h
      refine V_iconst (pc := 34) C dX7_isWord_34 kc_i_0 ?_
      cases h
      exact hR 35 _ ⟨_, rfl, zB0⟩ dX7_isWord_35
    · have h := it_t hc h
      refine V_iconst (pc := 30) C dX7_isWord_30 kc_i_1 ?_
      refine V_goto (tgt := 35) (pc := 31) C dX7_isWord_31 (by decide) ?_
      cases h
      exact hR 35 _ ⟨_, rfl, zB1⟩ dX7_isWord_35
set_option maxRecDepth 100000 in
theorem mX7_wrong (l : Launch) {S : zM} {a1 : Int32} {r : Int32} {S' : zM}  (h : gX7_wrong S a1 = some (r, S')) : zMet l cW zS0 yX7_wrong cX7_wrong 2 (some .boolean) 0 0 [.ref 2, .int a1] S (some (.int r)) S' := by
  refine zmeth (by decide +kernel) (by rfl) (fun K hKl C hR => ?_)
  show V K 0 [some (.ref 2), some (.int a1)] [] S
  unfold gX7_wrong at h
  refine V_aload_n (pc := 0) C dX7_wrong_0 rfl rfl ?_
  refine V_iload_n (pc := 1) C dX7_wrong_1 rfl rfl ?_
  refine V_putI (pc := 2) C z1_cW_7 fp_RX7_32 rfl rfl dX7_wrong_2 ?_
  refine V_aload_n (pc := 5) C dX7_wrong_5 rfl rfl ?_
  refine V_aload_n (pc := 6) C dX7_wrong_6 rfl rfl ?_
  refine V_getF (p1 := 4) (pc := 7) C z1_cW_7 fl_RX7_15 rfl (zf_cW_7_1 z1_cW_7) dX7_wrong_7 ?_
  refine V_aload_n (pc := 10) C dX7_wrong_10 rfl rfl ?_
  refine V_getI (pc := 11) C z1_cW_7 fl_RX7_91 (by decide) dX7_wrong_11 ?_
  obtain ⟨k1, h⟩ := ck_some h
  refine V_iald (pc := 14) C (za_cW_7_1 z1_cW_7) k1 dX7_wrong_14 ?_
  refine V_putI (pc := 15) C z1_cW_7 fp_RX7_36 rfl rfl dX7_wrong_15 ?_
  refine V_iconst (pc := 18) C dX7_wrong_18 kc_i_0 ?_
  cases h
  exact hR 19 _ ⟨_, rfl, zB0⟩ dX7_wrong_19
set_option maxRecDepth 100000 in
theorem mX7_step (l : Launch) {S : zM}  {S' : zM}  (h : gX7_step S = some S') : zMet l cW zS0 yX7_step cX7_step 1 (none) 0 0 [.ref 2] S none S' := by
  refine zmeth (by decide +kernel) (by rfl) (fun K hKl C hR => ?_)
  show V K 0 [some (.ref 2)] [] S
  unfold gX7_step at h
  refine V_aload_n (pc := 0) C dX7_step_0 rfl rfl ?_
  refine V_getI (pc := 1) C z1_cW_7 fl_RX7_91 (by decide) dX7_step_1 ?_
  refine V_iconst (pc := 4) C dX7_step_4 kc_i_1 ?_
  refine V_iadd (pc := 5) C dX7_step_5 ?_
  refine V_aload_n (pc := 6) C dX7_step_6 rfl rfl ?_
  refine V_getI (pc := 7) C z1_cW_7 fl_RX7_52 (by decide) dX7_step_7 ?_
  refine V_icmp_ge (tgt := 23) (pc := 10) C dX7_step_10 (by decide) (fun hc => ?_) (fun hc => ?_)
  · have h := it_t hc h
    cases h
    exact hR 23 _ rfl dX7_step_23
  · have h := it_f hc h
    refine V_aload_n (pc := 13) C dX7_step_13 rfl rfl ?_
    refine V_dup (pc := 14) C dX7_step_14 rfl ?_
    refine V_getI (pc := 15) C z1_cW_7 fl_RX7_91 (by decide) dX7_step_15 ?_
    refine V_iconst (pc := 18) C dX7_step_18 kc_i_1 ?_
    refine V_iadd (pc := 19) C dX7_step_19 ?_
    refine V_putI (pc := 20) C z1_cW_7 fp_RX7_91 rfl rfl dX7_step_20 ?_
    cases h
    exact hR 23 _ rfl dX7_step_23
set_option maxRecDepth 100000 in
theorem mX9_empty (l : Launch) {S : zM} {q : Nat} {S' : zM} (hq : zob cW 9 q) (h : gX9_empty S q = some S') : zMet l cW zS0 yX9_empty cX9_empty 1 (none) 0 0 [.ref q] S none S' := by
  refine zmeth (by decide +kernel) (by rfl) (fun K hKl C hR => ?_)
  show V K 0 [some (.ref q)] [] S
  unfold gX9_empty at h
  refine V_aload_n (pc := 0) C dX9_empty_0 rfl rfl ?_
  refine V_iconst (pc := 1) C dX9_empty_1 kc_i_0 ?_
  refine V_putI (pc := 2) C hq fp_RX9_34 rfl rfl dX9_empty_2 ?_
  refine V_aload_n (pc := 5) C dX9_empty_5 rfl rfl ?_
  refine V_iconst (pc := 6) C dX9_empty_6 kc_i_0 ?_
  refine V_putI (pc := 7) C hq fp_RX9_38 rfl rfl dX9_empty_7 ?_
  cases h
  exact hR 10 _ rfl dX9_empty_10
set_option maxRecDepth 100000 in
theorem mX7_isName (l : Launch) {S : zM}  {r : Int32}  (h : gX7_isName S = some r) : zMet l cW zS0 yX7_isName cX7_isName 1 (some .boolean) 8 215 [.ref 2] S (some (.int r)) S := by
  refine zmeth (by decide +kernel) (by rfl) (fun K hKl C hR => ?_)
  show V K 0 [some (.ref 2)] [] S
  unfold gX7_isName at h
  refine V_aload_n (pc := 0) C dX7_isName_0 rfl rfl ?_
  refine V_getF (p1 := 3) (pc := 1) C z1_cW_7 fl_RX7_9 rfl (zf_cW_7_0 z1_cW_7) dX7_isName_1 ?_
  refine V_aload_n (pc := 4) C dX7_isName_4 rfl rfl ?_
  refine V_getI (pc := 5) C z1_cW_7 fl_RX7_91 (by decide) dX7_isName_5 ?_
  obtain ⟨k1, h⟩ := ck_some h
  refine V_iald (pc := 8) C (za_cW_7_0 z1_cW_7) k1 dX7_isName_8 ?_
  refine V_iconst (pc := 9) C dX7_isName_9 kc_i_1 ?_
  refine V_icmp_ne (tgt := 125) (pc := 10) C dX7_isName_10 (by decide) (fun hc => ?_) (fun hc => ?_)
  · have h := it_f hc h
    refine V_iconst (pc := 125) C dX7_isName_125 kc_i_0 ?_
    cases h
    exact hR 126 _ ⟨_, rfl, zB0⟩ dX7_isName_126
  · have h := it_t hc h
    refine V_aload_n (pc := 13) C dX7_isName_13 rfl rfl ?_
    refine V_ldcS (j := 0) (pc := 14) C dX7_isName_14 rfl ?_
    obtain ⟨r2, er2, h⟩ := b1_some h
    refine V_callV (As := [.ref 10000]) (pc := 16) C (mX7_isWord _ zq_0 er2) zm_X7_isWord zi_X7_isWord ml_RX7_57 z1_cW_7 rfl ⟨Nat.le_of_ble_eq_true rfl, Nat.le_of_ble_eq_true rfl⟩ rfl rfl (Nat.le_of_ble_eq_true rfl) dX7_isName_16 ?_
    show V K 19 [some (.ref 2)] [.int r2] S
    refine V_if_ne (tgt := 125) (pc := 19) C dX7_isName_19 (by decide) (fun hc => ?_) (fun hc => ?_)
    · have h := it_f hc h
      refine V_iconst (pc := 125) C dX7_isName_125 kc_i_0 ?_
      cases h
      exact hR 126 _ ⟨_, rfl, zB0⟩ dX7_isName_126
    · have h := it_t hc h
      refine V_aload_n (pc := 22) C dX7_isName_22 rfl rfl ?_
      refine V_ldcS (j := 1) (pc := 23) C dX7_isName_23 rfl ?_
      obtain ⟨r3, er3, h⟩ := b1_some h
      refine V_callV (As := [.ref 10001]) (pc := 25) C (mX7_isWord _ zq_1 er3) zm_X7_isWord zi_X7_isWord ml_RX7_57 z1_cW_7 rfl ⟨Nat.le_of_ble_eq_true rfl, Nat.le_of_ble_eq_true rfl⟩ rfl rfl (Nat.le_of_ble_eq_true rfl) dX7_isName_25 ?_
      show V K 28 [some (.ref 2)] [.int r3] S
      refine V_if_ne (tgt := 125) (pc := 28) C dX7_isName_28 (by decide) (fun hc => ?_) (fun hc => ?_)
      · have h := it_f hc h
        refine V_iconst (pc := 125) C dX7_isName_125 kc_i_0 ?_
        cases h
        exact hR 126 _ ⟨_, rfl, zB0⟩ dX7_isName_126
      · have h := it_t hc h
        refine V_aload_n (pc := 31) C dX7_isName_31 rfl rfl ?_
        refine V_ldcS (j := 2) (pc := 32) C dX7_isName_32 rfl ?_
        obtain ⟨r4, er4, h⟩ := b1_some h
        refine V_callV (As := [.ref 10002]) (pc := 34) C (mX7_isWord _ zq_2 er4) zm_X7_isWord zi_X7_isWord ml_RX7_57 z1_cW_7 rfl ⟨Nat.le_of_ble_eq_true rfl, Nat.le_of_ble_eq_true rfl⟩ rfl rfl (Nat.le_of_ble_eq_true rfl) dX7_isName_34 ?_
        show V K 37 [some (.ref 2)] [.int r4] S
        refine V_if_ne (tgt := 125) (pc := 37) C dX7_isName_37 (by decide) (fun hc => ?_) (fun hc => ?_)
        · have h := it_f hc h
          refine V_iconst (pc := 125) C dX7_isName_125 kc_i_0 ?_
          cases h
          exact hR 126 _ ⟨_, rfl, zB0⟩ dX7_isName_126
        · have h := it_t hc h
          refine V_aload_n (pc := 40) C dX7_isName_40 rfl rfl ?_
          refine V_ldcS (j := 3) (pc := 41) C dX7_isName_41 rfl ?_
          obtain ⟨r5, er5, h⟩ := b1_some h
          refine V_callV (As := [.ref 10003]) (pc := 43) C (mX7_isWord _ zq_3 er5) zm_X7_isWord zi_X7_isWord ml_RX7_57 z1_cW_7 rfl ⟨Nat.le_of_ble_eq_true rfl, Nat.le_of_ble_eq_true rfl⟩ rfl rfl (Nat.le_of_ble_eq_true rfl) dX7_isName_43 ?_
          show V K 46 [some (.ref 2)] [.int r5] S
          refine V_if_ne (tgt := 125) (pc := 46) C dX7_isName_46 (by decide) (fun hc => ?_) (fun hc => ?_)
          · have h := it_f hc h
            refine V_iconst (pc := 125) C dX7_isName_125 kc_i_0 ?_
            cases h
            exact hR 126 _ ⟨_, rfl, zB0⟩ dX7_isName_126
          · have h := it_t hc h
            refine V_aload_n (pc := 49) C dX7_isName_49 rfl rfl ?_
            refine V_ldcS (j := 4) (pc := 50) C dX7_isName_50 rfl ?_
            obtain ⟨r6, er6, h⟩ := b1_some h
            refine V_callV (As := [.ref 10004]) (pc := 52) C (mX7_isWord _ zq_4 er6) zm_X7_isWord zi_X7_isWord ml_RX7_57 z1_cW_7 rfl ⟨Nat.le_of_ble_eq_true rfl, Nat.le_of_ble_eq_true rfl⟩ rfl rfl (Nat.le_of_ble_eq_true rfl) dX7_isName_52 ?_
            show V K 55 [some (.ref 2)] [.int r6] S
            refine V_if_ne (tgt := 125) (pc := 55) C dX7_isName_55 (by decide) (fun hc => ?_) (fun hc => ?_)
            · have h := it_f hc h
              refine V_iconst (pc := 125) C dX7_isName_125 kc_i_0 ?_
              cases h
              exact hR 126 _ ⟨_, rfl, zB0⟩ dX7_isName_126
            · have h := it_t hc h
              refine V_aload_n (pc := 58) C dX7_isName_58 rfl rfl ?_
              refine V_ldcS (j := 5) (pc := 59) C dX7_isName_59 rfl ?_
              obtain ⟨r7, er7, h⟩ := b1_some h
              refine V_callV (As := [.ref 10005]) (pc := 61) C (mX7_isWord _ zq_5 er7) zm_X7_isWord zi_X7_isWord ml_RX7_57 z1_cW_7 rfl ⟨Nat.le_of_ble_eq_true rfl, Nat.le_of_ble_eq_true rfl⟩ rfl rfl (Nat.le_of_ble_eq_true rfl) dX7_isName_61 ?_
              show V K 64 [some (.ref 2)] [.int r7] S
              refine V_if_ne (tgt := 125) (pc := 64) C dX7_isName_64 (by decide) (fun hc => ?_) (fun hc => ?_)
              · have h := it_f hc h
                refine V_iconst (pc := 125) C dX7_isName_125 kc_i_0 ?_
                cases h
                exact hR 126 _ ⟨_, rfl, zB0⟩ dX7_isName_126
              · have h := it_t hc h
                refine V_aload_n (pc := 67) C dX7_isName_67 rfl rfl ?_
                refine V_ldcS (j := 6) (pc := 68) C dX7_isName_68 rfl ?_
                obtain ⟨r8, er8, h⟩ := b1_some h
                refine V_callV (As := [.ref 10006]) (pc := 70) C (mX7_isWord _ zq_6 er8) zm_X7_isWord zi_X7_isWord ml_RX7_57 z1_cW_7 rfl ⟨Nat.le_of_ble_eq_true rfl, Nat.le_of_ble_eq_true rfl⟩ rfl rfl (Nat.le_of_ble_eq_true rfl) dX7_isName_70 ?_
                show V K 73 [some (.ref 2)] [.int r8] S
                refine V_if_ne (tgt := 125) (pc := 73) C dX7_isName_73 (by decide) (fun hc => ?_) (fun hc => ?_)
                · have h := it_f hc h
                  refine V_iconst (pc := 125) C dX7_isName_125 kc_i_0 ?_
                  cases h
                  exact hR 126 _ ⟨_, rfl, zB0⟩ dX7_isName_126
                · have h := it_t hc h
                  refine V_aload_n (pc := 76) C dX7_isName_76 rfl rfl ?_
                  refine V_ldcS (j := 7) (pc := 77) C dX7_isName_77 rfl ?_
                  obtain ⟨r9, er9, h⟩ := b1_some h
                  refine V_callV (As := [.ref 10007]) (pc := 79) C (mX7_isWord _ zq_7 er9) zm_X7_isWord zi_X7_isWord ml_RX7_57 z1_cW_7 rfl ⟨Nat.le_of_ble_eq_true rfl, Nat.le_of_ble_eq_true rfl⟩ rfl rfl (Nat.le_of_ble_eq_true rfl) dX7_isName_79 ?_
                  show V K 82 [some (.ref 2)] [.int r9] S
                  refine V_if_ne (tgt := 125) (pc := 82) C dX7_isName_82 (by decide) (fun hc => ?_) (fun hc => ?_)
                  · have h := it_f hc h
                    refine V_iconst (pc := 125) C dX7_isName_125 kc_i_0 ?_
                    cases h
                    exact hR 126 _ ⟨_, rfl, zB0⟩ dX7_isName_126
                  · have h := it_t hc h
                    refine V_aload_n (pc := 85) C dX7_isName_85 rfl rfl ?_
                    refine V_ldcS (j := 8) (pc := 86) C dX7_isName_86 rfl ?_
                    obtain ⟨r10, er10, h⟩ := b1_some h
                    refine V_callV (As := [.ref 10008]) (pc := 88) C (mX7_isWord _ zq_8 er10) zm_X7_isWord zi_X7_isWord ml_RX7_57 z1_cW_7 rfl ⟨Nat.le_of_ble_eq_true rfl, Nat.le_of_ble_eq_true rfl⟩ rfl rfl (Nat.le_of_ble_eq_true rfl) dX7_isName_88 ?_
                    show V K 91 [some (.ref 2)] [.int r10] S
                    refine V_if_ne (tgt := 125) (pc := 91) C dX7_isName_91 (by decide) (fun hc => ?_) (fun hc => ?_)
                    · have h := it_f hc h
                      refine V_iconst (pc := 125) C dX7_isName_125 kc_i_0 ?_
                      cases h
                      exact hR 126 _ ⟨_, rfl, zB0⟩ dX7_isName_126
                    · have h := it_t hc h
                      refine V_aload_n (pc := 94) C dX7_isName_94 rfl rfl ?_
                      refine V_ldcS (j := 9) (pc := 95) C dX7_isName_95 rfl ?_
                      obtain ⟨r11, er11, h⟩ := b1_some h
                      refine V_callV (As := [.ref 10009]) (pc := 97) C (mX7_isWord _ zq_9 er11) zm_X7_isWord zi_X7_isWord ml_RX7_57 z1_cW_7 rfl ⟨Nat.le_of_ble_eq_true rfl, Nat.le_of_ble_eq_true rfl⟩ rfl rfl (Nat.le_of_ble_eq_true rfl) dX7_isName_97 ?_
                      show V K 100 [some (.ref 2)] [.int r11] S
                      refine V_if_ne (tgt := 125) (pc := 100) C dX7_isName_100 (by decide) (fun hc => ?_) (fun hc => ?_)
                      · have h := it_f hc h
                        refine V_iconst (pc := 125) C dX7_isName_125 kc_i_0 ?_
                        cases h
                        exact hR 126 _ ⟨_, rfl, zB0⟩ dX7_isName_126
                      · have h := it_t hc h
                        refine V_aload_n (pc := 103) C dX7_isName_103 rfl rfl ?_
                        refine V_ldcS (j := 10) (pc := 104) C dX7_isName_104 rfl ?_
                        obtain ⟨r12, er12, h⟩ := b1_some h
                        refine V_callV (As := [.ref 10010]) (pc := 106) C (mX7_isWord _ zq_10 er12) zm_X7_isWord zi_X7_isWord ml_RX7_57 z1_cW_7 rfl ⟨Nat.le_of_ble_eq_true rfl, Nat.le_of_ble_eq_true rfl⟩ rfl rfl (Nat.le_of_ble_eq_true rfl) dX7_isName_106 ?_
                        show V K 109 [some (.ref 2)] [.int r12] S
                        refine V_if_ne (tgt := 125) (pc := 109) C dX7_isName_109 (by decide) (fun hc => ?_) (fun hc => ?_)
                        · have h := it_f hc h
                          refine V_iconst (pc := 125) C dX7_isName_125 kc_i_0 ?_
                          cases h
                          exact hR 126 _ ⟨_, rfl, zB0⟩ dX7_isName_126
                        · have h := it_t hc h
                          refine V_aload_n (pc := 112) C dX7_isName_112 rfl rfl ?_
                          refine V_ldcS (j := 11) (pc := 113) C dX7_isName_113 rfl ?_
                          obtain ⟨r13, er13, h⟩ := b1_some h
                          refine V_callV (As := [.ref 10011]) (pc := 115) C (mX7_isWord _ zq_11 er13) zm_X7_isWord zi_X7_isWord ml_RX7_57 z1_cW_7 rfl ⟨Nat.le_of_ble_eq_true rfl, Nat.le_of_ble_eq_true rfl⟩ rfl rfl (Nat.le_of_ble_eq_true rfl) dX7_isName_115 ?_
                          show V K 118 [some (.ref 2)] [.int r13] S
                          refine V_if_ne (tgt := 125) (pc := 118) C dX7_isName_118 (by decide) (fun hc => ?_) (fun hc => ?_)
                          · have h := it_f hc h
                            refine V_iconst (pc := 125) C dX7_isName_125 kc_i_0 ?_
                            cases h
                            exact hR 126 _ ⟨_, rfl, zB0⟩ dX7_isName_126
                          · have h := it_t hc h
                            refine V_iconst (pc := 121) C dX7_isName_121 kc_i_1 ?_
                            refine V_goto (tgt := 126) (pc := 122) C dX7_isName_122 (by decide) ?_
                            cases h
                            exact hR 126 _ ⟨_, rfl, zB1⟩ dX7_isName_126
set_option maxRecDepth 100000 in
theorem mX7_takeNewName (l : Launch) {S : zM} {a1 : Int32} {r : Int32} {S' : zM}  (h : gX7_takeNewName S a1 = some (r, S')) : zMet l cW zS0 yX7_takeNewName cX7_takeNewName 2 (some .boolean) 9 235 [.ref 2, .int a1] S (some (.int r)) S' := by
  refine zmeth (by decide +kernel) (by rfl) (fun K hKl C hR => ?_)
  show V K 0 [some (.ref 2), some (.int a1)] [] S
  unfold gX7_takeNewName at h
  refine V_aload_n (pc := 0) C dX7_takeNewName_0 rfl rfl ?_
  obtain ⟨r1, er1, h⟩ := b1_some h
  refine V_callV (As := []) (pc := 1) C (mX7_isName _ er1) zm_X7_isName zi_X7_isName ml_RX7_162 z1_cW_7 rfl ⟨Nat.le_of_ble_eq_true rfl, Nat.le_of_ble_eq_true rfl⟩ rfl rfl (Nat.le_of_ble_eq_true rfl) dX7_takeNewName_1 ?_
  show V K 4 [some (.ref 2), some (.int a1)] [.int r1] S
  refine V_if_ne (tgt := 13) (pc := 4) C dX7_takeNewName_4 (by decide) (fun hc => ?_) (fun hc => ?_)
  · have h := it_f hc h
    refine V_aload_n (pc := 13) C dX7_takeNewName_13 rfl rfl ?_
    obtain ⟨k2, h⟩ := ck_some h
    refine V_getR (pc := 14) C z1_cW_7 fl_RX7_25 rfl dX7_takeNewName_14 ?_
    refine V_aload_n (pc := 17) C dX7_takeNewName_17 rfl rfl ?_
    refine V_getF (p1 := 5) (pc := 18) C z1_cW_7 fl_RX7_18 rfl (zf_cW_7_2 z1_cW_7) dX7_takeNewName_18 ?_
    refine V_aload_n (pc := 21) C dX7_takeNewName_21 rfl rfl ?_
    refine V_getI (pc := 22) C z1_cW_7 fl_RX7_91 (by decide) dX7_takeNewName_22 ?_
    obtain ⟨k3, h⟩ := ck_some h
    refine V_lald (pc := 25) C (za_cW_7_2 z1_cW_7) k3 dX7_takeNewName_25 ?_
    obtain ⟨r4, er4, h⟩ := b1_some h
    refine V_callV (As := [.long (gL S 5 (ix (gI S 2 4)))]) (pc := 26) C (mX3_namedBy _ (zob_of k2) er4) zm_X3_namedBy zi_X3_namedBy ml_RX7_165 (zob_of k2) rfl ⟨Nat.le_of_ble_eq_true rfl, Nat.le_of_ble_eq_true rfl⟩ rfl rfl (Nat.le_of_ble_eq_true rfl) dX7_takeNewName_26 ?_
    show V K 29 [some (.ref 2), some (.int a1)] [.int r4] S
    refine V_bipush (pc := 29) C dX7_takeNewName_29 kc_b_m2 ?_
    refine V_icmp_eq (tgt := 40) (pc := 31) C dX7_takeNewName_31 (by decide) (fun hc => ?_) (fun hc => ?_)
    · have h := it_t hc h
      refine V_aload_n (pc := 40) C dX7_takeNewName_40 rfl rfl ?_
      obtain ⟨k5, h⟩ := ck_some h
      refine V_getR (pc := 41) C z1_cW_7 fl_RX7_25 rfl dX7_takeNewName_41 ?_
      refine V_aload_n (pc := 44) C dX7_takeNewName_44 rfl rfl ?_
      refine V_getF (p1 := 5) (pc := 45) C z1_cW_7 fl_RX7_18 rfl (zf_cW_7_2 z1_cW_7) dX7_takeNewName_45 ?_
      refine V_aload_n (pc := 48) C dX7_takeNewName_48 rfl rfl ?_
      refine V_getI (pc := 49) C z1_cW_7 fl_RX7_91 (by decide) dX7_takeNewName_49 ?_
      obtain ⟨k6, h⟩ := ck_some h
      refine V_lald (pc := 52) C (za_cW_7_2 z1_cW_7) k6 dX7_takeNewName_52 ?_
      refine V_iload_n (pc := 53) C dX7_takeNewName_53 rfl rfl ?_
      obtain ⟨S8, euS8, h⟩ := b1_some h
      refine V_callV (As := [.long (gL S 5 (ix (gI S 2 4))), .int a1]) (pc := 54) C (mX3_addName _ (zob_of k5) euS8) zm_X3_addName zi_X3_addName ml_RX7_169 (zob_of k5) rfl ⟨Nat.le_of_ble_eq_true rfl, Nat.le_of_ble_eq_true rfl⟩ rfl rfl (Nat.le_of_ble_eq_true rfl) dX7_takeNewName_54 ?_
      show V K 57 [some (.ref 2), some (.int a1)] [] S8
      refine V_aload_n (pc := 57) C dX7_takeNewName_57 rfl rfl ?_
      obtain ⟨S10, euS10, h⟩ := b1_some h
      refine V_callV (As := []) (pc := 58) C (mX7_step _ euS10) zm_X7_step zi_X7_step ml_RX7_88 z1_cW_7 rfl ⟨Nat.le_of_ble_eq_true rfl, Nat.le_of_ble_eq_true rfl⟩ rfl rfl (Nat.le_of_ble_eq_true rfl) dX7_takeNewName_58 ?_
      show V K 61 [some (.ref 2), some (.int a1)] [] S10
      refine V_iconst (pc := 61) C dX7_takeNewName_61 kc_i_1 ?_
      cases h
      exact hR 62 _ ⟨_, rfl, zB1⟩ dX7_takeNewName_62
    · have h := it_f hc h
      refine V_aload_n (pc := 34) C dX7_takeNewName_34 rfl rfl ?_
      refine V_iconst (pc := 35) C dX7_takeNewName_35 kc_i_3 ?_
      obtain ⟨r11, S12, er11, h⟩ := b2_some h
      refine V_callV (As := [.int (3 : Int32)]) (pc := 36) C (mX7_wrong _ er11) zm_X7_wrong zi_X7_wrong ml_RX7_80 z1_cW_7 rfl ⟨Nat.le_of_ble_eq_true rfl, Nat.le_of_ble_eq_true rfl⟩ rfl rfl (Nat.le_of_ble_eq_true rfl) dX7_takeNewName_36 ?_
      show V K 39 [some (.ref 2), some (.int a1)] [.int r11] S12
      obtain ⟨k13, h⟩ := ck_some h
      cases h
      exact hR 39 _ ⟨_, rfl, isB_nar k13⟩ dX7_takeNewName_39
  · have h := it_t hc h
    refine V_aload_n (pc := 7) C dX7_takeNewName_7 rfl rfl ?_
    refine V_iconst (pc := 8) C dX7_takeNewName_8 kc_i_1 ?_
    obtain ⟨r14, S15, er14, h⟩ := b2_some h
    refine V_callV (As := [.int (1 : Int32)]) (pc := 9) C (mX7_wrong _ er14) zm_X7_wrong zi_X7_wrong ml_RX7_80 z1_cW_7 rfl ⟨Nat.le_of_ble_eq_true rfl, Nat.le_of_ble_eq_true rfl⟩ rfl rfl (Nat.le_of_ble_eq_true rfl) dX7_takeNewName_9 ?_
    show V K 12 [some (.ref 2), some (.int a1)] [.int r14] S15
    obtain ⟨k16, h⟩ := ck_some h
    cases h
    exact hR 12 _ ⟨_, rfl, isB_nar k16⟩ dX7_takeNewName_12
set_option maxRecDepth 100000 in
theorem mX7_takeWhole (l : Launch) {S : zM} {a1 : Int32} {a2 : Int32} {r : Int32} {S' : zM}  (h : gX7_takeWhole S a1 a2 = some (r, S')) : zMet l cW zS0 yX7_takeWhole cX7_takeWhole 3 (some .boolean) 1 21 [.ref 2, .int a1, .int a2] S (some (.int r)) S' := by
  refine zmeth (by decide +kernel) (by rfl) (fun K hKl C hR => ?_)
  show V K 0 [some (.ref 2), some (.int a1), some (.int a2)] [] S
  unfold gX7_takeWhole at h
  refine V_aload_n (pc := 0) C dX7_takeWhole_0 rfl rfl ?_
  refine V_getF (p1 := 3) (pc := 1) C z1_cW_7 fl_RX7_9 rfl (zf_cW_7_0 z1_cW_7) dX7_takeWhole_1 ?_
  refine V_aload_n (pc := 4) C dX7_takeWhole_4 rfl rfl ?_
  refine V_getI (pc := 5) C z1_cW_7 fl_RX7_91 (by decide) dX7_takeWhole_5 ?_
  obtain ⟨k1, h⟩ := ck_some h
  refine V_iald (pc := 8) C (za_cW_7_0 z1_cW_7) k1 dX7_takeWhole_8 ?_
  refine V_iconst (pc := 9) C dX7_takeWhole_9 kc_i_2 ?_
  refine V_icmp_eq (tgt := 19) (pc := 10) C dX7_takeWhole_10 (by decide) (fun hc => ?_) (fun hc => ?_)
  · have h := it_t hc h
    refine V_aload_n (pc := 19) C dX7_takeWhole_19 rfl rfl ?_
    refine V_getF (p1 := 5) (pc := 20) C z1_cW_7 fl_RX7_18 rfl (zf_cW_7_2 z1_cW_7) dX7_takeWhole_20 ?_
    refine V_aload_n (pc := 23) C dX7_takeWhole_23 rfl rfl ?_
    refine V_getI (pc := 24) C z1_cW_7 fl_RX7_91 (by decide) dX7_takeWhole_24 ?_
    obtain ⟨k2, h⟩ := ck_some h
    refine V_lald (pc := 27) C (za_cW_7_2 z1_cW_7) k2 dX7_takeWhole_27 ?_
    refine V_iload_n (pc := 28) C dX7_takeWhole_28 rfl rfl ?_
    refine V_i2l (pc := 29) C dX7_takeWhole_29 ?_
    refine V_lcmp_lt (tgt := 49) (pc := 30) C dX7_takeWhole_30 dX7_takeWhole_31 (by decide) (fun hc => ?_) (fun hc => ?_)
    · have h := it_t hc h
      refine V_aload_n (pc := 49) C dX7_takeWhole_49 rfl rfl ?_
      refine V_iconst (pc := 50) C dX7_takeWhole_50 kc_i_4 ?_
      obtain ⟨r3, S4, er3, h⟩ := b2_some h
      refine V_callV (As := [.int (4 : Int32)]) (pc := 51) C (mX7_wrong _ er3) zm_X7_wrong zi_X7_wrong ml_RX7_80 z1_cW_7 rfl ⟨Nat.le_of_ble_eq_true rfl, Nat.le_of_ble_eq_true rfl⟩ rfl rfl (Nat.le_of_ble_eq_true rfl) dX7_takeWhole_51 ?_
      show V K 54 [some (.ref 2), some (.int a1), some (.int a2)] [.int r3] S4
      obtain ⟨k5, h⟩ := ck_some h
      cases h
      exact hR 54 _ ⟨_, rfl, isB_nar k5⟩ dX7_takeWhole_54
    · have h := it_f hc h
      refine V_aload_n (pc := 34) C dX7_takeWhole_34 rfl rfl ?_
      refine V_getF (p1 := 5) (pc := 35) C z1_cW_7 fl_RX7_18 rfl (zf_cW_7_2 z1_cW_7) dX7_takeWhole_35 ?_
      refine V_aload_n (pc := 38) C dX7_takeWhole_38 rfl rfl ?_
      refine V_getI (pc := 39) C z1_cW_7 fl_RX7_91 (by decide) dX7_takeWhole_39 ?_
      obtain ⟨k6, h⟩ := ck_some h
      refine V_lald (pc := 42) C (za_cW_7_2 z1_cW_7) k6 dX7_takeWhole_42 ?_
      refine V_iload_n (pc := 43) C dX7_takeWhole_43 rfl rfl ?_
      refine V_i2l (pc := 44) C dX7_takeWhole_44 ?_
      refine V_lcmp_le (tgt := 55) (pc := 45) C dX7_takeWhole_45 dX7_takeWhole_46 (by decide) (fun hc => ?_) (fun hc => ?_)
      · have h := it_t hc h
        refine V_aload_n (pc := 55) C dX7_takeWhole_55 rfl rfl ?_
        refine V_aload_n (pc := 56) C dX7_takeWhole_56 rfl rfl ?_
        refine V_getF (p1 := 5) (pc := 57) C z1_cW_7 fl_RX7_18 rfl (zf_cW_7_2 z1_cW_7) dX7_takeWhole_57 ?_
        refine V_aload_n (pc := 60) C dX7_takeWhole_60 rfl rfl ?_
        refine V_getI (pc := 61) C z1_cW_7 fl_RX7_91 (by decide) dX7_takeWhole_61 ?_
        obtain ⟨k7, h⟩ := ck_some h
        refine V_lald (pc := 64) C (za_cW_7_2 z1_cW_7) k7 dX7_takeWhole_64 ?_
        refine V_l2i (pc := 65) C dX7_takeWhole_65 ?_
        refine V_putI (pc := 66) C z1_cW_7 fp_RX7_155 rfl rfl dX7_takeWhole_66 ?_
        refine V_aload_n (pc := 69) C dX7_takeWhole_69 rfl rfl ?_
        obtain ⟨S9, euS9, h⟩ := b1_some h
        refine V_callV (As := []) (pc := 70) C (mX7_step _ euS9) zm_X7_step zi_X7_step ml_RX7_88 z1_cW_7 rfl ⟨Nat.le_of_ble_eq_true rfl, Nat.le_of_ble_eq_true rfl⟩ rfl rfl (Nat.le_of_ble_eq_true rfl) dX7_takeWhole_70 ?_
        show V K 73 [some (.ref 2), some (.int a1), some (.int a2)] [] S9
        refine V_iconst (pc := 73) C dX7_takeWhole_73 kc_i_1 ?_
        cases h
        exact hR 74 _ ⟨_, rfl, zB1⟩ dX7_takeWhole_74
      · have h := it_f hc h
        refine V_aload_n (pc := 49) C dX7_takeWhole_49 rfl rfl ?_
        refine V_iconst (pc := 50) C dX7_takeWhole_50 kc_i_4 ?_
        obtain ⟨r10, S11, er10, h⟩ := b2_some h
        refine V_callV (As := [.int (4 : Int32)]) (pc := 51) C (mX7_wrong _ er10) zm_X7_wrong zi_X7_wrong ml_RX7_80 z1_cW_7 rfl ⟨Nat.le_of_ble_eq_true rfl, Nat.le_of_ble_eq_true rfl⟩ rfl rfl (Nat.le_of_ble_eq_true rfl) dX7_takeWhole_51 ?_
        show V K 54 [some (.ref 2), some (.int a1), some (.int a2)] [.int r10] S11
        obtain ⟨k12, h⟩ := ck_some h
        cases h
        exact hR 54 _ ⟨_, rfl, isB_nar k12⟩ dX7_takeWhole_54
  · have h := it_f hc h
    refine V_aload_n (pc := 13) C dX7_takeWhole_13 rfl rfl ?_
    refine V_iconst (pc := 14) C dX7_takeWhole_14 kc_i_1 ?_
    obtain ⟨r13, S14, er13, h⟩ := b2_some h
    refine V_callV (As := [.int (1 : Int32)]) (pc := 15) C (mX7_wrong _ er13) zm_X7_wrong zi_X7_wrong ml_RX7_80 z1_cW_7 rfl ⟨Nat.le_of_ble_eq_true rfl, Nat.le_of_ble_eq_true rfl⟩ rfl rfl (Nat.le_of_ble_eq_true rfl) dX7_takeWhole_15 ?_
    show V K 18 [some (.ref 2), some (.int a1), some (.int a2)] [.int r13] S14
    obtain ⟨k15, h⟩ := ck_some h
    cases h
    exact hR 18 _ ⟨_, rfl, isB_nar k15⟩ dX7_takeWhole_18
set_option maxRecDepth 100000 in
theorem mX7_isMark (l : Launch) {S : zM} {a1 : Int32} {r : Int32}  (h : gX7_isMark S a1 = some r) : zMet l cW zS0 yX7_isMark cX7_isMark 2 (some .boolean) 0 0 [.ref 2, .int a1] S (some (.int r)) S := by
  refine zmeth (by decide +kernel) (by rfl) (fun K hKl C hR => ?_)
  show V K 0 [some (.ref 2), some (.int a1)] [] S
  unfold gX7_isMark at h
  refine V_aload_n (pc := 0) C dX7_isMark_0 rfl rfl ?_
  refine V_getF (p1 := 3) (pc := 1) C z1_cW_7 fl_RX7_9 rfl (zf_cW_7_0 z1_cW_7) dX7_isMark_1 ?_
  refine V_aload_n (pc := 4) C dX7_isMark_4 rfl rfl ?_
  refine V_getI (pc := 5) C z1_cW_7 fl_RX7_91 (by decide) dX7_isMark_5 ?_
  obtain ⟨k1, h⟩ := ck_some h
  refine V_iald (pc := 8) C (za_cW_7_0 z1_cW_7) k1 dX7_isMark_8 ?_
  refine V_iconst (pc := 9) C dX7_isMark_9 kc_i_3 ?_
  refine V_icmp_ne (tgt := 32) (pc := 10) C dX7_isMark_10 (by decide) (fun hc => ?_) (fun hc => ?_)
  · have h := it_f hc h
    refine V_iconst (pc := 32) C dX7_isMark_32 kc_i_0 ?_
    cases h
    exact hR 33 _ ⟨_, rfl, zB0⟩ dX7_isMark_33
  · have h := it_t hc h
    refine V_aload_n (pc := 13) C dX7_isMark_13 rfl rfl ?_
    refine V_getF (p1 := 5) (pc := 14) C z1_cW_7 fl_RX7_18 rfl (zf_cW_7_2 z1_cW_7) dX7_isMark_14 ?_
    refine V_aload_n (pc := 17) C dX7_isMark_17 rfl rfl ?_
    refine V_getI (pc := 18) C z1_cW_7 fl_RX7_91 (by decide) dX7_isMark_18 ?_
    obtain ⟨k2, h⟩ := ck_some h
    refine V_lald (pc := 21) C (za_cW_7_2 z1_cW_7) k2 dX7_isMark_21 ?_
    refine V_iload_n (pc := 22) C dX7_isMark_22 rfl rfl ?_
    refine V_i2l (pc := 23) C dX7_isMark_23 ?_
    refine V_lcmp_ne (tgt := 32) (pc := 24) C dX7_isMark_24 dX7_isMark_25 (by decide) (fun hc => ?_) (fun hc => ?_)
    · have h := it_f hc h
      refine V_iconst (pc := 32) C dX7_isMark_32 kc_i_0 ?_
      cases h
      exact hR 33 _ ⟨_, rfl, zB0⟩ dX7_isMark_33
    · have h := it_t hc h
      refine V_iconst (pc := 28) C dX7_isMark_28 kc_i_1 ?_
      refine V_goto (tgt := 33) (pc := 29) C dX7_isMark_29 (by decide) ?_
      cases h
      exact hR 33 _ ⟨_, rfl, zB1⟩ dX7_isMark_33
set_option maxRecDepth 100000 in
theorem mX7_takeMark (l : Launch) {S : zM} {a1 : Int32} {r : Int32} {S' : zM}  (h : gX7_takeMark S a1 = some (r, S')) : zMet l cW zS0 yX7_takeMark cX7_takeMark 2 (some .boolean) 1 21 [.ref 2, .int a1] S (some (.int r)) S' := by
  refine zmeth (by decide +kernel) (by rfl) (fun K hKl C hR => ?_)
  show V K 0 [some (.ref 2), some (.int a1)] [] S
  unfold gX7_takeMark at h
  refine V_aload_n (pc := 0) C dX7_takeMark_0 rfl rfl ?_
  refine V_iload_n (pc := 1) C dX7_takeMark_1 rfl rfl ?_
  obtain ⟨r1, er1, h⟩ := b1_some h
  refine V_callV (As := [.int a1]) (pc := 2) C (mX7_isMark _ er1) zm_X7_isMark zi_X7_isMark ml_RX7_84 z1_cW_7 rfl ⟨Nat.le_of_ble_eq_true rfl, Nat.le_of_ble_eq_true rfl⟩ rfl rfl (Nat.le_of_ble_eq_true rfl) dX7_takeMark_2 ?_
  show V K 5 [some (.ref 2), some (.int a1)] [.int r1] S
  refine V_if_ne (tgt := 14) (pc := 5) C dX7_takeMark_5 (by decide) (fun hc => ?_) (fun hc => ?_)
  · have h := it_f hc h
    refine V_aload_n (pc := 14) C dX7_takeMark_14 rfl rfl ?_
    obtain ⟨S3, euS3, h⟩ := b1_some h
    refine V_callV (As := []) (pc := 15) C (mX7_step _ euS3) zm_X7_step zi_X7_step ml_RX7_88 z1_cW_7 rfl ⟨Nat.le_of_ble_eq_true rfl, Nat.le_of_ble_eq_true rfl⟩ rfl rfl (Nat.le_of_ble_eq_true rfl) dX7_takeMark_15 ?_
    show V K 18 [some (.ref 2), some (.int a1)] [] S3
    refine V_iconst (pc := 18) C dX7_takeMark_18 kc_i_1 ?_
    cases h
    exact hR 19 _ ⟨_, rfl, zB1⟩ dX7_takeMark_19
  · have h := it_t hc h
    refine V_aload_n (pc := 8) C dX7_takeMark_8 rfl rfl ?_
    refine V_iconst (pc := 9) C dX7_takeMark_9 kc_i_1 ?_
    obtain ⟨r4, S5, er4, h⟩ := b2_some h
    refine V_callV (As := [.int (1 : Int32)]) (pc := 10) C (mX7_wrong _ er4) zm_X7_wrong zi_X7_wrong ml_RX7_80 z1_cW_7 rfl ⟨Nat.le_of_ble_eq_true rfl, Nat.le_of_ble_eq_true rfl⟩ rfl rfl (Nat.le_of_ble_eq_true rfl) dX7_takeMark_10 ?_
    show V K 13 [some (.ref 2), some (.int a1)] [.int r4] S5
    obtain ⟨k6, h⟩ := ck_some h
    cases h
    exact hR 13 _ ⟨_, rfl, isB_nar k6⟩ dX7_takeMark_13
set_option maxRecDepth 100000 in
theorem mX9_addStep (l : Launch) {S : zM} {q : Nat} {a1 : Int32} {a2 : Int32} {a3 : Int32} {S' : zM} (hq : zob cW 9 q) (h : gX9_addStep S q a1 a2 a3 = some S') : zMet l cW zS0 yX9_addStep cX9_addStep 4 (none) 0 0 [.ref q, .int a1, .int a2, .int a3] S none S' := by
  refine zmeth (by decide +kernel) (by rfl) (fun K hKl C hR => ?_)
  show V K 0 [some (.ref q), some (.int a1), some (.int a2), some (.int a3)] [] S
  unfold gX9_addStep at h
  refine V_aload_n (pc := 0) C dX9_addStep_0 rfl rfl ?_
  refine V_getI (pc := 1) C hq fl_RX9_34 (by decide) dX9_addStep_1 ?_
  refine V_iconst (pc := 4) C dX9_addStep_4 kc_i_4 ?_
  refine V_icmp_ge (tgt := 48) (pc := 5) C dX9_addStep_5 (by decide) (fun hc => ?_) (fun hc => ?_)
  · have h := it_t hc h
    cases h
    exact hR 48 _ rfl dX9_addStep_48
  · have h := it_f hc h
    refine V_aload_n (pc := 8) C dX9_addStep_8 rfl rfl ?_
    refine V_getF (p1 := (q + 1)) (pc := 9) C hq fl_RX9_9 rfl (zf_cW_9_0 hq) dX9_addStep_9 ?_
    refine V_aload_n (pc := 12) C dX9_addStep_12 rfl rfl ?_
    refine V_getI (pc := 13) C hq fl_RX9_34 (by decide) dX9_addStep_13 ?_
    refine V_iload_n (pc := 16) C dX9_addStep_16 rfl rfl ?_
    obtain ⟨k1, h⟩ := ck_some h
    refine V_iast (pc := 17) C (za_cW_9_0 hq) k1 dX9_addStep_17 ?_
    refine V_aload_n (pc := 18) C dX9_addStep_18 rfl rfl ?_
    refine V_getF (p1 := (q + 2)) (pc := 19) C hq fl_RX9_15 rfl (zf_cW_9_1 hq) dX9_addStep_19 ?_
    refine V_aload_n (pc := 22) C dX9_addStep_22 rfl rfl ?_
    refine V_getI (pc := 23) C hq fl_RX9_34 (by decide) dX9_addStep_23 ?_
    refine V_iload_n (pc := 26) C dX9_addStep_26 rfl rfl ?_
    obtain ⟨k2, h⟩ := ck_some h
    refine V_iast (pc := 27) C (za_cW_9_1 hq) k2 dX9_addStep_27 ?_
    obtain ⟨S3, eS3, h⟩ := lt_some h
    refine V_nmS eS3 ?_
    refine V_aload_n (pc := 28) C dX9_addStep_28 rfl rfl ?_
    refine V_getF (p1 := (q + 3)) (pc := 29) C hq fl_RX9_18 rfl (zf_cW_9_2 hq) dX9_addStep_29 ?_
    refine V_aload_n (pc := 32) C dX9_addStep_32 rfl rfl ?_
    refine V_getI (pc := 33) C hq fl_RX9_34 (by decide) dX9_addStep_33 ?_
    refine V_iload_n (pc := 36) C dX9_addStep_36 rfl rfl ?_
    obtain ⟨k4, h⟩ := ck_some h
    refine V_iast (pc := 37) C (za_cW_9_2 hq) k4 dX9_addStep_37 ?_
    refine V_aload_n (pc := 38) C dX9_addStep_38 rfl rfl ?_
    refine V_dup (pc := 39) C dX9_addStep_39 rfl ?_
    refine V_getI (pc := 40) C hq fl_RX9_34 (by decide) dX9_addStep_40 ?_
    refine V_iconst (pc := 43) C dX9_addStep_43 kc_i_1 ?_
    refine V_iadd (pc := 44) C dX9_addStep_44 ?_
    refine V_putI (pc := 45) C hq fp_RX9_34 rfl rfl dX9_addStep_45 ?_
    obtain ⟨S5, eS5, h⟩ := lt_some h
    refine V_nmS eS5 ?_
    cases h
    exact hR 48 _ rfl dX9_addStep_48
set_option maxRecDepth 100000 in
theorem mX7_readStepOf (l : Launch) {S : zM} {a1 : Nat} {a2 : Int32} {a3 : Int32} {a4 : Int32} {r : Int32} {S' : zM} (ha1 : zob cW 9 a1) (h : gX7_readStepOf S a1 a2 a3 a4 = some (r, S')) : zMet l cW zS0 yX7_readStepOf cX7_readStepOf 7 (some .boolean) 2 43 [.ref 2, .ref a1, .int a2, .int a3, .int a4] S (some (.int r)) S' := by
  refine zmeth (by decide +kernel) (by rfl) (fun K hKl C hR => ?_)
  show V K 0 [some (.ref 2), some (.ref a1), some (.int a2), some (.int a3), some (.int a4), none, none] [] S
  unfold gX7_readStepOf at h
  refine V_aload_n (pc := 0) C dX7_readStepOf_0 rfl rfl ?_
  refine V_getI (pc := 1) C ha1 fl_RX7_206 (by decide) dX7_readStepOf_1 ?_
  refine V_iconst (pc := 4) C dX7_readStepOf_4 kc_i_4 ?_
  refine V_icmp_lt (tgt := 14) (pc := 5) C dX7_readStepOf_5 (by decide) (fun hc => ?_) (fun hc => ?_)
  · have h := it_t hc h
    refine V_aload_n (pc := 14) C dX7_readStepOf_14 rfl rfl ?_
    obtain ⟨S2, euS2, h⟩ := b1_some h
    refine V_callV (As := []) (pc := 15) C (mX7_step _ euS2) zm_X7_step zi_X7_step ml_RX7_88 z1_cW_7 rfl ⟨Nat.le_of_ble_eq_true rfl, Nat.le_of_ble_eq_true rfl⟩ rfl rfl (Nat.le_of_ble_eq_true rfl) dX7_readStepOf_15 ?_
    show V K 18 [some (.ref 2), some (.ref a1), some (.int a2), some (.int a3), some (.int a4), none, none] [] S2
    refine V_aload_n (pc := 18) C dX7_readStepOf_18 rfl rfl ?_
    refine V_iload_n (pc := 19) C dX7_readStepOf_19 rfl rfl ?_
    refine V_iload (pc := 20) C dX7_readStepOf_20 rfl ?_
    obtain ⟨r3, S4, er3, h⟩ := b2_some h
    refine V_callV (As := [.int a3, .int a4]) (pc := 22) C (mX7_takeWhole _ er3) zm_X7_takeWhole zi_X7_takeWhole ml_RX7_158 z1_cW_7 rfl ⟨Nat.le_of_ble_eq_true rfl, Nat.le_of_ble_eq_true rfl⟩ rfl rfl (Nat.le_of_ble_eq_true rfl) dX7_readStepOf_22 ?_
    show V K 25 [some (.ref 2), some (.ref a1), some (.int a2), some (.int a3), some (.int a4), none, none] [.int r3] S4
    refine V_if_ne (tgt := 30) (pc := 25) C dX7_readStepOf_25 (by decide) (fun hc => ?_) (fun hc => ?_)
    · have h := it_f hc h
      refine V_aload_n (pc := 30) C dX7_readStepOf_30 rfl rfl ?_
      refine V_getI (pc := 31) C z1_cW_7 fl_RX7_155 (by decide) dX7_readStepOf_31 ?_
      refine V_istore (L' := [some (.ref 2), some (.ref a1), some (.int a2), some (.int a3), some (.int a4), some (.int (gI S4 2 5)), none]) (pc := 34) C dX7_readStepOf_34 (by decide) rfl ?_
      refine V_iconst (pc := 36) C dX7_readStepOf_36 kc_i_1 ?_
      refine V_istore (L' := [some (.ref 2), some (.ref a1), some (.int a2), some (.int a3), some (.int a4), some (.int (gI S4 2 5)), some (.int (1 : Int32))]) (pc := 37) C dX7_readStepOf_37 (by decide) rfl ?_
      refine V_iload_n (pc := 39) C dX7_readStepOf_39 rfl rfl ?_
      refine V_iconst (pc := 40) C dX7_readStepOf_40 kc_i_1 ?_
      refine V_icmp_eq (tgt := 49) (pc := 41) C dX7_readStepOf_41 (by decide) (fun hc => ?_) (fun hc => ?_)
      · have h := it_t hc h
        refine V_aload_n (pc := 49) C dX7_readStepOf_49 rfl rfl ?_
        refine V_bipush (pc := 50) C dX7_readStepOf_50 kc_b_47 ?_
        obtain ⟨r5, S6, er5, h⟩ := b2_some h
        refine V_callV (As := [.int (47 : Int32)]) (pc := 52) C (mX7_takeMark _ er5) zm_X7_takeMark zi_X7_takeMark ml_RX7_209 z1_cW_7 rfl ⟨Nat.le_of_ble_eq_true rfl, Nat.le_of_ble_eq_true rfl⟩ rfl rfl (Nat.le_of_ble_eq_true rfl) dX7_readStepOf_52 ?_
        show V K 55 [some (.ref 2), some (.ref a1), some (.int a2), some (.int a3), some (.int a4), some (.int (gI S4 2 5)), some (.int (1 : Int32))] [.int r5] S6
        refine V_if_eq (tgt := 68) (pc := 55) C dX7_readStepOf_55 (by decide) (fun hc => ?_) (fun hc => ?_)
        · have h := it_t hc h
          refine V_iconst (pc := 68) C dX7_readStepOf_68 kc_i_0 ?_
          cases h
          exact hR 69 _ ⟨_, rfl, zB0⟩ dX7_readStepOf_69
        · have h := it_f hc h
          refine V_aload_n (pc := 58) C dX7_readStepOf_58 rfl rfl ?_
          refine V_iload_n (pc := 59) C dX7_readStepOf_59 rfl rfl ?_
          refine V_iload (pc := 60) C dX7_readStepOf_60 rfl ?_
          obtain ⟨r7, S8, er7, h⟩ := b2_some h
          refine V_callV (As := [.int a3, .int a4]) (pc := 62) C (mX7_takeWhole _ er7) zm_X7_takeWhole zi_X7_takeWhole ml_RX7_158 z1_cW_7 rfl ⟨Nat.le_of_ble_eq_true rfl, Nat.le_of_ble_eq_true rfl⟩ rfl rfl (Nat.le_of_ble_eq_true rfl) dX7_readStepOf_62 ?_
          show V K 65 [some (.ref 2), some (.ref a1), some (.int a2), some (.int a3), some (.int a4), some (.int (gI S4 2 5)), some (.int (1 : Int32))] [.int r7] S8
          refine V_if_ne (tgt := 70) (pc := 65) C dX7_readStepOf_65 (by decide) (fun hc => ?_) (fun hc => ?_)
          · have h := it_f hc h
            refine V_aload_n (pc := 70) C dX7_readStepOf_70 rfl rfl ?_
            refine V_getI (pc := 71) C z1_cW_7 fl_RX7_155 (by decide) dX7_readStepOf_71 ?_
            refine V_istore (L' := [some (.ref 2), some (.ref a1), some (.int a2), some (.int a3), some (.int a4), some (.int (gI S4 2 5)), some (.int (gI S8 2 5))]) (pc := 74) C dX7_readStepOf_74 (by decide) rfl ?_
            refine V_aload_n (pc := 76) C dX7_readStepOf_76 rfl rfl ?_
            refine V_iload_n (pc := 77) C dX7_readStepOf_77 rfl rfl ?_
            refine V_iload (pc := 78) C dX7_readStepOf_78 rfl ?_
            refine V_iload (pc := 80) C dX7_readStepOf_80 rfl ?_
            obtain ⟨S10, euS10, h⟩ := b1_some h
            refine V_callV (As := [.int a2, .int (gI S4 2 5), .int (gI S8 2 5)]) (pc := 82) C (mX9_addStep _ ha1 euS10) zm_X9_addStep zi_X9_addStep ml_RX7_212 ha1 rfl ⟨Nat.le_of_ble_eq_true rfl, Nat.le_of_ble_eq_true rfl⟩ rfl rfl (Nat.le_of_ble_eq_true rfl) dX7_readStepOf_82 ?_
            show V K 85 [some (.ref 2), some (.ref a1), some (.int a2), some (.int a3), some (.int a4), some (.int (gI S4 2 5)), some (.int (gI S8 2 5))] [] S10
            refine V_iconst (pc := 85) C dX7_readStepOf_85 kc_i_1 ?_
            cases h
            exact hR 86 _ ⟨_, rfl, zB1⟩ dX7_readStepOf_86
          · have h := it_t hc h
            refine V_iconst (pc := 68) C dX7_readStepOf_68 kc_i_0 ?_
            cases h
            exact hR 69 _ ⟨_, rfl, zB0⟩ dX7_readStepOf_69
      · have h := it_f hc h
        refine V_iload_n (pc := 44) C dX7_readStepOf_44 rfl rfl ?_
        refine V_iconst (pc := 45) C dX7_readStepOf_45 kc_i_2 ?_
        refine V_icmp_ne (tgt := 76) (pc := 46) C dX7_readStepOf_46 (by decide) (fun hc => ?_) (fun hc => ?_)
        · have h := it_f hc h
          refine V_aload_n (pc := 76) C dX7_readStepOf_76 rfl rfl ?_
          refine V_iload_n (pc := 77) C dX7_readStepOf_77 rfl rfl ?_
          refine V_iload (pc := 78) C dX7_readStepOf_78 rfl ?_
          refine V_iload (pc := 80) C dX7_readStepOf_80 rfl ?_
          obtain ⟨S12, euS12, h⟩ := b1_some h
          refine V_callV (As := [.int a2, .int (gI S4 2 5), .int (1 : Int32)]) (pc := 82) C (mX9_addStep _ ha1 euS12) zm_X9_addStep zi_X9_addStep ml_RX7_212 ha1 rfl ⟨Nat.le_of_ble_eq_true rfl, Nat.le_of_ble_eq_true rfl⟩ rfl rfl (Nat.le_of_ble_eq_true rfl) dX7_readStepOf_82 ?_
          show V K 85 [some (.ref 2), some (.ref a1), some (.int a2), some (.int a3), some (.int a4), some (.int (gI S4 2 5)), some (.int (1 : Int32))] [] S12
          refine V_iconst (pc := 85) C dX7_readStepOf_85 kc_i_1 ?_
          cases h
          exact hR 86 _ ⟨_, rfl, zB1⟩ dX7_readStepOf_86
        · have h := it_t hc h
          refine V_aload_n (pc := 49) C dX7_readStepOf_49 rfl rfl ?_
          refine V_bipush (pc := 50) C dX7_readStepOf_50 kc_b_47 ?_
          obtain ⟨r13, S14, er13, h⟩ := b2_some h
          refine V_callV (As := [.int (47 : Int32)]) (pc := 52) C (mX7_takeMark _ er13) zm_X7_takeMark zi_X7_takeMark ml_RX7_209 z1_cW_7 rfl ⟨Nat.le_of_ble_eq_true rfl, Nat.le_of_ble_eq_true rfl⟩ rfl rfl (Nat.le_of_ble_eq_true rfl) dX7_readStepOf_52 ?_
          show V K 55 [some (.ref 2), some (.ref a1), some (.int a2), some (.int a3), some (.int a4), some (.int (gI S4 2 5)), some (.int (1 : Int32))] [.int r13] S14
          refine V_if_eq (tgt := 68) (pc := 55) C dX7_readStepOf_55 (by decide) (fun hc => ?_) (fun hc => ?_)
          · have h := it_t hc h
            refine V_iconst (pc := 68) C dX7_readStepOf_68 kc_i_0 ?_
            cases h
            exact hR 69 _ ⟨_, rfl, zB0⟩ dX7_readStepOf_69
          · have h := it_f hc h
            refine V_aload_n (pc := 58) C dX7_readStepOf_58 rfl rfl ?_
            refine V_iload_n (pc := 59) C dX7_readStepOf_59 rfl rfl ?_
            refine V_iload (pc := 60) C dX7_readStepOf_60 rfl ?_
            obtain ⟨r15, S16, er15, h⟩ := b2_some h
            refine V_callV (As := [.int a3, .int a4]) (pc := 62) C (mX7_takeWhole _ er15) zm_X7_takeWhole zi_X7_takeWhole ml_RX7_158 z1_cW_7 rfl ⟨Nat.le_of_ble_eq_true rfl, Nat.le_of_ble_eq_true rfl⟩ rfl rfl (Nat.le_of_ble_eq_true rfl) dX7_readStepOf_62 ?_
            show V K 65 [some (.ref 2), some (.ref a1), some (.int a2), some (.int a3), some (.int a4), some (.int (gI S4 2 5)), some (.int (1 : Int32))] [.int r15] S16
            refine V_if_ne (tgt := 70) (pc := 65) C dX7_readStepOf_65 (by decide) (fun hc => ?_) (fun hc => ?_)
            · have h := it_f hc h
              refine V_aload_n (pc := 70) C dX7_readStepOf_70 rfl rfl ?_
              refine V_getI (pc := 71) C z1_cW_7 fl_RX7_155 (by decide) dX7_readStepOf_71 ?_
              refine V_istore (L' := [some (.ref 2), some (.ref a1), some (.int a2), some (.int a3), some (.int a4), some (.int (gI S4 2 5)), some (.int (gI S16 2 5))]) (pc := 74) C dX7_readStepOf_74 (by decide) rfl ?_
              refine V_aload_n (pc := 76) C dX7_readStepOf_76 rfl rfl ?_
              refine V_iload_n (pc := 77) C dX7_readStepOf_77 rfl rfl ?_
              refine V_iload (pc := 78) C dX7_readStepOf_78 rfl ?_
              refine V_iload (pc := 80) C dX7_readStepOf_80 rfl ?_
              obtain ⟨S18, euS18, h⟩ := b1_some h
              refine V_callV (As := [.int a2, .int (gI S4 2 5), .int (gI S16 2 5)]) (pc := 82) C (mX9_addStep _ ha1 euS18) zm_X9_addStep zi_X9_addStep ml_RX7_212 ha1 rfl ⟨Nat.le_of_ble_eq_true rfl, Nat.le_of_ble_eq_true rfl⟩ rfl rfl (Nat.le_of_ble_eq_true rfl) dX7_readStepOf_82 ?_
              show V K 85 [some (.ref 2), some (.ref a1), some (.int a2), some (.int a3), some (.int a4), some (.int (gI S4 2 5)), some (.int (gI S16 2 5))] [] S18
              refine V_iconst (pc := 85) C dX7_readStepOf_85 kc_i_1 ?_
              cases h
              exact hR 86 _ ⟨_, rfl, zB1⟩ dX7_readStepOf_86
            · have h := it_t hc h
              refine V_iconst (pc := 68) C dX7_readStepOf_68 kc_i_0 ?_
              cases h
              exact hR 69 _ ⟨_, rfl, zB0⟩ dX7_readStepOf_69
    · have h := it_t hc h
      refine V_iconst (pc := 28) C dX7_readStepOf_28 kc_i_0 ?_
      cases h
      exact hR 29 _ ⟨_, rfl, zB0⟩ dX7_readStepOf_29
  · have h := it_f hc h
    refine V_aload_n (pc := 8) C dX7_readStepOf_8 rfl rfl ?_
    refine V_iconst (pc := 9) C dX7_readStepOf_9 kc_i_5 ?_
    obtain ⟨r19, S20, er19, h⟩ := b2_some h
    refine V_callV (As := [.int (5 : Int32)]) (pc := 10) C (mX7_wrong _ er19) zm_X7_wrong zi_X7_wrong ml_RX7_80 z1_cW_7 rfl ⟨Nat.le_of_ble_eq_true rfl, Nat.le_of_ble_eq_true rfl⟩ rfl rfl (Nat.le_of_ble_eq_true rfl) dX7_readStepOf_10 ?_
    show V K 13 [some (.ref 2), some (.ref a1), some (.int a2), some (.int a3), some (.int a4), none, none] [.int r19] S20
    obtain ⟨k21, h⟩ := ck_some h
    cases h
    exact hR 13 _ ⟨_, rfl, isB_nar k21⟩ dX7_readStepOf_13
set_option maxRecDepth 100000 in
theorem mX7_readStep (l : Launch) {S : zM} {a1 : Nat} {r : Int32} {S' : zM} (ha1 : zob cW 9 a1) (h : gX7_readStep S a1 = some (r, S')) : zMet l cW zS0 yX7_readStep cX7_readStep 2 (some .boolean) 8 215 [.ref 2, .ref a1] S (some (.int r)) S' := by
  refine zmeth (by decide +kernel) (by rfl) (fun K hKl C hR => ?_)
  show V K 0 [some (.ref 2), some (.ref a1)] [] S
  unfold gX7_readStep at h
  refine V_aload_n (pc := 0) C dX7_readStep_0 rfl rfl ?_
  refine V_ldcS (j := 12) (pc := 1) C dX7_readStep_1 rfl ?_
  obtain ⟨r1, er1, h⟩ := b1_some h
  refine V_callV (As := [.ref 10012]) (pc := 3) C (mX7_isWord _ zq_12 er1) zm_X7_isWord zi_X7_isWord ml_RX7_57 z1_cW_7 rfl ⟨Nat.le_of_ble_eq_true rfl, Nat.le_of_ble_eq_true rfl⟩ rfl rfl (Nat.le_of_ble_eq_true rfl) dX7_readStep_3 ?_
  show V K 6 [some (.ref 2), some (.ref a1)] [.int r1] S
  refine V_if_eq (tgt := 19) (pc := 6) C dX7_readStep_6 (by decide) (fun hc => ?_) (fun hc => ?_)
  · have h := it_t hc h
    refine V_aload_n (pc := 19) C dX7_readStep_19 rfl rfl ?_
    refine V_ldcS (j := 13) (pc := 20) C dX7_readStep_20 rfl ?_
    obtain ⟨r2, er2, h⟩ := b1_some h
    refine V_callV (As := [.ref 10013]) (pc := 22) C (mX7_isWord _ zq_13 er2) zm_X7_isWord zi_X7_isWord ml_RX7_57 z1_cW_7 rfl ⟨Nat.le_of_ble_eq_true rfl, Nat.le_of_ble_eq_true rfl⟩ rfl rfl (Nat.le_of_ble_eq_true rfl) dX7_readStep_22 ?_
    show V K 25 [some (.ref 2), some (.ref a1)] [.int r2] S
    refine V_if_eq (tgt := 37) (pc := 25) C dX7_readStep_25 (by decide) (fun hc => ?_) (fun hc => ?_)
    · have h := it_t hc h
      refine V_aload_n (pc := 37) C dX7_readStep_37 rfl rfl ?_
      refine V_ldcS (j := 6) (pc := 38) C dX7_readStep_38 rfl ?_
      obtain ⟨r3, er3, h⟩ := b1_some h
      refine V_callV (As := [.ref 10006]) (pc := 40) C (mX7_isWord _ zq_6 er3) zm_X7_isWord zi_X7_isWord ml_RX7_57 z1_cW_7 rfl ⟨Nat.le_of_ble_eq_true rfl, Nat.le_of_ble_eq_true rfl⟩ rfl rfl (Nat.le_of_ble_eq_true rfl) dX7_readStep_40 ?_
      show V K 43 [some (.ref 2), some (.ref a1)] [.int r3] S
      refine V_if_eq (tgt := 56) (pc := 43) C dX7_readStep_43 (by decide) (fun hc => ?_) (fun hc => ?_)
      · have h := it_t hc h
        refine V_aload_n (pc := 56) C dX7_readStep_56 rfl rfl ?_
        refine V_ldcS (j := 14) (pc := 57) C dX7_readStep_57 rfl ?_
        obtain ⟨r4, er4, h⟩ := b1_some h
        refine V_callV (As := [.ref 10014]) (pc := 59) C (mX7_isWord _ zq_14 er4) zm_X7_isWord zi_X7_isWord ml_RX7_57 z1_cW_7 rfl ⟨Nat.le_of_ble_eq_true rfl, Nat.le_of_ble_eq_true rfl⟩ rfl rfl (Nat.le_of_ble_eq_true rfl) dX7_readStep_59 ?_
        show V K 62 [some (.ref 2), some (.ref a1)] [.int r4] S
        refine V_if_eq (tgt := 76) (pc := 62) C dX7_readStep_62 (by decide) (fun hc => ?_) (fun hc => ?_)
        · have h := it_t hc h
          refine V_aload_n (pc := 76) C dX7_readStep_76 rfl rfl ?_
          refine V_iconst (pc := 77) C dX7_readStep_77 kc_i_1 ?_
          obtain ⟨r5, S6, er5, h⟩ := b2_some h
          refine V_callV (As := [.int (1 : Int32)]) (pc := 78) C (mX7_wrong _ er5) zm_X7_wrong zi_X7_wrong ml_RX7_80 z1_cW_7 rfl ⟨Nat.le_of_ble_eq_true rfl, Nat.le_of_ble_eq_true rfl⟩ rfl rfl (Nat.le_of_ble_eq_true rfl) dX7_readStep_78 ?_
          show V K 81 [some (.ref 2), some (.ref a1)] [.int r5] S6
          obtain ⟨k7, h⟩ := ck_some h
          cases h
          exact hR 81 _ ⟨_, rfl, isB_nar k7⟩ dX7_readStep_81
        · have h := it_f hc h
          refine V_aload_n (pc := 65) C dX7_readStep_65 rfl rfl ?_
          refine V_aload_n (pc := 66) C dX7_readStep_66 rfl rfl ?_
          refine V_iconst (pc := 67) C dX7_readStep_67 kc_i_3 ?_
          refine V_iconst (pc := 68) C dX7_readStep_68 kc_i_0 ?_
          refine V_sipush (pc := 69) C dX7_readStep_69 kc_s_399 ?_
          obtain ⟨r8, S9, er8, h⟩ := b2_some h
          refine V_callV (As := [.ref a1, .int (3 : Int32), .int (0 : Int32), .int (399 : Int32)]) (pc := 72) C (mX7_readStepOf _ ha1 er8) zm_X7_readStepOf zi_X7_readStepOf ml_RX7_198 z1_cW_7 rfl ⟨Nat.le_of_ble_eq_true rfl, Nat.le_of_ble_eq_true rfl⟩ rfl rfl (Nat.le_of_ble_eq_true rfl) dX7_readStep_72 ?_
          show V K 75 [some (.ref 2), some (.ref a1)] [.int r8] S9
          obtain ⟨k10, h⟩ := ck_some h
          cases h
          exact hR 75 _ ⟨_, rfl, isB_nar k10⟩ dX7_readStep_75
      · have h := it_f hc h
        refine V_aload_n (pc := 46) C dX7_readStep_46 rfl rfl ?_
        refine V_aload_n (pc := 47) C dX7_readStep_47 rfl rfl ?_
        refine V_iconst (pc := 48) C dX7_readStep_48 kc_i_2 ?_
        refine V_iconst (pc := 49) C dX7_readStep_49 kc_i_1 ?_
        refine V_bipush (pc := 50) C dX7_readStep_50 kc_b_99 ?_
        obtain ⟨r11, S12, er11, h⟩ := b2_some h
        refine V_callV (As := [.ref a1, .int (2 : Int32), .int (1 : Int32), .int (99 : Int32)]) (pc := 52) C (mX7_readStepOf _ ha1 er11) zm_X7_readStepOf zi_X7_readStepOf ml_RX7_198 z1_cW_7 rfl ⟨Nat.le_of_ble_eq_true rfl, Nat.le_of_ble_eq_true rfl⟩ rfl rfl (Nat.le_of_ble_eq_true rfl) dX7_readStep_52 ?_
        show V K 55 [some (.ref 2), some (.ref a1)] [.int r11] S12
        obtain ⟨k13, h⟩ := ck_some h
        cases h
        exact hR 55 _ ⟨_, rfl, isB_nar k13⟩ dX7_readStep_55
    · have h := it_f hc h
      refine V_aload_n (pc := 28) C dX7_readStep_28 rfl rfl ?_
      refine V_aload_n (pc := 29) C dX7_readStep_29 rfl rfl ?_
      refine V_iconst (pc := 30) C dX7_readStep_30 kc_i_1 ?_
      refine V_iconst (pc := 31) C dX7_readStep_31 kc_i_1 ?_
      refine V_iconst (pc := 32) C dX7_readStep_32 kc_i_3 ?_
      obtain ⟨r14, S15, er14, h⟩ := b2_some h
      refine V_callV (As := [.ref a1, .int (1 : Int32), .int (1 : Int32), .int (3 : Int32)]) (pc := 33) C (mX7_readStepOf _ ha1 er14) zm_X7_readStepOf zi_X7_readStepOf ml_RX7_198 z1_cW_7 rfl ⟨Nat.le_of_ble_eq_true rfl, Nat.le_of_ble_eq_true rfl⟩ rfl rfl (Nat.le_of_ble_eq_true rfl) dX7_readStep_33 ?_
      show V K 36 [some (.ref 2), some (.ref a1)] [.int r14] S15
      obtain ⟨k16, h⟩ := ck_some h
      cases h
      exact hR 36 _ ⟨_, rfl, isB_nar k16⟩ dX7_readStep_36
  · have h := it_f hc h
    refine V_aload_n (pc := 9) C dX7_readStep_9 rfl rfl ?_
    refine V_aload_n (pc := 10) C dX7_readStep_10 rfl rfl ?_
    refine V_iconst (pc := 11) C dX7_readStep_11 kc_i_0 ?_
    refine V_iconst (pc := 12) C dX7_readStep_12 kc_i_2 ?_
    refine V_bipush (pc := 13) C dX7_readStep_13 kc_b_99 ?_
    obtain ⟨r17, S18, er17, h⟩ := b2_some h
    refine V_callV (As := [.ref a1, .int (0 : Int32), .int (2 : Int32), .int (99 : Int32)]) (pc := 15) C (mX7_readStepOf _ ha1 er17) zm_X7_readStepOf zi_X7_readStepOf ml_RX7_198 z1_cW_7 rfl ⟨Nat.le_of_ble_eq_true rfl, Nat.le_of_ble_eq_true rfl⟩ rfl rfl (Nat.le_of_ble_eq_true rfl) dX7_readStep_15 ?_
    show V K 18 [some (.ref 2), some (.ref a1)] [.int r17] S18
    obtain ⟨k19, h⟩ := ck_some h
    cases h
    exact hR 18 _ ⟨_, rfl, isB_nar k19⟩ dX7_readStep_18
set_option maxRecDepth 100000 in
theorem mX7_readSteps_L8 {K : zK} (C : zC K cX7_readSteps yX7_readSteps.cls 4 9 236 cW) {v1 : Nat} (hv1 : zob cW 9 v1) : ∀ (f : Nat) (S : zM) (v2 : Int32) (v3 : Int32) (r : Int32) (S' : zM), gX7_readSteps_L8 v1 f S v2 v3 = some (r, S') → zR K cX7_readSteps (some .boolean) S' (some (.int r)) → V K 8 [some (.ref 2), some (.ref v1), some (.int v2), some (.int v3)] [] S := by
  intro f
  induction f with
  | zero => intro S v2 v3 r S' h hR; cases h
  | succ n ih =>
    intro S v2 v3 r S' h hR
    unfold gX7_readSteps_L8 at h
    refine V_iload_n (pc := 8) C dX7_readSteps_8 rfl rfl ?_
    refine V_aload_n (pc := 9) C dX7_readSteps_9 rfl rfl ?_
    refine V_getI (pc := 10) C z1_cW_7 fl_RX7_52 (by decide) dX7_readSteps_10 ?_
    refine V_icmp_ge (tgt := 45) (pc := 13) C dX7_readSteps_13 (by decide) (fun hc => ?_) (fun hc => ?_)
    · have h := it_t hc h
      refine V_iload_n (pc := 45) C dX7_readSteps_45 rfl rfl ?_
      obtain ⟨k3, h⟩ := ck_some h
      cases h
      exact hR 46 _ ⟨_, rfl, isB_nar k3⟩ dX7_readSteps_46
    · have h := it_f hc h
      refine V_iload_n (pc := 16) C dX7_readSteps_16 rfl rfl ?_
      refine V_if_eq (tgt := 45) (pc := 17) C dX7_readSteps_17 (by decide) (fun hc => ?_) (fun hc => ?_)
      · have h := it_t hc h
        refine V_iload_n (pc := 45) C dX7_readSteps_45 rfl rfl ?_
        obtain ⟨k4, h⟩ := ck_some h
        cases h
        exact hR 46 _ ⟨_, rfl, isB_nar k4⟩ dX7_readSteps_46
      · have h := it_f hc h
        refine V_aload_n (pc := 20) C dX7_readSteps_20 rfl rfl ?_
        refine V_ldcS (j := 4) (pc := 21) C dX7_readSteps_21 rfl ?_
        obtain ⟨r5, er5, h⟩ := b1_some h
        refine V_callV (As := [.ref 10004]) (pc := 23) C (mX7_isWord _ zq_4 er5) zm_X7_isWord zi_X7_isWord ml_RX7_57 z1_cW_7 rfl ⟨Nat.le_of_ble_eq_true rfl, Nat.le_of_ble_eq_true rfl⟩ rfl rfl (Nat.le_of_ble_eq_true rfl) dX7_readSteps_23 ?_
        show V K 26 [some (.ref 2), some (.ref v1), some (.int v2), some (.int v3)] [.int r5] S
        refine V_if_eq (tgt := 45) (pc := 26) C dX7_readSteps_26 (by decide) (fun hc => ?_) (fun hc => ?_)
        · have h := it_t hc h
          refine V_iload_n (pc := 45) C dX7_readSteps_45 rfl rfl ?_
          obtain ⟨k6, h⟩ := ck_some h
          cases h
          exact hR 46 _ ⟨_, rfl, isB_nar k6⟩ dX7_readSteps_46
        · have h := it_f hc h
          refine V_aload_n (pc := 29) C dX7_readSteps_29 rfl rfl ?_
          obtain ⟨S8, euS8, h⟩ := b1_some h
          refine V_callV (As := []) (pc := 30) C (mX7_step _ euS8) zm_X7_step zi_X7_step ml_RX7_88 z1_cW_7 rfl ⟨Nat.le_of_ble_eq_true rfl, Nat.le_of_ble_eq_true rfl⟩ rfl rfl (Nat.le_of_ble_eq_true rfl) dX7_readSteps_30 ?_
          show V K 33 [some (.ref 2), some (.ref v1), some (.int v2), some (.int v3)] [] S8
          refine V_aload_n (pc := 33) C dX7_readSteps_33 rfl rfl ?_
          refine V_aload_n (pc := 34) C dX7_readSteps_34 rfl rfl ?_
          obtain ⟨r9, S10, er9, h⟩ := b2_some h
          refine V_callV (As := [.ref v1]) (pc := 35) C (mX7_readStep _ hv1 er9) zm_X7_readStep zi_X7_readStep ml_RX7_193 z1_cW_7 rfl ⟨Nat.le_of_ble_eq_true rfl, Nat.le_of_ble_eq_true rfl⟩ rfl rfl (Nat.le_of_ble_eq_true rfl) dX7_readSteps_35 ?_
          show V K 38 [some (.ref 2), some (.ref v1), some (.int v2), some (.int v3)] [.int r9] S10
          refine V_istore_n (L' := [some (.ref 2), some (.ref v1), some (.int r9), some (.int v3)]) (pc := 38) C dX7_readSteps_38 rfl (by decide) rfl ?_
          refine V_iinc (L' := [some (.ref 2), some (.ref v1), some (.int r9), some (.int (v3 + (1 : Int32)))]) (v := (v3 + (1 : Int32))) (pc := 39) C dX7_readSteps_39 rfl (congrArg (v3 + ·) kc_i_1) (by decide) rfl ?_
          refine V_goto (tgt := 8) (pc := 42) C dX7_readSteps_42 (by decide) ?_
          exact V_mask [true, true, true, true] (ih _ _ _ _ _ h hR)
set_option maxRecDepth 100000 in
theorem mX7_readSteps (l : Launch) {S : zM} {a1 : Nat} {r : Int32} {S' : zM} (ha1 : zob cW 9 a1) (h : gX7_readSteps S a1 = some (r, S')) : zMet l cW zS0 yX7_readSteps cX7_readSteps 4 (some .boolean) 9 236 [.ref 2, .ref a1] S (some (.int r)) S' := by
  refine zmeth (by decide +kernel) (by rfl) (fun K hKl C hR => ?_)
  show V K 0 [some (.ref 2), some (.ref a1), none, none] [] S
  unfold gX7_readSteps at h
  refine V_aload_n (pc := 0) C dX7_readSteps_0 rfl rfl ?_
  refine V_aload_n (pc := 1) C dX7_readSteps_1 rfl rfl ?_
  obtain ⟨r1, S2, er1, h⟩ := b2_some h
  refine V_callV (As := [.ref a1]) (pc := 2) C (mX7_readStep _ ha1 er1) zm_X7_readStep zi_X7_readStep ml_RX7_193 z1_cW_7 rfl ⟨Nat.le_of_ble_eq_true rfl, Nat.le_of_ble_eq_true rfl⟩ rfl rfl (Nat.le_of_ble_eq_true rfl) dX7_readSteps_2 ?_
  show V K 5 [some (.ref 2), some (.ref a1), none, none] [.int r1] S2
  refine V_istore_n (L' := [some (.ref 2), some (.ref a1), some (.int r1), none]) (pc := 5) C dX7_readSteps_5 rfl (by decide) rfl ?_
  refine V_iconst (pc := 6) C dX7_readSteps_6 kc_i_0 ?_
  refine V_istore_n (L' := [some (.ref 2), some (.ref a1), some (.int r1), some (.int (0 : Int32))]) (pc := 7) C dX7_readSteps_7 rfl (by decide) rfl ?_
  exact V_mask [true, true, true, true] (mX7_readSteps_L8 C ha1 FU _ _ _ _ _ h hR)
set_option maxRecDepth 100000 in
theorem mX7_takeWord (l : Launch) {S : zM} {a1 : Nat} {r : Int32} {S' : zM} (ha1 : zstr a1) (h : gX7_takeWord S a1 = some (r, S')) : zMet l cW zS0 yX7_takeWord cX7_takeWord 2 (some .boolean) 8 215 [.ref 2, .ref a1] S (some (.int r)) S' := by
  refine zmeth (by decide +kernel) (by rfl) (fun K hKl C hR => ?_)
  show V K 0 [some (.ref 2), some (.ref a1)] [] S
  unfold gX7_takeWord at h
  refine V_aload_n (pc := 0) C dX7_takeWord_0 rfl rfl ?_
  refine V_aload_n (pc := 1) C dX7_takeWord_1 rfl rfl ?_
  obtain ⟨r1, er1, h⟩ := b1_some h
  refine V_callV (As := [.ref a1]) (pc := 2) C (mX7_isWord _ ha1 er1) zm_X7_isWord zi_X7_isWord ml_RX7_57 z1_cW_7 rfl ⟨Nat.le_of_ble_eq_true rfl, Nat.le_of_ble_eq_true rfl⟩ rfl rfl (Nat.le_of_ble_eq_true rfl) dX7_takeWord_2 ?_
  show V K 5 [some (.ref 2), some (.ref a1)] [.int r1] S
  refine V_if_ne (tgt := 14) (pc := 5) C dX7_takeWord_5 (by decide) (fun hc => ?_) (fun hc => ?_)
  · have h := it_f hc h
    refine V_aload_n (pc := 14) C dX7_takeWord_14 rfl rfl ?_
    obtain ⟨S3, euS3, h⟩ := b1_some h
    refine V_callV (As := []) (pc := 15) C (mX7_step _ euS3) zm_X7_step zi_X7_step ml_RX7_88 z1_cW_7 rfl ⟨Nat.le_of_ble_eq_true rfl, Nat.le_of_ble_eq_true rfl⟩ rfl rfl (Nat.le_of_ble_eq_true rfl) dX7_takeWord_15 ?_
    show V K 18 [some (.ref 2), some (.ref a1)] [] S3
    refine V_iconst (pc := 18) C dX7_takeWord_18 kc_i_1 ?_
    cases h
    exact hR 19 _ ⟨_, rfl, zB1⟩ dX7_takeWord_19
  · have h := it_t hc h
    refine V_aload_n (pc := 8) C dX7_takeWord_8 rfl rfl ?_
    refine V_iconst (pc := 9) C dX7_takeWord_9 kc_i_1 ?_
    obtain ⟨r4, S5, er4, h⟩ := b2_some h
    refine V_callV (As := [.int (1 : Int32)]) (pc := 10) C (mX7_wrong _ er4) zm_X7_wrong zi_X7_wrong ml_RX7_80 z1_cW_7 rfl ⟨Nat.le_of_ble_eq_true rfl, Nat.le_of_ble_eq_true rfl⟩ rfl rfl (Nat.le_of_ble_eq_true rfl) dX7_takeWord_10 ?_
    show V K 13 [some (.ref 2), some (.ref a1)] [.int r4] S5
    obtain ⟨k6, h⟩ := ck_some h
    cases h
    exact hR 13 _ ⟨_, rfl, isB_nar k6⟩ dX7_takeWord_13
set_option maxRecDepth 100000 in
theorem mX9_addWhole (l : Launch) {S : zM} {q : Nat} {a1 : Int32} {S' : zM} (hq : zob cW 9 q) (h : gX9_addWhole S q a1 = some S') : zMet l cW zS0 yX9_addWhole cX9_addWhole 2 (none) 0 0 [.ref q, .int a1] S none S' := by
  refine zmeth (by decide +kernel) (by rfl) (fun K hKl C hR => ?_)
  show V K 0 [some (.ref q), some (.int a1)] [] S
  unfold gX9_addWhole at h
  refine V_aload_n (pc := 0) C dX9_addWhole_0 rfl rfl ?_
  refine V_getI (pc := 1) C hq fl_RX9_38 (by decide) dX9_addWhole_1 ?_
  refine V_bipush (pc := 4) C dX9_addWhole_4 kc_b_6 ?_
  refine V_icmp_ge (tgt := 29) (pc := 6) C dX9_addWhole_6 (by decide) (fun hc => ?_) (fun hc => ?_)
  · have h := it_t hc h
    cases h
    exact hR 29 _ rfl dX9_addWhole_29
  · have h := it_f hc h
    refine V_aload_n (pc := 9) C dX9_addWhole_9 rfl rfl ?_
    refine V_getF (p1 := (q + 4)) (pc := 10) C hq fl_RX9_21 rfl (zf_cW_9_3 hq) dX9_addWhole_10 ?_
    refine V_aload_n (pc := 13) C dX9_addWhole_13 rfl rfl ?_
    refine V_getI (pc := 14) C hq fl_RX9_38 (by decide) dX9_addWhole_14 ?_
    refine V_iload_n (pc := 17) C dX9_addWhole_17 rfl rfl ?_
    obtain ⟨k1, h⟩ := ck_some h
    refine V_iast (pc := 18) C (za_cW_9_3 hq) k1 dX9_addWhole_18 ?_
    refine V_aload_n (pc := 19) C dX9_addWhole_19 rfl rfl ?_
    refine V_dup (pc := 20) C dX9_addWhole_20 rfl ?_
    refine V_getI (pc := 21) C hq fl_RX9_38 (by decide) dX9_addWhole_21 ?_
    refine V_iconst (pc := 24) C dX9_addWhole_24 kc_i_1 ?_
    refine V_iadd (pc := 25) C dX9_addWhole_25 ?_
    refine V_putI (pc := 26) C hq fp_RX9_38 rfl rfl dX9_addWhole_26 ?_
    obtain ⟨S2, eS2, h⟩ := lt_some h
    refine V_nmS eS2 ?_
    cases h
    exact hR 29 _ rfl dX9_addWhole_29
set_option maxRecDepth 100000 in
theorem mX7_readNoise_L22 {K : zK} (C : zC K cX7_readNoise yX7_readNoise.cls 3 2 43 cW) {v1 : Nat} (hv1 : zob cW 9 v1) : ∀ (f : Nat) (S : zM) (v2 : Int32) (r : Int32) (S' : zM), gX7_readNoise_L22 v1 f S v2 = some (r, S') → zR K cX7_readNoise (some .boolean) S' (some (.int r)) → V K 22 [some (.ref 2), some (.ref v1), some (.int v2)] [] S := by
  intro f
  induction f with
  | zero => intro S v2 r S' h hR; cases h
  | succ n ih =>
    intro S v2 r S' h hR
    unfold gX7_readNoise_L22 at h
    refine V_iload_n (pc := 22) C dX7_readNoise_22 rfl rfl ?_
    refine V_aload_n (pc := 23) C dX7_readNoise_23 rfl rfl ?_
    refine V_getI (pc := 24) C z1_cW_7 fl_RX7_52 (by decide) dX7_readNoise_24 ?_
    refine V_icmp_ge (tgt := 100) (pc := 27) C dX7_readNoise_27 (by decide) (fun hc => ?_) (fun hc => ?_)
    · have h := it_t hc h
      refine V_iconst (pc := 100) C dX7_readNoise_100 kc_i_1 ?_
      cases h
      exact hR 101 _ ⟨_, rfl, zB1⟩ dX7_readNoise_101
    · have h := it_f hc h
      refine V_aload_n (pc := 30) C dX7_readNoise_30 rfl rfl ?_
      refine V_getF (p1 := 3) (pc := 31) C z1_cW_7 fl_RX7_9 rfl (zf_cW_7_0 z1_cW_7) dX7_readNoise_31 ?_
      refine V_aload_n (pc := 34) C dX7_readNoise_34 rfl rfl ?_
      refine V_getI (pc := 35) C z1_cW_7 fl_RX7_91 (by decide) dX7_readNoise_35 ?_
      obtain ⟨k5, h⟩ := ck_some h
      refine V_iald (pc := 38) C (za_cW_7_0 z1_cW_7) k5 dX7_readNoise_38 ?_
      refine V_iconst (pc := 39) C dX7_readNoise_39 kc_i_2 ?_
      refine V_icmp_ne (tgt := 100) (pc := 40) C dX7_readNoise_40 (by decide) (fun hc => ?_) (fun hc => ?_)
      · have h := it_f hc h
        refine V_iconst (pc := 100) C dX7_readNoise_100 kc_i_1 ?_
        cases h
        exact hR 101 _ ⟨_, rfl, zB1⟩ dX7_readNoise_101
      · have h := it_t hc h
        refine V_aload_n (pc := 43) C dX7_readNoise_43 rfl rfl ?_
        refine V_getF (p1 := 5) (pc := 44) C z1_cW_7 fl_RX7_18 rfl (zf_cW_7_2 z1_cW_7) dX7_readNoise_44 ?_
        refine V_aload_n (pc := 47) C dX7_readNoise_47 rfl rfl ?_
        refine V_getI (pc := 48) C z1_cW_7 fl_RX7_91 (by decide) dX7_readNoise_48 ?_
        obtain ⟨k6, h⟩ := ck_some h
        refine V_lald (pc := 51) C (za_cW_7_2 z1_cW_7) k6 dX7_readNoise_51 ?_
        refine V_ldc2 (pc := 52) C dX7_readNoise_52 kl_RX7_220 ?_
        refine V_lcmp_gt (tgt := 74) (pc := 55) C dX7_readNoise_55 dX7_readNoise_56 (by decide) (fun hc => ?_) (fun hc => ?_)
        · have h := it_t hc h
          refine V_aload_n (pc := 74) C dX7_readNoise_74 rfl rfl ?_
          refine V_iconst (pc := 75) C dX7_readNoise_75 kc_i_0 ?_
          refine V_bipush (pc := 76) C dX7_readNoise_76 kc_b_9 ?_
          obtain ⟨r7, S8, er7, h⟩ := b2_some h
          refine V_callV (As := [.int (0 : Int32), .int (9 : Int32)]) (pc := 78) C (mX7_takeWhole _ er7) zm_X7_takeWhole zi_X7_takeWhole ml_RX7_158 z1_cW_7 rfl ⟨Nat.le_of_ble_eq_true rfl, Nat.le_of_ble_eq_true rfl⟩ rfl rfl (Nat.le_of_ble_eq_true rfl) dX7_readNoise_78 ?_
          show V K 81 [some (.ref 2), some (.ref v1), some (.int v2)] [.int r7] S8
          refine V_if_ne (tgt := 86) (pc := 81) C dX7_readNoise_81 (by decide) (fun hc => ?_) (fun hc => ?_)
          · have h := it_f hc h
            refine V_aload_n (pc := 86) C dX7_readNoise_86 rfl rfl ?_
            refine V_aload_n (pc := 87) C dX7_readNoise_87 rfl rfl ?_
            refine V_getI (pc := 88) C z1_cW_7 fl_RX7_155 (by decide) dX7_readNoise_88 ?_
            obtain ⟨S10, euS10, h⟩ := b1_some h
            refine V_callV (As := [.int (gI S8 2 5)]) (pc := 91) C (mX9_addWhole _ hv1 euS10) zm_X9_addWhole zi_X9_addWhole ml_RX7_216 hv1 rfl ⟨Nat.le_of_ble_eq_true rfl, Nat.le_of_ble_eq_true rfl⟩ rfl rfl (Nat.le_of_ble_eq_true rfl) dX7_readNoise_91 ?_
            show V K 94 [some (.ref 2), some (.ref v1), some (.int v2)] [] S10
            refine V_iinc (L' := [some (.ref 2), some (.ref v1), some (.int (v2 + (1 : Int32)))]) (v := (v2 + (1 : Int32))) (pc := 94) C dX7_readNoise_94 rfl (congrArg (v2 + ·) kc_i_1) (by decide) rfl ?_
            refine V_goto (tgt := 22) (pc := 97) C dX7_readNoise_97 (by decide) ?_
            exact V_mask [true, true, true] (ih _ _ _ _ h hR)
          · have h := it_t hc h
            refine V_iconst (pc := 84) C dX7_readNoise_84 kc_i_0 ?_
            cases h
            exact hR 85 _ ⟨_, rfl, zB0⟩ dX7_readNoise_85
        · have h := it_f hc h
          refine V_aload_n (pc := 59) C dX7_readNoise_59 rfl rfl ?_
          refine V_getI (pc := 60) C hv1 fl_RX7_222 (by decide) dX7_readNoise_60 ?_
          refine V_bipush (pc := 63) C dX7_readNoise_63 kc_b_6 ?_
          refine V_icmp_lt (tgt := 74) (pc := 65) C dX7_readNoise_65 (by decide) (fun hc => ?_) (fun hc => ?_)
          · have h := it_t hc h
            refine V_aload_n (pc := 74) C dX7_readNoise_74 rfl rfl ?_
            refine V_iconst (pc := 75) C dX7_readNoise_75 kc_i_0 ?_
            refine V_bipush (pc := 76) C dX7_readNoise_76 kc_b_9 ?_
            obtain ⟨r11, S12, er11, h⟩ := b2_some h
            refine V_callV (As := [.int (0 : Int32), .int (9 : Int32)]) (pc := 78) C (mX7_takeWhole _ er11) zm_X7_takeWhole zi_X7_takeWhole ml_RX7_158 z1_cW_7 rfl ⟨Nat.le_of_ble_eq_true rfl, Nat.le_of_ble_eq_true rfl⟩ rfl rfl (Nat.le_of_ble_eq_true rfl) dX7_readNoise_78 ?_
            show V K 81 [some (.ref 2), some (.ref v1), some (.int v2)] [.int r11] S12
            refine V_if_ne (tgt := 86) (pc := 81) C dX7_readNoise_81 (by decide) (fun hc => ?_) (fun hc => ?_)
            · have h := it_f hc h
              refine V_aload_n (pc := 86) C dX7_readNoise_86 rfl rfl ?_
              refine V_aload_n (pc := 87) C dX7_readNoise_87 rfl rfl ?_
              refine V_getI (pc := 88) C z1_cW_7 fl_RX7_155 (by decide) dX7_readNoise_88 ?_
              obtain ⟨S14, euS14, h⟩ := b1_some h
              refine V_callV (As := [.int (gI S12 2 5)]) (pc := 91) C (mX9_addWhole _ hv1 euS14) zm_X9_addWhole zi_X9_addWhole ml_RX7_216 hv1 rfl ⟨Nat.le_of_ble_eq_true rfl, Nat.le_of_ble_eq_true rfl⟩ rfl rfl (Nat.le_of_ble_eq_true rfl) dX7_readNoise_91 ?_
              show V K 94 [some (.ref 2), some (.ref v1), some (.int v2)] [] S14
              refine V_iinc (L' := [some (.ref 2), some (.ref v1), some (.int (v2 + (1 : Int32)))]) (v := (v2 + (1 : Int32))) (pc := 94) C dX7_readNoise_94 rfl (congrArg (v2 + ·) kc_i_1) (by decide) rfl ?_
              refine V_goto (tgt := 22) (pc := 97) C dX7_readNoise_97 (by decide) ?_
              exact V_mask [true, true, true] (ih _ _ _ _ h hR)
            · have h := it_t hc h
              refine V_iconst (pc := 84) C dX7_readNoise_84 kc_i_0 ?_
              cases h
              exact hR 85 _ ⟨_, rfl, zB0⟩ dX7_readNoise_85
          · have h := it_f hc h
            refine V_aload_n (pc := 68) C dX7_readNoise_68 rfl rfl ?_
            refine V_iconst (pc := 69) C dX7_readNoise_69 kc_i_5 ?_
            obtain ⟨r15, S16, er15, h⟩ := b2_some h
            refine V_callV (As := [.int (5 : Int32)]) (pc := 70) C (mX7_wrong _ er15) zm_X7_wrong zi_X7_wrong ml_RX7_80 z1_cW_7 rfl ⟨Nat.le_of_ble_eq_true rfl, Nat.le_of_ble_eq_true rfl⟩ rfl rfl (Nat.le_of_ble_eq_true rfl) dX7_readNoise_70 ?_
            show V K 73 [some (.ref 2), some (.ref v1), some (.int v2)] [.int r15] S16
            obtain ⟨k17, h⟩ := ck_some h
            cases h
            exact hR 73 _ ⟨_, rfl, isB_nar k17⟩ dX7_readNoise_73
set_option maxRecDepth 100000 in
theorem mX7_readNoise (l : Launch) {S : zM} {a1 : Nat} {r : Int32} {S' : zM} (ha1 : zob cW 9 a1) (h : gX7_readNoise S a1 = some (r, S')) : zMet l cW zS0 yX7_readNoise cX7_readNoise 3 (some .boolean) 2 43 [.ref 2, .ref a1] S (some (.int r)) S' := by
  refine zmeth (by decide +kernel) (by rfl) (fun K hKl C hR => ?_)
  show V K 0 [some (.ref 2), some (.ref a1), none] [] S
  unfold gX7_readNoise at h
  refine V_aload_n (pc := 0) C dX7_readNoise_0 rfl rfl ?_
  refine V_iconst (pc := 1) C dX7_readNoise_1 kc_i_1 ?_
  refine V_bipush (pc := 2) C dX7_readNoise_2 kc_b_9 ?_
  obtain ⟨r1, S2, er1, h⟩ := b2_some h
  refine V_callV (As := [.int (1 : Int32), .int (9 : Int32)]) (pc := 4) C (mX7_takeWhole _ er1) zm_X7_takeWhole zi_X7_takeWhole ml_RX7_158 z1_cW_7 rfl ⟨Nat.le_of_ble_eq_true rfl, Nat.le_of_ble_eq_true rfl⟩ rfl rfl (Nat.le_of_ble_eq_true rfl) dX7_readNoise_4 ?_
  show V K 7 [some (.ref 2), some (.ref a1), none] [.int r1] S2
  refine V_if_ne (tgt := 12) (pc := 7) C dX7_readNoise_7 (by decide) (fun hc => ?_) (fun hc => ?_)
  · have h := it_f hc h
    refine V_aload_n (pc := 12) C dX7_readNoise_12 rfl rfl ?_
    refine V_aload_n (pc := 13) C dX7_readNoise_13 rfl rfl ?_
    refine V_getI (pc := 14) C z1_cW_7 fl_RX7_155 (by decide) dX7_readNoise_14 ?_
    obtain ⟨S4, euS4, h⟩ := b1_some h
    refine V_callV (As := [.int (gI S2 2 5)]) (pc := 17) C (mX9_addWhole _ ha1 euS4) zm_X9_addWhole zi_X9_addWhole ml_RX7_216 ha1 rfl ⟨Nat.le_of_ble_eq_true rfl, Nat.le_of_ble_eq_true rfl⟩ rfl rfl (Nat.le_of_ble_eq_true rfl) dX7_readNoise_17 ?_
    show V K 20 [some (.ref 2), some (.ref a1), none] [] S4
    refine V_iconst (pc := 20) C dX7_readNoise_20 kc_i_0 ?_
    refine V_istore_n (L' := [some (.ref 2), some (.ref a1), some (.int (0 : Int32))]) (pc := 21) C dX7_readNoise_21 rfl (by decide) rfl ?_
    exact V_mask [true, true, true] (mX7_readNoise_L22 C ha1 FU _ _ _ _ h hR)
  · have h := it_t hc h
    refine V_iconst (pc := 10) C dX7_readNoise_10 kc_i_0 ?_
    cases h
    exact hR 11 _ ⟨_, rfl, zB0⟩ dX7_readNoise_11
