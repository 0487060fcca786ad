set_option maxRecDepth 100000 in
theorem mX11_compareLeads_L26 {K : zK} (C : zC K cX11_compareLeads yX11_compareLeads.cls 11 3 67 cW) {S : zM} {v1 : Nat} {v2 : Nat} {v3 : Int32} {v4 : Int32} (hv1 : zob cW 4 v1) (hv2 : zob cW 4 v2) : ∀ (f : Nat) (v5 : Int32) (v6 : Int32) (o5 : Int32), gX11_compareLeads_L26 S v1 v2 v3 v4 f v5 v6 = some o5 → V K 93 [some (.ref 0), some (.ref v1), some (.ref v2), some (.int v3), some (.int v4), some (.int o5), none, none, none, none, none] [] S → V K 26 [some (.ref 0), some (.ref v1), some (.ref v2), some (.int v3), some (.int v4), some (.int v5), some (.int v6), none, none, none, none] [] S := by
  intro f
  induction f with
  | zero => intro v5 v6 o5 h hx; cases h
  | succ n ih =>
    intro v5 v6 o5 h hx
    unfold gX11_compareLeads_L26 at h
    refine V_iload (pc := 26) C dX11_compareLeads_26 rfl ?_
    refine V_iconst (pc := 28) C dX11_compareLeads_28 kc_i_1 ?_
    refine V_icmp_gt (tgt := 93) (pc := 29) C dX11_compareLeads_29 (by decide) (fun hc => ?_) (fun hc => ?_)
    · have h := it_t hc h
      cases h
      exact V_mask [true, true, true, true, true, true, false, false, false, false, false] hx
    · have h := it_f hc h
      refine V_aload_n (pc := 32) C dX11_compareLeads_32 rfl rfl ?_
      refine V_iload_n (pc := 33) C dX11_compareLeads_33 rfl rfl ?_
      refine V_iconst (pc := 34) C dX11_compareLeads_34 kc_i_0 ?_
      refine V_iload (pc := 35) C dX11_compareLeads_35 rfl ?_
      obtain ⟨r1, er1, h⟩ := b1_some h
      refine V_callV (As := [.int v3, .int (0 : Int32), .int v6]) (pc := 37) C (mX4_pairOdds _ hv1 er1) zm_X4_pairOdds zi_X4_pairOdds ml_RX11_344 hv1 rfl ⟨Nat.le_of_ble_eq_true rfl, Nat.le_of_ble_eq_true rfl⟩ rfl rfl (Nat.le_of_ble_eq_true rfl) dX11_compareLeads_37 ?_
      show V K 40 [some (.ref 0), some (.ref v1), some (.ref v2), some (.int v3), some (.int v4), some (.int v5), some (.int v6), none, none, none, none] [.int r1] S
      refine V_i2l (pc := 40) C dX11_compareLeads_40 ?_
      refine V_aload_n (pc := 41) C dX11_compareLeads_41 rfl rfl ?_
      obtain ⟨r2, er2, h⟩ := b1_some h
      refine V_callV (As := []) (pc := 42) C (mX4_pairs _ hv2 er2) zm_X4_pairs zi_X4_pairs ml_RX11_348 hv2 rfl ⟨Nat.le_of_ble_eq_true rfl, Nat.le_of_ble_eq_true rfl⟩ rfl rfl (Nat.le_of_ble_eq_true rfl) dX11_compareLeads_42 ?_
      show V K 45 [some (.ref 0), some (.ref v1), some (.ref v2), some (.int v3), some (.int v4), some (.int v5), some (.int v6), none, none, none, none] [.int r2, .long r1.toInt64] S
      refine V_i2l (pc := 45) C dX11_compareLeads_45 ?_
      refine V_lmul (pc := 46) C dX11_compareLeads_46 ?_
      refine V_lstore (L' := [some (.ref 0), some (.ref v1), some (.ref v2), some (.int v3), some (.int v4), some (.int v5), some (.int v6), some (.long (r1.toInt64 * r2.toInt64)), none, none, none]) (pc := 47) C dX11_compareLeads_47 (by decide) rfl ?_
      refine V_aload_n (pc := 49) C dX11_compareLeads_49 rfl rfl ?_
      refine V_iload (pc := 50) C dX11_compareLeads_50 rfl ?_
      refine V_iconst (pc := 52) C dX11_compareLeads_52 kc_i_0 ?_
      refine V_iload (pc := 53) C dX11_compareLeads_53 rfl ?_
      obtain ⟨r3, er3, h⟩ := b1_some h
      refine V_callV (As := [.int v4, .int (0 : Int32), .int v6]) (pc := 55) C (mX4_pairOdds _ hv2 er3) zm_X4_pairOdds zi_X4_pairOdds ml_RX11_344 hv2 rfl ⟨Nat.le_of_ble_eq_true rfl, Nat.le_of_ble_eq_true rfl⟩ rfl rfl (Nat.le_of_ble_eq_true rfl) dX11_compareLeads_55 ?_
      show V K 58 [some (.ref 0), some (.ref v1), some (.ref v2), some (.int v3), some (.int v4), some (.int v5), some (.int v6), some (.long (r1.toInt64 * r2.toInt64)), none, none, none] [.int r3] S
      refine V_i2l (pc := 58) C dX11_compareLeads_58 ?_
      refine V_aload_n (pc := 59) C dX11_compareLeads_59 rfl rfl ?_
      obtain ⟨r4, er4, h⟩ := b1_some h
      refine V_callV (As := []) (pc := 60) C (mX4_pairs _ hv1 er4) zm_X4_pairs zi_X4_pairs ml_RX11_348 hv1 rfl ⟨Nat.le_of_ble_eq_true rfl, Nat.le_of_ble_eq_true rfl⟩ rfl rfl (Nat.le_of_ble_eq_true rfl) dX11_compareLeads_60 ?_
      show V K 63 [some (.ref 0), some (.ref v1), some (.ref v2), some (.int v3), some (.int v4), some (.int v5), some (.int v6), some (.long (r1.toInt64 * r2.toInt64)), none, none, none] [.int r4, .long r3.toInt64] S
      refine V_i2l (pc := 63) C dX11_compareLeads_63 ?_
      refine V_lmul (pc := 64) C dX11_compareLeads_64 ?_
      refine V_lstore (L' := [some (.ref 0), some (.ref v1), some (.ref v2), some (.int v3), some (.int v4), some (.int v5), some (.int v6), some (.long (r1.toInt64 * r2.toInt64)), none, some (.long (r3.toInt64 * r4.toInt64)), none]) (pc := 65) C dX11_compareLeads_65 (by decide) rfl ?_
      refine V_iload (pc := 67) C dX11_compareLeads_67 rfl ?_
      refine V_if_eq (tgt := 84) (pc := 69) C dX11_compareLeads_69 (by decide) (fun hc => ?_) (fun hc => ?_)
      · have h := it_t hc h
        refine V_iconst (pc := 84) C dX11_compareLeads_84 kc_i_0 ?_
        refine V_istore (L' := [some (.ref 0), some (.ref v1), some (.ref v2), some (.int v3), some (.int v4), some (.int (0 : Int32)), some (.int v6), some (.long (r1.toInt64 * r2.toInt64)), none, some (.long (r3.toInt64 * r4.toInt64)), none]) (pc := 85) C dX11_compareLeads_85 (by decide) rfl ?_
        refine V_iinc (L' := [some (.ref 0), some (.ref v1), some (.ref v2), some (.int v3), some (.int v4), some (.int (0 : Int32)), some (.int (v6 + (1 : Int32))), some (.long (r1.toInt64 * r2.toInt64)), none, some (.long (r3.toInt64 * r4.toInt64)), none]) (v := (v6 + (1 : Int32))) (pc := 87) C dX11_compareLeads_87 rfl (congrArg (v6 + ·) kc_i_1) (by decide) rfl ?_
        refine V_goto (tgt := 26) (pc := 90) C dX11_compareLeads_90 (by decide) ?_
        exact V_mask [true, true, true, true, true, true, true, false, false, false, false] (ih _ _ _ h hx)
      · have h := it_f hc h
        refine V_lload (pc := 72) C dX11_compareLeads_72 rfl ?_
        refine V_lload (pc := 74) C dX11_compareLeads_74 rfl ?_
        refine V_lcmp_ne (tgt := 84) (pc := 76) C dX11_compareLeads_76 dX11_compareLeads_77 (by decide) (fun hc => ?_) (fun hc => ?_)
        · have h := it_f hc h
          refine V_iconst (pc := 84) C dX11_compareLeads_84 kc_i_0 ?_
          refine V_istore (L' := [some (.ref 0), some (.ref v1), some (.ref v2), some (.int v3), some (.int v4), some (.int (0 : Int32)), some (.int v6), some (.long (r1.toInt64 * r2.toInt64)), none, some (.long (r3.toInt64 * r4.toInt64)), none]) (pc := 85) C dX11_compareLeads_85 (by decide) rfl ?_
          refine V_iinc (L' := [some (.ref 0), some (.ref v1), some (.ref v2), some (.int v3), some (.int v4), some (.int (0 : Int32)), some (.int (v6 + (1 : Int32))), some (.long (r1.toInt64 * r2.toInt64)), none, some (.long (r3.toInt64 * r4.toInt64)), none]) (v := (v6 + (1 : Int32))) (pc := 87) C dX11_compareLeads_87 rfl (congrArg (v6 + ·) kc_i_1) (by decide) rfl ?_
          refine V_goto (tgt := 26) (pc := 90) C dX11_compareLeads_90 (by decide) ?_
          exact V_mask [true, true, true, true, true, true, true, false, false, false, false] (ih _ _ _ h hx)
        · have h := it_t hc h
          refine V_iconst (pc := 80) C dX11_compareLeads_80 kc_i_1 ?_
          refine V_goto (tgt := 85) (pc := 81) C dX11_compareLeads_81 (by decide) ?_
          refine V_istore (L' := [some (.ref 0), some (.ref v1), some (.ref v2), some (.int v3), some (.int v4), some (.int (1 : Int32)), some (.int v6), some (.long (r1.toInt64 * r2.toInt64)), none, some (.long (r3.toInt64 * r4.toInt64)), none]) (pc := 85) C dX11_compareLeads_85 (by decide) rfl ?_
          refine V_iinc (L' := [some (.ref 0), some (.ref v1), some (.ref v2), some (.int v3), some (.int v4), some (.int (1 : Int32)), some (.int (v6 + (1 : Int32))), some (.long (r1.toInt64 * r2.toInt64)), none, some (.long (r3.toInt64 * r4.toInt64)), none]) (v := (v6 + (1 : Int32))) (pc := 87) C dX11_compareLeads_87 rfl (congrArg (v6 + ·) kc_i_1) (by decide) rfl ?_
          refine V_goto (tgt := 26) (pc := 90) C dX11_compareLeads_90 (by decide) ?_
          exact V_mask [true, true, true, true, true, true, true, false, false, false, false] (ih _ _ _ h hx)
set_option maxRecDepth 100000 in
theorem mX11_compareLeads_L13 {K : zK} (C : zC K cX11_compareLeads yX11_compareLeads.cls 11 3 67 cW) {v1 : Nat} {v2 : Nat} {v3 : Int32} (hv1 : zob cW 4 v1) (hv2 : zob cW 4 v2) : ∀ (f : Nat) (S : zM) (v4 : Int32) (S' : zM), gX11_compareLeads_L13 v1 v2 v3 f S v4 = some S' → V K 112 [some (.ref 0), some (.ref v1), some (.ref v2), some (.int v3), none, none, none, none, none, none, none] [] S' → V K 13 [some (.ref 0), some (.ref v1), some (.ref v2), some (.int v3), some (.int v4), none, none, none, none, none, none] [] S := by
  intro f
  induction f with
  | zero => intro S v4 S' h hx; cases h
  | succ n ih =>
    intro S v4 S' h hx
    unfold gX11_compareLeads_L13 at h
    refine V_iload (pc := 13) C dX11_compareLeads_13 rfl ?_
    refine V_bipush (pc := 15) C dX11_compareLeads_15 kc_b_11 ?_
    refine V_icmp_gt (tgt := 112) (pc := 17) C dX11_compareLeads_17 (by decide) (fun hc => ?_) (fun hc => ?_)
    · have h := it_t hc h
      cases h
      exact V_mask [true, true, true, true, false, false, false, false, false, false, false] hx
    · have h := it_f hc h
      refine V_iconst (pc := 20) C dX11_compareLeads_20 kc_i_1 ?_
      refine V_istore (L' := [some (.ref 0), some (.ref v1), some (.ref v2), some (.int v3), some (.int v4), some (.int (1 : Int32)), none, none, none, none, none]) (pc := 21) C dX11_compareLeads_21 (by decide) rfl ?_
      refine V_iconst (pc := 23) C dX11_compareLeads_23 kc_i_0 ?_
      refine V_istore (L' := [some (.ref 0), some (.ref v1), some (.ref v2), some (.int v3), some (.int v4), some (.int (1 : Int32)), some (.int (0 : Int32)), none, none, none, none]) (pc := 24) C dX11_compareLeads_24 (by decide) rfl ?_
      obtain ⟨w5, e26, h⟩ := b1_some h
      refine V_mask [true, true, true, true, true, true, true, false, false, false, false] (mX11_compareLeads_L26 C hv1 hv2 FU _ _ _ e26 ?_)
      refine V_aload_n (pc := 93) C dX11_compareLeads_93 rfl rfl ?_
      refine V_getF (p1 := 242) (pc := 94) C z1_cW_11 fl_RX11_45 rfl (zf_cW_11_7 z1_cW_11) dX11_compareLeads_94 ?_
      refine V_iload_n (pc := 97) C dX11_compareLeads_97 rfl rfl ?_
      refine V_iload (pc := 98) C dX11_compareLeads_98 rfl ?_
      obtain ⟨r6, er6, h⟩ := b1_some h
      refine V_callS (As := [.int v3, .int v4]) (pc := 100) C (mX11_leadPlace _ er6) zm_X11_leadPlace zs_X11_leadPlace ml_RX11_437 ⟨Nat.le_of_ble_eq_true rfl, Nat.le_of_ble_eq_true rfl⟩ rfl rfl (Nat.le_of_ble_eq_true rfl) dX11_compareLeads_100 ?_
      show V K 103 [some (.ref 0), some (.ref v1), some (.ref v2), some (.int v3), some (.int v4), some (.int w5), none, none, none, none, none] [.int r6, .ref 242] S
      refine V_iload (pc := 103) C dX11_compareLeads_103 rfl ?_
      obtain ⟨k7, h⟩ := ck_some h
      refine V_zast (pc := 105) C (za_cW_11_7 z1_cW_11) k7 dX11_compareLeads_105 ?_
      refine V_iinc (L' := [some (.ref 0), some (.ref v1), some (.ref v2), some (.int v3), some (.int (v4 + (1 : Int32))), some (.int w5), none, none, none, none, none]) (v := (v4 + (1 : Int32))) (pc := 106) C dX11_compareLeads_106 rfl (congrArg (v4 + ·) kc_i_1) (by decide) rfl ?_
      refine V_goto (tgt := 13) (pc := 109) C dX11_compareLeads_109 (by decide) ?_
      exact V_mask [true, true, true, true, true, false, false, false, false, false, false] (ih _ _ _ h hx)
set_option maxRecDepth 100000 in
theorem mX11_compareLeads_L3 {K : zK} (C : zC K cX11_compareLeads yX11_compareLeads.cls 11 3 67 cW) {v1 : Nat} {v2 : Nat} (hv1 : zob cW 4 v1) (hv2 : zob cW 4 v2) : ∀ (f : Nat) (S : zM) (v3 : Int32) (S' : zM), gX11_compareLeads_L3 v1 v2 f S v3 = some S' → zR K cX11_compareLeads (none) S' none → V K 3 [some (.ref 0), some (.ref v1), some (.ref v2), some (.int v3), none, none, none, none, none, none, none] [] S := by
  intro f
  induction f with
  | zero => intro S v3 S' h hR; cases h
  | succ n ih =>
    intro S v3 S' h hR
    unfold gX11_compareLeads_L3 at h
    refine V_iload_n (pc := 3) C dX11_compareLeads_3 rfl rfl ?_
    refine V_bipush (pc := 4) C dX11_compareLeads_4 kc_b_11 ?_
    refine V_icmp_gt (tgt := 118) (pc := 6) C dX11_compareLeads_6 (by decide) (fun hc => ?_) (fun hc => ?_)
    · have h := it_t hc h
      cases h
      exact hR 118 _ rfl dX11_compareLeads_118
    · have h := it_f hc h
      refine V_bipush (pc := 9) C dX11_compareLeads_9 kc_b_m11 ?_
      refine V_istore (L' := [some (.ref 0), some (.ref v1), some (.ref v2), some (.int v3), some (.int (-11 : Int32)), none, none, none, none, none, none]) (pc := 11) C dX11_compareLeads_11 (by decide) rfl ?_
      obtain ⟨S8, e13, h⟩ := b1_some h
      refine V_mask [true, true, true, true, true, false, false, false, false, false, false] (mX11_compareLeads_L13 C hv1 hv2 FU _ _ _ e13 ?_)
      refine V_iinc (L' := [some (.ref 0), some (.ref v1), some (.ref v2), some (.int (v3 + (1 : Int32))), none, none, none, none, none, none, none]) (v := (v3 + (1 : Int32))) (pc := 112) C dX11_compareLeads_112 rfl (congrArg (v3 + ·) kc_i_1) (by decide) rfl ?_
      refine V_goto (tgt := 3) (pc := 115) C dX11_compareLeads_115 (by decide) ?_
      exact V_mask [true, true, true, true, false, false, false, false, false, false, false] (ih _ _ _ h hR)
set_option maxRecDepth 100000 in
theorem mX11_compareLeads (l : Launch) {S : zM} {a1 : Nat} {a2 : Nat} {S' : zM} (ha1 : zob cW 4 a1) (ha2 : zob cW 4 a2) (h : gX11_compareLeads S a1 a2 = some S') : zMet l cW zS0 yX11_compareLeads cX11_compareLeads 11 (none) 3 67 [.ref 0, .ref a1, .ref a2] S none S' := by
  refine zmeth (by decide +kernel) (by rfl) (fun K hKl C hR => ?_)
  show V K 0 [some (.ref 0), some (.ref a1), some (.ref a2), none, none, none, none, none, none, none, none] [] S
  unfold gX11_compareLeads at h
  refine V_bipush (pc := 0) C dX11_compareLeads_0 kc_b_m11 ?_
  refine V_istore_n (L' := [some (.ref 0), some (.ref a1), some (.ref a2), some (.int (-11 : Int32)), none, none, none, none, none, none, none]) (pc := 2) C dX11_compareLeads_2 rfl (by decide) rfl ?_
  exact V_mask [true, true, true, true, false, false, false, false, false, false, false] (mX11_compareLeads_L3 C ha1 ha2 FU _ _ _ h hR)
set_option maxRecDepth 100000 in
theorem mX11_pairParted_L25 {K : zK} (C : zC K cX11_pairParted yX11_pairParted.cls 9 4 97 cW) {S : zM} {v1 : Nat} {v2 : Nat} {v3 : Int32} {v4 : Int32} {v5 : Int32} (hv1 : zob cW 9 v1) (hv2 : zob cW 9 v2) : ∀ (f : Nat) (v6 : Int32) (out : ((Int32 × zM) ⊕ Unit)), gX11_pairParted_L25 S v1 v2 v3 v4 v5 f v6 = some out → (∀ (_ : Unit), out = .inr () → V K 93 [some (.ref 0), some (.ref v1), some (.ref v2), some (.int v3), some (.int v4), some (.int v5), none, none, none] [] S) → (∀ r' : (Int32 × zM), out = .inl r' → zR K cX11_pairParted (some .int) r'.2 (some (.int (r'.1)))) → V K 25 [some (.ref 0), some (.ref v1), some (.ref v2), some (.int v3), some (.int v4), some (.int v5), some (.int v6), none, none] [] S := by
  intro f
  induction f with
  | zero => intro v6 out h hx hret; cases h
  | succ n ih =>
    intro v6 out h hx hret
    unfold gX11_pairParted_L25 at h
    refine V_iload (pc := 25) C dX11_pairParted_25 rfl ?_
    refine V_iload (pc := 27) C dX11_pairParted_27 rfl ?_
    refine V_icmp_gt (tgt := 93) (pc := 29) C dX11_pairParted_29 (by decide) (fun hc => ?_) (fun hc => ?_)
    · have h := it_t hc h
      cases h
      exact V_mask [true, true, true, true, true, true, false, false, false] (hx () rfl)
    · have h := it_f hc h
      refine V_aload_n (pc := 32) C dX11_pairParted_32 rfl rfl ?_
      refine V_iload (pc := 33) C dX11_pairParted_33 rfl ?_
      obtain ⟨r5, er5, h⟩ := b1_some h
      refine V_callV (As := [.int v6]) (pc := 35) C (mX9_levelAt _ hv1 er5) zm_X9_levelAt zi_X9_levelAt ml_RX11_114 hv1 rfl ⟨Nat.le_of_ble_eq_true rfl, Nat.le_of_ble_eq_true rfl⟩ rfl rfl (Nat.le_of_ble_eq_true rfl) dX11_pairParted_35 ?_
      show V K 38 [some (.ref 0), some (.ref v1), some (.ref v2), some (.int v3), some (.int v4), some (.int v5), some (.int v6), none, none] [.int r5] S
      refine V_aload_n (pc := 38) C dX11_pairParted_38 rfl rfl ?_
      refine V_iload (pc := 39) C dX11_pairParted_39 rfl ?_
      obtain ⟨r6, er6, h⟩ := b1_some h
      refine V_callV (As := [.int v5]) (pc := 41) C (mX9_levelAt _ hv1 er6) zm_X9_levelAt zi_X9_levelAt ml_RX11_114 hv1 rfl ⟨Nat.le_of_ble_eq_true rfl, Nat.le_of_ble_eq_true rfl⟩ rfl rfl (Nat.le_of_ble_eq_true rfl) dX11_pairParted_41 ?_
      show V K 44 [some (.ref 0), some (.ref v1), some (.ref v2), some (.int v3), some (.int v4), some (.int v5), some (.int v6), none, none] [.int r6, .int r5] S
      refine V_isub (pc := 44) C dX11_pairParted_44 ?_
      refine V_istore (L' := [some (.ref 0), some (.ref v1), some (.ref v2), some (.int v3), some (.int v4), some (.int v5), some (.int v6), some (.int (r5 - r6)), none]) (pc := 45) C dX11_pairParted_45 (by decide) rfl ?_
      refine V_aload_n (pc := 47) C dX11_pairParted_47 rfl rfl ?_
      refine V_iload (pc := 48) C dX11_pairParted_48 rfl ?_
      obtain ⟨r7, er7, h⟩ := b1_some h
      refine V_callV (As := [.int v6]) (pc := 50) C (mX9_levelAt _ hv2 er7) zm_X9_levelAt zi_X9_levelAt ml_RX11_114 hv2 rfl ⟨Nat.le_of_ble_eq_true rfl, Nat.le_of_ble_eq_true rfl⟩ rfl rfl (Nat.le_of_ble_eq_true rfl) dX11_pairParted_50 ?_
      show V K 53 [some (.ref 0), some (.ref v1), some (.ref v2), some (.int v3), some (.int v4), some (.int v5), some (.int v6), some (.int (r5 - r6)), none] [.int r7] S
      refine V_aload_n (pc := 53) C dX11_pairParted_53 rfl rfl ?_
      refine V_iload (pc := 54) C dX11_pairParted_54 rfl ?_
      obtain ⟨r8, er8, h⟩ := b1_some h
      refine V_callV (As := [.int v5]) (pc := 56) C (mX9_levelAt _ hv2 er8) zm_X9_levelAt zi_X9_levelAt ml_RX11_114 hv2 rfl ⟨Nat.le_of_ble_eq_true rfl, Nat.le_of_ble_eq_true rfl⟩ rfl rfl (Nat.le_of_ble_eq_true rfl) dX11_pairParted_56 ?_
      show V K 59 [some (.ref 0), some (.ref v1), some (.ref v2), some (.int v3), some (.int v4), some (.int v5), some (.int v6), some (.int (r5 - r6)), none] [.int r8, .int r7] S
      refine V_isub (pc := 59) C dX11_pairParted_59 ?_
      refine V_istore (L' := [some (.ref 0), some (.ref v1), some (.ref v2), some (.int v3), some (.int v4), some (.int v5), some (.int v6), some (.int (r5 - r6)), some (.int (r7 - r8))]) (pc := 60) C dX11_pairParted_60 (by decide) rfl ?_
      refine V_aload_n (pc := 62) C dX11_pairParted_62 rfl rfl ?_
      refine V_getF (p1 := 242) (pc := 63) C z1_cW_11 fl_RX11_45 rfl (zf_cW_11_7 z1_cW_11) dX11_pairParted_63 ?_
      refine V_iload (pc := 66) C dX11_pairParted_66 rfl ?_
      refine V_iload (pc := 68) C dX11_pairParted_68 rfl ?_
      obtain ⟨r9, er9, h⟩ := b1_some h
      refine V_callS (As := [.int (r5 - r6), .int (r7 - r8)]) (pc := 70) C (mX11_leadPlace _ er9) zm_X11_leadPlace zs_X11_leadPlace ml_RX11_437 ⟨Nat.le_of_ble_eq_true rfl, Nat.le_of_ble_eq_true rfl⟩ rfl rfl (Nat.le_of_ble_eq_true rfl) dX11_pairParted_70 ?_
      show V K 73 [some (.ref 0), some (.ref v1), some (.ref v2), some (.int v3), some (.int v4), some (.int v5), some (.int v6), some (.int (r5 - r6)), some (.int (r7 - r8))] [.int r9, .ref 242] S
      obtain ⟨k10, h⟩ := ck_some h
      refine V_zald (pc := 73) C (za_cW_11_7 z1_cW_11) k10 dX11_pairParted_73 ?_
      refine V_if_ne (tgt := 87) (pc := 74) C dX11_pairParted_74 (by decide) (fun hc => ?_) (fun hc => ?_)
      · have h := it_f hc h
        refine V_iinc (L' := [some (.ref 0), some (.ref v1), some (.ref v2), some (.int v3), some (.int v4), some (.int v5), some (.int (v6 + (1 : Int32))), some (.int (r5 - r6)), some (.int (r7 - r8))]) (v := (v6 + (1 : Int32))) (pc := 87) C dX11_pairParted_87 rfl (congrArg (v6 + ·) kc_i_1) (by decide) rfl ?_
        refine V_goto (tgt := 25) (pc := 90) C dX11_pairParted_90 (by decide) ?_
        exact V_mask [true, true, true, true, true, true, true, false, false] (ih _ _ h hx hret)
      · have h := it_t hc h
        refine V_sipush (pc := 77) C dX11_pairParted_77 kc_s_1000 ?_
        refine V_iload (pc := 80) C dX11_pairParted_80 rfl ?_
        refine V_imul (pc := 82) C dX11_pairParted_82 ?_
        refine V_iload (pc := 83) C dX11_pairParted_83 rfl ?_
        refine V_iadd (pc := 85) C dX11_pairParted_85 ?_
        cases h
        exact (hret _ rfl) 86 _ ⟨_, rfl, rfl⟩ dX11_pairParted_86
set_option maxRecDepth 100000 in
theorem mX11_pairParted_L15 {K : zK} (C : zC K cX11_pairParted yX11_pairParted.cls 9 4 97 cW) {S : zM} {v1 : Nat} {v2 : Nat} {v3 : Int32} {v4 : Int32} (hv1 : zob cW 9 v1) (hv2 : zob cW 9 v2) : ∀ (f : Nat) (v5 : Int32) (r : Int32) (S' : zM), gX11_pairParted_L15 S v1 v2 v3 v4 f v5 = some (r, S') → zR K cX11_pairParted (some .int) S' (some (.int r)) → V K 15 [some (.ref 0), some (.ref v1), some (.ref v2), some (.int v3), some (.int v4), some (.int v5), none, none, none] [] S := by
  intro f
  induction f with
  | zero => intro v5 r S' h hR; cases h
  | succ n ih =>
    intro v5 r S' h hR
    unfold gX11_pairParted_L15 at h
    refine V_iload (pc := 15) C dX11_pairParted_15 rfl ?_
    refine V_iload (pc := 17) C dX11_pairParted_17 rfl ?_
    refine V_icmp_gt (tgt := 99) (pc := 19) C dX11_pairParted_19 (by decide) (fun hc => ?_) (fun hc => ?_)
    · have h := it_t hc h
      refine V_bipush (pc := 99) C dX11_pairParted_99 kc_b_m2 ?_
      cases h
      exact hR 101 _ ⟨_, rfl, rfl⟩ dX11_pairParted_101
    · have h := it_f hc h
      refine V_iload_n (pc := 22) C dX11_pairParted_22 rfl rfl ?_
      refine V_istore (L' := [some (.ref 0), some (.ref v1), some (.ref v2), some (.int v3), some (.int v4), some (.int v5), some (.int v3), none, none]) (pc := 23) C dX11_pairParted_23 (by decide) rfl ?_
      obtain ⟨out25, e25, hr25, hx25⟩ := lm_some h
      refine V_mask [true, true, true, true, true, true, true, false, false] (mX11_pairParted_L25 C hv1 hv2 FU _ _ e25 ?_ ?_)
      · intro _ eo
        have h := hx25 _ eo
        refine V_iinc (L' := [some (.ref 0), some (.ref v1), some (.ref v2), some (.int v3), some (.int v4), some (.int (v5 + (1 : Int32))), none, none, none]) (v := (v5 + (1 : Int32))) (pc := 93) C dX11_pairParted_93 rfl (congrArg (v5 + ·) kc_i_1) (by decide) rfl ?_
        refine V_goto (tgt := 15) (pc := 96) C dX11_pairParted_96 (by decide) ?_
        exact V_mask [true, true, true, true, true, true, false, false, false] (ih _ _ _ h hR)
      · intro r' eo
        cases hr25 _ eo
        exact hR
set_option maxRecDepth 100000 in
theorem mX11_pairParted (l : Launch) {S : zM} {a1 : Nat} {a2 : Nat} {a3 : Int32} {a4 : Int32} {r : Int32} {S' : zM} (ha1 : zob cW 9 a1) (ha2 : zob cW 9 a2) (h : gX11_pairParted S a1 a2 a3 a4 = some (r, S')) : zMet l cW zS0 yX11_pairParted cX11_pairParted 9 (some .int) 4 97 [.ref 0, .ref a1, .ref a2, .int a3, .int a4] S (some (.int r)) S' := by
  refine zmeth (by decide +kernel) (by rfl) (fun K hKl C hR => ?_)
  show V K 0 [some (.ref 0), some (.ref a1), some (.ref a2), some (.int a3), some (.int a4), none, none, none, none] [] S
  unfold gX11_pairParted at h
  refine V_aload_n (pc := 0) C dX11_pairParted_0 rfl rfl ?_
  refine V_aload_n (pc := 1) C dX11_pairParted_1 rfl rfl ?_
  obtain ⟨r1, er1, h⟩ := b1_some h
  refine V_callV (As := []) (pc := 2) C (mX9_fresh _ ha1 er1) zm_X9_fresh zi_X9_fresh ml_RX11_120 ha1 rfl ⟨Nat.le_of_ble_eq_true rfl, Nat.le_of_ble_eq_true rfl⟩ rfl rfl (Nat.le_of_ble_eq_true rfl) dX11_pairParted_2 ?_
  show V K 5 [some (.ref 0), some (.ref a1), some (.ref a2), some (.int a3), some (.int a4), none, none, none, none] [.ref r1, .ref 0] S
  refine V_aload_n (pc := 5) C dX11_pairParted_5 rfl rfl ?_
  obtain ⟨r2, er2, h⟩ := b1_some h
  refine V_callV (As := []) (pc := 6) C (mX9_fresh _ ha2 er2) zm_X9_fresh zi_X9_fresh ml_RX11_120 ha2 rfl ⟨Nat.le_of_ble_eq_true rfl, Nat.le_of_ble_eq_true rfl⟩ rfl rfl (Nat.le_of_ble_eq_true rfl) dX11_pairParted_6 ?_
  show V K 9 [some (.ref 0), some (.ref a1), some (.ref a2), some (.int a3), some (.int a4), none, none, none, none] [.ref r2, .ref r1, .ref 0] S
  obtain ⟨S4, euS4, h⟩ := b1_some h
  refine V_callV (As := [.ref r1, .ref r2]) (pc := 9) C (mX11_compareLeads _ (mX9_fresh_f ha1 er1) (mX9_fresh_f ha2 er2) euS4) zm_X11_compareLeads zi_X11_compareLeads ml_RX11_433 z1_cW_11 rfl ⟨Nat.le_of_ble_eq_true rfl, Nat.le_of_ble_eq_true rfl⟩ rfl rfl (Nat.le_of_ble_eq_true rfl) dX11_pairParted_9 ?_
  show V K 12 [some (.ref 0), some (.ref a1), some (.ref a2), some (.int a3), some (.int a4), none, none, none, none] [] S4
  refine V_iload_n (pc := 12) C dX11_pairParted_12 rfl rfl ?_
  refine V_istore (L' := [some (.ref 0), some (.ref a1), some (.ref a2), some (.int a3), some (.int a4), some (.int a3), none, none, none]) (pc := 13) C dX11_pairParted_13 (by decide) rfl ?_
  exact V_mask [true, true, true, true, true, true, false, false, false] (mX11_pairParted_L15 C ha1 ha2 FU _ _ _ h hR)
set_option maxRecDepth 100000 in
theorem mX11_aloneParts (l : Launch) {S : zM} {a0 : Nat} {a1 : Nat} {a2 : Int32} {r : Int32} (ha0 : zob cW 9 a0) (ha1 : zob cW 9 a1) (h : gX11_aloneParts S a0 a1 a2 = some r) : zMet l cW zS0 yX11_aloneParts cX11_aloneParts 7 (some .boolean) 3 64 [.ref a0, .ref a1, .int a2] S (some (.int r)) S := by
  refine zmeth (by decide +kernel) (by rfl) (fun K hKl C hR => ?_)
  show V K 0 [some (.ref a0), some (.ref a1), some (.int a2), none, none, none, none] [] S
  unfold gX11_aloneParts at h
  refine V_aload_n (pc := 0) C dX11_aloneParts_0 rfl rfl ?_
  obtain ⟨r1, er1, h⟩ := b1_some h
  refine V_callV (As := []) (pc := 1) C (mX9_fresh _ ha0 er1) zm_X9_fresh zi_X9_fresh ml_RX11_120 ha0 rfl ⟨Nat.le_of_ble_eq_true rfl, Nat.le_of_ble_eq_true rfl⟩ rfl rfl (Nat.le_of_ble_eq_true rfl) dX11_aloneParts_1 ?_
  show V K 4 [some (.ref a0), some (.ref a1), some (.int a2), none, none, none, none] [.ref r1] S
  refine V_astore_n (L' := [some (.ref a0), some (.ref a1), some (.int a2), some (.ref r1), none, none, none]) (pc := 4) C dX11_aloneParts_4 rfl (by decide) rfl ?_
  refine V_aload_n (pc := 5) C dX11_aloneParts_5 rfl rfl ?_
  obtain ⟨r2, er2, h⟩ := b1_some h
  refine V_callV (As := []) (pc := 6) C (mX9_fresh _ ha1 er2) zm_X9_fresh zi_X9_fresh ml_RX11_120 ha1 rfl ⟨Nat.le_of_ble_eq_true rfl, Nat.le_of_ble_eq_true rfl⟩ rfl rfl (Nat.le_of_ble_eq_true rfl) dX11_aloneParts_6 ?_
  show V K 9 [some (.ref a0), some (.ref a1), some (.int a2), some (.ref r1), none, none, none] [.ref r2] S
  refine V_astore (L' := [some (.ref a0), some (.ref a1), some (.int a2), some (.ref r1), some (.ref r2), none, none]) (pc := 9) C dX11_aloneParts_9 (by decide) rfl ?_
  refine V_aload_n (pc := 11) C dX11_aloneParts_11 rfl rfl ?_
  refine V_aload_n (pc := 12) C dX11_aloneParts_12 rfl rfl ?_
  refine V_iload_n (pc := 13) C dX11_aloneParts_13 rfl rfl ?_
  obtain ⟨r3, er3, h⟩ := b1_some h
  refine V_callV (As := [.int a2]) (pc := 14) C (mX9_levelAt _ ha0 er3) zm_X9_levelAt zi_X9_levelAt ml_RX11_114 ha0 rfl ⟨Nat.le_of_ble_eq_true rfl, Nat.le_of_ble_eq_true rfl⟩ rfl rfl (Nat.le_of_ble_eq_true rfl) dX11_aloneParts_14 ?_
  show V K 17 [some (.ref a0), some (.ref a1), some (.int a2), some (.ref r1), some (.ref r2), none, none] [.int r3, .ref r1] S
  refine V_iconst (pc := 17) C dX11_aloneParts_17 kc_i_1 ?_
  obtain ⟨r4, er4, h⟩ := b1_some h
  refine V_callV (As := [.int r3, .int (1 : Int32)]) (pc := 18) C (mX4_aloneOdds _ (mX9_fresh_f ha0 er1) er4) zm_X4_aloneOdds zi_X4_aloneOdds ml_RX11_427 (mX9_fresh_f ha0 er1) rfl ⟨Nat.le_of_ble_eq_true rfl, Nat.le_of_ble_eq_true rfl⟩ rfl rfl (Nat.le_of_ble_eq_true rfl) dX11_aloneParts_18 ?_
  show V K 21 [some (.ref a0), some (.ref a1), some (.int a2), some (.ref r1), some (.ref r2), none, none] [.int r4] S
  refine V_istore (L' := [some (.ref a0), some (.ref a1), some (.int a2), some (.ref r1), some (.ref r2), some (.int r4), none]) (pc := 21) C dX11_aloneParts_21 (by decide) rfl ?_
  refine V_aload (pc := 23) C dX11_aloneParts_23 rfl ?_
  refine V_aload_n (pc := 25) C dX11_aloneParts_25 rfl rfl ?_
  refine V_iload_n (pc := 26) C dX11_aloneParts_26 rfl rfl ?_
  obtain ⟨r5, er5, h⟩ := b1_some h
  refine V_callV (As := [.int a2]) (pc := 27) C (mX9_levelAt _ ha1 er5) zm_X9_levelAt zi_X9_levelAt ml_RX11_114 ha1 rfl ⟨Nat.le_of_ble_eq_true rfl, Nat.le_of_ble_eq_true rfl⟩ rfl rfl (Nat.le_of_ble_eq_true rfl) dX11_aloneParts_27 ?_
  show V K 30 [some (.ref a0), some (.ref a1), some (.int a2), some (.ref r1), some (.ref r2), some (.int r4), none] [.int r5, .ref r2] S
  refine V_iconst (pc := 30) C dX11_aloneParts_30 kc_i_1 ?_
  obtain ⟨r6, er6, h⟩ := b1_some h
  refine V_callV (As := [.int r5, .int (1 : Int32)]) (pc := 31) C (mX4_aloneOdds _ (mX9_fresh_f ha1 er2) er6) zm_X4_aloneOdds zi_X4_aloneOdds ml_RX11_427 (mX9_fresh_f ha1 er2) rfl ⟨Nat.le_of_ble_eq_true rfl, Nat.le_of_ble_eq_true rfl⟩ rfl rfl (Nat.le_of_ble_eq_true rfl) dX11_aloneParts_31 ?_
  show V K 34 [some (.ref a0), some (.ref a1), some (.int a2), some (.ref r1), some (.ref r2), some (.int r4), none] [.int r6] S
  refine V_istore (L' := [some (.ref a0), some (.ref a1), some (.int a2), some (.ref r1), some (.ref r2), some (.int r4), some (.int r6)]) (pc := 34) C dX11_aloneParts_34 (by decide) rfl ?_
  refine V_iload (pc := 36) C dX11_aloneParts_36 rfl ?_
  refine V_aload (pc := 38) C dX11_aloneParts_38 rfl ?_
  refine V_getI (pc := 40) C (mX9_fresh_f ha1 er2) fl_RX11_165 (by decide) dX11_aloneParts_40 ?_
  refine V_imul (pc := 43) C dX11_aloneParts_43 ?_
  refine V_iload (pc := 44) C dX11_aloneParts_44 rfl ?_
  refine V_aload_n (pc := 46) C dX11_aloneParts_46 rfl rfl ?_
  refine V_getI (pc := 47) C (mX9_fresh_f ha0 er1) fl_RX11_165 (by decide) dX11_aloneParts_47 ?_
  refine V_imul (pc := 50) C dX11_aloneParts_50 ?_
  refine V_icmp_eq (tgt := 58) (pc := 51) C dX11_aloneParts_51 (by decide) (fun hc => ?_) (fun hc => ?_)
  · have h := it_t hc h
    refine V_iconst (pc := 58) C dX11_aloneParts_58 kc_i_0 ?_
    cases h
    exact hR 59 _ ⟨_, rfl, zB0⟩ dX11_aloneParts_59
  · have h := it_f hc h
    refine V_iconst (pc := 54) C dX11_aloneParts_54 kc_i_1 ?_
    refine V_goto (tgt := 59) (pc := 55) C dX11_aloneParts_55 (by decide) ?_
    cases h
    exact hR 59 _ ⟨_, rfl, zB1⟩ dX11_aloneParts_59
set_option maxRecDepth 100000 in
theorem mX11_numberParts_L15 {K : zK} (C : zC K cX11_numberParts yX11_numberParts.cls 9 3 64 cW) {S : zM} {v0 : Nat} {v1 : Nat} {v2 : Int32} {v3 : Nat} {v4 : Nat} (hv0 : zob cW 9 v0) (hv1 : zob cW 9 v1) (hv3 : zob cW 4 v3) (hv4 : zob cW 4 v4) : ∀ (f : Nat) (v5 : Int32) (r : Int32), gX11_numberParts_L15 S v0 v1 v2 v3 v4 f v5 = some r → zR K cX11_numberParts (some .boolean) S (some (.int r)) → V K 15 [some (.ref v0), some (.ref v1), some (.int v2), some (.ref v3), some (.ref v4), some (.int v5), none, none, none] [] S := by
  intro f
  induction f with
  | zero => intro v5 r h hR; cases h
  | succ n ih =>
    intro v5 r h hR
    unfold gX11_numberParts_L15 at h
    refine V_iload (pc := 15) C dX11_numberParts_15 rfl ?_
    refine V_iconst (pc := 17) C dX11_numberParts_17 kc_i_5 ?_
    refine V_icmp_gt (tgt := 88) (pc := 18) C dX11_numberParts_18 (by decide) (fun hc => ?_) (fun hc => ?_)
    · have h := it_t hc h
      refine V_iconst (pc := 88) C dX11_numberParts_88 kc_i_0 ?_
      cases h
      exact hR 89 _ ⟨_, rfl, zB0⟩ dX11_numberParts_89
    · have h := it_f hc h
      refine V_iconst (pc := 21) C dX11_numberParts_21 kc_i_0 ?_
      refine V_aload_n (pc := 22) C dX11_numberParts_22 rfl rfl ?_
      refine V_iload_n (pc := 23) C dX11_numberParts_23 rfl rfl ?_
      obtain ⟨r3, er3, h⟩ := b1_some h
      refine V_callV (As := [.int v2]) (pc := 24) C (mX9_levelAt _ hv0 er3) zm_X9_levelAt zi_X9_levelAt ml_RX11_114 hv0 rfl ⟨Nat.le_of_ble_eq_true rfl, Nat.le_of_ble_eq_true rfl⟩ rfl rfl (Nat.le_of_ble_eq_true rfl) dX11_numberParts_24 ?_
      show V K 27 [some (.ref v0), some (.ref v1), some (.int v2), some (.ref v3), some (.ref v4), some (.int v5), none, none, none] [.int r3, .int (0 : Int32)] S
      refine V_iload (pc := 27) C dX11_numberParts_27 rfl ?_
      refine V_iadd (pc := 29) C dX11_numberParts_29 ?_
      refine V_max (pc := 30) C ml_RX11_282 mt_max.1 mt_max.2.1 mt_max.2.2 ⟨Nat.le_of_ble_eq_true rfl, Nat.le_of_ble_eq_true rfl⟩ dX11_numberParts_30 ?_
      refine V_istore (L' := [some (.ref v0), some (.ref v1), some (.int v2), some (.ref v3), some (.ref v4), some (.int v5), some (.int (jmax (0 : Int32) (r3 + v5))), none, none]) (pc := 33) C dX11_numberParts_33 (by decide) rfl ?_
      refine V_aload_n (pc := 35) C dX11_numberParts_35 rfl rfl ?_
      refine V_aload_n (pc := 36) C dX11_numberParts_36 rfl rfl ?_
      refine V_iload_n (pc := 37) C dX11_numberParts_37 rfl rfl ?_
      obtain ⟨r4, er4, h⟩ := b1_some h
      refine V_callV (As := [.int v2]) (pc := 38) C (mX9_levelAt _ hv0 er4) zm_X9_levelAt zi_X9_levelAt ml_RX11_114 hv0 rfl ⟨Nat.le_of_ble_eq_true rfl, Nat.le_of_ble_eq_true rfl⟩ rfl rfl (Nat.le_of_ble_eq_true rfl) dX11_numberParts_38 ?_
      show V K 41 [some (.ref v0), some (.ref v1), some (.int v2), some (.ref v3), some (.ref v4), some (.int v5), some (.int (jmax (0 : Int32) (r3 + v5))), none, none] [.int r4, .ref v3] S
      refine V_iload (pc := 41) C dX11_numberParts_41 rfl ?_
      obtain ⟨r5, er5, h⟩ := b1_some h
      refine V_callV (As := [.int r4, .int (jmax (0 : Int32) (r3 + v5))]) (pc := 43) C (mX4_numberOdds _ hv3 er5) zm_X4_numberOdds zi_X4_numberOdds ml_RX11_430 hv3 rfl ⟨Nat.le_of_ble_eq_true rfl, Nat.le_of_ble_eq_true rfl⟩ rfl rfl (Nat.le_of_ble_eq_true rfl) dX11_numberParts_43 ?_
      show V K 46 [some (.ref v0), some (.ref v1), some (.int v2), some (.ref v3), some (.ref v4), some (.int v5), some (.int (jmax (0 : Int32) (r3 + v5))), none, none] [.int r5] S
      refine V_istore (L' := [some (.ref v0), some (.ref v1), some (.int v2), some (.ref v3), some (.ref v4), some (.int v5), some (.int (jmax (0 : Int32) (r3 + v5))), some (.int r5), none]) (pc := 46) C dX11_numberParts_46 (by decide) rfl ?_
      refine V_aload (pc := 48) C dX11_numberParts_48 rfl ?_
      refine V_aload_n (pc := 50) C dX11_numberParts_50 rfl rfl ?_
      refine V_iload_n (pc := 51) C dX11_numberParts_51 rfl rfl ?_
      obtain ⟨r6, er6, h⟩ := b1_some h
      refine V_callV (As := [.int v2]) (pc := 52) C (mX9_levelAt _ hv1 er6) zm_X9_levelAt zi_X9_levelAt ml_RX11_114 hv1 rfl ⟨Nat.le_of_ble_eq_true rfl, Nat.le_of_ble_eq_true rfl⟩ rfl rfl (Nat.le_of_ble_eq_true rfl) dX11_numberParts_52 ?_
      show V K 55 [some (.ref v0), some (.ref v1), some (.int v2), some (.ref v3), some (.ref v4), some (.int v5), some (.int (jmax (0 : Int32) (r3 + v5))), some (.int r5), none] [.int r6, .ref v4] S
      refine V_iload (pc := 55) C dX11_numberParts_55 rfl ?_
      obtain ⟨r7, er7, h⟩ := b1_some h
      refine V_callV (As := [.int r6, .int (jmax (0 : Int32) (r3 + v5))]) (pc := 57) C (mX4_numberOdds _ hv4 er7) zm_X4_numberOdds zi_X4_numberOdds ml_RX11_430 hv4 rfl ⟨Nat.le_of_ble_eq_true rfl, Nat.le_of_ble_eq_true rfl⟩ rfl rfl (Nat.le_of_ble_eq_true rfl) dX11_numberParts_57 ?_
      show V K 60 [some (.ref v0), some (.ref v1), some (.int v2), some (.ref v3), some (.ref v4), some (.int v5), some (.int (jmax (0 : Int32) (r3 + v5))), some (.int r5), none] [.int r7] S
      refine V_istore (L' := [some (.ref v0), some (.ref v1), some (.int v2), some (.ref v3), some (.ref v4), some (.int v5), some (.int (jmax (0 : Int32) (r3 + v5))), some (.int r5), some (.int r7)]) (pc := 60) C dX11_numberParts_60 (by decide) rfl ?_
      refine V_iload (pc := 62) C dX11_numberParts_62 rfl ?_
      refine V_aload (pc := 64) C dX11_numberParts_64 rfl ?_
      refine V_getI (pc := 66) C hv4 fl_RX11_165 (by decide) dX11_numberParts_66 ?_
      refine V_imul (pc := 69) C dX11_numberParts_69 ?_
      refine V_iload (pc := 70) C dX11_numberParts_70 rfl ?_
      refine V_aload_n (pc := 72) C dX11_numberParts_72 rfl rfl ?_
      refine V_getI (pc := 73) C hv3 fl_RX11_165 (by decide) dX11_numberParts_73 ?_
      refine V_imul (pc := 76) C dX11_numberParts_76 ?_
      refine V_icmp_eq (tgt := 82) (pc := 77) C dX11_numberParts_77 (by decide) (fun hc => ?_) (fun hc => ?_)
      · have h := it_t hc h
        refine V_iinc (L' := [some (.ref v0), some (.ref v1), some (.int v2), some (.ref v3), some (.ref v4), some (.int (v5 + (1 : Int32))), some (.int (jmax (0 : Int32) (r3 + v5))), some (.int r5), some (.int r7)]) (v := (v5 + (1 : Int32))) (pc := 82) C dX11_numberParts_82 rfl (congrArg (v5 + ·) kc_i_1) (by decide) rfl ?_
        refine V_goto (tgt := 15) (pc := 85) C dX11_numberParts_85 (by decide) ?_
        exact V_mask [true, true, true, true, true, true, false, false, false] (ih _ _ h hR)
      · have h := it_f hc h
        refine V_iconst (pc := 80) C dX11_numberParts_80 kc_i_1 ?_
        cases h
        exact hR 81 _ ⟨_, rfl, zB1⟩ dX11_numberParts_81
set_option maxRecDepth 100000 in
theorem mX11_numberParts (l : Launch) {S : zM} {a0 : Nat} {a1 : Nat} {a2 : Int32} {r : Int32} (ha0 : zob cW 9 a0) (ha1 : zob cW 9 a1) (h : gX11_numberParts S a0 a1 a2 = some r) : zMet l cW zS0 yX11_numberParts cX11_numberParts 9 (some .boolean) 3 64 [.ref a0, .ref a1, .int a2] S (some (.int r)) S := by
  refine zmeth (by decide +kernel) (by rfl) (fun K hKl C hR => ?_)
  show V K 0 [some (.ref a0), some (.ref a1), some (.int a2), none, none, none, none, none, none] [] S
  unfold gX11_numberParts at h
  refine V_aload_n (pc := 0) C dX11_numberParts_0 rfl rfl ?_
  obtain ⟨r1, er1, h⟩ := b1_some h
  refine V_callV (As := []) (pc := 1) C (mX9_fresh _ ha0 er1) zm_X9_fresh zi_X9_fresh ml_RX11_120 ha0 rfl ⟨Nat.le_of_ble_eq_true rfl, Nat.le_of_ble_eq_true rfl⟩ rfl rfl (Nat.le_of_ble_eq_true rfl) dX11_numberParts_1 ?_
  show V K 4 [some (.ref a0), some (.ref a1), some (.int a2), none, none, none, none, none, none] [.ref r1] S
  refine V_astore_n (L' := [some (.ref a0), some (.ref a1), some (.int a2), some (.ref r1), none, none, none, none, none]) (pc := 4) C dX11_numberParts_4 rfl (by decide) rfl ?_
  refine V_aload_n (pc := 5) C dX11_numberParts_5 rfl rfl ?_
  obtain ⟨r2, er2, h⟩ := b1_some h
  refine V_callV (As := []) (pc := 6) C (mX9_fresh _ ha1 er2) zm_X9_fresh zi_X9_fresh ml_RX11_120 ha1 rfl ⟨Nat.le_of_ble_eq_true rfl, Nat.le_of_ble_eq_true rfl⟩ rfl rfl (Nat.le_of_ble_eq_true rfl) dX11_numberParts_6 ?_
  show V K 9 [some (.ref a0), some (.ref a1), some (.int a2), some (.ref r1), none, none, none, none, none] [.ref r2] S
  refine V_astore (L' := [some (.ref a0), some (.ref a1), some (.int a2), some (.ref r1), some (.ref r2), none, none, none, none]) (pc := 9) C dX11_numberParts_9 (by decide) rfl ?_
  refine V_bipush (pc := 11) C dX11_numberParts_11 kc_b_m5 ?_
  refine V_istore (L' := [some (.ref a0), some (.ref a1), some (.int a2), some (.ref r1), some (.ref r2), some (.int (-5 : Int32)), none, none, none]) (pc := 13) C dX11_numberParts_13 (by decide) rfl ?_
  exact V_mask [true, true, true, true, true, true, false, false, false] (mX11_numberParts_L15 C ha0 ha1 (mX9_fresh_f ha0 er1) (mX9_fresh_f ha1 er2) FU _ _ h hR)
set_option maxRecDepth 100000 in
theorem mX11_parted_L145 {K : zK} (C : zC K cX11_parted yX11_parted.cls 11 5 125 cW) {S : zM} {v3 : Int32} {v5 : Int32} {v8 : Nat} {v9 : Nat} (hv8 : zob cW 9 v8) (hv9 : zob cW 9 v9) : ∀ (f : Nat) (v10 : Int32) (r : Int32) (S' : zM), gX11_parted_L145 S v3 v5 v8 v9 f v10 = some (r, S') → zR K cX11_parted (some .int) S' (some (.int r)) → V K 145 [none, none, none, some (.int v3), none, some (.int v5), none, none, some (.ref v8), some (.ref v9), some (.int v10)] [] S := by
  intro f
  induction f with
  | zero => intro v10 r S' h hR; cases h
  | succ n ih =>
    intro v10 r S' h hR
    unfold gX11_parted_L145 at h
    refine V_iload (pc := 145) C dX11_parted_145 rfl ?_
    refine V_iload (pc := 147) C dX11_parted_147 rfl ?_
    refine V_icmp_gt (tgt := 197) (pc := 149) C dX11_parted_149 (by decide) (fun hc => ?_) (fun hc => ?_)
    · have h := it_t hc h
      refine V_bipush (pc := 197) C dX11_parted_197 kc_b_m2 ?_
      cases h
      exact hR 199 _ ⟨_, rfl, rfl⟩ dX11_parted_199
    · have h := it_f hc h
      refine V_iload_n (pc := 152) C dX11_parted_152 rfl rfl ?_
      refine V_iconst (pc := 153) C dX11_parted_153 kc_i_1 ?_
      refine V_icmp_ne (tgt := 172) (pc := 154) C dX11_parted_154 (by decide) (fun hc => ?_) (fun hc => ?_)
      · have h := it_f hc h
        refine V_aload (pc := 172) C dX11_parted_172 rfl ?_
        refine V_aload (pc := 174) C dX11_parted_174 rfl ?_
        refine V_iload (pc := 176) C dX11_parted_176 rfl ?_
        obtain ⟨r10, er10, h⟩ := b1_some h
        refine V_callS (As := [.ref v8, .ref v9, .int v10]) (pc := 178) C (mX11_numberParts _ hv8 hv9 er10) zm_X11_numberParts zs_X11_numberParts ml_RX11_396 ⟨Nat.le_of_ble_eq_true rfl, Nat.le_of_ble_eq_true rfl⟩ rfl rfl (Nat.le_of_ble_eq_true rfl) dX11_parted_178 ?_
        show V K 181 [none, none, none, some (.int v3), none, some (.int v5), none, none, some (.ref v8), some (.ref v9), some (.int v10)] [.int r10] S
        refine V_if_eq (tgt := 191) (pc := 181) C dX11_parted_181 (by decide) (fun hc => ?_) (fun hc => ?_)
        · have h := it_t hc h
          refine V_iinc (L' := [none, none, none, some (.int v3), none, some (.int v5), none, none, some (.ref v8), some (.ref v9), some (.int (v10 + (1 : Int32)))]) (v := (v10 + (1 : Int32))) (pc := 191) C dX11_parted_191 rfl (congrArg (v10 + ·) kc_i_1) (by decide) rfl ?_
          refine V_goto (tgt := 145) (pc := 194) C dX11_parted_194 (by decide) ?_
          exact V_mask [false, false, false, true, false, true, false, false, true, true, true] (ih _ _ _ h hR)
        · have h := it_f hc h
          refine V_sipush (pc := 184) C dX11_parted_184 kc_s_1000 ?_
          refine V_iload (pc := 187) C dX11_parted_187 rfl ?_
          refine V_imul (pc := 189) C dX11_parted_189 ?_
          cases h
          exact hR 190 _ ⟨_, rfl, rfl⟩ dX11_parted_190
      · have h := it_t hc h
        refine V_aload (pc := 157) C dX11_parted_157 rfl ?_
        refine V_aload (pc := 159) C dX11_parted_159 rfl ?_
        refine V_iload (pc := 161) C dX11_parted_161 rfl ?_
        obtain ⟨r11, er11, h⟩ := b1_some h
        refine V_callS (As := [.ref v8, .ref v9, .int v10]) (pc := 163) C (mX11_aloneParts _ hv8 hv9 er11) zm_X11_aloneParts zs_X11_aloneParts ml_RX11_392 ⟨Nat.le_of_ble_eq_true rfl, Nat.le_of_ble_eq_true rfl⟩ rfl rfl (Nat.le_of_ble_eq_true rfl) dX11_parted_163 ?_
        show V K 166 [none, none, none, some (.int v3), none, some (.int v5), none, none, some (.ref v8), some (.ref v9), some (.int v10)] [.int r11] S
        refine V_if_eq (tgt := 191) (pc := 166) C dX11_parted_166 (by decide) (fun hc => ?_) (fun hc => ?_)
        · have h := it_t hc h
          refine V_iinc (L' := [none, none, none, some (.int v3), none, some (.int v5), none, none, some (.ref v8), some (.ref v9), some (.int (v10 + (1 : Int32)))]) (v := (v10 + (1 : Int32))) (pc := 191) C dX11_parted_191 rfl (congrArg (v10 + ·) kc_i_1) (by decide) rfl ?_
          refine V_goto (tgt := 145) (pc := 194) C dX11_parted_194 (by decide) ?_
          exact V_mask [false, false, false, true, false, true, false, false, true, true, true] (ih _ _ _ h hR)
        · have h := it_f hc h
          refine V_goto (tgt := 184) (pc := 169) C dX11_parted_169 (by decide) ?_
          refine V_sipush (pc := 184) C dX11_parted_184 kc_s_1000 ?_
          refine V_iload (pc := 187) C dX11_parted_187 rfl ?_
          refine V_imul (pc := 189) C dX11_parted_189 ?_
          cases h
          exact hR 190 _ ⟨_, rfl, rfl⟩ dX11_parted_190
set_option maxRecDepth 100000 in
theorem mX11_parted_J94 {K : zK} (C : zC K cX11_parted yX11_parted.cls 11 5 125 cW) {S : zM} {v1 : Int32} {v2 : Int32} {v3 : Int32} {v4 : Int32} {v5 : Int32} {s0 : Int32} {r : Int32} {S' : zM}  (hR : zR K cX11_parted (some .int) S' (some (.int r))) (h : gX11_parted_J94 S v1 v2 v3 v4 v5 s0 = some (r, S')) : V K 94 [some (.ref 0), some (.int v1), some (.int v2), some (.int v3), some (.int v4), some (.int v5), none, none, none, none, none] [.int s0, .ref 0] S := by
  unfold gX11_parted_J94 at h
  obtain ⟨r4, S5, er4, h⟩ := b2_some h
  refine V_callV (As := [.int s0]) (pc := 94) C (mX11_passes _ er4) zm_X11_passes zi_X11_passes ml_RX11_71 z1_cW_11 rfl ⟨Nat.le_of_ble_eq_true rfl, Nat.le_of_ble_eq_true rfl⟩ rfl rfl (Nat.le_of_ble_eq_true rfl) dX11_parted_94 ?_
  show V K 97 [some (.ref 0), some (.int v1), some (.int v2), some (.int v3), some (.int v4), some (.int v5), none, none, none, none, none] [.int r4] S5
  refine V_if_ne (tgt := 102) (pc := 97) C dX11_parted_97 (by decide) (fun hc => ?_) (fun hc => ?_)
  · have h := it_f hc h
    refine V_aload_n (pc := 102) C dX11_parted_102 rfl rfl ?_
    obtain ⟨k6, h⟩ := ck_some h
    refine V_getR (pc := 103) C z1_cW_11 fl_RX11_52 rfl dX11_parted_103 ?_
    refine V_getF (p1 := ((gR S5 0 8) + 1)) (pc := 106) C (zob_of k6) fl_RX11_110 rfl (zf_cW_3_0 (zob_of k6)) dX11_parted_106 ?_
    refine V_iload_n (pc := 109) C dX11_parted_109 rfl rfl ?_
    obtain ⟨k7, h⟩ := ck_some h
    refine V_aald (p1 := ((gR S5 0 8) + 7 + 31 * ix v1)) (pc := 110) C (za_cW_3_0 (zob_of k6)) (fun _ => rfl) k7 (ze_cW_3_0 (zob_of k6) k7) dX11_parted_110 ?_
    refine V_astore (L' := [some (.ref 0), some (.int v1), some (.int v2), some (.int v3), some (.int v4), some (.int v5), none, none, some (.ref ((gR S5 0 8) + 7 + 31 * ix v1)), none, none]) (pc := 111) C dX11_parted_111 (by decide) rfl ?_
    refine V_aload_n (pc := 113) C dX11_parted_113 rfl rfl ?_
    obtain ⟨k8, h⟩ := ck_some h
    refine V_getR (pc := 114) C z1_cW_11 fl_RX11_52 rfl dX11_parted_114 ?_
    refine V_getF (p1 := ((gR S5 0 8) + 1)) (pc := 117) C (zob_of k8) fl_RX11_110 rfl (zf_cW_3_0 (zob_of k8)) dX11_parted_117 ?_
    refine V_iload_n (pc := 120) C dX11_parted_120 rfl rfl ?_
    obtain ⟨k9, h⟩ := ck_some h
    refine V_aald (p1 := ((gR S5 0 8) + 7 + 31 * ix v2)) (pc := 121) C (za_cW_3_0 (zob_of k8)) (fun _ => rfl) k9 (ze_cW_3_0 (zob_of k8) k9) dX11_parted_121 ?_
    refine V_astore (L' := [some (.ref 0), some (.int v1), some (.int v2), some (.int v3), some (.int v4), some (.int v5), none, none, some (.ref ((gR S5 0 8) + 7 + 31 * ix v1)), some (.ref ((gR S5 0 8) + 7 + 31 * ix v2)), none]) (pc := 122) C dX11_parted_122 (by decide) rfl ?_
    refine V_iload_n (pc := 124) C dX11_parted_124 rfl rfl ?_
    refine V_if_ne (tgt := 141) (pc := 125) C dX11_parted_125 (by decide) (fun hc => ?_) (fun hc => ?_)
    · have h := it_f hc h
      refine V_iload (pc := 141) C dX11_parted_141 rfl ?_
      refine V_istore (L' := [some (.ref 0), some (.int v1), some (.int v2), some (.int v3), some (.int v4), some (.int v5), none, none, some (.ref ((gR S5 0 8) + 7 + 31 * ix v1)), some (.ref ((gR S5 0 8) + 7 + 31 * ix v2)), some (.int v4)]) (pc := 143) C dX11_parted_143 (by decide) rfl ?_
      exact V_mask [false, false, false, true, false, true, false, false, true, true, true] (mX11_parted_L145 C (zx_cW_3_0 (zob_of k6) k7) (zx_cW_3_0 (zob_of k8) k9) FU _ _ _ h hR)
    · have h := it_t hc h
      refine V_aload_n (pc := 128) C dX11_parted_128 rfl rfl ?_
      refine V_aload (pc := 129) C dX11_parted_129 rfl ?_
      refine V_aload (pc := 131) C dX11_parted_131 rfl ?_
      refine V_iload (pc := 133) C dX11_parted_133 rfl ?_
      refine V_iload (pc := 135) C dX11_parted_135 rfl ?_
      obtain ⟨r12, S13, er12, h⟩ := b2_some h
      refine V_callV (As := [.ref ((gR S5 0 8) + 7 + 31 * ix v1), .ref ((gR S5 0 8) + 7 + 31 * ix v2), .int v4, .int v5]) (pc := 137) C (mX11_pairParted _ (zx_cW_3_0 (zob_of k6) k7) (zx_cW_3_0 (zob_of k8) k9) er12) zm_X11_pairParted zi_X11_pairParted ml_RX11_388 z1_cW_11 rfl ⟨Nat.le_of_ble_eq_true rfl, Nat.le_of_ble_eq_true rfl⟩ rfl rfl (Nat.le_of_ble_eq_true rfl) dX11_parted_137 ?_
      show V K 140 [some (.ref 0), some (.int v1), some (.int v2), some (.int v3), some (.int v4), some (.int v5), none, none, some (.ref ((gR S5 0 8) + 7 + 31 * ix v1)), some (.ref ((gR S5 0 8) + 7 + 31 * ix v2)), none] [.int r12] S13
      cases h
      exact hR 140 _ ⟨_, rfl, rfl⟩ dX11_parted_140
  · have h := it_t hc h
    refine V_iconst (pc := 100) C dX11_parted_100 kc_i_m1 ?_
    cases h
    exact hR 101 _ ⟨_, rfl, rfl⟩ dX11_parted_101
set_option maxRecDepth 100000 in
theorem mX11_parted_J60 {K : zK} (C : zC K cX11_parted yX11_parted.cls 11 5 125 cW) {S : zM} {v1 : Int32} {v2 : Int32} {v3 : Int32} {v4 : Int32} {v5 : Int32} {v7 : Int32} {s0 : Int32} {r : Int32} {S' : zM}  (hR : zR K cX11_parted (some .int) S' (some (.int r))) (h : gX11_parted_J60 S v1 v2 v3 v4 v5 v7 s0 = some (r, S')) : V K 60 [some (.ref 0), some (.int v1), some (.int v2), some (.int v3), some (.int v4), some (.int v5), none, some (.int v7), none, none, none] [.int s0, .ref 0] S := by
  unfold gX11_parted_J60 at h
  obtain ⟨r2, S3, er2, h⟩ := b2_some h
  refine V_callV (As := [.int s0]) (pc := 60) C (mX11_passes _ er2) zm_X11_passes zi_X11_passes ml_RX11_71 z1_cW_11 rfl ⟨Nat.le_of_ble_eq_true rfl, Nat.le_of_ble_eq_true rfl⟩ rfl rfl (Nat.le_of_ble_eq_true rfl) dX11_parted_60 ?_
  show V K 63 [some (.ref 0), some (.int v1), some (.int v2), some (.int v3), some (.int v4), some (.int v5), none, some (.int v7), none, none, none] [.int r2] S3
  refine V_if_eq (tgt := 100) (pc := 63) C dX11_parted_63 (by decide) (fun hc => ?_) (fun hc => ?_)
  · have h := it_t hc h
    refine V_iconst (pc := 100) C dX11_parted_100 kc_i_m1 ?_
    cases h
    exact hR 101 _ ⟨_, rfl, rfl⟩ dX11_parted_101
  · have h := it_f hc h
    refine V_aload_n (pc := 66) C dX11_parted_66 rfl rfl ?_
    refine V_iload (pc := 67) C dX11_parted_67 rfl ?_
    refine V_iload (pc := 69) C dX11_parted_69 rfl ?_
    refine V_icmp_lt (tgt := 89) (pc := 71) C dX11_parted_71 (by decide) (fun hc => ?_) (fun hc => ?_)
    · have h := it_t hc h
      refine V_iconst (pc := 89) C dX11_parted_89 kc_i_2 ?_
      refine V_goto (tgt := 94) (pc := 90) C dX11_parted_90 (by decide) ?_
      exact V_mask [true, true, true, true, true, true, false, false, false, false, false] (mX11_parted_J94 C  hR h)
    · have h := it_f hc h
      refine V_iload (pc := 74) C dX11_parted_74 rfl ?_
      refine V_sipush (pc := 76) C dX11_parted_76 kc_s_400 ?_
      refine V_icmp_gt (tgt := 89) (pc := 79) C dX11_parted_79 (by decide) (fun hc => ?_) (fun hc => ?_)
      · have h := it_t hc h
        refine V_iconst (pc := 89) C dX11_parted_89 kc_i_2 ?_
        refine V_goto (tgt := 94) (pc := 90) C dX11_parted_90 (by decide) ?_
        exact V_mask [true, true, true, true, true, true, false, false, false, false, false] (mX11_parted_J94 C  hR h)
      · have h := it_f hc h
        refine V_iload (pc := 82) C dX11_parted_82 rfl ?_
        refine V_iload (pc := 84) C dX11_parted_84 rfl ?_
        refine V_icmp_le (tgt := 93) (pc := 86) C dX11_parted_86 (by decide) (fun hc => ?_) (fun hc => ?_)
        · have h := it_t hc h
          refine V_iconst (pc := 93) C dX11_parted_93 kc_i_0 ?_
          exact V_mask [true, true, true, true, true, true, false, false, false, false, false] (mX11_parted_J94 C  hR h)
        · have h := it_f hc h
          refine V_iconst (pc := 89) C dX11_parted_89 kc_i_2 ?_
          refine V_goto (tgt := 94) (pc := 90) C dX11_parted_90 (by decide) ?_
          exact V_mask [true, true, true, true, true, true, false, false, false, false, false] (mX11_parted_J94 C  hR h)
set_option maxRecDepth 100000 in
theorem mX11_parted_J47 {K : zK} (C : zC K cX11_parted yX11_parted.cls 11 5 125 cW) {S : zM} {v1 : Int32} {v2 : Int32} {v3 : Int32} {v4 : Int32} {v5 : Int32} {v6 : Int32} {s0 : Int32} {r : Int32} {S' : zM}  (hR : zR K cX11_parted (some .int) S' (some (.int r))) (h : gX11_parted_J47 S v1 v2 v3 v4 v5 v6 s0 = some (r, S')) : V K 47 [some (.ref 0), some (.int v1), some (.int v2), some (.int v3), some (.int v4), some (.int v5), some (.int v6), none, none, none, none] [.int s0] S := by
  unfold gX11_parted_J47 at h
  refine V_istore (L' := [some (.ref 0), some (.int v1), some (.int v2), some (.int v3), some (.int v4), some (.int v5), some (.int v6), some (.int s0), none, none, none]) (pc := 47) C dX11_parted_47 (by decide) rfl ?_
  refine V_aload_n (pc := 49) C dX11_parted_49 rfl rfl ?_
  refine V_iload (pc := 50) C dX11_parted_50 rfl ?_
  refine V_if_eq (tgt := 59) (pc := 52) C dX11_parted_52 (by decide) (fun hc => ?_) (fun hc => ?_)
  · have h := it_t hc h
    refine V_iconst (pc := 59) C dX11_parted_59 kc_i_1 ?_
    exact V_mask [true, true, true, true, true, true, false, true, false, false, false] (mX11_parted_J60 C  hR h)
  · have h := it_f hc h
    refine V_iconst (pc := 55) C dX11_parted_55 kc_i_0 ?_
    refine V_goto (tgt := 60) (pc := 56) C dX11_parted_56 (by decide) ?_
    exact V_mask [true, true, true, true, true, true, false, true, false, false, false] (mX11_parted_J60 C  hR h)
set_option maxRecDepth 100000 in
theorem mX11_parted_J35 {K : zK} (C : zC K cX11_parted yX11_parted.cls 11 5 125 cW) {S : zM} {v1 : Int32} {v2 : Int32} {v3 : Int32} {v4 : Int32} {v5 : Int32} {s0 : Int32} {r : Int32} {S' : zM}  (hR : zR K cX11_parted (some .int) S' (some (.int r))) (h : gX11_parted_J35 S v1 v2 v3 v4 v5 s0 = some (r, S')) : V K 35 [some (.ref 0), some (.int v1), some (.int v2), some (.int v3), some (.int v4), some (.int v5), none, none, none, none, none] [.int s0] S := by
  unfold gX11_parted_J35 at h
  refine V_istore (L' := [some (.ref 0), some (.int v1), some (.int v2), some (.int v3), some (.int v4), some (.int v5), some (.int s0), none, none, none, none]) (pc := 35) C dX11_parted_35 (by decide) rfl ?_
  refine V_iload_n (pc := 37) C dX11_parted_37 rfl rfl ?_
  refine V_iconst (pc := 38) C dX11_parted_38 kc_i_1 ?_
  refine V_icmp_ne (tgt := 46) (pc := 39) C dX11_parted_39 (by decide) (fun hc => ?_) (fun hc => ?_)
  · have h := it_f hc h
    refine V_iconst (pc := 46) C dX11_parted_46 kc_i_1 ?_
    exact V_mask [true, true, true, true, true, true, true, false, false, false, false] (mX11_parted_J47 C  hR h)
  · have h := it_t hc h
    refine V_iconst (pc := 42) C dX11_parted_42 kc_i_0 ?_
    refine V_goto (tgt := 47) (pc := 43) C dX11_parted_43 (by decide) ?_
    exact V_mask [true, true, true, true, true, true, true, false, false, false, false] (mX11_parted_J47 C  hR h)
set_option maxRecDepth 100000 in
theorem mX11_parted (l : Launch) {S : zM} {a1 : Int32} {a2 : Int32} {a3 : Int32} {a4 : Int32} {a5 : Int32} {r : Int32} {S' : zM}  (h : gX11_parted S a1 a2 a3 a4 a5 = some (r, S')) : zMet l cW zS0 yX11_parted cX11_parted 11 (some .int) 5 125 [.ref 0, .int a1, .int a2, .int a3, .int a4, .int a5] S (some (.int r)) S' := by
  refine zmeth (by decide +kernel) (by rfl) (fun K hKl C hR => ?_)
  show V K 0 [some (.ref 0), some (.int a1), some (.int a2), some (.int a3), some (.int a4), some (.int a5), none, none, none, none, none] [] S
  unfold gX11_parted at h
  refine V_aload_n (pc := 0) C dX11_parted_0 rfl rfl ?_
  refine V_iload_n (pc := 1) C dX11_parted_1 rfl rfl ?_
  obtain ⟨r1, er1, h⟩ := b1_some h
  refine V_callV (As := [.int a1]) (pc := 2) C (mX11_isSense _ er1) zm_X11_isSense zi_X11_isSense ml_RX11_107 z1_cW_11 rfl ⟨Nat.le_of_ble_eq_true rfl, Nat.le_of_ble_eq_true rfl⟩ rfl rfl (Nat.le_of_ble_eq_true rfl) dX11_parted_2 ?_
  show V K 5 [some (.ref 0), some (.int a1), some (.int a2), some (.int a3), some (.int a4), some (.int a5), none, none, none, none, none] [.int r1] S
  refine V_if_eq (tgt := 34) (pc := 5) C dX11_parted_5 (by decide) (fun hc => ?_) (fun hc => ?_)
  · have h := it_t hc h
    refine V_iconst (pc := 34) C dX11_parted_34 kc_i_0 ?_
    exact V_mask [true, true, true, true, true, true, false, false, false, false, false] (mX11_parted_J35 C  hR h)
  · have h := it_f hc h
    refine V_aload_n (pc := 8) C dX11_parted_8 rfl rfl ?_
    refine V_iload_n (pc := 9) C dX11_parted_9 rfl rfl ?_
    obtain ⟨r14, er14, h⟩ := b1_some h
    refine V_callV (As := [.int a2]) (pc := 10) C (mX11_isSense _ er14) zm_X11_isSense zi_X11_isSense ml_RX11_107 z1_cW_11 rfl ⟨Nat.le_of_ble_eq_true rfl, Nat.le_of_ble_eq_true rfl⟩ rfl rfl (Nat.le_of_ble_eq_true rfl) dX11_parted_10 ?_
    show V K 13 [some (.ref 0), some (.int a1), some (.int a2), some (.int a3), some (.int a4), some (.int a5), none, none, none, none, none] [.int r14] S
    refine V_if_eq (tgt := 34) (pc := 13) C dX11_parted_13 (by decide) (fun hc => ?_) (fun hc => ?_)
    · have h := it_t hc h
      refine V_iconst (pc := 34) C dX11_parted_34 kc_i_0 ?_
      exact V_mask [true, true, true, true, true, true, false, false, false, false, false] (mX11_parted_J35 C  hR h)
    · have h := it_f hc h
      refine V_iload_n (pc := 16) C dX11_parted_16 rfl rfl ?_
      refine V_if_eq (tgt := 30) (pc := 17) C dX11_parted_17 (by decide) (fun hc => ?_) (fun hc => ?_)
      · have h := it_t hc h
        refine V_iconst (pc := 30) C dX11_parted_30 kc_i_1 ?_
        refine V_goto (tgt := 35) (pc := 31) C dX11_parted_31 (by decide) ?_
        exact V_mask [true, true, true, true, true, true, false, false, false, false, false] (mX11_parted_J35 C  hR h)
      · have h := it_f hc h
        refine V_iload_n (pc := 20) C dX11_parted_20 rfl rfl ?_
        refine V_iconst (pc := 21) C dX11_parted_21 kc_i_1 ?_
        refine V_icmp_eq (tgt := 30) (pc := 22) C dX11_parted_22 (by decide) (fun hc => ?_) (fun hc => ?_)
        · have h := it_t hc h
          refine V_iconst (pc := 30) C dX11_parted_30 kc_i_1 ?_
          refine V_goto (tgt := 35) (pc := 31) C dX11_parted_31 (by decide) ?_
          exact V_mask [true, true, true, true, true, true, false, false, false, false, false] (mX11_parted_J35 C  hR h)
        · have h := it_f hc h
          refine V_iload_n (pc := 25) C dX11_parted_25 rfl rfl ?_
          refine V_iconst (pc := 26) C dX11_parted_26 kc_i_3 ?_
          refine V_icmp_ne (tgt := 34) (pc := 27) C dX11_parted_27 (by decide) (fun hc => ?_) (fun hc => ?_)
          · have h := it_f hc h
            refine V_iconst (pc := 34) C dX11_parted_34 kc_i_0 ?_
            exact V_mask [true, true, true, true, true, true, false, false, false, false, false] (mX11_parted_J35 C  hR h)
          · have h := it_t hc h
            refine V_iconst (pc := 30) C dX11_parted_30 kc_i_1 ?_
            refine V_goto (tgt := 35) (pc := 31) C dX11_parted_31 (by decide) ?_
            exact V_mask [true, true, true, true, true, true, false, false, false, false, false] (mX11_parted_J35 C  hR h)
set_option maxRecDepth 100000 in
theorem mX11_pairOnes (l : Launch) {S : zM} {a0 : Nat} {a1 : Int32} {a2 : Int32} {r : Int32} (ha0 : zob cW 9 a0) (h : gX11_pairOnes S a0 a1 a2 = some r) : zMet l cW zS0 yX11_pairOnes cX11_pairOnes 3 (some .int) 3 67 [.ref a0, .int a1, .int a2] S (some (.int r)) S := by
  refine zmeth (by decide +kernel) (by rfl) (fun K hKl C hR => ?_)
  show V K 0 [some (.ref a0), some (.int a1), some (.int a2)] [] S
  unfold gX11_pairOnes at h
  refine V_aload_n (pc := 0) C dX11_pairOnes_0 rfl rfl ?_
  obtain ⟨r1, er1, h⟩ := b1_some h
  refine V_callV (As := []) (pc := 1) C (mX9_fresh _ ha0 er1) zm_X9_fresh zi_X9_fresh ml_RX11_120 ha0 rfl ⟨Nat.le_of_ble_eq_true rfl, Nat.le_of_ble_eq_true rfl⟩ rfl rfl (Nat.le_of_ble_eq_true rfl) dX11_pairOnes_1 ?_
  show V K 4 [some (.ref a0), some (.int a1), some (.int a2)] [.ref r1] S
  refine V_aload_n (pc := 4) C dX11_pairOnes_4 rfl rfl ?_
  refine V_iload_n (pc := 5) C dX11_pairOnes_5 rfl rfl ?_
  obtain ⟨r2, er2, h⟩ := b1_some h
  refine V_callV (As := [.int a2]) (pc := 6) C (mX9_levelAt _ ha0 er2) zm_X9_levelAt zi_X9_levelAt ml_RX11_114 ha0 rfl ⟨Nat.le_of_ble_eq_true rfl, Nat.le_of_ble_eq_true rfl⟩ rfl rfl (Nat.le_of_ble_eq_true rfl) dX11_pairOnes_6 ?_
  show V K 9 [some (.ref a0), some (.int a1), some (.int a2)] [.int r2, .ref r1] S
  refine V_aload_n (pc := 9) C dX11_pairOnes_9 rfl rfl ?_
  refine V_iload_n (pc := 10) C dX11_pairOnes_10 rfl rfl ?_
  obtain ⟨r3, er3, h⟩ := b1_some h
  refine V_callV (As := [.int a1]) (pc := 11) C (mX9_levelAt _ ha0 er3) zm_X9_levelAt zi_X9_levelAt ml_RX11_114 ha0 rfl ⟨Nat.le_of_ble_eq_true rfl, Nat.le_of_ble_eq_true rfl⟩ rfl rfl (Nat.le_of_ble_eq_true rfl) dX11_pairOnes_11 ?_
  show V K 14 [some (.ref a0), some (.int a1), some (.int a2)] [.int r3, .int r2, .ref r1] S
  refine V_isub (pc := 14) C dX11_pairOnes_14 ?_
  refine V_iconst (pc := 15) C dX11_pairOnes_15 kc_i_0 ?_
  refine V_iconst (pc := 16) C dX11_pairOnes_16 kc_i_1 ?_
  obtain ⟨r4, er4, h⟩ := b1_some h
  refine V_callV (As := [.int (r2 - r3), .int (0 : Int32), .int (1 : Int32)]) (pc := 17) C (mX4_pairOdds _ (mX9_fresh_f ha0 er1) er4) zm_X4_pairOdds zi_X4_pairOdds ml_RX11_344 (mX9_fresh_f ha0 er1) rfl ⟨Nat.le_of_ble_eq_true rfl, Nat.le_of_ble_eq_true rfl⟩ rfl rfl (Nat.le_of_ble_eq_true rfl) dX11_pairOnes_17 ?_
  show V K 20 [some (.ref a0), some (.int a1), some (.int a2)] [.int r4] S
  cases h
  exact hR 20 _ ⟨_, rfl, rfl⟩ dX11_pairOnes_20
set_option maxRecDepth 100000 in
theorem mX11_fewest_L128 {K : zK} (C : zC K cX11_fewest yX11_fewest.cls 10 4 100 cW) {v5 : Int32} {v6 : Int32} {v7 : Int32} {v8 : Int32}  : ∀ (f : Nat) (S : zM) (v9 : Int32) (r : Int32) (S' : zM), gX11_fewest_L128 v5 v6 v7 v8 f S v9 = some (r, S') → zR K cX11_fewest (some .int) S' (some (.int r)) → V K 128 [some (.ref 0), none, none, none, none, some (.int v5), some (.int v6), some (.int v7), some (.int v8), some (.int v9)] [] S := by
  intro f
  induction f with
  | zero => intro S v9 r S' h hR; cases h
  | succ n ih =>
    intro S v9 r S' h hR
    unfold gX11_fewest_L128 at h
    refine V_iload (pc := 128) C dX11_fewest_128 rfl ?_
    refine V_bipush (pc := 130) C dX11_fewest_130 kc_b_40 ?_
    refine V_icmp_gt (tgt := 202) (pc := 132) C dX11_fewest_132 (by decide) (fun hc => ?_) (fun hc => ?_)
    · have h := it_t hc h
      refine V_bipush (pc := 202) C dX11_fewest_202 kc_b_m2 ?_
      cases h
      exact hR 204 _ ⟨_, rfl, rfl⟩ dX11_fewest_204
    · have h := it_f hc h
      refine V_aload_n (pc := 135) C dX11_fewest_135 rfl rfl ?_
      refine V_getF (p1 := 233) (pc := 136) C z1_cW_11 fl_RX11_30 rfl (zf_cW_11_3 z1_cW_11) dX11_fewest_136 ?_
      refine V_iload (pc := 139) C dX11_fewest_139 rfl ?_
      refine V_iload (pc := 141) C dX11_fewest_141 rfl ?_
      refine V_iload (pc := 143) C dX11_fewest_143 rfl ?_
      obtain ⟨r21, S22, er21, h⟩ := b2_some h
      refine V_callV (As := [.int v9, .int v5, .int v6]) (pc := 145) C (mX10_greatest _ er21) zm_X10_greatest zi_X10_greatest ml_RX11_285 z1_cW_10 rfl ⟨Nat.le_of_ble_eq_true rfl, Nat.le_of_ble_eq_true rfl⟩ rfl rfl (Nat.le_of_ble_eq_true rfl) dX11_fewest_145 ?_
      show V K 148 [some (.ref 0), none, none, none, none, some (.int v5), some (.int v6), some (.int v7), some (.int v8), some (.int v9)] [.int r21] S22
      refine V_aload_n (pc := 148) C dX11_fewest_148 rfl rfl ?_
      refine V_getF (p1 := 233) (pc := 149) C z1_cW_11 fl_RX11_30 rfl (zf_cW_11_3 z1_cW_11) dX11_fewest_149 ?_
      refine V_iload (pc := 152) C dX11_fewest_152 rfl ?_
      refine V_iload (pc := 154) C dX11_fewest_154 rfl ?_
      refine V_iload (pc := 156) C dX11_fewest_156 rfl ?_
      obtain ⟨r23, S24, er23, h⟩ := b2_some h
      refine V_callV (As := [.int v9, .int v7, .int v8]) (pc := 158) C (mX10_least _ er23) zm_X10_least zi_X10_least ml_RX11_288 z1_cW_10 rfl ⟨Nat.le_of_ble_eq_true rfl, Nat.le_of_ble_eq_true rfl⟩ rfl rfl (Nat.le_of_ble_eq_true rfl) dX11_fewest_158 ?_
      show V K 161 [some (.ref 0), none, none, none, none, some (.int v5), some (.int v6), some (.int v7), some (.int v8), some (.int v9)] [.int r23, .int r21] S24
      refine V_icmp_lt (tgt := 193) (pc := 161) C dX11_fewest_161 (by decide) (fun hc => ?_) (fun hc => ?_)
      · have h := it_t hc h
        refine V_iload (pc := 193) C dX11_fewest_193 rfl ?_
        cases h
        exact hR 195 _ ⟨_, rfl, rfl⟩ dX11_fewest_195
      · have h := it_f hc h
        refine V_aload_n (pc := 164) C dX11_fewest_164 rfl rfl ?_
        refine V_getF (p1 := 233) (pc := 165) C z1_cW_11 fl_RX11_30 rfl (zf_cW_11_3 z1_cW_11) dX11_fewest_165 ?_
        refine V_iload (pc := 168) C dX11_fewest_168 rfl ?_
        refine V_iload (pc := 170) C dX11_fewest_170 rfl ?_
        refine V_iload (pc := 172) C dX11_fewest_172 rfl ?_
        obtain ⟨r25, S26, er25, h⟩ := b2_some h
        refine V_callV (As := [.int v9, .int v7, .int v8]) (pc := 174) C (mX10_greatest _ er25) zm_X10_greatest zi_X10_greatest ml_RX11_285 z1_cW_10 rfl ⟨Nat.le_of_ble_eq_true rfl, Nat.le_of_ble_eq_true rfl⟩ rfl rfl (Nat.le_of_ble_eq_true rfl) dX11_fewest_174 ?_
        show V K 177 [some (.ref 0), none, none, none, none, some (.int v5), some (.int v6), some (.int v7), some (.int v8), some (.int v9)] [.int r25] S26
        refine V_aload_n (pc := 177) C dX11_fewest_177 rfl rfl ?_
        refine V_getF (p1 := 233) (pc := 178) C z1_cW_11 fl_RX11_30 rfl (zf_cW_11_3 z1_cW_11) dX11_fewest_178 ?_
        refine V_iload (pc := 181) C dX11_fewest_181 rfl ?_
        refine V_iload (pc := 183) C dX11_fewest_183 rfl ?_
        refine V_iload (pc := 185) C dX11_fewest_185 rfl ?_
        obtain ⟨r27, S28, er27, h⟩ := b2_some h
        refine V_callV (As := [.int v9, .int v5, .int v6]) (pc := 187) C (mX10_least _ er27) zm_X10_least zi_X10_least ml_RX11_288 z1_cW_10 rfl ⟨Nat.le_of_ble_eq_true rfl, Nat.le_of_ble_eq_true rfl⟩ rfl rfl (Nat.le_of_ble_eq_true rfl) dX11_fewest_187 ?_
        show V K 190 [some (.ref 0), none, none, none, none, some (.int v5), some (.int v6), some (.int v7), some (.int v8), some (.int v9)] [.int r27, .int r25] S28
        refine V_icmp_ge (tgt := 196) (pc := 190) C dX11_fewest_190 (by decide) (fun hc => ?_) (fun hc => ?_)
        · have h := it_t hc h
          refine V_iinc (L' := [some (.ref 0), none, none, none, none, some (.int v5), some (.int v6), some (.int v7), some (.int v8), some (.int (v9 + (1 : Int32)))]) (v := (v9 + (1 : Int32))) (pc := 196) C dX11_fewest_196 rfl (congrArg (v9 + ·) kc_i_1) (by decide) rfl ?_
          refine V_goto (tgt := 128) (pc := 199) C dX11_fewest_199 (by decide) ?_
          exact V_mask [true, false, false, false, false, true, true, true, true, true] (ih _ _ _ _ h hR)
        · have h := it_f hc h
          refine V_iload (pc := 193) C dX11_fewest_193 rfl ?_
          cases h
          exact hR 195 _ ⟨_, rfl, rfl⟩ dX11_fewest_195
set_option maxRecDepth 100000 in
theorem mX11_fewest_J49 {K : zK} (C : zC K cX11_fewest yX11_fewest.cls 10 4 100 cW) {S : zM} {v1 : Int32} {v2 : Int32} {v3 : Int32} {v4 : Int32} {s0 : Int32} {r : Int32} {S' : zM}  (hR : zR K cX11_fewest (some .int) S' (some (.int r))) (h : gX11_fewest_J49 S v1 v2 v3 v4 s0 = some (r, S')) : V K 49 [some (.ref 0), some (.int v1), some (.int v2), some (.int v3), some (.int v4), none, none, none, none, none] [.int s0, .ref 0] S := by
  unfold gX11_fewest_J49 at h
  obtain ⟨r5, S6, er5, h⟩ := b2_some h
  refine V_callV (As := [.int s0]) (pc := 49) C (mX11_passes _ er5) zm_X11_passes zi_X11_passes ml_RX11_71 z1_cW_11 rfl ⟨Nat.le_of_ble_eq_true rfl, Nat.le_of_ble_eq_true rfl⟩ rfl rfl (Nat.le_of_ble_eq_true rfl) dX11_fewest_49 ?_
  show V K 52 [some (.ref 0), some (.int v1), some (.int v2), some (.int v3), some (.int v4), none, none, none, none, none] [.int r5] S6
  refine V_if_ne (tgt := 57) (pc := 52) C dX11_fewest_52 (by decide) (fun hc => ?_) (fun hc => ?_)
  · have h := it_f hc h
    refine V_aload_n (pc := 57) C dX11_fewest_57 rfl rfl ?_
    obtain ⟨k7, h⟩ := ck_some h
    refine V_getR (pc := 58) C z1_cW_11 fl_RX11_52 rfl dX11_fewest_58 ?_
    refine V_getF (p1 := ((gR S6 0 8) + 1)) (pc := 61) C (zob_of k7) fl_RX11_110 rfl (zf_cW_3_0 (zob_of k7)) dX11_fewest_61 ?_
    refine V_iload_n (pc := 64) C dX11_fewest_64 rfl rfl ?_
    obtain ⟨k8, h⟩ := ck_some h
    refine V_aald (p1 := ((gR S6 0 8) + 7 + 31 * ix v1)) (pc := 65) C (za_cW_3_0 (zob_of k7)) (fun _ => rfl) k8 (ze_cW_3_0 (zob_of k7) k8) dX11_fewest_65 ?_
    refine V_iload_n (pc := 66) C dX11_fewest_66 rfl rfl ?_
    refine V_iload (pc := 67) C dX11_fewest_67 rfl ?_
    obtain ⟨r9, er9, h⟩ := b1_some h
    refine V_callS (As := [.ref ((gR S6 0 8) + 7 + 31 * ix v1), .int v3, .int v4]) (pc := 69) C (mX11_pairOnes _ (zx_cW_3_0 (zob_of k7) k8) er9) zm_X11_pairOnes zs_X11_pairOnes ml_RX11_399 ⟨Nat.le_of_ble_eq_true rfl, Nat.le_of_ble_eq_true rfl⟩ rfl rfl (Nat.le_of_ble_eq_true rfl) dX11_fewest_69 ?_
    show V K 72 [some (.ref 0), some (.int v1), some (.int v2), some (.int v3), some (.int v4), none, none, none, none, none] [.int r9] S6
    refine V_istore (L' := [some (.ref 0), some (.int v1), some (.int v2), some (.int v3), some (.int v4), some (.int r9), none, none, none, none]) (pc := 72) C dX11_fewest_72 (by decide) rfl ?_
    refine V_aload_n (pc := 74) C dX11_fewest_74 rfl rfl ?_
    obtain ⟨k10, h⟩ := ck_some h
    refine V_getR (pc := 75) C z1_cW_11 fl_RX11_52 rfl dX11_fewest_75 ?_
    refine V_getF (p1 := ((gR S6 0 8) + 1)) (pc := 78) C (zob_of k10) fl_RX11_110 rfl (zf_cW_3_0 (zob_of k10)) dX11_fewest_78 ?_
    refine V_iload_n (pc := 81) C dX11_fewest_81 rfl rfl ?_
    obtain ⟨k11, h⟩ := ck_some h
    refine V_aald (p1 := ((gR S6 0 8) + 7 + 31 * ix v1)) (pc := 82) C (za_cW_3_0 (zob_of k10)) (fun _ => rfl) k11 (ze_cW_3_0 (zob_of k10) k11) dX11_fewest_82 ?_
    obtain ⟨r12, er12, h⟩ := b1_some h
    refine V_callV (As := []) (pc := 83) C (mX9_fresh _ (zx_cW_3_0 (zob_of k10) k11) er12) zm_X9_fresh zi_X9_fresh ml_RX11_120 (zx_cW_3_0 (zob_of k10) k11) rfl ⟨Nat.le_of_ble_eq_true rfl, Nat.le_of_ble_eq_true rfl⟩ rfl rfl (Nat.le_of_ble_eq_true rfl) dX11_fewest_83 ?_
    show V K 86 [some (.ref 0), some (.int v1), some (.int v2), some (.int v3), some (.int v4), some (.int r9), none, none, none, none] [.ref r12] S6
    obtain ⟨r13, er13, h⟩ := b1_some h
    refine V_callV (As := []) (pc := 86) C (mX4_pairs _ (mX9_fresh_f (zx_cW_3_0 (zob_of k10) k11) er12) er13) zm_X4_pairs zi_X4_pairs ml_RX11_348 (mX9_fresh_f (zx_cW_3_0 (zob_of k10) k11) er12) rfl ⟨Nat.le_of_ble_eq_true rfl, Nat.le_of_ble_eq_true rfl⟩ rfl rfl (Nat.le_of_ble_eq_true rfl) dX11_fewest_86 ?_
    show V K 89 [some (.ref 0), some (.int v1), some (.int v2), some (.int v3), some (.int v4), some (.int r9), none, none, none, none] [.int r13] S6
    refine V_istore (L' := [some (.ref 0), some (.int v1), some (.int v2), some (.int v3), some (.int v4), some (.int r9), some (.int r13), none, none, none]) (pc := 89) C dX11_fewest_89 (by decide) rfl ?_
    refine V_aload_n (pc := 91) C dX11_fewest_91 rfl rfl ?_
    obtain ⟨k14, h⟩ := ck_some h
    refine V_getR (pc := 92) C z1_cW_11 fl_RX11_52 rfl dX11_fewest_92 ?_
    refine V_getF (p1 := ((gR S6 0 8) + 1)) (pc := 95) C (zob_of k14) fl_RX11_110 rfl (zf_cW_3_0 (zob_of k14)) dX11_fewest_95 ?_
    refine V_iload_n (pc := 98) C dX11_fewest_98 rfl rfl ?_
    obtain ⟨k15, h⟩ := ck_some h
    refine V_aald (p1 := ((gR S6 0 8) + 7 + 31 * ix v2)) (pc := 99) C (za_cW_3_0 (zob_of k14)) (fun _ => rfl) k15 (ze_cW_3_0 (zob_of k14) k15) dX11_fewest_99 ?_
    refine V_iload_n (pc := 100) C dX11_fewest_100 rfl rfl ?_
    refine V_iload (pc := 101) C dX11_fewest_101 rfl ?_
    obtain ⟨r16, er16, h⟩ := b1_some h
    refine V_callS (As := [.ref ((gR S6 0 8) + 7 + 31 * ix v2), .int v3, .int v4]) (pc := 103) C (mX11_pairOnes _ (zx_cW_3_0 (zob_of k14) k15) er16) zm_X11_pairOnes zs_X11_pairOnes ml_RX11_399 ⟨Nat.le_of_ble_eq_true rfl, Nat.le_of_ble_eq_true rfl⟩ rfl rfl (Nat.le_of_ble_eq_true rfl) dX11_fewest_103 ?_
    show V K 106 [some (.ref 0), some (.int v1), some (.int v2), some (.int v3), some (.int v4), some (.int r9), some (.int r13), none, none, none] [.int r16] S6
    refine V_istore (L' := [some (.ref 0), some (.int v1), some (.int v2), some (.int v3), some (.int v4), some (.int r9), some (.int r13), some (.int r16), none, none]) (pc := 106) C dX11_fewest_106 (by decide) rfl ?_
    refine V_aload_n (pc := 108) C dX11_fewest_108 rfl rfl ?_
    obtain ⟨k17, h⟩ := ck_some h
    refine V_getR (pc := 109) C z1_cW_11 fl_RX11_52 rfl dX11_fewest_109 ?_
    refine V_getF (p1 := ((gR S6 0 8) + 1)) (pc := 112) C (zob_of k17) fl_RX11_110 rfl (zf_cW_3_0 (zob_of k17)) dX11_fewest_112 ?_
    refine V_iload_n (pc := 115) C dX11_fewest_115 rfl rfl ?_
    obtain ⟨k18, h⟩ := ck_some h
    refine V_aald (p1 := ((gR S6 0 8) + 7 + 31 * ix v2)) (pc := 116) C (za_cW_3_0 (zob_of k17)) (fun _ => rfl) k18 (ze_cW_3_0 (zob_of k17) k18) dX11_fewest_116 ?_
    obtain ⟨r19, er19, h⟩ := b1_some h
    refine V_callV (As := []) (pc := 117) C (mX9_fresh _ (zx_cW_3_0 (zob_of k17) k18) er19) zm_X9_fresh zi_X9_fresh ml_RX11_120 (zx_cW_3_0 (zob_of k17) k18) rfl ⟨Nat.le_of_ble_eq_true rfl, Nat.le_of_ble_eq_true rfl⟩ rfl rfl (Nat.le_of_ble_eq_true rfl) dX11_fewest_117 ?_
    show V K 120 [some (.ref 0), some (.int v1), some (.int v2), some (.int v3), some (.int v4), some (.int r9), some (.int r13), some (.int r16), none, none] [.ref r19] S6
    obtain ⟨r20, er20, h⟩ := b1_some h
    refine V_callV (As := []) (pc := 120) C (mX4_pairs _ (mX9_fresh_f (zx_cW_3_0 (zob_of k17) k18) er19) er20) zm_X4_pairs zi_X4_pairs ml_RX11_348 (mX9_fresh_f (zx_cW_3_0 (zob_of k17) k18) er19) rfl ⟨Nat.le_of_ble_eq_true rfl, Nat.le_of_ble_eq_true rfl⟩ rfl rfl (Nat.le_of_ble_eq_true rfl) dX11_fewest_120 ?_
    show V K 123 [some (.ref 0), some (.int v1), some (.int v2), some (.int v3), some (.int v4), some (.int r9), some (.int r13), some (.int r16), none, none] [.int r20] S6
    refine V_istore (L' := [some (.ref 0), some (.int v1), some (.int v2), some (.int v3), some (.int v4), some (.int r9), some (.int r13), some (.int r16), some (.int r20), none]) (pc := 123) C dX11_fewest_123 (by decide) rfl ?_
    refine V_iconst (pc := 125) C dX11_fewest_125 kc_i_1 ?_
    refine V_istore (L' := [some (.ref 0), some (.int v1), some (.int v2), some (.int v3), some (.int v4), some (.int r9), some (.int r13), some (.int r16), some (.int r20), some (.int (1 : Int32))]) (pc := 126) C dX11_fewest_126 (by decide) rfl ?_
    exact V_mask [true, false, false, false, false, true, true, true, true, true] (mX11_fewest_L128 C  FU _ _ _ _ h hR)
  · have h := it_t hc h
    refine V_iconst (pc := 55) C dX11_fewest_55 kc_i_m1 ?_
    cases h
    exact hR 56 _ ⟨_, rfl, rfl⟩ dX11_fewest_56
set_option maxRecDepth 100000 in
theorem mX11_fewest_J22 {K : zK} (C : zC K cX11_fewest yX11_fewest.cls 10 4 100 cW) {S : zM} {v1 : Int32} {v2 : Int32} {v3 : Int32} {v4 : Int32} {s0 : Int32} {r : Int32} {S' : zM}  (hR : zR K cX11_fewest (some .int) S' (some (.int r))) (h : gX11_fewest_J22 S v1 v2 v3 v4 s0 = some (r, S')) : V K 22 [some (.ref 0), some (.int v1), some (.int v2), some (.int v3), some (.int v4), none, none, none, none, none] [.int s0, .ref 0] S := by
  unfold gX11_fewest_J22 at h
  obtain ⟨r2, S3, er2, h⟩ := b2_some h
  refine V_callV (As := [.int s0]) (pc := 22) C (mX11_passes _ er2) zm_X11_passes zi_X11_passes ml_RX11_71 z1_cW_11 rfl ⟨Nat.le_of_ble_eq_true rfl, Nat.le_of_ble_eq_true rfl⟩ rfl rfl (Nat.le_of_ble_eq_true rfl) dX11_fewest_22 ?_
  show V K 25 [some (.ref 0), some (.int v1), some (.int v2), some (.int v3), some (.int v4), none, none, none, none, none] [.int r2] S3
  refine V_if_eq (tgt := 55) (pc := 25) C dX11_fewest_25 (by decide) (fun hc => ?_) (fun hc => ?_)
  · have h := it_t hc h
    refine V_iconst (pc := 55) C dX11_fewest_55 kc_i_m1 ?_
    cases h
    exact hR 56 _ ⟨_, rfl, rfl⟩ dX11_fewest_56
  · have h := it_f hc h
    refine V_aload_n (pc := 28) C dX11_fewest_28 rfl rfl ?_
    refine V_iload_n (pc := 29) C dX11_fewest_29 rfl rfl ?_
    obtain ⟨r4, er4, h⟩ := b1_some h
    refine V_callS (As := [.int v3]) (pc := 30) C (mX11_isSize _ er4) zm_X11_isSize zs_X11_isSize ml_RX11_242 ⟨Nat.le_of_ble_eq_true rfl, Nat.le_of_ble_eq_true rfl⟩ rfl rfl (Nat.le_of_ble_eq_true rfl) dX11_fewest_30 ?_
    show V K 33 [some (.ref 0), some (.int v1), some (.int v2), some (.int v3), some (.int v4), none, none, none, none, none] [.int r4, .ref 0] S3
    refine V_if_eq (tgt := 48) (pc := 33) C dX11_fewest_33 (by decide) (fun hc => ?_) (fun hc => ?_)
    · have h := it_t hc h
      refine V_iconst (pc := 48) C dX11_fewest_48 kc_i_2 ?_
      exact V_mask [true, true, true, true, true, false, false, false, false, false] (mX11_fewest_J49 C  hR h)
    · have h := it_f hc h
      refine V_iload (pc := 36) C dX11_fewest_36 rfl ?_
      obtain ⟨r29, er29, h⟩ := b1_some h
      refine V_callS (As := [.int v4]) (pc := 38) C (mX11_isSize _ er29) zm_X11_isSize zs_X11_isSize ml_RX11_242 ⟨Nat.le_of_ble_eq_true rfl, Nat.le_of_ble_eq_true rfl⟩ rfl rfl (Nat.le_of_ble_eq_true rfl) dX11_fewest_38 ?_
      show V K 41 [some (.ref 0), some (.int v1), some (.int v2), some (.int v3), some (.int v4), none, none, none, none, none] [.int r29, .ref 0] S3
      refine V_if_eq (tgt := 48) (pc := 41) C dX11_fewest_41 (by decide) (fun hc => ?_) (fun hc => ?_)
      · have h := it_t hc h
        refine V_iconst (pc := 48) C dX11_fewest_48 kc_i_2 ?_
        exact V_mask [true, true, true, true, true, false, false, false, false, false] (mX11_fewest_J49 C  hR h)
      · have h := it_f hc h
        refine V_iconst (pc := 44) C dX11_fewest_44 kc_i_0 ?_
        refine V_goto (tgt := 49) (pc := 45) C dX11_fewest_45 (by decide) ?_
        exact V_mask [true, true, true, true, true, false, false, false, false, false] (mX11_fewest_J49 C  hR h)
set_option maxRecDepth 100000 in
theorem mX11_fewest (l : Launch) {S : zM} {a1 : Int32} {a2 : Int32} {a3 : Int32} {a4 : Int32} {r : Int32} {S' : zM}  (h : gX11_fewest S a1 a2 a3 a4 = some (r, S')) : zMet l cW zS0 yX11_fewest cX11_fewest 10 (some .int) 4 100 [.ref 0, .int a1, .int a2, .int a3, .int a4] S (some (.int r)) S' := by
  refine zmeth (by decide +kernel) (by rfl) (fun K hKl C hR => ?_)
  show V K 0 [some (.ref 0), some (.int a1), some (.int a2), some (.int a3), some (.int a4), none, none, none, none, none] [] S
  unfold gX11_fewest at h
  refine V_aload_n (pc := 0) C dX11_fewest_0 rfl rfl ?_
  refine V_aload_n (pc := 1) C dX11_fewest_1 rfl rfl ?_
  refine V_iload_n (pc := 2) C dX11_fewest_2 rfl rfl ?_
  obtain ⟨r1, er1, h⟩ := b1_some h
  refine V_callV (As := [.int a1]) (pc := 3) C (mX11_isSense _ er1) zm_X11_isSense zi_X11_isSense ml_RX11_107 z1_cW_11 rfl ⟨Nat.le_of_ble_eq_true rfl, Nat.le_of_ble_eq_true rfl⟩ rfl rfl (Nat.le_of_ble_eq_true rfl) dX11_fewest_3 ?_
  show V K 6 [some (.ref 0), some (.int a1), some (.int a2), some (.int a3), some (.int a4), none, none, none, none, none] [.int r1, .ref 0] S
  refine V_if_eq (tgt := 21) (pc := 6) C dX11_fewest_6 (by decide) (fun hc => ?_) (fun hc => ?_)
  · have h := it_t hc h
    refine V_iconst (pc := 21) C dX11_fewest_21 kc_i_1 ?_
    exact V_mask [true, true, true, true, true, false, false, false, false, false] (mX11_fewest_J22 C  hR h)
  · have h := it_f hc h
    refine V_aload_n (pc := 9) C dX11_fewest_9 rfl rfl ?_
    refine V_iload_n (pc := 10) C dX11_fewest_10 rfl rfl ?_
    obtain ⟨r30, er30, h⟩ := b1_some h
    refine V_callV (As := [.int a2]) (pc := 11) C (mX11_isSense _ er30) zm_X11_isSense zi_X11_isSense ml_RX11_107 z1_cW_11 rfl ⟨Nat.le_of_ble_eq_true rfl, Nat.le_of_ble_eq_true rfl⟩ rfl rfl (Nat.le_of_ble_eq_true rfl) dX11_fewest_11 ?_
    show V K 14 [some (.ref 0), some (.int a1), some (.int a2), some (.int a3), some (.int a4), none, none, none, none, none] [.int r30, .ref 0] S
    refine V_if_eq (tgt := 21) (pc := 14) C dX11_fewest_14 (by decide) (fun hc => ?_) (fun hc => ?_)
    · have h := it_t hc h
      refine V_iconst (pc := 21) C dX11_fewest_21 kc_i_1 ?_
      exact V_mask [true, true, true, true, true, false, false, false, false, false] (mX11_fewest_J22 C  hR h)
    · have h := it_f hc h
      refine V_iconst (pc := 17) C dX11_fewest_17 kc_i_0 ?_
      refine V_goto (tgt := 22) (pc := 18) C dX11_fewest_18 (by decide) ?_
      exact V_mask [true, true, true, true, true, false, false, false, false, false] (mX11_fewest_J22 C  hR h)
set_option maxRecDepth 100000 in
theorem mX11_matched (l : Launch) {S : zM} {a1 : Int32} {a2 : Int32} {a3 : Int32} {r : Int32}  (h : gX11_matched S a1 a2 a3 = some r) : zMet l cW zS0 yX11_matched cX11_matched 4 (some .int) 2 44 [.ref 0, .int a1, .int a2, .int a3] S (some (.int r)) S := by
  refine zmeth (by decide +kernel) (by rfl) (fun K hKl C hR => ?_)
  show V K 0 [some (.ref 0), some (.int a1), some (.int a2), some (.int a3)] [] S
  unfold gX11_matched at h
  refine V_aload_n (pc := 0) C dX11_matched_0 rfl rfl ?_
  obtain ⟨k1, h⟩ := ck_some h
  refine V_getR (pc := 1) C z1_cW_11 fl_RX11_52 rfl dX11_matched_1 ?_
  refine V_getF (p1 := ((gR S 0 8) + 1)) (pc := 4) C (zob_of k1) fl_RX11_110 rfl (zf_cW_3_0 (zob_of k1)) dX11_matched_4 ?_
  refine V_iload_n (pc := 7) C dX11_matched_7 rfl rfl ?_
  obtain ⟨k2, h⟩ := ck_some h
  refine V_aald (p1 := ((gR S 0 8) + 7 + 31 * ix a3)) (pc := 8) C (za_cW_3_0 (zob_of k1)) (fun _ => rfl) k2 (ze_cW_3_0 (zob_of k1) k2) dX11_matched_8 ?_
  refine V_aload_n (pc := 9) C dX11_matched_9 rfl rfl ?_
  obtain ⟨k3, h⟩ := ck_some h
  refine V_getR (pc := 10) C z1_cW_11 fl_RX11_52 rfl dX11_matched_10 ?_
  refine V_getF (p1 := ((gR S 0 8) + 1)) (pc := 13) C (zob_of k3) fl_RX11_110 rfl (zf_cW_3_0 (zob_of k3)) dX11_matched_13 ?_
  refine V_iload_n (pc := 16) C dX11_matched_16 rfl rfl ?_
  obtain ⟨k4, h⟩ := ck_some h
  refine V_aald (p1 := ((gR S 0 8) + 7 + 31 * ix a1)) (pc := 17) C (za_cW_3_0 (zob_of k3)) (fun _ => rfl) k4 (ze_cW_3_0 (zob_of k3) k4) dX11_matched_17 ?_
  refine V_iload_n (pc := 18) C dX11_matched_18 rfl rfl ?_
  obtain ⟨r5, er5, h⟩ := b1_some h
  refine V_callV (As := [.int a2]) (pc := 19) C (mX9_levelAt _ (zx_cW_3_0 (zob_of k3) k4) er5) zm_X9_levelAt zi_X9_levelAt ml_RX11_114 (zx_cW_3_0 (zob_of k3) k4) rfl ⟨Nat.le_of_ble_eq_true rfl, Nat.le_of_ble_eq_true rfl⟩ rfl rfl (Nat.le_of_ble_eq_true rfl) dX11_matched_19 ?_
  show V K 22 [some (.ref 0), some (.int a1), some (.int a2), some (.int a3)] [.int r5, .ref ((gR S 0 8) + 7 + 31 * ix a3)] S
  obtain ⟨r6, er6, h⟩ := b1_some h
  refine V_callV (As := [.int r5]) (pc := 22) C (mX9_nearest _ (zx_cW_3_0 (zob_of k1) k2) er6) zm_X9_nearest zi_X9_nearest ml_RX11_424 (zx_cW_3_0 (zob_of k1) k2) rfl ⟨Nat.le_of_ble_eq_true rfl, Nat.le_of_ble_eq_true rfl⟩ rfl rfl (Nat.le_of_ble_eq_true rfl) dX11_matched_22 ?_
  show V K 25 [some (.ref 0), some (.int a1), some (.int a2), some (.int a3)] [.int r6] S
  cases h
  exact hR 25 _ ⟨_, rfl, rfl⟩ dX11_matched_25
set_option maxRecDepth 100000 in
theorem mX11_match_J22 {K : zK} (C : zC K cX11_match yX11_match.cls 4 3 67 cW) {S : zM} {v1 : Int32} {v2 : Int32} {v3 : Int32} {s0 : Int32} {r : Int32} {S' : zM}  (hR : zR K cX11_match (some .int) S' (some (.int r))) (h : gX11_match_J22 S v1 v2 v3 s0 = some (r, S')) : V K 22 [some (.ref 0), some (.int v1), some (.int v2), some (.int v3)] [.int s0, .ref 0] S := by
  unfold gX11_match_J22 at h
  obtain ⟨r2, S3, er2, h⟩ := b2_some h
  refine V_callV (As := [.int s0]) (pc := 22) C (mX11_passes _ er2) zm_X11_passes zi_X11_passes ml_RX11_71 z1_cW_11 rfl ⟨Nat.le_of_ble_eq_true rfl, Nat.le_of_ble_eq_true rfl⟩ rfl rfl (Nat.le_of_ble_eq_true rfl) dX11_match_22 ?_
  show V K 25 [some (.ref 0), some (.int v1), some (.int v2), some (.int v3)] [.int r2] S3
  refine V_if_eq (tgt := 47) (pc := 25) C dX11_match_25 (by decide) (fun hc => ?_) (fun hc => ?_)
  · have h := it_t hc h
    refine V_iconst (pc := 47) C dX11_match_47 kc_i_m1 ?_
    cases h
    exact hR 48 _ ⟨_, rfl, rfl⟩ dX11_match_48
  · have h := it_f hc h
    refine V_aload_n (pc := 28) C dX11_match_28 rfl rfl ?_
    refine V_iload_n (pc := 29) C dX11_match_29 rfl rfl ?_
    obtain ⟨r4, er4, h⟩ := b1_some h
    refine V_callS (As := [.int v2]) (pc := 30) C (mX11_isSize _ er4) zm_X11_isSize zs_X11_isSize ml_RX11_242 ⟨Nat.le_of_ble_eq_true rfl, Nat.le_of_ble_eq_true rfl⟩ rfl rfl (Nat.le_of_ble_eq_true rfl) dX11_match_30 ?_
    show V K 33 [some (.ref 0), some (.int v1), some (.int v2), some (.int v3)] [.int r4, .ref 0] S3
    refine V_if_eq (tgt := 40) (pc := 33) C dX11_match_33 (by decide) (fun hc => ?_) (fun hc => ?_)
    · have h := it_t hc h
      refine V_iconst (pc := 40) C dX11_match_40 kc_i_2 ?_
      obtain ⟨r5, S6, er5, h⟩ := b2_some h
      refine V_callV (As := [.int (2 : Int32)]) (pc := 41) C (mX11_passes _ er5) zm_X11_passes zi_X11_passes ml_RX11_71 z1_cW_11 rfl ⟨Nat.le_of_ble_eq_true rfl, Nat.le_of_ble_eq_true rfl⟩ rfl rfl (Nat.le_of_ble_eq_true rfl) dX11_match_41 ?_
      show V K 44 [some (.ref 0), some (.int v1), some (.int v2), some (.int v3)] [.int r5] S6
      refine V_if_ne (tgt := 49) (pc := 44) C dX11_match_44 (by decide) (fun hc => ?_) (fun hc => ?_)
      · have h := it_f hc h
        refine V_aload_n (pc := 49) C dX11_match_49 rfl rfl ?_
        refine V_iload_n (pc := 50) C dX11_match_50 rfl rfl ?_
        refine V_iload_n (pc := 51) C dX11_match_51 rfl rfl ?_
        refine V_iload_n (pc := 52) C dX11_match_52 rfl rfl ?_
        obtain ⟨r7, er7, h⟩ := b1_some h
        refine V_callV (As := [.int v1, .int v2, .int v3]) (pc := 53) C (mX11_matched _ er7) zm_X11_matched zi_X11_matched ml_RX11_403 z1_cW_11 rfl ⟨Nat.le_of_ble_eq_true rfl, Nat.le_of_ble_eq_true rfl⟩ rfl rfl (Nat.le_of_ble_eq_true rfl) dX11_match_53 ?_
        show V K 56 [some (.ref 0), some (.int v1), some (.int v2), some (.int v3)] [.int r7] S6
        cases h
        exact hR 56 _ ⟨_, rfl, rfl⟩ dX11_match_56
      · have h := it_t hc h
        refine V_iconst (pc := 47) C dX11_match_47 kc_i_m1 ?_
        cases h
        exact hR 48 _ ⟨_, rfl, rfl⟩ dX11_match_48
    · have h := it_f hc h
      refine V_iconst (pc := 36) C dX11_match_36 kc_i_0 ?_
      refine V_goto (tgt := 41) (pc := 37) C dX11_match_37 (by decide) ?_
      obtain ⟨r8, S9, er8, h⟩ := b2_some h
      refine V_callV (As := [.int (0 : Int32)]) (pc := 41) C (mX11_passes _ er8) zm_X11_passes zi_X11_passes ml_RX11_71 z1_cW_11 rfl ⟨Nat.le_of_ble_eq_true rfl, Nat.le_of_ble_eq_true rfl⟩ rfl rfl (Nat.le_of_ble_eq_true rfl) dX11_match_41 ?_
      show V K 44 [some (.ref 0), some (.int v1), some (.int v2), some (.int v3)] [.int r8] S9
      refine V_if_ne (tgt := 49) (pc := 44) C dX11_match_44 (by decide) (fun hc => ?_) (fun hc => ?_)
      · have h := it_f hc h
        refine V_aload_n (pc := 49) C dX11_match_49 rfl rfl ?_
        refine V_iload_n (pc := 50) C dX11_match_50 rfl rfl ?_
        refine V_iload_n (pc := 51) C dX11_match_51 rfl rfl ?_
        refine V_iload_n (pc := 52) C dX11_match_52 rfl rfl ?_
        obtain ⟨r10, er10, h⟩ := b1_some h
        refine V_callV (As := [.int v1, .int v2, .int v3]) (pc := 53) C (mX11_matched _ er10) zm_X11_matched zi_X11_matched ml_RX11_403 z1_cW_11 rfl ⟨Nat.le_of_ble_eq_true rfl, Nat.le_of_ble_eq_true rfl⟩ rfl rfl (Nat.le_of_ble_eq_true rfl) dX11_match_53 ?_
        show V K 56 [some (.ref 0), some (.int v1), some (.int v2), some (.int v3)] [.int r10] S9
        cases h
        exact hR 56 _ ⟨_, rfl, rfl⟩ dX11_match_56
      · have h := it_t hc h
        refine V_iconst (pc := 47) C dX11_match_47 kc_i_m1 ?_
        cases h
        exact hR 48 _ ⟨_, rfl, rfl⟩ dX11_match_48
set_option maxRecDepth 100000 in
theorem mX11_match (l : Launch) {S : zM} {a1 : Int32} {a2 : Int32} {a3 : Int32} {r : Int32} {S' : zM}  (h : gX11_match S a1 a2 a3 = some (r, S')) : zMet l cW zS0 yX11_match cX11_match 4 (some .int) 3 67 [.ref 0, .int a1, .int a2, .int a3] S (some (.int r)) S' := by
  refine zmeth (by decide +kernel) (by rfl) (fun K hKl C hR => ?_)
  show V K 0 [some (.ref 0), some (.int a1), some (.int a2), some (.int a3)] [] S
  unfold gX11_match at h
  refine V_aload_n (pc := 0) C dX11_match_0 rfl rfl ?_
  refine V_aload_n (pc := 1) C dX11_match_1 rfl rfl ?_
  refine V_iload_n (pc := 2) C dX11_match_2 rfl rfl ?_
  obtain ⟨r1, er1, h⟩ := b1_some h
  refine V_callV (As := [.int a1]) (pc := 3) C (mX11_isSense _ er1) zm_X11_isSense zi_X11_isSense ml_RX11_107 z1_cW_11 rfl ⟨Nat.le_of_ble_eq_true rfl, Nat.le_of_ble_eq_true rfl⟩ rfl rfl (Nat.le_of_ble_eq_true rfl) dX11_match_3 ?_
  show V K 6 [some (.ref 0), some (.int a1), some (.int a2), some (.int a3)] [.int r1, .ref 0] S
  refine V_if_eq (tgt := 21) (pc := 6) C dX11_match_6 (by decide) (fun hc => ?_) (fun hc => ?_)
  · have h := it_t hc h
    refine V_iconst (pc := 21) C dX11_match_21 kc_i_1 ?_
    exact V_mask [true, true, true, true] (mX11_match_J22 C  hR h)
  · have h := it_f hc h
    refine V_aload_n (pc := 9) C dX11_match_9 rfl rfl ?_
    refine V_iload_n (pc := 10) C dX11_match_10 rfl rfl ?_
    obtain ⟨r11, er11, h⟩ := b1_some h
    refine V_callV (As := [.int a3]) (pc := 11) C (mX11_isSense _ er11) zm_X11_isSense zi_X11_isSense ml_RX11_107 z1_cW_11 rfl ⟨Nat.le_of_ble_eq_true rfl, Nat.le_of_ble_eq_true rfl⟩ rfl rfl (Nat.le_of_ble_eq_true rfl) dX11_match_11 ?_
    show V K 14 [some (.ref 0), some (.int a1), some (.int a2), some (.int a3)] [.int r11, .ref 0] S
    refine V_if_eq (tgt := 21) (pc := 14) C dX11_match_14 (by decide) (fun hc => ?_) (fun hc => ?_)
    · have h := it_t hc h
      refine V_iconst (pc := 21) C dX11_match_21 kc_i_1 ?_
      exact V_mask [true, true, true, true] (mX11_match_J22 C  hR h)
    · have h := it_f hc h
      refine V_iconst (pc := 17) C dX11_match_17 kc_i_0 ?_
      refine V_goto (tgt := 22) (pc := 18) C dX11_match_18 (by decide) ?_
      exact V_mask [true, true, true, true] (mX11_match_J22 C  hR h)
set_option maxRecDepth 100000 in
theorem mX11_closes_J50 {K : zK} (C : zC K cX11_closes yX11_closes.cls 7 3 67 cW) {S : zM} {v1 : Int32} {v2 : Int32} {v3 : Int32} {v4 : Int32} {s0 : Int32} {r : Int32} {S' : zM}  (hR : zR K cX11_closes (some .int) S' (some (.int r))) (h : gX11_closes_J50 S v1 v2 v3 v4 s0 = some (r, S')) : V K 50 [some (.ref 0), some (.int v1), some (.int v2), some (.int v3), some (.int v4), none, none] [.int s0, .ref 0] S := by
  unfold gX11_closes_J50 at h
  obtain ⟨r5, S6, er5, h⟩ := b2_some h
  refine V_callV (As := [.int s0]) (pc := 50) C (mX11_passes _ er5) zm_X11_passes zi_X11_passes ml_RX11_71 z1_cW_11 rfl ⟨Nat.le_of_ble_eq_true rfl, Nat.le_of_ble_eq_true rfl⟩ rfl rfl (Nat.le_of_ble_eq_true rfl) dX11_closes_50 ?_
  show V K 53 [some (.ref 0), some (.int v1), some (.int v2), some (.int v3), some (.int v4), none, none] [.int r5] S6
  refine V_if_ne (tgt := 60) (pc := 53) C dX11_closes_53 (by decide) (fun hc => ?_) (fun hc => ?_)
  · have h := it_f hc h
    refine V_aload_n (pc := 60) C dX11_closes_60 rfl rfl ?_
    refine V_iload_n (pc := 61) C dX11_closes_61 rfl rfl ?_
    refine V_iload (pc := 62) C dX11_closes_62 rfl ?_
    refine V_iload_n (pc := 64) C dX11_closes_64 rfl rfl ?_
    obtain ⟨r7, er7, h⟩ := b1_some h
    refine V_callV (As := [.int v1, .int v4, .int v2]) (pc := 65) C (mX11_matched _ er7) zm_X11_matched zi_X11_matched ml_RX11_403 z1_cW_11 rfl ⟨Nat.le_of_ble_eq_true rfl, Nat.le_of_ble_eq_true rfl⟩ rfl rfl (Nat.le_of_ble_eq_true rfl) dX11_closes_65 ?_
    show V K 68 [some (.ref 0), some (.int v1), some (.int v2), some (.int v3), some (.int v4), none, none] [.int r7] S6
    refine V_istore (L' := [some (.ref 0), some (.int v1), some (.int v2), some (.int v3), some (.int v4), some (.int r7), none]) (pc := 68) C dX11_closes_68 (by decide) rfl ?_
    refine V_aload_n (pc := 70) C dX11_closes_70 rfl rfl ?_
    refine V_iload_n (pc := 71) C dX11_closes_71 rfl rfl ?_
    refine V_iload (pc := 72) C dX11_closes_72 rfl ?_
    refine V_iload_n (pc := 74) C dX11_closes_74 rfl rfl ?_
    obtain ⟨r8, er8, h⟩ := b1_some h
    refine V_callV (As := [.int v2, .int r7, .int v3]) (pc := 75) C (mX11_matched _ er8) zm_X11_matched zi_X11_matched ml_RX11_403 z1_cW_11 rfl ⟨Nat.le_of_ble_eq_true rfl, Nat.le_of_ble_eq_true rfl⟩ rfl rfl (Nat.le_of_ble_eq_true rfl) dX11_closes_75 ?_
    show V K 78 [some (.ref 0), some (.int v1), some (.int v2), some (.int v3), some (.int v4), some (.int r7), none] [.int r8] S6
    refine V_istore (L' := [some (.ref 0), some (.int v1), some (.int v2), some (.int v3), some (.int v4), some (.int r7), some (.int r8)]) (pc := 78) C dX11_closes_78 (by decide) rfl ?_
    refine V_aload_n (pc := 80) C dX11_closes_80 rfl rfl ?_
    refine V_iload_n (pc := 81) C dX11_closes_81 rfl rfl ?_
    refine V_iload (pc := 82) C dX11_closes_82 rfl ?_
    refine V_iload_n (pc := 84) C dX11_closes_84 rfl rfl ?_
    obtain ⟨r9, er9, h⟩ := b1_some h
    refine V_callV (As := [.int v3, .int r8, .int v1]) (pc := 85) C (mX11_matched _ er9) zm_X11_matched zi_X11_matched ml_RX11_403 z1_cW_11 rfl ⟨Nat.le_of_ble_eq_true rfl, Nat.le_of_ble_eq_true rfl⟩ rfl rfl (Nat.le_of_ble_eq_true rfl) dX11_closes_85 ?_
    show V K 88 [some (.ref 0), some (.int v1), some (.int v2), some (.int v3), some (.int v4), some (.int r7), some (.int r8)] [.int r9] S6
    refine V_iload (pc := 88) C dX11_closes_88 rfl ?_
    refine V_isub (pc := 90) C dX11_closes_90 ?_
    cases h
    exact hR 91 _ ⟨_, rfl, rfl⟩ dX11_closes_91
  · have h := it_t hc h
    refine V_sipush (pc := 56) C dX11_closes_56 kc_s_m1000 ?_
    cases h
    exact hR 59 _ ⟨_, rfl, rfl⟩ dX11_closes_59
set_option maxRecDepth 100000 in
theorem mX11_closes_J30 {K : zK} (C : zC K cX11_closes yX11_closes.cls 7 3 67 cW) {S : zM} {v1 : Int32} {v2 : Int32} {v3 : Int32} {v4 : Int32} {s0 : Int32} {r : Int32} {S' : zM}  (hR : zR K cX11_closes (some .int) S' (some (.int r))) (h : gX11_closes_J30 S v1 v2 v3 v4 s0 = some (r, S')) : V K 30 [some (.ref 0), some (.int v1), some (.int v2), some (.int v3), some (.int v4), none, none] [.int s0, .ref 0] S := by
  unfold gX11_closes_J30 at h
  obtain ⟨r2, S3, er2, h⟩ := b2_some h
  refine V_callV (As := [.int s0]) (pc := 30) C (mX11_passes _ er2) zm_X11_passes zi_X11_passes ml_RX11_71 z1_cW_11 rfl ⟨Nat.le_of_ble_eq_true rfl, Nat.le_of_ble_eq_true rfl⟩ rfl rfl (Nat.le_of_ble_eq_true rfl) dX11_closes_30 ?_
  show V K 33 [some (.ref 0), some (.int v1), some (.int v2), some (.int v3), some (.int v4), none, none] [.int r2] S3
  refine V_if_eq (tgt := 56) (pc := 33) C dX11_closes_33 (by decide) (fun hc => ?_) (fun hc => ?_)
  · have h := it_t hc h
    refine V_sipush (pc := 56) C dX11_closes_56 kc_s_m1000 ?_
    cases h
    exact hR 59 _ ⟨_, rfl, rfl⟩ dX11_closes_59
  · have h := it_f hc h
    refine V_aload_n (pc := 36) C dX11_closes_36 rfl rfl ?_
    refine V_iload (pc := 37) C dX11_closes_37 rfl ?_
    obtain ⟨r4, er4, h⟩ := b1_some h
    refine V_callS (As := [.int v4]) (pc := 39) C (mX11_isSize _ er4) zm_X11_isSize zs_X11_isSize ml_RX11_242 ⟨Nat.le_of_ble_eq_true rfl, Nat.le_of_ble_eq_true rfl⟩ rfl rfl (Nat.le_of_ble_eq_true rfl) dX11_closes_39 ?_
    show V K 42 [some (.ref 0), some (.int v1), some (.int v2), some (.int v3), some (.int v4), none, none] [.int r4, .ref 0] S3
    refine V_if_eq (tgt := 49) (pc := 42) C dX11_closes_42 (by decide) (fun hc => ?_) (fun hc => ?_)
    · have h := it_t hc h
      refine V_iconst (pc := 49) C dX11_closes_49 kc_i_2 ?_
      exact V_mask [true, true, true, true, true, false, false] (mX11_closes_J50 C  hR h)
    · have h := it_f hc h
      refine V_iconst (pc := 45) C dX11_closes_45 kc_i_0 ?_
      refine V_goto (tgt := 50) (pc := 46) C dX11_closes_46 (by decide) ?_
      exact V_mask [true, true, true, true, true, false, false] (mX11_closes_J50 C  hR h)
set_option maxRecDepth 100000 in
theorem mX11_closes (l : Launch) {S : zM} {a1 : Int32} {a2 : Int32} {a3 : Int32} {a4 : Int32} {r : Int32} {S' : zM}  (h : gX11_closes S a1 a2 a3 a4 = some (r, S')) : zMet l cW zS0 yX11_closes cX11_closes 7 (some .int) 3 67 [.ref 0, .int a1, .int a2, .int a3, .int a4] S (some (.int r)) S' := by
  refine zmeth (by decide +kernel) (by rfl) (fun K hKl C hR => ?_)
  show V K 0 [some (.ref 0), some (.int a1), some (.int a2), some (.int a3), some (.int a4), none, none] [] S
  unfold gX11_closes at h
  refine V_aload_n (pc := 0) C dX11_closes_0 rfl rfl ?_
  refine V_aload_n (pc := 1) C dX11_closes_1 rfl rfl ?_
  refine V_iload_n (pc := 2) C dX11_closes_2 rfl rfl ?_
  obtain ⟨r1, er1, h⟩ := b1_some h
  refine V_callV (As := [.int a1]) (pc := 3) C (mX11_isSense _ er1) zm_X11_isSense zi_X11_isSense ml_RX11_107 z1_cW_11 rfl ⟨Nat.le_of_ble_eq_true rfl, Nat.le_of_ble_eq_true rfl⟩ rfl rfl (Nat.le_of_ble_eq_true rfl) dX11_closes_3 ?_
  show V K 6 [some (.ref 0), some (.int a1), some (.int a2), some (.int a3), some (.int a4), none, none] [.int r1, .ref 0] S
  refine V_if_eq (tgt := 29) (pc := 6) C dX11_closes_6 (by decide) (fun hc => ?_) (fun hc => ?_)
  · have h := it_t hc h
    refine V_iconst (pc := 29) C dX11_closes_29 kc_i_1 ?_
    exact V_mask [true, true, true, true, true, false, false] (mX11_closes_J30 C  hR h)
  · have h := it_f hc h
    refine V_aload_n (pc := 9) C dX11_closes_9 rfl rfl ?_
    refine V_iload_n (pc := 10) C dX11_closes_10 rfl rfl ?_
    obtain ⟨r10, er10, h⟩ := b1_some h
    refine V_callV (As := [.int a2]) (pc := 11) C (mX11_isSense _ er10) zm_X11_isSense zi_X11_isSense ml_RX11_107 z1_cW_11 rfl ⟨Nat.le_of_ble_eq_true rfl, Nat.le_of_ble_eq_true rfl⟩ rfl rfl (Nat.le_of_ble_eq_true rfl) dX11_closes_11 ?_
    show V K 14 [some (.ref 0), some (.int a1), some (.int a2), some (.int a3), some (.int a4), none, none] [.int r10, .ref 0] S
    refine V_if_eq (tgt := 29) (pc := 14) C dX11_closes_14 (by decide) (fun hc => ?_) (fun hc => ?_)
    · have h := it_t hc h
      refine V_iconst (pc := 29) C dX11_closes_29 kc_i_1 ?_
      exact V_mask [true, true, true, true, true, false, false] (mX11_closes_J30 C  hR h)
    · have h := it_f hc h
      refine V_aload_n (pc := 17) C dX11_closes_17 rfl rfl ?_
      refine V_iload_n (pc := 18) C dX11_closes_18 rfl rfl ?_
      obtain ⟨r11, er11, h⟩ := b1_some h
      refine V_callV (As := [.int a3]) (pc := 19) C (mX11_isSense _ er11) zm_X11_isSense zi_X11_isSense ml_RX11_107 z1_cW_11 rfl ⟨Nat.le_of_ble_eq_true rfl, Nat.le_of_ble_eq_true rfl⟩ rfl rfl (Nat.le_of_ble_eq_true rfl) dX11_closes_19 ?_
      show V K 22 [some (.ref 0), some (.int a1), some (.int a2), some (.int a3), some (.int a4), none, none] [.int r11, .ref 0] S
      refine V_if_eq (tgt := 29) (pc := 22) C dX11_closes_22 (by decide) (fun hc => ?_) (fun hc => ?_)
      · have h := it_t hc h
        refine V_iconst (pc := 29) C dX11_closes_29 kc_i_1 ?_
        exact V_mask [true, true, true, true, true, false, false] (mX11_closes_J30 C  hR h)
      · have h := it_f hc h
        refine V_iconst (pc := 25) C dX11_closes_25 kc_i_0 ?_
        refine V_goto (tgt := 30) (pc := 26) C dX11_closes_26 (by decide) ?_
        exact V_mask [true, true, true, true, true, false, false] (mX11_closes_J30 C  hR h)
set_option maxRecDepth 100000 in
theorem mJ7_fill_d0a16_L6 {K : zK} (C : zC K cJ7_fill_d0a16 yJ7_fill_d0a16.cls 5 0 0 cW) {v0 : Nat} {nv0 : Nat} {v1 : Int64} {v4 : Int32} (hv0 : zar cW 2 3 nv0 v0) : ∀ (f : Nat) (S : zM) (v3 : Int32) (S' : zM), gJ7_fill_d0a16_L6 v0 nv0 v1 v4 f S v3 = some S' → zR K cJ7_fill_d0a16 (none) S' none → V K 6 [some (.ref v0), some (.long v1), none, some (.int v3), some (.int v4)] [] S := by
  intro f
  induction f with
  | zero => intro S v3 S' h hR; cases h
  | succ n ih =>
    intro S v3 S' h hR
    unfold gJ7_fill_d0a16_L6 at h
    refine V_iload_n (pc := 6) C dJ7_fill_d0a16_6 rfl rfl ?_
    refine V_iload (pc := 7) C dJ7_fill_d0a16_7 rfl ?_
    refine V_icmp_ge (tgt := 22) (pc := 9) C dJ7_fill_d0a16_9 (by decide) (fun hc => ?_) (fun hc => ?_)
    · have h := it_t hc h
      cases h
      exact hR 22 _ rfl dJ7_fill_d0a16_22
    · have h := it_f hc h
      refine V_aload_n (pc := 12) C dJ7_fill_d0a16_12 rfl rfl ?_
      refine V_iload_n (pc := 13) C dJ7_fill_d0a16_13 rfl rfl ?_
      refine V_lload_n (pc := 14) C dJ7_fill_d0a16_14 rfl rfl ?_
      obtain ⟨k1, h⟩ := ck_some h
      refine V_last (pc := 15) C hv0 k1 dJ7_fill_d0a16_15 ?_
      refine V_iinc (L' := [some (.ref v0), some (.long v1), none, some (.int (v3 + (1 : Int32))), some (.int v4)]) (v := (v3 + (1 : Int32))) (pc := 16) C dJ7_fill_d0a16_16 rfl (congrArg (v3 + ·) kc_i_1) (by decide) rfl ?_
      refine V_goto (tgt := 6) (pc := 19) C dJ7_fill_d0a16_19 (by decide) ?_
      exact V_mask [true, true, false, true, true] (ih _ _ _ h hR)
set_option maxRecDepth 100000 in
theorem mJ7_fill_d0a16 (l : Launch) {S : zM} {a0 : Nat} {na0 : Nat} {a1 : Int64} {S' : zM} (ha0 : zar cW 2 3 na0 a0) (h : gJ7_fill_d0a16 S a0 na0 a1 = some S') : zMet l cW zS0 yJ7_fill_d0a16 cJ7_fill_d0a16 5 (none) 0 0 [.ref a0, .long a1] S none S' := by
  refine zmeth (by decide +kernel) (by rfl) (fun K hKl C hR => ?_)
  show V K 0 [some (.ref a0), some (.long a1), none, none, none] [] S
  unfold gJ7_fill_d0a16 at h
  refine V_iconst (pc := 0) C dJ7_fill_d0a16_0 kc_i_0 ?_
  refine V_istore_n (L' := [some (.ref a0), some (.long a1), none, some (.int (0 : Int32)), none]) (pc := 1) C dJ7_fill_d0a16_1 rfl (by decide) rfl ?_
  refine V_aload_n (pc := 2) C dJ7_fill_d0a16_2 rfl rfl ?_
  refine V_alen (v := (Int32.ofNat na0)) (pc := 3) C ha0 (by decide) (fun _ => rfl) rfl dJ7_fill_d0a16_3 ?_
  refine V_istore (L' := [some (.ref a0), some (.long a1), none, some (.int (0 : Int32)), some (.int (Int32.ofNat na0))]) (pc := 4) C dJ7_fill_d0a16_4 (by decide) rfl ?_
  exact V_mask [true, true, false, true, true] (mJ7_fill_d0a16_L6 C ha0 FU _ _ _ h hR)
set_option maxRecDepth 100000 in
theorem mX11_spreadWays_L23 {K : zK} (C : zC K cX11_spreadWays yX11_spreadWays.cls 7 4 86 cW) {v1 : Nat} {v2 : Int32} {v3 : Int32} (hv1 : zob cW 8 v1) : ∀ (f : Nat) (S : zM) (v4 : Int32) (S' : zM), gX11_spreadWays_L23 v1 v2 v3 f S v4 = some S' → zR K cX11_spreadWays (none) S' none → V K 23 [some (.ref 0), some (.ref v1), some (.int v2), some (.int v3), some (.int v4), none, none] [] S := by
  intro f
  induction f with
  | zero => intro S v4 S' h hR; cases h
  | succ n ih =>
    intro S v4 S' h hR
    unfold gX11_spreadWays_L23 at h
    refine V_iload (pc := 23) C dX11_spreadWays_23 rfl ?_
    refine V_sipush (pc := 25) C dX11_spreadWays_25 kc_s_400 ?_
    refine V_icmp_gt (tgt := 116) (pc := 28) C dX11_spreadWays_28 (by decide) (fun hc => ?_) (fun hc => ?_)
    · have h := it_t hc h
      refine V_aload_n (pc := 116) C dX11_spreadWays_116 rfl rfl ?_
      refine V_getF (p1 := 241) (pc := 117) C z1_cW_11 fl_RX11_42 rfl (zf_cW_11_6 z1_cW_11) dX11_spreadWays_117 ?_
      refine V_iconst (pc := 120) C dX11_spreadWays_120 kc_i_0 ?_
      refine V_aload_n (pc := 121) C dX11_spreadWays_121 rfl rfl ?_
      refine V_getF (p1 := 240) (pc := 122) C z1_cW_11 fl_RX11_38 rfl (zf_cW_11_5 z1_cW_11) dX11_spreadWays_122 ?_
      refine V_iconst (pc := 125) C dX11_spreadWays_125 kc_i_0 ?_
      refine V_aload_n (pc := 126) C dX11_spreadWays_126 rfl rfl ?_
      refine V_getF (p1 := 240) (pc := 127) C z1_cW_11 fl_RX11_38 rfl (zf_cW_11_5 z1_cW_11) dX11_spreadWays_127 ?_
      refine V_alen (v := (401 : Int32)) (pc := 130) C (za_cW_11_5 z1_cW_11) (by decide) (fun _ => rfl) (by decide) dX11_spreadWays_130 ?_
      refine V_cpL (pc := 131) C (za_cW_11_6 z1_cW_11) (za_cW_11_5 z1_cW_11) ⟨by decide, by decide +kernel⟩ ml_RX11_418 ⟨Nat.le_of_ble_eq_true rfl, Nat.le_of_ble_eq_true rfl⟩ dX11_spreadWays_131 ?_
      cases h
      exact hR 134 _ rfl dX11_spreadWays_134
    · have h := it_f hc h
      refine V_aload_n (pc := 31) C dX11_spreadWays_31 rfl rfl ?_
      refine V_getF (p1 := 240) (pc := 32) C z1_cW_11 fl_RX11_38 rfl (zf_cW_11_5 z1_cW_11) dX11_spreadWays_32 ?_
      refine V_iload (pc := 35) C dX11_spreadWays_35 rfl ?_
      obtain ⟨k5, h⟩ := ck_some h
      refine V_lald (pc := 37) C (za_cW_11_5 z1_cW_11) k5 dX11_spreadWays_37 ?_
      refine V_lconst (pc := 38) C dX11_spreadWays_38 (v := (0 : Int64)) rfl ?_
      refine V_lcmp_eq (tgt := 110) (pc := 39) C dX11_spreadWays_39 dX11_spreadWays_40 (by decide) (fun hc => ?_) (fun hc => ?_)
      · have h := it_t hc h
        refine V_iinc (L' := [some (.ref 0), some (.ref v1), some (.int v2), some (.int v3), some (.int (v4 + (1 : Int32))), none, none]) (v := (v4 + (1 : Int32))) (pc := 110) C dX11_spreadWays_110 rfl (congrArg (v4 + ·) kc_i_1) (by decide) rfl ?_
        refine V_goto (tgt := 23) (pc := 113) C dX11_spreadWays_113 (by decide) ?_
        exact V_mask [true, true, true, true, true, false, false] (ih _ _ _ h hR)
      · have h := it_f hc h
        refine V_aload_n (pc := 43) C dX11_spreadWays_43 rfl rfl ?_
        refine V_aload_n (pc := 44) C dX11_spreadWays_44 rfl rfl ?_
        refine V_iload (pc := 45) C dX11_spreadWays_45 rfl ?_
        refine V_aload_n (pc := 47) C dX11_spreadWays_47 rfl rfl ?_
        refine V_getI (pc := 48) C hv1 fl_RX11_141 (by decide) dX11_spreadWays_48 ?_
        obtain ⟨r6, er6, h⟩ := b1_some h
        refine V_callV (As := [.ref v1, .int v4, .int (gI S v1 2)]) (pc := 51) C (mX11_freshOnes _ hv1 er6) zm_X11_freshOnes zi_X11_freshOnes ml_RX11_341 z1_cW_11 rfl ⟨Nat.le_of_ble_eq_true rfl, Nat.le_of_ble_eq_true rfl⟩ rfl rfl (Nat.le_of_ble_eq_true rfl) dX11_spreadWays_51 ?_
        show V K 54 [some (.ref 0), some (.ref v1), some (.int v2), some (.int v3), some (.int v4), none, none] [.int r6] S
        refine V_i2l (pc := 54) C dX11_spreadWays_54 ?_
        refine V_lstore (L' := [some (.ref 0), some (.ref v1), some (.int v2), some (.int v3), some (.int v4), some (.long r6.toInt64), none]) (pc := 55) C dX11_spreadWays_55 (by decide) rfl ?_
        refine V_aload_n (pc := 57) C dX11_spreadWays_57 rfl rfl ?_
        refine V_getF (p1 := 241) (pc := 58) C z1_cW_11 fl_RX11_42 rfl (zf_cW_11_6 z1_cW_11) dX11_spreadWays_58 ?_
        refine V_iload (pc := 61) C dX11_spreadWays_61 rfl ?_
        refine V_iconst (pc := 63) C dX11_spreadWays_63 kc_i_1 ?_
        refine V_iload_n (pc := 64) C dX11_spreadWays_64 rfl rfl ?_
        obtain ⟨r7, er7, h⟩ := b1_some h
        refine V_callS (As := [.int v4, .int (1 : Int32), .int v2]) (pc := 65) C (mX11_stepped _ er7) zm_X11_stepped zs_X11_stepped ml_RX11_245 ⟨Nat.le_of_ble_eq_true rfl, Nat.le_of_ble_eq_true rfl⟩ rfl rfl (Nat.le_of_ble_eq_true rfl) dX11_spreadWays_65 ?_
        show V K 68 [some (.ref 0), some (.ref v1), some (.int v2), some (.int v3), some (.int v4), some (.long r6.toInt64), none] [.int r7, .ref 241] S
        refine V_dup2 (pc := 68) C dX11_spreadWays_68 rfl rfl ?_
        obtain ⟨k8, h⟩ := ck_some h
        refine V_lald (pc := 69) C (za_cW_11_6 z1_cW_11) k8 dX11_spreadWays_69 ?_
        refine V_aload_n (pc := 70) C dX11_spreadWays_70 rfl rfl ?_
        refine V_getF (p1 := 240) (pc := 71) C z1_cW_11 fl_RX11_38 rfl (zf_cW_11_5 z1_cW_11) dX11_spreadWays_71 ?_
        refine V_iload (pc := 74) C dX11_spreadWays_74 rfl ?_
        obtain ⟨k9, h⟩ := ck_some h
        refine V_lald (pc := 76) C (za_cW_11_5 z1_cW_11) k9 dX11_spreadWays_76 ?_
        refine V_lload (pc := 77) C dX11_spreadWays_77 rfl ?_
        refine V_lmul (pc := 79) C dX11_spreadWays_79 ?_
        refine V_ladd (pc := 80) C dX11_spreadWays_80 ?_
        obtain ⟨k10, h⟩ := ck_some h
        refine V_last (pc := 81) C (za_cW_11_6 z1_cW_11) k10 dX11_spreadWays_81 ?_
        refine V_aload_n (pc := 82) C dX11_spreadWays_82 rfl rfl ?_
        refine V_getF (p1 := 241) (pc := 83) C z1_cW_11 fl_RX11_42 rfl (zf_cW_11_6 z1_cW_11) dX11_spreadWays_83 ?_
        refine V_iload (pc := 86) C dX11_spreadWays_86 rfl ?_
        refine V_iconst (pc := 88) C dX11_spreadWays_88 kc_i_0 ?_
        refine V_iload_n (pc := 89) C dX11_spreadWays_89 rfl rfl ?_
        obtain ⟨r11, er11, h⟩ := b1_some h
        refine V_callS (As := [.int v4, .int (0 : Int32), .int v2]) (pc := 90) C (mX11_stepped _ er11) zm_X11_stepped zs_X11_stepped ml_RX11_245 ⟨Nat.le_of_ble_eq_true rfl, Nat.le_of_ble_eq_true rfl⟩ rfl rfl (Nat.le_of_ble_eq_true rfl) dX11_spreadWays_90 ?_
        show V K 93 [some (.ref 0), some (.ref v1), some (.int v2), some (.int v3), some (.int v4), some (.long r6.toInt64), none] [.int r11, .ref 241] (pL S 241 (ix r7) ((gL S 241 (ix r7)) + ((gL S 240 (ix v4)) * r6.toInt64)))
        refine V_dup2 (pc := 93) C dX11_spreadWays_93 rfl rfl ?_
        obtain ⟨k12, h⟩ := ck_some h
        refine V_lald (pc := 94) C (za_cW_11_6 z1_cW_11) k12 dX11_spreadWays_94 ?_
        refine V_aload_n (pc := 95) C dX11_spreadWays_95 rfl rfl ?_
        refine V_getF (p1 := 240) (pc := 96) C z1_cW_11 fl_RX11_38 rfl (zf_cW_11_5 z1_cW_11) dX11_spreadWays_96 ?_
        refine V_iload (pc := 99) C dX11_spreadWays_99 rfl ?_
        obtain ⟨k13, h⟩ := ck_some h
        refine V_lald (pc := 101) C (za_cW_11_5 z1_cW_11) k13 dX11_spreadWays_101 ?_
        refine V_iload_n (pc := 102) C dX11_spreadWays_102 rfl rfl ?_
        refine V_i2l (pc := 103) C dX11_spreadWays_103 ?_
        refine V_lload (pc := 104) C dX11_spreadWays_104 rfl ?_
        refine V_lsub (pc := 106) C dX11_spreadWays_106 ?_
        refine V_lmul (pc := 107) C dX11_spreadWays_107 ?_
        refine V_ladd (pc := 108) C dX11_spreadWays_108 ?_
        obtain ⟨k14, h⟩ := ck_some h
        refine V_last (pc := 109) C (za_cW_11_6 z1_cW_11) k14 dX11_spreadWays_109 ?_
        obtain ⟨S15, eS15, h⟩ := lt_some h
        refine V_nmS eS15 ?_
        refine V_iinc (L' := [some (.ref 0), some (.ref v1), some (.int v2), some (.int v3), some (.int (v4 + (1 : Int32))), some (.long r6.toInt64), none]) (v := (v4 + (1 : Int32))) (pc := 110) C dX11_spreadWays_110 rfl (congrArg (v4 + ·) kc_i_1) (by decide) rfl ?_
        refine V_goto (tgt := 23) (pc := 113) C dX11_spreadWays_113 (by decide) ?_
        exact V_mask [true, true, true, true, true, false, false] (ih _ _ _ h hR)
set_option maxRecDepth 100000 in
theorem mX11_spreadWays (l : Launch) {S : zM} {a1 : Nat} {a2 : Int32} {S' : zM} (ha1 : zob cW 8 a1) (h : gX11_spreadWays S a1 a2 = some S') : zMet l cW zS0 yX11_spreadWays cX11_spreadWays 7 (none) 4 86 [.ref 0, .ref a1, .int a2] S none S' := by
  refine zmeth (by decide +kernel) (by rfl) (fun K hKl C hR => ?_)
  show V K 0 [some (.ref 0), some (.ref a1), some (.int a2), none, none, none, none] [] S
  unfold gX11_spreadWays at h
  refine V_aload_n (pc := 0) C dX11_spreadWays_0 rfl rfl ?_
  refine V_aload_n (pc := 1) C dX11_spreadWays_1 rfl rfl ?_
  obtain ⟨r1, er1, h⟩ := b1_some h
  refine V_callV (As := [.ref a1]) (pc := 2) C (mX11_senseOf _ ha1 er1) zm_X11_senseOf zi_X11_senseOf ml_RX11_337 z1_cW_11 rfl ⟨Nat.le_of_ble_eq_true rfl, Nat.le_of_ble_eq_true rfl⟩ rfl rfl (Nat.le_of_ble_eq_true rfl) dX11_spreadWays_2 ?_
  show V K 5 [some (.ref 0), some (.ref a1), some (.int a2), none, none, none, none] [.ref r1] S
  obtain ⟨r2, er2, h⟩ := b1_some h
  refine V_callV (As := []) (pc := 5) C (mX9_fresh _ (mX11_senseOf_f ha1 er1) er2) zm_X9_fresh zi_X9_fresh ml_RX11_120 (mX11_senseOf_f ha1 er1) rfl ⟨Nat.le_of_ble_eq_true rfl, Nat.le_of_ble_eq_true rfl⟩ rfl rfl (Nat.le_of_ble_eq_true rfl) dX11_spreadWays_5 ?_
  show V K 8 [some (.ref 0), some (.ref a1), some (.int a2), none, none, none, none] [.ref r2] S
  refine V_getI (pc := 8) C (mX9_fresh_f (mX11_senseOf_f ha1 er1) er2) fl_RX11_165 (by decide) dX11_spreadWays_8 ?_
  refine V_istore_n (L' := [some (.ref 0), some (.ref a1), some (.int a2), some (.int (gI S r2 3)), none, none, none]) (pc := 11) C dX11_spreadWays_11 rfl (by decide) rfl ?_
  refine V_aload_n (pc := 12) C dX11_spreadWays_12 rfl rfl ?_
  refine V_getF (p1 := 241) (pc := 13) C z1_cW_11 fl_RX11_42 rfl (zf_cW_11_6 z1_cW_11) dX11_spreadWays_13 ?_
  refine V_lconst (pc := 16) C dX11_spreadWays_16 (v := (0 : Int64)) rfl ?_
  obtain ⟨S4, euS4, h⟩ := b1_some h
  refine V_callS (As := [.ref 241, .long (0 : Int64)]) (pc := 17) C (mJ7_fill_d0a16 _ (za_cW_11_6 z1_cW_11) euS4) zm_J7_fill_d0a16 zs_J7_fill_d0a16 ml_RX11_408 ⟨Nat.le_of_ble_eq_true rfl, Nat.le_of_ble_eq_true rfl⟩ rfl rfl (Nat.le_of_ble_eq_true rfl) dX11_spreadWays_17 ?_
  show V K 20 [some (.ref 0), some (.ref a1), some (.int a2), some (.int (gI S r2 3)), none, none, none] [] S4
  refine V_iconst (pc := 20) C dX11_spreadWays_20 kc_i_1 ?_
  refine V_istore (L' := [some (.ref 0), some (.ref a1), some (.int a2), some (.int (gI S r2 3)), some (.int (1 : Int32)), none, none]) (pc := 21) C dX11_spreadWays_21 (by decide) rfl ?_
  exact V_mask [true, true, true, true, true, false, false] (mX11_spreadWays_L23 C ha1 FU _ _ _ h hR)
set_option maxRecDepth 100000 in
theorem mX11_stair_L101 {K : zK} (C : zC K cX11_stair yX11_stair.cls 8 5 112 cW) {v1 : Int32} {v3 : Int32} {v4 : Int32} {v5 : Int32}  : ∀ (f : Nat) (S : zM) (v7 : Int32) (r : Int64) (S' : zM), gX11_stair_L101 v1 v3 v4 v5 f S v7 = some (r, S') → zR K cX11_stair (some .long) S' (some (.long r)) → V K 101 [some (.ref 0), some (.int v1), none, some (.int v3), some (.int v4), some (.int v5), none, some (.int v7)] [] S := by
  intro f
  induction f with
  | zero => intro S v7 r S' h hR; cases h
  | succ n ih =>
    intro S v7 r S' h hR
    unfold gX11_stair_L101 at h
    refine V_iload (pc := 101) C dX11_stair_101 rfl ?_
    refine V_iload (pc := 103) C dX11_stair_103 rfl ?_
    refine V_icmp_ge (tgt := 128) (pc := 105) C dX11_stair_105 (by decide) (fun hc => ?_) (fun hc => ?_)
    · have h := it_t hc h
      refine V_aload_n (pc := 128) C dX11_stair_128 rfl rfl ?_
      refine V_getF (p1 := 240) (pc := 129) C z1_cW_11 fl_RX11_38 rfl (zf_cW_11_5 z1_cW_11) dX11_stair_129 ?_
      refine V_iload (pc := 132) C dX11_stair_132 rfl ?_
      obtain ⟨k10, h⟩ := ck_some h
      refine V_lald (pc := 134) C (za_cW_11_5 z1_cW_11) k10 dX11_stair_134 ?_
      cases h
      exact hR 135 _ rfl dX11_stair_135
    · have h := it_f hc h
      refine V_aload_n (pc := 108) C dX11_stair_108 rfl rfl ?_
      refine V_aload_n (pc := 109) C dX11_stair_109 rfl rfl ?_
      obtain ⟨k11, h⟩ := ck_some h
      refine V_getR (pc := 110) C z1_cW_11 fl_RX11_52 rfl dX11_stair_110 ?_
      refine V_getF (p1 := ((gR S 0 8) + 2)) (pc := 113) C (zob_of k11) fl_RX11_132 rfl (zf_cW_3_1 (zob_of k11)) dX11_stair_113 ?_
      refine V_iload_n (pc := 116) C dX11_stair_116 rfl rfl ?_
      obtain ⟨k12, h⟩ := ck_some h
      refine V_aald (p1 := ((gR S 0 8) + 193 + 2 * ix v1)) (pc := 117) C (za_cW_3_1 (zob_of k11)) (fun _ => rfl) k12 (ze_cW_3_1 (zob_of k11) k12) dX11_stair_117 ?_
      refine V_iload_n (pc := 118) C dX11_stair_118 rfl rfl ?_
      obtain ⟨S14, euS14, h⟩ := b1_some h
      refine V_callV (As := [.ref ((gR S 0 8) + 193 + 2 * ix v1), .int v3]) (pc := 119) C (mX11_spreadWays _ (zx_cW_3_1 (zob_of k11) k12) euS14) zm_X11_spreadWays zi_X11_spreadWays ml_RX11_414 z1_cW_11 rfl ⟨Nat.le_of_ble_eq_true rfl, Nat.le_of_ble_eq_true rfl⟩ rfl rfl (Nat.le_of_ble_eq_true rfl) dX11_stair_119 ?_
      show V K 122 [some (.ref 0), some (.int v1), none, some (.int v3), some (.int v4), some (.int v5), none, some (.int v7)] [] S14
      refine V_iinc (L' := [some (.ref 0), some (.int v1), none, some (.int v3), some (.int v4), some (.int v5), none, some (.int (v7 + (1 : Int32)))]) (v := (v7 + (1 : Int32))) (pc := 122) C dX11_stair_122 rfl (congrArg (v7 + ·) kc_i_1) (by decide) rfl ?_
      refine V_goto (tgt := 101) (pc := 125) C dX11_stair_125 (by decide) ?_
      exact V_mask [true, true, false, true, true, true, false, true] (ih _ _ _ _ h hR)
set_option maxRecDepth 100000 in
theorem mX11_stair_J73 {K : zK} (C : zC K cX11_stair yX11_stair.cls 8 5 112 cW) {S : zM} {v1 : Int32} {v2 : Int32} {v3 : Int32} {v4 : Int32} {v5 : Int32} {s0 : Int32} {r : Int64} {S' : zM}  (hR : zR K cX11_stair (some .long) S' (some (.long r))) (h : gX11_stair_J73 S v1 v2 v3 v4 v5 s0 = some (r, S')) : V K 73 [some (.ref 0), some (.int v1), some (.int v2), some (.int v3), some (.int v4), some (.int v5), none, none] [.int s0, .ref 0] S := by
  unfold gX11_stair_J73 at h
  obtain ⟨r5, S6, er5, h⟩ := b2_some h
  refine V_callV (As := [.int s0]) (pc := 73) C (mX11_passes _ er5) zm_X11_passes zi_X11_passes ml_RX11_71 z1_cW_11 rfl ⟨Nat.le_of_ble_eq_true rfl, Nat.le_of_ble_eq_true rfl⟩ rfl rfl (Nat.le_of_ble_eq_true rfl) dX11_stair_73 ?_
  show V K 76 [some (.ref 0), some (.int v1), some (.int v2), some (.int v3), some (.int v4), some (.int v5), none, none] [.int r5] S6
  refine V_if_ne (tgt := 83) (pc := 76) C dX11_stair_76 (by decide) (fun hc => ?_) (fun hc => ?_)
  · have h := it_f hc h
    refine V_aload_n (pc := 83) C dX11_stair_83 rfl rfl ?_
    refine V_getF (p1 := 240) (pc := 84) C z1_cW_11 fl_RX11_38 rfl (zf_cW_11_5 z1_cW_11) dX11_stair_84 ?_
    refine V_lconst (pc := 87) C dX11_stair_87 (v := (0 : Int64)) rfl ?_
    obtain ⟨S8, euS8, h⟩ := b1_some h
    refine V_callS (As := [.ref 240, .long (0 : Int64)]) (pc := 88) C (mJ7_fill_d0a16 _ (za_cW_11_5 z1_cW_11) euS8) zm_J7_fill_d0a16 zs_J7_fill_d0a16 ml_RX11_408 ⟨Nat.le_of_ble_eq_true rfl, Nat.le_of_ble_eq_true rfl⟩ rfl rfl (Nat.le_of_ble_eq_true rfl) dX11_stair_88 ?_
    show V K 91 [some (.ref 0), some (.int v1), some (.int v2), some (.int v3), some (.int v4), some (.int v5), none, none] [] S8
    refine V_aload_n (pc := 91) C dX11_stair_91 rfl rfl ?_
    refine V_getF (p1 := 240) (pc := 92) C z1_cW_11 fl_RX11_38 rfl (zf_cW_11_5 z1_cW_11) dX11_stair_92 ?_
    refine V_iload_n (pc := 95) C dX11_stair_95 rfl rfl ?_
    refine V_lconst (pc := 96) C dX11_stair_96 (v := (1 : Int64)) rfl ?_
    obtain ⟨k9, h⟩ := ck_some h
    refine V_last (pc := 97) C (za_cW_11_5 z1_cW_11) k9 dX11_stair_97 ?_
    refine V_iconst (pc := 98) C dX11_stair_98 kc_i_0 ?_
    refine V_istore (L' := [some (.ref 0), some (.int v1), some (.int v2), some (.int v3), some (.int v4), some (.int v5), none, some (.int (0 : Int32))]) (pc := 99) C dX11_stair_99 (by decide) rfl ?_
    exact V_mask [true, true, false, true, true, true, false, true] (mX11_stair_L101 C  FU _ _ _ _ h hR)
  · have h := it_t hc h
    refine V_ldc2 (pc := 79) C dX11_stair_79 kl_RX11_406 ?_
    cases h
    exact hR 82 _ rfl dX11_stair_82
set_option maxRecDepth 100000 in
theorem mX11_stair_J56 {K : zK} (C : zC K cX11_stair yX11_stair.cls 8 5 112 cW) {S : zM} {v1 : Int32} {v2 : Int32} {v3 : Int32} {v4 : Int32} {v5 : Int32} {v6 : Int32} {s0 : Int32} {r : Int64} {S' : zM}  (hR : zR K cX11_stair (some .long) S' (some (.long r))) (h : gX11_stair_J56 S v1 v2 v3 v4 v5 v6 s0 = some (r, S')) : V K 56 [some (.ref 0), some (.int v1), some (.int v2), some (.int v3), some (.int v4), some (.int v5), some (.int v6), none] [.int s0, .ref 0] S := by
  unfold gX11_stair_J56 at h
  obtain ⟨r3, S4, er3, h⟩ := b2_some h
  refine V_callV (As := [.int s0]) (pc := 56) C (mX11_passes _ er3) zm_X11_passes zi_X11_passes ml_RX11_71 z1_cW_11 rfl ⟨Nat.le_of_ble_eq_true rfl, Nat.le_of_ble_eq_true rfl⟩ rfl rfl (Nat.le_of_ble_eq_true rfl) dX11_stair_56 ?_
  show V K 59 [some (.ref 0), some (.int v1), some (.int v2), some (.int v3), some (.int v4), some (.int v5), some (.int v6), none] [.int r3] S4
  refine V_if_eq (tgt := 79) (pc := 59) C dX11_stair_59 (by decide) (fun hc => ?_) (fun hc => ?_)
  · have h := it_t hc h
    refine V_ldc2 (pc := 79) C dX11_stair_79 kl_RX11_406 ?_
    cases h
    exact hR 82 _ rfl dX11_stair_82
  · have h := it_f hc h
    refine V_aload_n (pc := 62) C dX11_stair_62 rfl rfl ?_
    refine V_iload (pc := 63) C dX11_stair_63 rfl ?_
    refine V_if_eq (tgt := 72) (pc := 65) C dX11_stair_65 (by decide) (fun hc => ?_) (fun hc => ?_)
    · have h := it_t hc h
      refine V_iconst (pc := 72) C dX11_stair_72 kc_i_2 ?_
      exact V_mask [true, true, true, true, true, true, false, false] (mX11_stair_J73 C  hR h)
    · have h := it_f hc h
      refine V_iconst (pc := 68) C dX11_stair_68 kc_i_0 ?_
      refine V_goto (tgt := 73) (pc := 69) C dX11_stair_69 (by decide) ?_
      exact V_mask [true, true, true, true, true, true, false, false] (mX11_stair_J73 C  hR h)
set_option maxRecDepth 100000 in
theorem mX11_stair_J40 {K : zK} (C : zC K cX11_stair yX11_stair.cls 8 5 112 cW) {S : zM} {v1 : Int32} {v2 : Int32} {v3 : Int32} {v4 : Int32} {v5 : Int32} {s0 : Int32} {r : Int64} {S' : zM}  (hR : zR K cX11_stair (some .long) S' (some (.long r))) (h : gX11_stair_J40 S v1 v2 v3 v4 v5 s0 = some (r, S')) : V K 40 [some (.ref 0), some (.int v1), some (.int v2), some (.int v3), some (.int v4), some (.int v5), none, none] [.int s0] S := by
  unfold gX11_stair_J40 at h
  refine V_istore (L' := [some (.ref 0), some (.int v1), some (.int v2), some (.int v3), some (.int v4), some (.int v5), some (.int s0), none]) (pc := 40) C dX11_stair_40 (by decide) rfl ?_
  refine V_aload_n (pc := 42) C dX11_stair_42 rfl rfl ?_
  refine V_aload_n (pc := 43) C dX11_stair_43 rfl rfl ?_
  refine V_iload_n (pc := 44) C dX11_stair_44 rfl rfl ?_
  obtain ⟨r2, er2, h⟩ := b1_some h
  refine V_callV (As := [.int v1]) (pc := 45) C (mX11_isSayer _ er2) zm_X11_isSayer zi_X11_isSayer ml_RX11_129 z1_cW_11 rfl ⟨Nat.le_of_ble_eq_true rfl, Nat.le_of_ble_eq_true rfl⟩ rfl rfl (Nat.le_of_ble_eq_true rfl) dX11_stair_45 ?_
  show V K 48 [some (.ref 0), some (.int v1), some (.int v2), some (.int v3), some (.int v4), some (.int v5), some (.int s0), none] [.int r2, .ref 0] S
  refine V_if_eq (tgt := 55) (pc := 48) C dX11_stair_48 (by decide) (fun hc => ?_) (fun hc => ?_)
  · have h := it_t hc h
    refine V_iconst (pc := 55) C dX11_stair_55 kc_i_1 ?_
    exact V_mask [true, true, true, true, true, true, true, false] (mX11_stair_J56 C  hR h)
  · have h := it_f hc h
    refine V_iconst (pc := 51) C dX11_stair_51 kc_i_0 ?_
    refine V_goto (tgt := 56) (pc := 52) C dX11_stair_52 (by decide) ?_
    exact V_mask [true, true, true, true, true, true, true, false] (mX11_stair_J56 C  hR h)
set_option maxRecDepth 100000 in
theorem mX11_stair (l : Launch) {S : zM} {a1 : Int32} {a2 : Int32} {a3 : Int32} {a4 : Int32} {a5 : Int32} {r : Int64} {S' : zM}  (h : gX11_stair S a1 a2 a3 a4 a5 = some (r, S')) : zMet l cW zS0 yX11_stair cX11_stair 8 (some .long) 5 112 [.ref 0, .int a1, .int a2, .int a3, .int a4, .int a5] S (some (.long r)) S' := by
  refine zmeth (by decide +kernel) (by rfl) (fun K hKl C hR => ?_)
  show V K 0 [some (.ref 0), some (.int a1), some (.int a2), some (.int a3), some (.int a4), some (.int a5), none, none] [] S
  unfold gX11_stair at h
  refine V_iload_n (pc := 0) C dX11_stair_0 rfl rfl ?_
  obtain ⟨r1, er1, h⟩ := b1_some h
  refine V_callS (As := [.int a2]) (pc := 1) C (mX11_isSize _ er1) zm_X11_isSize zs_X11_isSize ml_RX11_242 ⟨Nat.le_of_ble_eq_true rfl, Nat.le_of_ble_eq_true rfl⟩ rfl rfl (Nat.le_of_ble_eq_true rfl) dX11_stair_1 ?_
  show V K 4 [some (.ref 0), some (.int a1), some (.int a2), some (.int a3), some (.int a4), some (.int a5), none, none] [.int r1] S
  refine V_if_eq (tgt := 39) (pc := 4) C dX11_stair_4 (by decide) (fun hc => ?_) (fun hc => ?_)
  · have h := it_t hc h
    refine V_iconst (pc := 39) C dX11_stair_39 kc_i_0 ?_
    exact V_mask [true, true, true, true, true, true, false, false] (mX11_stair_J40 C  hR h)
  · have h := it_f hc h
    refine V_iload (pc := 7) C dX11_stair_7 rfl ?_
    obtain ⟨r15, er15, h⟩ := b1_some h
    refine V_callS (As := [.int a5]) (pc := 9) C (mX11_isSize _ er15) zm_X11_isSize zs_X11_isSize ml_RX11_242 ⟨Nat.le_of_ble_eq_true rfl, Nat.le_of_ble_eq_true rfl⟩ rfl rfl (Nat.le_of_ble_eq_true rfl) dX11_stair_9 ?_
    show V K 12 [some (.ref 0), some (.int a1), some (.int a2), some (.int a3), some (.int a4), some (.int a5), none, none] [.int r15] S
    refine V_if_eq (tgt := 39) (pc := 12) C dX11_stair_12 (by decide) (fun hc => ?_) (fun hc => ?_)
    · have h := it_t hc h
      refine V_iconst (pc := 39) C dX11_stair_39 kc_i_0 ?_
      exact V_mask [true, true, true, true, true, true, false, false] (mX11_stair_J40 C  hR h)
    · have h := it_f hc h
      refine V_iload_n (pc := 15) C dX11_stair_15 rfl rfl ?_
      obtain ⟨r16, er16, h⟩ := b1_some h
      refine V_callS (As := [.int a3]) (pc := 16) C (mX11_isSize _ er16) zm_X11_isSize zs_X11_isSize ml_RX11_242 ⟨Nat.le_of_ble_eq_true rfl, Nat.le_of_ble_eq_true rfl⟩ rfl rfl (Nat.le_of_ble_eq_true rfl) dX11_stair_16 ?_
      show V K 19 [some (.ref 0), some (.int a1), some (.int a2), some (.int a3), some (.int a4), some (.int a5), none, none] [.int r16] S
      refine V_if_eq (tgt := 39) (pc := 19) C dX11_stair_19 (by decide) (fun hc => ?_) (fun hc => ?_)
      · have h := it_t hc h
        refine V_iconst (pc := 39) C dX11_stair_39 kc_i_0 ?_
        exact V_mask [true, true, true, true, true, true, false, false] (mX11_stair_J40 C  hR h)
      · have h := it_f hc h
        refine V_iload (pc := 22) C dX11_stair_22 rfl ?_
        refine V_iconst (pc := 24) C dX11_stair_24 kc_i_1 ?_
        refine V_icmp_lt (tgt := 39) (pc := 25) C dX11_stair_25 (by decide) (fun hc => ?_) (fun hc => ?_)
        · have h := it_t hc h
          refine V_iconst (pc := 39) C dX11_stair_39 kc_i_0 ?_
          exact V_mask [true, true, true, true, true, true, false, false] (mX11_stair_J40 C  hR h)
        · have h := it_f hc h
          refine V_iload (pc := 28) C dX11_stair_28 rfl ?_
          refine V_bipush (pc := 30) C dX11_stair_30 kc_b_9 ?_
          refine V_icmp_gt (tgt := 39) (pc := 32) C dX11_stair_32 (by decide) (fun hc => ?_) (fun hc => ?_)
          · have h := it_t hc h
            refine V_iconst (pc := 39) C dX11_stair_39 kc_i_0 ?_
            exact V_mask [true, true, true, true, true, true, false, false] (mX11_stair_J40 C  hR h)
          · have h := it_f hc h
            refine V_iconst (pc := 35) C dX11_stair_35 kc_i_1 ?_
            refine V_goto (tgt := 40) (pc := 36) C dX11_stair_36 (by decide) ?_
            exact V_mask [true, true, true, true, true, true, false, false] (mX11_stair_J40 C  hR h)
set_option maxRecDepth 100000 in
theorem mX11_image_J44 {K : zK} (C : zC K cX11_image yX11_image.cls 3 1 21 cW) {S : zM} {v1 : Int32} {s0 : Int32} {r : Int64} {S' : zM}  (hR : zR K cX11_image (some .long) S' (some (.long r))) (h : gX11_image_J44 S v1 s0 = some (r, S')) : V K 44 [some (.ref 0), some (.int v1), none] [.int s0, .ref 0] S := by
  unfold gX11_image_J44 at h
  obtain ⟨r6, S7, er6, h⟩ := b2_some h
  refine V_callV (As := [.int s0]) (pc := 44) C (mX11_passes _ er6) zm_X11_passes zi_X11_passes ml_RX11_71 z1_cW_11 rfl ⟨Nat.le_of_ble_eq_true rfl, Nat.le_of_ble_eq_true rfl⟩ rfl rfl (Nat.le_of_ble_eq_true rfl) dX11_image_44 ?_
  show V K 47 [some (.ref 0), some (.int v1), none] [.int r6] S7
  refine V_if_ne (tgt := 54) (pc := 47) C dX11_image_47 (by decide) (fun hc => ?_) (fun hc => ?_)
  · have h := it_f hc h
    refine V_aload_n (pc := 54) C dX11_image_54 rfl rfl ?_
    obtain ⟨k8, h⟩ := ck_some h
    refine V_getR (pc := 55) C z1_cW_11 fl_RX11_52 rfl dX11_image_55 ?_
    refine V_getF (p1 := ((gR S7 0 8) + 2)) (pc := 58) C (zob_of k8) fl_RX11_132 rfl (zf_cW_3_1 (zob_of k8)) dX11_image_58 ?_
    refine V_iload_n (pc := 61) C dX11_image_61 rfl rfl ?_
    obtain ⟨k9, h⟩ := ck_some h
    refine V_aald (p1 := ((gR S7 0 8) + 193 + 2 * ix v1)) (pc := 62) C (za_cW_3_1 (zob_of k8)) (fun _ => rfl) k9 (ze_cW_3_1 (zob_of k8) k9) dX11_image_62 ?_
    refine V_astore_n (L' := [some (.ref 0), some (.int v1), some (.ref ((gR S7 0 8) + 193 + 2 * ix v1))]) (pc := 63) C dX11_image_63 rfl (by decide) rfl ?_
    refine V_aload_n (pc := 64) C dX11_image_64 rfl rfl ?_
    refine V_getI (pc := 65) C z1_cW_11 fl_RX11_98 (by decide) dX11_image_65 ?_
    refine V_i2l (pc := 68) C dX11_image_68 ?_
    refine V_ldc2 (pc := 69) C dX11_image_69 kl_RX11_440 ?_
    refine V_aload_n (pc := 72) C dX11_image_72 rfl rfl ?_
    refine V_getI (pc := 73) C (zx_cW_3_1 (zob_of k8) k9) fl_RX11_158 (by decide) dX11_image_73 ?_
    refine V_i2l (pc := 76) C dX11_image_76 ?_
    refine V_ldc2 (pc := 77) C dX11_image_77 kl_RX11_442 ?_
    refine V_aload_n (pc := 80) C dX11_image_80 rfl rfl ?_
    refine V_getI (pc := 81) C (zx_cW_3_1 (zob_of k8) k9) fl_RX11_155 (by decide) dX11_image_81 ?_
    refine V_i2l (pc := 84) C dX11_image_84 ?_
    refine V_lmul (pc := 85) C dX11_image_85 ?_
    refine V_ladd (pc := 86) C dX11_image_86 ?_
    refine V_lmul (pc := 87) C dX11_image_87 ?_
    refine V_ladd (pc := 88) C dX11_image_88 ?_
    cases h
    exact hR 89 _ rfl dX11_image_89
  · have h := it_t hc h
    refine V_ldc2 (pc := 50) C dX11_image_50 kl_RX11_406 ?_
    cases h
    exact hR 53 _ rfl dX11_image_53
set_option maxRecDepth 100000 in
theorem mX11_image_J14 {K : zK} (C : zC K cX11_image yX11_image.cls 3 1 21 cW) {S : zM} {v1 : Int32} {s0 : Int32} {r : Int64} {S' : zM}  (hR : zR K cX11_image (some .long) S' (some (.long r))) (h : gX11_image_J14 S v1 s0 = some (r, S')) : V K 14 [some (.ref 0), some (.int v1), none] [.int s0, .ref 0] S := by
  unfold gX11_image_J14 at h
  obtain ⟨r2, S3, er2, h⟩ := b2_some h
  refine V_callV (As := [.int s0]) (pc := 14) C (mX11_passes _ er2) zm_X11_passes zi_X11_passes ml_RX11_71 z1_cW_11 rfl ⟨Nat.le_of_ble_eq_true rfl, Nat.le_of_ble_eq_true rfl⟩ rfl rfl (Nat.le_of_ble_eq_true rfl) dX11_image_14 ?_
  show V K 17 [some (.ref 0), some (.int v1), none] [.int r2] S3
  refine V_if_eq (tgt := 50) (pc := 17) C dX11_image_17 (by decide) (fun hc => ?_) (fun hc => ?_)
  · have h := it_t hc h
    refine V_ldc2 (pc := 50) C dX11_image_50 kl_RX11_406 ?_
    cases h
    exact hR 53 _ rfl dX11_image_53
  · have h := it_f hc h
    refine V_aload_n (pc := 20) C dX11_image_20 rfl rfl ?_
    refine V_aload_n (pc := 21) C dX11_image_21 rfl rfl ?_
    obtain ⟨k4, h⟩ := ck_some h
    refine V_getR (pc := 22) C z1_cW_11 fl_RX11_52 rfl dX11_image_22 ?_
    refine V_getF (p1 := ((gR S3 0 8) + 2)) (pc := 25) C (zob_of k4) fl_RX11_132 rfl (zf_cW_3_1 (zob_of k4)) dX11_image_25 ?_
    refine V_iload_n (pc := 28) C dX11_image_28 rfl rfl ?_
    obtain ⟨k5, h⟩ := ck_some h
    refine V_aald (p1 := ((gR S3 0 8) + 193 + 2 * ix v1)) (pc := 29) C (za_cW_3_1 (zob_of k4)) (fun _ => rfl) k5 (ze_cW_3_1 (zob_of k4) k5) dX11_image_29 ?_
    refine V_getI (pc := 30) C (zx_cW_3_1 (zob_of k4) k5) fl_RX11_155 (by decide) dX11_image_30 ?_
    refine V_sipush (pc := 33) C dX11_image_33 kc_s_4096 ?_
    refine V_icmp_lt (tgt := 43) (pc := 36) C dX11_image_36 (by decide) (fun hc => ?_) (fun hc => ?_)
    · have h := it_t hc h
      refine V_iconst (pc := 43) C dX11_image_43 kc_i_0 ?_
      exact V_mask [true, true, false] (mX11_image_J44 C  hR h)
    · have h := it_f hc h
      refine V_iconst (pc := 39) C dX11_image_39 kc_i_3 ?_
      refine V_goto (tgt := 44) (pc := 40) C dX11_image_40 (by decide) ?_
      exact V_mask [true, true, false] (mX11_image_J44 C  hR h)
set_option maxRecDepth 100000 in
theorem mX11_image (l : Launch) {S : zM} {a1 : Int32} {r : Int64} {S' : zM}  (h : gX11_image S a1 = some (r, S')) : zMet l cW zS0 yX11_image cX11_image 3 (some .long) 1 21 [.ref 0, .int a1] S (some (.long r)) S' := by
  refine zmeth (by decide +kernel) (by rfl) (fun K hKl C hR => ?_)
  show V K 0 [some (.ref 0), some (.int a1), none] [] S
  unfold gX11_image at h
  refine V_aload_n (pc := 0) C dX11_image_0 rfl rfl ?_
  refine V_aload_n (pc := 1) C dX11_image_1 rfl rfl ?_
  refine V_iload_n (pc := 2) C dX11_image_2 rfl rfl ?_
  obtain ⟨r1, er1, h⟩ := b1_some h
  refine V_callV (As := [.int a1]) (pc := 3) C (mX11_isSayer _ er1) zm_X11_isSayer zi_X11_isSayer ml_RX11_129 z1_cW_11 rfl ⟨Nat.le_of_ble_eq_true rfl, Nat.le_of_ble_eq_true rfl⟩ rfl rfl (Nat.le_of_ble_eq_true rfl) dX11_image_3 ?_
  show V K 6 [some (.ref 0), some (.int a1), none] [.int r1, .ref 0] S
  refine V_if_eq (tgt := 13) (pc := 6) C dX11_image_6 (by decide) (fun hc => ?_) (fun hc => ?_)
  · have h := it_t hc h
    refine V_iconst (pc := 13) C dX11_image_13 kc_i_1 ?_
    exact V_mask [true, true, false] (mX11_image_J14 C  hR h)
  · have h := it_f hc h
    refine V_iconst (pc := 9) C dX11_image_9 kc_i_0 ?_
    refine V_goto (tgt := 14) (pc := 10) C dX11_image_10 (by decide) ?_
    exact V_mask [true, true, false] (mX11_image_J14 C  hR h)
set_option maxRecDepth 100000 in
theorem mX11_restore_J72 {K : zK} (C : zC K cX11_restore yX11_restore.cls 10 1 21 cW) {S : zM} {v1 : Int32} {v2 : Int64} {v6 : Int64} {v8 : Int64} {s0 : Int32} {r : Int32} {S' : zM}  (hR : zR K cX11_restore (some .boolean) S' (some (.int r))) (h : gX11_restore_J72 S v1 v2 v6 v8 s0 = some (r, S')) : V K 72 [some (.ref 0), some (.int v1), some (.long v2), none, none, none, some (.long v6), none, some (.long v8), none] [.int s0, .ref 0] S := by
  unfold gX11_restore_J72 at h
  obtain ⟨r6, S7, er6, h⟩ := b2_some h
  refine V_callV (As := [.int s0]) (pc := 72) C (mX11_passes _ er6) zm_X11_passes zi_X11_passes ml_RX11_71 z1_cW_11 rfl ⟨Nat.le_of_ble_eq_true rfl, Nat.le_of_ble_eq_true rfl⟩ rfl rfl (Nat.le_of_ble_eq_true rfl) dX11_restore_72 ?_
  show V K 75 [some (.ref 0), some (.int v1), some (.long v2), none, none, none, some (.long v6), none, some (.long v8), none] [.int r6] S7
  refine V_if_ne (tgt := 80) (pc := 75) C dX11_restore_75 (by decide) (fun hc => ?_) (fun hc => ?_)
  · have h := it_f hc h
    refine V_aload_n (pc := 80) C dX11_restore_80 rfl rfl ?_
    refine V_lload_n (pc := 81) C dX11_restore_81 rfl rfl ?_
    refine V_ldc2 (pc := 82) C dX11_restore_82 kl_RX11_440 ?_
    refine V_lrem (pc := 85) C dX11_restore_85 (by decide) ?_
    refine V_l2i (pc := 86) C dX11_restore_86 ?_
    refine V_putI (pc := 87) C z1_cW_11 fp_RX11_98 rfl rfl dX11_restore_87 ?_
    refine V_aload_n (pc := 90) C dX11_restore_90 rfl rfl ?_
    obtain ⟨k8, h⟩ := ck_some h
    refine V_getR (pc := 91) C z1_cW_11 fl_RX11_52 rfl dX11_restore_91 ?_
    refine V_getF (p1 := ((gR (pI S7 0 11 ((v2 - v2 / (65537 : Int64) * (65537 : Int64)).toInt32)) 0 8) + 2)) (pc := 94) C (zob_of k8) fl_RX11_132 rfl (zf_cW_3_1 (zob_of k8)) dX11_restore_94 ?_
    refine V_iload_n (pc := 97) C dX11_restore_97 rfl rfl ?_
    obtain ⟨k9, h⟩ := ck_some h
    refine V_aald (p1 := ((gR (pI S7 0 11 ((v2 - v2 / (65537 : Int64) * (65537 : Int64)).toInt32)) 0 8) + 193 + 2 * ix v1)) (pc := 98) C (za_cW_3_1 (zob_of k8)) (fun _ => rfl) k9 (ze_cW_3_1 (zob_of k8) k9) dX11_restore_98 ?_
    refine V_lload (pc := 99) C dX11_restore_99 rfl ?_
    refine V_l2i (pc := 101) C dX11_restore_101 ?_
    refine V_putI (pc := 102) C (zx_cW_3_1 (zob_of k8) k9) fp_RX11_155 rfl rfl dX11_restore_102 ?_
    obtain ⟨S10, eS10, h⟩ := lt_some h
    refine V_nmS eS10 ?_
    refine V_aload_n (pc := 105) C dX11_restore_105 rfl rfl ?_
    obtain ⟨k11, h⟩ := ck_some h
    refine V_getR (pc := 106) C z1_cW_11 fl_RX11_52 rfl dX11_restore_106 ?_
    refine V_getF (p1 := ((gR S10 0 8) + 2)) (pc := 109) C (zob_of k11) fl_RX11_132 rfl (zf_cW_3_1 (zob_of k11)) dX11_restore_109 ?_
    refine V_iload_n (pc := 112) C dX11_restore_112 rfl rfl ?_
    obtain ⟨k12, h⟩ := ck_some h
    refine V_aald (p1 := ((gR S10 0 8) + 193 + 2 * ix v1)) (pc := 113) C (za_cW_3_1 (zob_of k11)) (fun _ => rfl) k12 (ze_cW_3_1 (zob_of k11) k12) dX11_restore_113 ?_
    refine V_lload (pc := 114) C dX11_restore_114 rfl ?_
    refine V_l2i (pc := 116) C dX11_restore_116 ?_
    refine V_putI (pc := 117) C (zx_cW_3_1 (zob_of k11) k12) fp_RX11_158 rfl rfl dX11_restore_117 ?_
    refine V_iconst (pc := 120) C dX11_restore_120 kc_i_1 ?_
    cases h
    exact hR 121 _ ⟨_, rfl, zB1⟩ dX11_restore_121
  · have h := it_t hc h
    refine V_iconst (pc := 78) C dX11_restore_78 kc_i_0 ?_
    cases h
    exact hR 79 _ ⟨_, rfl, zB0⟩ dX11_restore_79
set_option maxRecDepth 100000 in
theorem mX11_restore_J37 {K : zK} (C : zC K cX11_restore yX11_restore.cls 10 1 21 cW) {S : zM} {v1 : Int32} {v2 : Int64} {v6 : Int64} {v8 : Int64} {s0 : Int32} {r : Int32} {S' : zM}  (hR : zR K cX11_restore (some .boolean) S' (some (.int r))) (h : gX11_restore_J37 S v1 v2 v6 v8 s0 = some (r, S')) : V K 37 [some (.ref 0), some (.int v1), some (.long v2), none, none, none, some (.long v6), none, some (.long v8), none] [.int s0, .ref 0] S := by
  unfold gX11_restore_J37 at h
  obtain ⟨r4, S5, er4, h⟩ := b2_some h
  refine V_callV (As := [.int s0]) (pc := 37) C (mX11_passes _ er4) zm_X11_passes zi_X11_passes ml_RX11_71 z1_cW_11 rfl ⟨Nat.le_of_ble_eq_true rfl, Nat.le_of_ble_eq_true rfl⟩ rfl rfl (Nat.le_of_ble_eq_true rfl) dX11_restore_37 ?_
  show V K 40 [some (.ref 0), some (.int v1), some (.long v2), none, none, none, some (.long v6), none, some (.long v8), none] [.int r4] S5
  refine V_if_eq (tgt := 78) (pc := 40) C dX11_restore_40 (by decide) (fun hc => ?_) (fun hc => ?_)
  · have h := it_t hc h
    refine V_iconst (pc := 78) C dX11_restore_78 kc_i_0 ?_
    cases h
    exact hR 79 _ ⟨_, rfl, zB0⟩ dX11_restore_79
  · have h := it_f hc h
    refine V_aload_n (pc := 43) C dX11_restore_43 rfl rfl ?_
    refine V_lload_n (pc := 44) C dX11_restore_44 rfl rfl ?_
    refine V_lconst (pc := 45) C dX11_restore_45 (v := (0 : Int64)) rfl ?_
    refine V_lcmp_lt (tgt := 67) (pc := 46) C dX11_restore_46 dX11_restore_47 (by decide) (fun hc => ?_) (fun hc => ?_)
    · have h := it_t hc h
      refine V_iconst (pc := 67) C dX11_restore_67 kc_i_2 ?_
      refine V_goto (tgt := 72) (pc := 68) C dX11_restore_68 (by decide) ?_
      exact V_mask [true, true, true, false, false, false, true, false, true, false] (mX11_restore_J72 C  hR h)
    · have h := it_f hc h
      refine V_lload (pc := 50) C dX11_restore_50 rfl ?_
      refine V_lload (pc := 52) C dX11_restore_52 rfl ?_
      refine V_lcmp_gt (tgt := 67) (pc := 54) C dX11_restore_54 dX11_restore_55 (by decide) (fun hc => ?_) (fun hc => ?_)
      · have h := it_t hc h
        refine V_iconst (pc := 67) C dX11_restore_67 kc_i_2 ?_
        refine V_goto (tgt := 72) (pc := 68) C dX11_restore_68 (by decide) ?_
        exact V_mask [true, true, true, false, false, false, true, false, true, false] (mX11_restore_J72 C  hR h)
      · have h := it_f hc h
        refine V_lload (pc := 58) C dX11_restore_58 rfl ?_
        refine V_ldc2 (pc := 60) C dX11_restore_60 kl_RX11_442 ?_
        refine V_lcmp_lt (tgt := 71) (pc := 63) C dX11_restore_63 dX11_restore_64 (by decide) (fun hc => ?_) (fun hc => ?_)
        · have h := it_t hc h
          refine V_iconst (pc := 71) C dX11_restore_71 kc_i_0 ?_
          exact V_mask [true, true, true, false, false, false, true, false, true, false] (mX11_restore_J72 C  hR h)
        · have h := it_f hc h
          refine V_iconst (pc := 67) C dX11_restore_67 kc_i_2 ?_
          refine V_goto (tgt := 72) (pc := 68) C dX11_restore_68 (by decide) ?_
          exact V_mask [true, true, true, false, false, false, true, false, true, false] (mX11_restore_J72 C  hR h)
set_option maxRecDepth 100000 in
theorem mX11_restore (l : Launch) {S : zM} {a1 : Int32} {a2 : Int64} {r : Int32} {S' : zM}  (h : gX11_restore S a1 a2 = some (r, S')) : zMet l cW zS0 yX11_restore cX11_restore 10 (some .boolean) 1 21 [.ref 0, .int a1, .long a2] S (some (.int r)) S' := by
  refine zmeth (by decide +kernel) (by rfl) (fun K hKl C hR => ?_)
  show V K 0 [some (.ref 0), some (.int a1), some (.long a2), none, none, none, none, none, none, none] [] S
  unfold gX11_restore at h
  refine V_lload_n (pc := 0) C dX11_restore_0 rfl rfl ?_
  refine V_ldc2 (pc := 1) C dX11_restore_1 kl_RX11_440 ?_
  refine V_ldiv (pc := 4) C dX11_restore_4 (by decide) ?_
  refine V_lstore (L' := [some (.ref 0), some (.int a1), some (.long a2), none, some (.long (a2 / (65537 : Int64))), none, none, none, none, none]) (pc := 5) C dX11_restore_5 (by decide) rfl ?_
  refine V_lload (pc := 7) C dX11_restore_7 rfl ?_
  refine V_ldc2 (pc := 9) C dX11_restore_9 kl_RX11_442 ?_
  refine V_ldiv (pc := 12) C dX11_restore_12 (by decide) ?_
  obtain ⟨x1, ex1, h⟩ := lt_some h
  refine V_nmJ ex1 ?_
  refine V_lstore (L' := [some (.ref 0), some (.int a1), some (.long a2), none, some (.long (a2 / (65537 : Int64))), none, some (.long x1), none, none, none]) (pc := 13) C dX11_restore_13 (by decide) rfl ?_
  refine V_lload (pc := 15) C dX11_restore_15 rfl ?_
  refine V_ldc2 (pc := 17) C dX11_restore_17 kl_RX11_442 ?_
  refine V_lrem (pc := 20) C dX11_restore_20 (by decide) ?_
  obtain ⟨x2, ex2, h⟩ := lt_some h
  refine V_nmJ ex2 ?_
  refine V_lstore (L' := [some (.ref 0), some (.int a1), some (.long a2), none, some (.long (a2 / (65537 : Int64))), none, some (.long x1), none, some (.long x2), none]) (pc := 21) C dX11_restore_21 (by decide) rfl ?_
  refine V_aload_n (pc := 23) C dX11_restore_23 rfl rfl ?_
  refine V_aload_n (pc := 24) C dX11_restore_24 rfl rfl ?_
  refine V_iload_n (pc := 25) C dX11_restore_25 rfl rfl ?_
  obtain ⟨r3, er3, h⟩ := b1_some h
  refine V_callV (As := [.int a1]) (pc := 26) C (mX11_isSayer _ er3) zm_X11_isSayer zi_X11_isSayer ml_RX11_129 z1_cW_11 rfl ⟨Nat.le_of_ble_eq_true rfl, Nat.le_of_ble_eq_true rfl⟩ rfl rfl (Nat.le_of_ble_eq_true rfl) dX11_restore_26 ?_
  show V K 29 [some (.ref 0), some (.int a1), some (.long a2), none, some (.long (a2 / (65537 : Int64))), none, some (.long x1), none, some (.long x2), none] [.int r3, .ref 0] S
  refine V_if_eq (tgt := 36) (pc := 29) C dX11_restore_29 (by decide) (fun hc => ?_) (fun hc => ?_)
  · have h := it_t hc h
    refine V_iconst (pc := 36) C dX11_restore_36 kc_i_1 ?_
    exact V_mask [true, true, true, false, false, false, true, false, true, false] (mX11_restore_J37 C  hR h)
  · have h := it_f hc h
    refine V_iconst (pc := 32) C dX11_restore_32 kc_i_0 ?_
    refine V_goto (tgt := 37) (pc := 33) C dX11_restore_33 (by decide) ?_
    exact V_mask [true, true, true, false, false, false, true, false, true, false] (mX11_restore_J37 C  hR h)
set_option maxRecDepth 100000 in
theorem mX11_clear (l : Launch) {S : zM}  {r : Int32} {S' : zM}  (h : gX11_clear S = some (r, S')) : zMet l cW zS0 yX11_clear cX11_clear 2 (some .int) 3 63 [.ref 0] S (some (.int r)) S' := by
  refine zmeth (by decide +kernel) (by rfl) (fun K hKl C hR => ?_)
  show V K 0 [some (.ref 0), none] [] S
  unfold gX11_clear at h
  refine V_aload_n (pc := 0) C dX11_clear_0 rfl rfl ?_
  refine V_getF (p1 := 219) (pc := 1) C z1_cW_11 fl_RX11_23 rfl (zf_cW_11_2 z1_cW_11) dX11_clear_1 ?_
  refine V_getI (pc := 4) C z1_cW_1 fl_RX11_204 (by decide) dX11_clear_4 ?_
  refine V_istore_n (L' := [some (.ref 0), some (.int (gI S 219 2))]) (pc := 7) C dX11_clear_7 rfl (by decide) rfl ?_
  refine V_aload_n (pc := 8) C dX11_clear_8 rfl rfl ?_
  refine V_getF (p1 := 219) (pc := 9) C z1_cW_11 fl_RX11_23 rfl (zf_cW_11_2 z1_cW_11) dX11_clear_9 ?_
  obtain ⟨S2, euS2, h⟩ := b1_some h
  refine V_callV (As := []) (pc := 12) C (mX1_empty _ euS2) zm_X1_empty zi_X1_empty ml_RX11_95 z1_cW_1 rfl ⟨Nat.le_of_ble_eq_true rfl, Nat.le_of_ble_eq_true rfl⟩ rfl rfl (Nat.le_of_ble_eq_true rfl) dX11_clear_12 ?_
  show V K 15 [some (.ref 0), some (.int (gI S 219 2))] [] S2
  refine V_iload_n (pc := 15) C dX11_clear_15 rfl rfl ?_
  cases h
  exact hR 16 _ ⟨_, rfl, rfl⟩ dX11_clear_16
set_option maxRecDepth 100000 in
theorem mX11_size (l : Launch) {S : zM} {a1 : Int32} {r : Int32}  (h : gX11_size S a1 = some r) : zMet l cW zS0 yX11_size cX11_size 2 (some .int) 0 0 [.ref 0, .int a1] S (some (.int r)) S := by
  refine zmeth (by decide +kernel) (by rfl) (fun K hKl C hR => ?_)
  show V K 0 [some (.ref 0), some (.int a1)] [] S
  unfold gX11_size at h
  refine V_iload_n (pc := 0) C dX11_size_0 rfl rfl ?_
  by_cases c1_0 : a1 = (0 : Int32)
  · have h := it_t c1_0 h
    refine V_case (tgt := 44) (off := (43)) (pc := 1) C dX11_size_1 c1_0 (by decide +kernel) (by decide) ?_
    refine V_aload_n (pc := 44) C dX11_size_44 rfl rfl ?_
    obtain ⟨k1, h⟩ := ck_some h
    refine V_getR (pc := 45) C z1_cW_11 fl_RX11_52 rfl dX11_size_45 ?_
    refine V_getI (pc := 48) C (zob_of k1) fl_RX11_101 (by decide) dX11_size_48 ?_
    cases h
    exact hR 51 _ ⟨_, rfl, rfl⟩ dX11_size_51
  · have h := it_f c1_0 h
    by_cases c1_1 : a1 = (1 : Int32)
    · have h := it_t c1_1 h
      refine V_case (tgt := 52) (off := (51)) (pc := 1) C dX11_size_1 c1_1 (by decide +kernel) (by decide) ?_
      refine V_aload_n (pc := 52) C dX11_size_52 rfl rfl ?_
      obtain ⟨k2, h⟩ := ck_some h
      refine V_getR (pc := 53) C z1_cW_11 fl_RX11_52 rfl dX11_size_53 ?_
      refine V_getI (pc := 56) C (zob_of k2) fl_RX11_454 (by decide) dX11_size_56 ?_
      cases h
      exact hR 59 _ ⟨_, rfl, rfl⟩ dX11_size_59
    · have h := it_f c1_1 h
      by_cases c1_2 : a1 = (2 : Int32)
      · have h := it_t c1_2 h
        refine V_case (tgt := 60) (off := (59)) (pc := 1) C dX11_size_1 c1_2 (by decide +kernel) (by decide) ?_
        refine V_aload_n (pc := 60) C dX11_size_60 rfl rfl ?_
        obtain ⟨k3, h⟩ := ck_some h
        refine V_getR (pc := 61) C z1_cW_11 fl_RX11_52 rfl dX11_size_61 ?_
        refine V_getI (pc := 64) C (zob_of k3) fl_RX11_457 (by decide) dX11_size_64 ?_
        cases h
        exact hR 67 _ ⟨_, rfl, rfl⟩ dX11_size_67
      · have h := it_f c1_2 h
        by_cases c1_3 : a1 = (3 : Int32)
        · have h := it_t c1_3 h
          refine V_case (tgt := 68) (off := (67)) (pc := 1) C dX11_size_1 c1_3 (by decide +kernel) (by decide) ?_
          refine V_aload_n (pc := 68) C dX11_size_68 rfl rfl ?_
          obtain ⟨k4, h⟩ := ck_some h
          refine V_getR (pc := 69) C z1_cW_11 fl_RX11_52 rfl dX11_size_69 ?_
          refine V_getI (pc := 72) C (zob_of k4) fl_RX11_460 (by decide) dX11_size_72 ?_
          cases h
          exact hR 75 _ ⟨_, rfl, rfl⟩ dX11_size_75
        · have h := it_f c1_3 h
          by_cases c1_4 : a1 = (4 : Int32)
          · have h := it_t c1_4 h
            refine V_case (tgt := 76) (off := (75)) (pc := 1) C dX11_size_1 c1_4 (by decide +kernel) (by decide) ?_
            refine V_aload_n (pc := 76) C dX11_size_76 rfl rfl ?_
            refine V_getF (p1 := 219) (pc := 77) C z1_cW_11 fl_RX11_23 rfl (zf_cW_11_2 z1_cW_11) dX11_size_77 ?_
            refine V_getI (pc := 80) C z1_cW_1 fl_RX11_204 (by decide) dX11_size_80 ?_
            cases h
            exact hR 83 _ ⟨_, rfl, rfl⟩ dX11_size_83
          · have h := it_f c1_4 h
            by_cases c1_5 : a1 = (5 : Int32)
            · have h := it_t c1_5 h
              refine V_case (tgt := 84) (off := (83)) (pc := 1) C dX11_size_1 c1_5 (by decide +kernel) (by decide) ?_
              refine V_aload_n (pc := 84) C dX11_size_84 rfl rfl ?_
              refine V_getI (pc := 85) C z1_cW_11 fl_RX11_98 (by decide) dX11_size_85 ?_
              cases h
              exact hR 88 _ ⟨_, rfl, rfl⟩ dX11_size_88
            · have h := it_f c1_5 h
              by_cases c1_6 : a1 = (6 : Int32)
              · have h := it_t c1_6 h
                refine V_case (tgt := 89) (off := (88)) (pc := 1) C dX11_size_1 c1_6 (by decide +kernel) (by decide) ?_
                refine V_aload_n (pc := 89) C dX11_size_89 rfl rfl ?_
                refine V_getI (pc := 90) C z1_cW_11 fl_RX11_63 (by decide) dX11_size_90 ?_
                cases h
                exact hR 93 _ ⟨_, rfl, rfl⟩ dX11_size_93
              · have h := it_f c1_6 h
                refine V_dflt (tgt := 94) (m := 7) (pc := 1) C dX11_size_1 (by decide) (fun i hi => match i, hi with | 0, _ => c1_0 | 1, _ => c1_1 | 2, _ => c1_2 | 3, _ => c1_3 | 4, _ => c1_4 | 5, _ => c1_5 | 6, _ => c1_6 | k + 7, hi => absurd hi (by omega)) (by decide) ?_
                refine V_iconst (pc := 94) C dX11_size_94 kc_i_m1 ?_
                cases h
                exact hR 95 _ ⟨_, rfl, rfl⟩ dX11_size_95
set_option maxRecDepth 100000 in
theorem mX11_trouble (l : Launch) {S : zM}  {r : Int32}  (h : gX11_trouble S = some r) : zMet l cW zS0 yX11_trouble cX11_trouble 1 (some .int) 0 0 [.ref 0] S (some (.int r)) S := by
  refine zmeth (by decide +kernel) (by rfl) (fun K hKl C hR => ?_)
  show V K 0 [some (.ref 0)] [] S
  unfold gX11_trouble at h
  refine V_aload_n (pc := 0) C dX11_trouble_0 rfl rfl ?_
  refine V_getI (pc := 1) C z1_cW_11 fl_RX11_104 (by decide) dX11_trouble_1 ?_
  cases h
  exact hR 4 _ ⟨_, rfl, rfl⟩ dX11_trouble_4
