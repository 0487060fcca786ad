def gX12_led_L5 (S : zM) (v1 : Int32) (v2 : Int32) : Nat → Int32 → Int32 → Option (Int32 × zM)
  | 0, _, _ => none
  | n + 1, v3, v4 =>
    if (gI S 0 21) ≤ v4 then
      some ((0 : Int32), (pI S 0 0 (1 : Int32)))
    else
      b1 (gX12_isSayer S v1) fun r1 =>
      if r1 = 0 then
        some ((0 : Int32), (pI S 0 0 (1 : Int32)))
      else
        ck (ixb v4 1000) <|
        if (gI S 8 (ix v4)) = v1 then
          if v3 = v2 then
            ck (ixb v4 1000) <|
            some ((gI (pI S 0 0 (0 : Int32)) 13 (ix v4)), (pI S 0 0 (0 : Int32)))
          else
            gX12_led_L5 S v1 v2 n (v3 + (1 : Int32)) (v4 + (1 : Int32))
        else
          gX12_led_L5 S v1 v2 n v3 (v4 + (1 : Int32))
def gX12_led (S : zM) (a1 : Int32) (a2 : Int32) : Option (Int32 × zM) :=
    gX12_led_L5 S a1 a2 FU (0 : Int32) (0 : Int32)
set_option maxRecDepth 100000 in
theorem mX12_led_L5 {K : zK} (C : zC K cX12_led yX12_led.cls 5 2 43 mW) {S : zM} {v1 : Int32} {v2 : Int32}  : ∀ (f : Nat) (v3 : Int32) (v4 : Int32) (r : Int32) (S' : zM), gX12_led_L5 S v1 v2 f v3 v4 = some (r, S') → zR K cX12_led (some .int) S' (some (.int r)) → V K 5 [some (.ref 0), some (.int v1), some (.int v2), some (.int v3), some (.int v4)] [] S := by
  intro f
  induction f with
  | zero => intro v3 v4 r S' h hR; cases h
  | succ n ih =>
    intro v3 v4 r S' h hR
    unfold gX12_led_L5 at h
    refine V_iload (pc := 5) C dX12_led_5 rfl ?_
    refine V_aload_n (pc := 7) C dX12_led_7 rfl rfl ?_
    refine V_getI (pc := 8) C z1_mW_12 fl_RX12_226 (by decide) dX12_led_8 ?_
    refine V_icmp_ge (tgt := 63) (pc := 11) C dX12_led_11 (by decide) (fun hc => ?_) (fun hc => ?_)
    · have h := it_t hc h
      refine V_aload_n (pc := 63) C dX12_led_63 rfl rfl ?_
      refine V_iconst (pc := 64) C dX12_led_64 kc_i_1 ?_
      refine V_putI (pc := 65) C z1_mW_12 fp_RX12_103 rfl rfl dX12_led_65 ?_
      refine V_iconst (pc := 68) C dX12_led_68 kc_i_0 ?_
      cases h
      exact hR 69 _ ⟨_, rfl, rfl⟩ dX12_led_69
    · have h := it_f hc h
      refine V_aload_n (pc := 14) C dX12_led_14 rfl rfl ?_
      refine V_iload_n (pc := 15) C dX12_led_15 rfl rfl ?_
      obtain ⟨r1, er1, h⟩ := b1_some h
      refine V_callV (As := [.int v1]) (pc := 16) C (mX12_isSayer _ er1) zm_X12_isSayer zi_X12_isSayer ml_RX12_315 z1_mW_12 rfl ⟨Nat.le_of_ble_eq_true rfl, Nat.le_of_ble_eq_true rfl⟩ rfl rfl (Nat.le_of_ble_eq_true rfl) dX12_led_16 ?_
      show V K 19 [some (.ref 0), some (.int v1), some (.int v2), some (.int v3), some (.int v4)] [.int r1] S
      refine V_if_eq (tgt := 63) (pc := 19) C dX12_led_19 (by decide) (fun hc => ?_) (fun hc => ?_)
      · have h := it_t hc h
        refine V_aload_n (pc := 63) C dX12_led_63 rfl rfl ?_
        refine V_iconst (pc := 64) C dX12_led_64 kc_i_1 ?_
        refine V_putI (pc := 65) C z1_mW_12 fp_RX12_103 rfl rfl dX12_led_65 ?_
        refine V_iconst (pc := 68) C dX12_led_68 kc_i_0 ?_
        cases h
        exact hR 69 _ ⟨_, rfl, rfl⟩ dX12_led_69
      · have h := it_f hc h
        refine V_aload_n (pc := 22) C dX12_led_22 rfl rfl ?_
        refine V_getF (p1 := 8) (pc := 23) C z1_mW_12 fl_RX12_35 rfl (zf_mW_12_22 z1_mW_12) dX12_led_23 ?_
        refine V_iload (pc := 26) C dX12_led_26 rfl ?_
        obtain ⟨k2, h⟩ := ck_some h
        refine V_iald (pc := 28) C (za_mW_12_22 z1_mW_12) k2 dX12_led_28 ?_
        refine V_iload_n (pc := 29) C dX12_led_29 rfl rfl ?_
        refine V_icmp_eq (tgt := 36) (pc := 30) C dX12_led_30 (by decide) (fun hc => ?_) (fun hc => ?_)
        · have h := it_t hc h
          refine V_iload_n (pc := 36) C dX12_led_36 rfl rfl ?_
          refine V_iload_n (pc := 37) C dX12_led_37 rfl rfl ?_
          refine V_icmp_ne (tgt := 54) (pc := 38) C dX12_led_38 (by decide) (fun hc => ?_) (fun hc => ?_)
          · have h := it_f hc h
            refine V_iinc (L' := [some (.ref 0), some (.int v1), some (.int v2), some (.int (v3 + (1 : Int32))), some (.int v4)]) (v := (v3 + (1 : Int32))) (pc := 54) C dX12_led_54 rfl (congrArg (v3 + ·) kc_i_1) (by decide) rfl ?_
            refine V_iinc (L' := [some (.ref 0), some (.int v1), some (.int v2), some (.int (v3 + (1 : Int32))), some (.int (v4 + (1 : Int32)))]) (v := (v4 + (1 : Int32))) (pc := 57) C dX12_led_57 rfl (congrArg (v4 + ·) kc_i_1) (by decide) rfl ?_
            refine V_goto (tgt := 5) (pc := 60) C dX12_led_60 (by decide) ?_
            exact V_mask [true, true, true, true, true] (ih _ _ _ _ h hR)
          · have h := it_t hc h
            refine V_aload_n (pc := 41) C dX12_led_41 rfl rfl ?_
            refine V_iconst (pc := 42) C dX12_led_42 kc_i_0 ?_
            refine V_putI (pc := 43) C z1_mW_12 fp_RX12_103 rfl rfl dX12_led_43 ?_
            refine V_aload_n (pc := 46) C dX12_led_46 rfl rfl ?_
            refine V_getF (p1 := 13) (pc := 47) C z1_mW_12 fl_RX12_50 rfl (zf_mW_12_27 z1_mW_12) dX12_led_47 ?_
            refine V_iload (pc := 50) C dX12_led_50 rfl ?_
            obtain ⟨k3, h⟩ := ck_some h
            refine V_iald (pc := 52) C (za_mW_12_27 z1_mW_12) k3 dX12_led_52 ?_
            cases h
            exact hR 53 _ ⟨_, rfl, rfl⟩ dX12_led_53
        · have h := it_f hc h
          refine V_goto (tgt := 57) (pc := 33) C dX12_led_33 (by decide) ?_
          refine V_iinc (L' := [some (.ref 0), some (.int v1), some (.int v2), some (.int v3), some (.int (v4 + (1 : Int32)))]) (v := (v4 + (1 : Int32))) (pc := 57) C dX12_led_57 rfl (congrArg (v4 + ·) kc_i_1) (by decide) rfl ?_
          refine V_goto (tgt := 5) (pc := 60) C dX12_led_60 (by decide) ?_
          exact V_mask [true, true, true, true, true] (ih _ _ _ _ h hR)
set_option maxRecDepth 100000 in
theorem mX12_led (l : Launch) {S : zM} {a1 : Int32} {a2 : Int32} {r : Int32} {S' : zM}  (h : gX12_led S a1 a2 = some (r, S')) : zMet l mW zS0 yX12_led cX12_led 5 (some .int) 2 43 [.ref 0, .int a1, .int a2] S (some (.int r)) S' := by
  refine zmeth (by decide +kernel) (by rfl) (fun K hKl C hR => ?_)
  show V K 0 [some (.ref 0), some (.int a1), some (.int a2), none, none] [] S
  unfold gX12_led at h
  refine V_iconst (pc := 0) C dX12_led_0 kc_i_0 ?_
  refine V_istore_n (L' := [some (.ref 0), some (.int a1), some (.int a2), some (.int (0 : Int32)), none]) (pc := 1) C dX12_led_1 rfl (by decide) rfl ?_
  refine V_iconst (pc := 2) C dX12_led_2 kc_i_0 ?_
  refine V_istore (L' := [some (.ref 0), some (.int a1), some (.int a2), some (.int (0 : Int32)), some (.int (0 : Int32))]) (pc := 3) C dX12_led_3 (by decide) rfl ?_
  exact V_mask [true, true, true, true, true] (mX12_led_L5 C  FU _ _ _ _ h hR)

