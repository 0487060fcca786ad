theorem kc_b_22 : (Int8.ofInt (22)).toInt32 = (22 : Int32) := by decide +kernel
theorem kc_b_66 : (Int8.ofInt (66)).toInt32 = (66 : Int32) := by decide +kernel
theorem kc_s_2406 : (Int16.ofInt (2406)).toInt32 = (2406 : Int32) := by decide +kernel
theorem kc_s_3000 : (Int16.ofInt (3000)).toInt32 = (3000 : Int32) := by decide +kernel
theorem kc_s_529 : (Int16.ofInt (529)).toInt32 = (529 : Int32) := by decide +kernel
theorem kc_s_6000 : (Int16.ofInt (6000)).toInt32 = (6000 : Int32) := by decide +kernel
theorem kc_s_701 : (Int16.ofInt (701)).toInt32 = (701 : Int32) := by decide +kernel
set_option maxRecDepth 100000 in
set_option maxHeartbeats 4000000 in
theorem kX4 (l : Launch) : zCt l yX4_init cX4_init 1 1 20 3 45 4 wNoise (zS [] []) := by
  refine zctor (by decide +kernel) rfl (by rfl) (fun K q0 hKl C hret => ?_)
  show VC K 0 [some (.ref q0)] [] (([(q0, .inr (4, [.null, .null, .null, .int 0]))] : va_W)) 0 0
  refine VC_aload_n (pc := 0) C dX4_init_0 rfl rfl ?_
  refine VC_obj (pc := 1) C ol_RX4_3 oi_obj oc_obj ⟨Nat.le_of_ble_eq_true rfl, Nat.le_of_ble_eq_true rfl⟩ dX4_init_1 ?_
  refine VC_aload_n (pc := 4) C dX4_init_4 rfl rfl ?_
  refine VC_bipush (pc := 5) C dX4_init_5 kc_b_11 ?_
  refine VC_newa (t := 0) (N := 11) (a0 := (11, .inl (fun _ => 0))) (pc := 7) C aw_int rfl (fun _ => rfl) (fun _ => rfl) ⟨by decide, by decide +kernel, Nat.le_of_ble_eq_true rfl⟩ ⟨Nat.le_of_ble_eq_true rfl, Nat.le_of_ble_eq_true rfl⟩ dX4_init_7 (fun q1 => ?_)
  show VC K 9 [some (.ref q0)] [.ref q1, .ref q0] (([(q0, .inr (4, [.null, .null, .null, .int 0])), (q1, .inl (K.2.1.2.2 0, 11, .inl (fun _ => 0)))] : va_W)) 1 11
  refine VC_putF (pc := 9) C ff_RX4_9 rfl ⟨rfl, rfl⟩ (Nat.le_of_ble_eq_true rfl) dX4_init_9 ?_
  show VC K 12 [some (.ref q0)] [] (([(q0, .inr (4, [.ref q1, .null, .null, .int 0])), (q1, .inl (K.2.1.2.2 0, 11, .inl (fun _ => 0)))] : va_W)) 1 11
  refine VC_aload_n (pc := 12) C dX4_init_12 rfl rfl ?_
  refine VC_bipush (pc := 13) C dX4_init_13 kc_b_12 ?_
  refine VC_newa (t := 0) (N := 12) (a0 := (12, .inl (fun _ => 0))) (pc := 15) C aw_int rfl (fun _ => rfl) (fun _ => rfl) ⟨by decide, by decide +kernel, Nat.le_of_ble_eq_true rfl⟩ ⟨Nat.le_of_ble_eq_true rfl, Nat.le_of_ble_eq_true rfl⟩ dX4_init_15 (fun q2 => ?_)
  show VC K 17 [some (.ref q0)] [.ref q2, .ref q0] (([(q0, .inr (4, [.ref q1, .null, .null, .int 0])), (q1, .inl (K.2.1.2.2 0, 11, .inl (fun _ => 0))), (q2, .inl (K.2.1.2.2 0, 12, .inl (fun _ => 0)))] : va_W)) 2 23
  refine VC_putF (pc := 17) C ff_RX4_15 rfl ⟨rfl, rfl⟩ (Nat.le_of_ble_eq_true rfl) dX4_init_17 ?_
  show VC K 20 [some (.ref q0)] [] (([(q0, .inr (4, [.ref q1, .ref q2, .null, .int 0])), (q1, .inl (K.2.1.2.2 0, 11, .inl (fun _ => 0))), (q2, .inl (K.2.1.2.2 0, 12, .inl (fun _ => 0)))] : va_W)) 2 23
  refine VC_aload_n (pc := 20) C dX4_init_20 rfl rfl ?_
  refine VC_bipush (pc := 21) C dX4_init_21 kc_b_22 ?_
  refine VC_newa (t := 0) (N := 22) (a0 := (22, .inl (fun _ => 0))) (pc := 23) C aw_int rfl (fun _ => rfl) (fun _ => rfl) ⟨by decide, by decide +kernel, Nat.le_of_ble_eq_true rfl⟩ ⟨Nat.le_of_ble_eq_true rfl, Nat.le_of_ble_eq_true rfl⟩ dX4_init_23 (fun q3 => ?_)
  show VC K 25 [some (.ref q0)] [.ref q3, .ref q0] (([(q0, .inr (4, [.ref q1, .ref q2, .null, .int 0])), (q1, .inl (K.2.1.2.2 0, 11, .inl (fun _ => 0))), (q2, .inl (K.2.1.2.2 0, 12, .inl (fun _ => 0))), (q3, .inl (K.2.1.2.2 0, 22, .inl (fun _ => 0)))] : va_W)) 3 45
  refine VC_putF (pc := 25) C ff_RX4_18 rfl ⟨rfl, rfl⟩ (Nat.le_of_ble_eq_true rfl) dX4_init_25 ?_
  show VC K 28 [some (.ref q0)] [] (([(q0, .inr (4, [.ref q1, .ref q2, .ref q3, .int 0])), (q1, .inl (K.2.1.2.2 0, 11, .inl (fun _ => 0))), (q2, .inl (K.2.1.2.2 0, 12, .inl (fun _ => 0))), (q3, .inl (K.2.1.2.2 0, 22, .inl (fun _ => 0)))] : va_W)) 3 45
  obtain ⟨μ, hμ⟩ : ∃ μ, μ = zmu [(4, fun k => ([q0, q1, q2, q3] : List Nat).getD k 0)] := ⟨_, rfl⟩
  refine VC_ws ?_ (hret 28 _ μ dX4_init_28 (by subst hμ; rfl))
  have e0 : (([(q0, .inr (4, [.ref q1, .ref q2, .ref q3, .int 0])), (q1, .inl (K.2.1.2.2 0, 11, .inl (fun _ => 0))), (q2, .inl (K.2.1.2.2 0, 12, .inl (fun _ => 0))), (q3, .inl (K.2.1.2.2 0, 22, .inl (fun _ => 0)))] : va_W) : va_W) = (List.range 4).map (fun q => (μ q, zen μ K.2.1.2.2 (zS [] []) q (wNoise.2 q))) := by
    subst hμ
    rfl
  exact e0
set_option maxRecDepth 100000 in
set_option maxHeartbeats 4000000 in
theorem kX9 (l : Launch) : zCt l yX9_init cX9_init 2 2 40 30 719 9 wSense (zS [] []) := by
  refine zctor (by decide +kernel) rfl (by rfl) (fun K q0 hKl C hret => ?_)
  show VC K 0 [some (.ref q0), none] [] (([(q0, .inr (9, [.null, .null, .null, .null, .null, .null, .int 0, .int 0]))] : va_W)) 0 0
  refine VC_aload_n (pc := 0) C dX9_init_0 rfl rfl ?_
  refine VC_obj (pc := 1) C ol_RX9_3 oi_obj oc_obj ⟨Nat.le_of_ble_eq_true rfl, Nat.le_of_ble_eq_true rfl⟩ dX9_init_1 ?_
  refine VC_aload_n (pc := 4) C dX9_init_4 rfl rfl ?_
  refine VC_iconst (pc := 5) C dX9_init_5 kc_i_4 ?_
  refine VC_newa (t := 0) (N := 4) (a0 := (4, .inl (fun _ => 0))) (pc := 6) C aw_int rfl (fun _ => rfl) (fun _ => rfl) ⟨by decide, by decide +kernel, Nat.le_of_ble_eq_true rfl⟩ ⟨Nat.le_of_ble_eq_true rfl, Nat.le_of_ble_eq_true rfl⟩ dX9_init_6 (fun q1 => ?_)
  show VC K 8 [some (.ref q0), none] [.ref q1, .ref q0] (([(q0, .inr (9, [.null, .null, .null, .null, .null, .null, .int 0, .int 0])), (q1, .inl (K.2.1.2.2 0, 4, .inl (fun _ => 0)))] : va_W)) 1 4
  refine VC_putF (pc := 8) C ff_RX9_9 rfl ⟨rfl, rfl⟩ (Nat.le_of_ble_eq_true rfl) dX9_init_8 ?_
  show VC K 11 [some (.ref q0), none] [] (([(q0, .inr (9, [.ref q1, .null, .null, .null, .null, .null, .int 0, .int 0])), (q1, .inl (K.2.1.2.2 0, 4, .inl (fun _ => 0)))] : va_W)) 1 4
  refine VC_aload_n (pc := 11) C dX9_init_11 rfl rfl ?_
  refine VC_iconst (pc := 12) C dX9_init_12 kc_i_4 ?_
  refine VC_newa (t := 0) (N := 4) (a0 := (4, .inl (fun _ => 0))) (pc := 13) C aw_int rfl (fun _ => rfl) (fun _ => rfl) ⟨by decide, by decide +kernel, Nat.le_of_ble_eq_true rfl⟩ ⟨Nat.le_of_ble_eq_true rfl, Nat.le_of_ble_eq_true rfl⟩ dX9_init_13 (fun q2 => ?_)
  show VC K 15 [some (.ref q0), none] [.ref q2, .ref q0] (([(q0, .inr (9, [.ref q1, .null, .null, .null, .null, .null, .int 0, .int 0])), (q1, .inl (K.2.1.2.2 0, 4, .inl (fun _ => 0))), (q2, .inl (K.2.1.2.2 0, 4, .inl (fun _ => 0)))] : va_W)) 2 8
  refine VC_putF (pc := 15) C ff_RX9_15 rfl ⟨rfl, rfl⟩ (Nat.le_of_ble_eq_true rfl) dX9_init_15 ?_
  show VC K 18 [some (.ref q0), none] [] (([(q0, .inr (9, [.ref q1, .ref q2, .null, .null, .null, .null, .int 0, .int 0])), (q1, .inl (K.2.1.2.2 0, 4, .inl (fun _ => 0))), (q2, .inl (K.2.1.2.2 0, 4, .inl (fun _ => 0)))] : va_W)) 2 8
  refine VC_aload_n (pc := 18) C dX9_init_18 rfl rfl ?_
  refine VC_iconst (pc := 19) C dX9_init_19 kc_i_4 ?_
  refine VC_newa (t := 0) (N := 4) (a0 := (4, .inl (fun _ => 0))) (pc := 20) C aw_int rfl (fun _ => rfl) (fun _ => rfl) ⟨by decide, by decide +kernel, Nat.le_of_ble_eq_true rfl⟩ ⟨Nat.le_of_ble_eq_true rfl, Nat.le_of_ble_eq_true rfl⟩ dX9_init_20 (fun q3 => ?_)
  show VC K 22 [some (.ref q0), none] [.ref q3, .ref q0] (([(q0, .inr (9, [.ref q1, .ref q2, .null, .null, .null, .null, .int 0, .int 0])), (q1, .inl (K.2.1.2.2 0, 4, .inl (fun _ => 0))), (q2, .inl (K.2.1.2.2 0, 4, .inl (fun _ => 0))), (q3, .inl (K.2.1.2.2 0, 4, .inl (fun _ => 0)))] : va_W)) 3 12
  refine VC_putF (pc := 22) C ff_RX9_18 rfl ⟨rfl, rfl⟩ (Nat.le_of_ble_eq_true rfl) dX9_init_22 ?_
  show VC K 25 [some (.ref q0), none] [] (([(q0, .inr (9, [.ref q1, .ref q2, .ref q3, .null, .null, .null, .int 0, .int 0])), (q1, .inl (K.2.1.2.2 0, 4, .inl (fun _ => 0))), (q2, .inl (K.2.1.2.2 0, 4, .inl (fun _ => 0))), (q3, .inl (K.2.1.2.2 0, 4, .inl (fun _ => 0)))] : va_W)) 3 12
  refine VC_aload_n (pc := 25) C dX9_init_25 rfl rfl ?_
  refine VC_bipush (pc := 26) C dX9_init_26 kc_b_6 ?_
  refine VC_newa (t := 0) (N := 6) (a0 := (6, .inl (fun _ => 0))) (pc := 28) C aw_int rfl (fun _ => rfl) (fun _ => rfl) ⟨by decide, by decide +kernel, Nat.le_of_ble_eq_true rfl⟩ ⟨Nat.le_of_ble_eq_true rfl, Nat.le_of_ble_eq_true rfl⟩ dX9_init_28 (fun q4 => ?_)
  show VC K 30 [some (.ref q0), none] [.ref q4, .ref q0] (([(q0, .inr (9, [.ref q1, .ref q2, .ref q3, .null, .null, .null, .int 0, .int 0])), (q1, .inl (K.2.1.2.2 0, 4, .inl (fun _ => 0))), (q2, .inl (K.2.1.2.2 0, 4, .inl (fun _ => 0))), (q3, .inl (K.2.1.2.2 0, 4, .inl (fun _ => 0))), (q4, .inl (K.2.1.2.2 0, 6, .inl (fun _ => 0)))] : va_W)) 4 18
  refine VC_putF (pc := 30) C ff_RX9_21 rfl ⟨rfl, rfl⟩ (Nat.le_of_ble_eq_true rfl) dX9_init_30 ?_
  show VC K 33 [some (.ref q0), none] [] (([(q0, .inr (9, [.ref q1, .ref q2, .ref q3, .ref q4, .null, .null, .int 0, .int 0])), (q1, .inl (K.2.1.2.2 0, 4, .inl (fun _ => 0))), (q2, .inl (K.2.1.2.2 0, 4, .inl (fun _ => 0))), (q3, .inl (K.2.1.2.2 0, 4, .inl (fun _ => 0))), (q4, .inl (K.2.1.2.2 0, 6, .inl (fun _ => 0)))] : va_W)) 4 18
  refine VC_aload_n (pc := 33) C dX9_init_33 rfl rfl ?_
  refine VC_sipush (pc := 34) C dX9_init_34 kc_s_401 ?_
  refine VC_newa (t := 0) (N := 401) (a0 := (401, .inl (fun _ => 0))) (pc := 37) C aw_int rfl (fun _ => rfl) (fun _ => rfl) ⟨by decide, by decide +kernel, Nat.le_of_ble_eq_true rfl⟩ ⟨Nat.le_of_ble_eq_true rfl, Nat.le_of_ble_eq_true rfl⟩ dX9_init_37 (fun q5 => ?_)
  show VC K 39 [some (.ref q0), none] [.ref q5, .ref q0] (([(q0, .inr (9, [.ref q1, .ref q2, .ref q3, .ref q4, .null, .null, .int 0, .int 0])), (q1, .inl (K.2.1.2.2 0, 4, .inl (fun _ => 0))), (q2, .inl (K.2.1.2.2 0, 4, .inl (fun _ => 0))), (q3, .inl (K.2.1.2.2 0, 4, .inl (fun _ => 0))), (q4, .inl (K.2.1.2.2 0, 6, .inl (fun _ => 0))), (q5, .inl (K.2.1.2.2 0, 401, .inl (fun _ => 0)))] : va_W)) 5 419
  refine VC_putF (pc := 39) C ff_RX9_24 rfl ⟨rfl, rfl⟩ (Nat.le_of_ble_eq_true rfl) dX9_init_39 ?_
  show VC K 42 [some (.ref q0), none] [] (([(q0, .inr (9, [.ref q1, .ref q2, .ref q3, .ref q4, .ref q5, .null, .int 0, .int 0])), (q1, .inl (K.2.1.2.2 0, 4, .inl (fun _ => 0))), (q2, .inl (K.2.1.2.2 0, 4, .inl (fun _ => 0))), (q3, .inl (K.2.1.2.2 0, 4, .inl (fun _ => 0))), (q4, .inl (K.2.1.2.2 0, 6, .inl (fun _ => 0))), (q5, .inl (K.2.1.2.2 0, 401, .inl (fun _ => 0)))] : va_W)) 5 419
  refine VC_aload_n (pc := 42) C dX9_init_42 rfl rfl ?_
  refine VC_bipush (pc := 43) C dX9_init_43 kc_b_6 ?_
  refine VC_newq (t := 4) (N := 6) (pc := 45) C cl_RX9_27 (by simp) (fun _ => rfl) ⟨by decide, by decide +kernel, Nat.le_of_ble_eq_true rfl⟩ ⟨Nat.le_of_ble_eq_true rfl, Nat.le_of_ble_eq_true rfl⟩ dX9_init_45 (fun q6 => ?_)
  show VC K 48 [some (.ref q0), none] [.ref q6, .ref q0] (([(q0, .inr (9, [.ref q1, .ref q2, .ref q3, .ref q4, .ref q5, .null, .int 0, .int 0])), (q1, .inl (K.2.1.2.2 0, 4, .inl (fun _ => 0))), (q2, .inl (K.2.1.2.2 0, 4, .inl (fun _ => 0))), (q3, .inl (K.2.1.2.2 0, 4, .inl (fun _ => 0))), (q4, .inl (K.2.1.2.2 0, 6, .inl (fun _ => 0))), (q5, .inl (K.2.1.2.2 0, 401, .inl (fun _ => 0))), (q6, .inl (K.2.1.2.2 4, 6, .inr (.inr (.inr (.inr (fun j => ([] : List Nat)[j]?))))))] : va_W)) 6 425
  refine VC_putF (pc := 48) C ff_RX9_29 rfl ⟨rfl, rfl⟩ (Nat.le_of_ble_eq_true rfl) dX9_init_48 ?_
  show VC K 51 [some (.ref q0), none] [] (([(q0, .inr (9, [.ref q1, .ref q2, .ref q3, .ref q4, .ref q5, .ref q6, .int 0, .int 0])), (q1, .inl (K.2.1.2.2 0, 4, .inl (fun _ => 0))), (q2, .inl (K.2.1.2.2 0, 4, .inl (fun _ => 0))), (q3, .inl (K.2.1.2.2 0, 4, .inl (fun _ => 0))), (q4, .inl (K.2.1.2.2 0, 6, .inl (fun _ => 0))), (q5, .inl (K.2.1.2.2 0, 401, .inl (fun _ => 0))), (q6, .inl (K.2.1.2.2 4, 6, .inr (.inr (.inr (.inr (fun j => ([] : List Nat)[j]?))))))] : va_W)) 6 425
  refine VC_iconst (pc := 51) C dX9_init_51 kc_i_0 ?_
  refine VC_istore_n (L' := [some (.ref q0), some (.int (0 : Int32))]) (pc := 52) C dX9_init_52 rfl (by decide) rfl ?_
  refine VC_iload_n (pc := 53) C dX9_init_53 rfl rfl ?_
  refine VC_aload_n (pc := 54) C dX9_init_54 rfl rfl ?_
  refine VC_getN (pc := 55) C fl_RX9_29 rfl rfl dX9_init_55 ?_
  refine VC_alenq (q0 := 6) (t := 4) (v := (6 : Int32)) (pc := 58) C rfl (fun _ => rfl) (by decide) dX9_init_58 ?_
  refine VC_icmp_ge (tgt := 81) (pc := 59) C dX9_init_59 (by decide) (fun hc => absurd hc (by decide)) (fun _ => ?_)
  refine VC_aload_n (pc := 62) C dX9_init_62 rfl rfl ?_
  refine VC_getN (pc := 63) C fl_RX9_29 rfl rfl dX9_init_63 ?_
  refine VC_iload_n (pc := 66) C dX9_init_66 rfl rfl ?_
  obtain ⟨T0, hT0⟩ : ∃ T : va_W, T = [] := ⟨_, rfl⟩
  have lt0 : T0.length = 0 := by rw [hT0]; rfl
  refine VC_ws (show ([(q0, .inr (9, [.ref q1, .ref q2, .ref q3, .ref q4, .ref q5, .ref q6, .int 0, .int 0])), (q1, .inl (K.2.1.2.2 0, 4, .inl (fun _ => 0))), (q2, .inl (K.2.1.2.2 0, 4, .inl (fun _ => 0))), (q3, .inl (K.2.1.2.2 0, 4, .inl (fun _ => 0))), (q4, .inl (K.2.1.2.2 0, 6, .inl (fun _ => 0))), (q5, .inl (K.2.1.2.2 0, 401, .inl (fun _ => 0))), (q6, .inl (K.2.1.2.2 4, 6, .inr (.inr (.inr (.inr (fun j => ([] : List Nat)[j]?))))))] : va_W) = ([(q0, .inr (9, [.ref q1, .ref q2, .ref q3, .ref q4, .ref q5, .ref q6, .int 0, .int 0])), (q1, .inl (K.2.1.2.2 0, 4, .inl (fun _ => 0))), (q2, .inl (K.2.1.2.2 0, 4, .inl (fun _ => 0))), (q3, .inl (K.2.1.2.2 0, 4, .inl (fun _ => 0))), (q4, .inl (K.2.1.2.2 0, 6, .inl (fun _ => 0))), (q5, .inl (K.2.1.2.2 0, 401, .inl (fun _ => 0))), (q6, .inl (K.2.1.2.2 4, 6, .inr (.inr (.inr (.inr (fun j => ([] : List Nat)[j]?))))))] : va_W) ++ T0 from by subst hT0; exact (List.append_nil _).symm) ?_
  refine VC_new (pc := 67) C nc_RX9_27 ⟨Nat.le_of_ble_eq_true rfl, Nat.le_of_ble_eq_true rfl⟩ dX9_init_67 (fun q7 => ?_)
  show VC K 70 [some (.ref q0), some (.int (0 : Int32))] [.ref q7, .int (0 : Int32), .ref q6] ((([(q0, .inr (9, [.ref q1, .ref q2, .ref q3, .ref q4, .ref q5, .ref q6, .int 0, .int 0])), (q1, .inl (K.2.1.2.2 0, 4, .inl (fun _ => 0))), (q2, .inl (K.2.1.2.2 0, 4, .inl (fun _ => 0))), (q3, .inl (K.2.1.2.2 0, 4, .inl (fun _ => 0))), (q4, .inl (K.2.1.2.2 0, 6, .inl (fun _ => 0))), (q5, .inl (K.2.1.2.2 0, 401, .inl (fun _ => 0))), (q6, .inl (K.2.1.2.2 4, 6, .inr (.inr (.inr (.inr (fun j => ([] : List Nat)[j]?))))))] : va_W) ++ T0) ++ [(q7, .inr (4, zbl 4))]) 7 429
  refine VC_dup (pc := 70) C dX9_init_70 rfl ?_
  refine VC_callN (X := ([(q0, .inr (9, [.ref q1, .ref q2, .ref q3, .ref q4, .ref q5, .ref q6, .int 0, .int 0])), (q1, .inl (K.2.1.2.2 0, 4, .inl (fun _ => 0))), (q2, .inl (K.2.1.2.2 0, 4, .inl (fun _ => 0))), (q3, .inl (K.2.1.2.2 0, 4, .inl (fun _ => 0))), (q4, .inl (K.2.1.2.2 0, 6, .inl (fun _ => 0))), (q5, .inl (K.2.1.2.2 0, 401, .inl (fun _ => 0))), (q6, .inl (K.2.1.2.2 4, 6, .inr (.inr (.inr (.inr (fun j => ([] : List Nat)[j]?))))))] : va_W) ++ T0) (pc := 71) C (kX4 _) zm_X4_init ii_X4 rfl ml_RX9_33 ⟨Nat.le_of_ble_eq_true rfl, Nat.le_of_ble_eq_true rfl, Nat.le_of_ble_eq_true rfl, Nat.le_of_ble_eq_true rfl⟩ (Nat.le_of_ble_eq_true rfl) dX9_init_71 (fun m7 hm7 => ?_)
  subst hm7
  obtain ⟨T1, hT1⟩ : ∃ T : va_W, T = T0 ++ zws wNoise m7 K.2.1.2.2 (zS [] []) := ⟨_, rfl⟩
  refine VC_ws (zass hT1) ?_
  have lt1 : T1.length = 4 := by
    rw [hT1]
    exact zlen_a (m := 4) lt0 zws_len rfl
  show VC K 74 [some (.ref q0), some (.int (0 : Int32))] [.ref (m7 0), .int (0 : Int32), .ref q6] (([(q0, .inr (9, [.ref q1, .ref q2, .ref q3, .ref q4, .ref q5, .ref q6, .int 0, .int 0])), (q1, .inl (K.2.1.2.2 0, 4, .inl (fun _ => 0))), (q2, .inl (K.2.1.2.2 0, 4, .inl (fun _ => 0))), (q3, .inl (K.2.1.2.2 0, 4, .inl (fun _ => 0))), (q4, .inl (K.2.1.2.2 0, 6, .inl (fun _ => 0))), (q5, .inl (K.2.1.2.2 0, 401, .inl (fun _ => 0))), (q6, .inl (K.2.1.2.2 4, 6, .inr (.inr (.inr (.inr (fun j => ([] : List Nat)[j]?))))))] : va_W) ++ T1) 10 474
  refine VC_astv (us := []) (t := 4) (q0 := 6) (qk := 7) (ci := 4) (pc := 74) C rfl (fun _ => rfl) (zfront (n := 0) rfl (zlook hT1 lt0 (Nat.le_of_ble_eq_true rfl) rfl)) rfl (by decide +kernel) (show ix 0 = 0 from by decide +kernel) dX9_init_74 ?_
  show VC K 75 [some (.ref q0), some (.int (0 : Int32))] [] (([(q0, .inr (9, [.ref q1, .ref q2, .ref q3, .ref q4, .ref q5, .ref q6, .int 0, .int 0])), (q1, .inl (K.2.1.2.2 0, 4, .inl (fun _ => 0))), (q2, .inl (K.2.1.2.2 0, 4, .inl (fun _ => 0))), (q3, .inl (K.2.1.2.2 0, 4, .inl (fun _ => 0))), (q4, .inl (K.2.1.2.2 0, 6, .inl (fun _ => 0))), (q5, .inl (K.2.1.2.2 0, 401, .inl (fun _ => 0))), (q6, .inl (K.2.1.2.2 4, 6, .inr (.inr (.inr (.inr (fun j => ([(m7 0)] : List Nat)[j]?))))))] : va_W) ++ T1) 10 474
  refine VC_iinc (L' := [some (.ref q0), some (.int (1 : Int32))]) (v := (1 : Int32)) (pc := 75) C dX9_init_75 rfl (by decide) (by decide) rfl ?_
  refine VC_goto (tgt := 53) (pc := 78) C dX9_init_78 (by decide) ?_
  refine VC_iload_n (pc := 53) C dX9_init_53 rfl rfl ?_
  refine VC_aload_n (pc := 54) C dX9_init_54 rfl rfl ?_
  refine VC_getN (pc := 55) C fl_RX9_29 rfl rfl dX9_init_55 ?_
  refine VC_alenq (q0 := 6) (t := 4) (v := (6 : Int32)) (pc := 58) C rfl (fun _ => rfl) (by decide) dX9_init_58 ?_
  refine VC_icmp_ge (tgt := 81) (pc := 59) C dX9_init_59 (by decide) (fun hc => absurd hc (by decide)) (fun _ => ?_)
  refine VC_aload_n (pc := 62) C dX9_init_62 rfl rfl ?_
  refine VC_getN (pc := 63) C fl_RX9_29 rfl rfl dX9_init_63 ?_
  refine VC_iload_n (pc := 66) C dX9_init_66 rfl rfl ?_
  refine VC_new (pc := 67) C nc_RX9_27 ⟨Nat.le_of_ble_eq_true rfl, Nat.le_of_ble_eq_true rfl⟩ dX9_init_67 (fun q8 => ?_)
  show VC K 70 [some (.ref q0), some (.int (1 : Int32))] [.ref q8, .int (1 : Int32), .ref q6] ((([(q0, .inr (9, [.ref q1, .ref q2, .ref q3, .ref q4, .ref q5, .ref q6, .int 0, .int 0])), (q1, .inl (K.2.1.2.2 0, 4, .inl (fun _ => 0))), (q2, .inl (K.2.1.2.2 0, 4, .inl (fun _ => 0))), (q3, .inl (K.2.1.2.2 0, 4, .inl (fun _ => 0))), (q4, .inl (K.2.1.2.2 0, 6, .inl (fun _ => 0))), (q5, .inl (K.2.1.2.2 0, 401, .inl (fun _ => 0))), (q6, .inl (K.2.1.2.2 4, 6, .inr (.inr (.inr (.inr (fun j => ([(m7 0)] : List Nat)[j]?))))))] : va_W) ++ T1) ++ [(q8, .inr (4, zbl 4))]) 11 478
  refine VC_dup (pc := 70) C dX9_init_70 rfl ?_
  refine VC_callN (X := ([(q0, .inr (9, [.ref q1, .ref q2, .ref q3, .ref q4, .ref q5, .ref q6, .int 0, .int 0])), (q1, .inl (K.2.1.2.2 0, 4, .inl (fun _ => 0))), (q2, .inl (K.2.1.2.2 0, 4, .inl (fun _ => 0))), (q3, .inl (K.2.1.2.2 0, 4, .inl (fun _ => 0))), (q4, .inl (K.2.1.2.2 0, 6, .inl (fun _ => 0))), (q5, .inl (K.2.1.2.2 0, 401, .inl (fun _ => 0))), (q6, .inl (K.2.1.2.2 4, 6, .inr (.inr (.inr (.inr (fun j => ([(m7 0)] : List Nat)[j]?))))))] : va_W) ++ T1) (pc := 71) C (kX4 _) zm_X4_init ii_X4 rfl ml_RX9_33 ⟨Nat.le_of_ble_eq_true rfl, Nat.le_of_ble_eq_true rfl, Nat.le_of_ble_eq_true rfl, Nat.le_of_ble_eq_true rfl⟩ (Nat.le_of_ble_eq_true rfl) dX9_init_71 (fun m8 hm8 => ?_)
  subst hm8
  obtain ⟨T2, hT2⟩ : ∃ T : va_W, T = T1 ++ zws wNoise m8 K.2.1.2.2 (zS [] []) := ⟨_, rfl⟩
  refine VC_ws (zass hT2) ?_
  have lt2 : T2.length = 8 := by
    rw [hT2]
    exact zlen_a (m := 4) lt1 zws_len rfl
  show VC K 74 [some (.ref q0), some (.int (1 : Int32))] [.ref (m8 0), .int (1 : Int32), .ref q6] (([(q0, .inr (9, [.ref q1, .ref q2, .ref q3, .ref q4, .ref q5, .ref q6, .int 0, .int 0])), (q1, .inl (K.2.1.2.2 0, 4, .inl (fun _ => 0))), (q2, .inl (K.2.1.2.2 0, 4, .inl (fun _ => 0))), (q3, .inl (K.2.1.2.2 0, 4, .inl (fun _ => 0))), (q4, .inl (K.2.1.2.2 0, 6, .inl (fun _ => 0))), (q5, .inl (K.2.1.2.2 0, 401, .inl (fun _ => 0))), (q6, .inl (K.2.1.2.2 4, 6, .inr (.inr (.inr (.inr (fun j => ([(m7 0)] : List Nat)[j]?))))))] : va_W) ++ T2) 14 523
  refine VC_astv (us := [(m7 0)]) (t := 4) (q0 := 6) (qk := 11) (ci := 4) (pc := 74) C rfl (fun _ => rfl) (zfront (n := 4) rfl (zlook hT2 lt1 (Nat.le_of_ble_eq_true rfl) rfl)) rfl (by decide +kernel) (show ix 1 = 1 from by decide +kernel) dX9_init_74 ?_
  show VC K 75 [some (.ref q0), some (.int (1 : Int32))] [] (([(q0, .inr (9, [.ref q1, .ref q2, .ref q3, .ref q4, .ref q5, .ref q6, .int 0, .int 0])), (q1, .inl (K.2.1.2.2 0, 4, .inl (fun _ => 0))), (q2, .inl (K.2.1.2.2 0, 4, .inl (fun _ => 0))), (q3, .inl (K.2.1.2.2 0, 4, .inl (fun _ => 0))), (q4, .inl (K.2.1.2.2 0, 6, .inl (fun _ => 0))), (q5, .inl (K.2.1.2.2 0, 401, .inl (fun _ => 0))), (q6, .inl (K.2.1.2.2 4, 6, .inr (.inr (.inr (.inr (fun j => ([(m7 0), (m8 0)] : List Nat)[j]?))))))] : va_W) ++ T2) 14 523
  refine VC_iinc (L' := [some (.ref q0), some (.int (2 : Int32))]) (v := (2 : Int32)) (pc := 75) C dX9_init_75 rfl (by decide) (by decide) rfl ?_
  refine VC_goto (tgt := 53) (pc := 78) C dX9_init_78 (by decide) ?_
  refine VC_iload_n (pc := 53) C dX9_init_53 rfl rfl ?_
  refine VC_aload_n (pc := 54) C dX9_init_54 rfl rfl ?_
  refine VC_getN (pc := 55) C fl_RX9_29 rfl rfl dX9_init_55 ?_
  refine VC_alenq (q0 := 6) (t := 4) (v := (6 : Int32)) (pc := 58) C rfl (fun _ => rfl) (by decide) dX9_init_58 ?_
  refine VC_icmp_ge (tgt := 81) (pc := 59) C dX9_init_59 (by decide) (fun hc => absurd hc (by decide)) (fun _ => ?_)
  refine VC_aload_n (pc := 62) C dX9_init_62 rfl rfl ?_
  refine VC_getN (pc := 63) C fl_RX9_29 rfl rfl dX9_init_63 ?_
  refine VC_iload_n (pc := 66) C dX9_init_66 rfl rfl ?_
  refine VC_new (pc := 67) C nc_RX9_27 ⟨Nat.le_of_ble_eq_true rfl, Nat.le_of_ble_eq_true rfl⟩ dX9_init_67 (fun q9 => ?_)
  show VC K 70 [some (.ref q0), some (.int (2 : Int32))] [.ref q9, .int (2 : Int32), .ref q6] ((([(q0, .inr (9, [.ref q1, .ref q2, .ref q3, .ref q4, .ref q5, .ref q6, .int 0, .int 0])), (q1, .inl (K.2.1.2.2 0, 4, .inl (fun _ => 0))), (q2, .inl (K.2.1.2.2 0, 4, .inl (fun _ => 0))), (q3, .inl (K.2.1.2.2 0, 4, .inl (fun _ => 0))), (q4, .inl (K.2.1.2.2 0, 6, .inl (fun _ => 0))), (q5, .inl (K.2.1.2.2 0, 401, .inl (fun _ => 0))), (q6, .inl (K.2.1.2.2 4, 6, .inr (.inr (.inr (.inr (fun j => ([(m7 0), (m8 0)] : List Nat)[j]?))))))] : va_W) ++ T2) ++ [(q9, .inr (4, zbl 4))]) 15 527
  refine VC_dup (pc := 70) C dX9_init_70 rfl ?_
  refine VC_callN (X := ([(q0, .inr (9, [.ref q1, .ref q2, .ref q3, .ref q4, .ref q5, .ref q6, .int 0, .int 0])), (q1, .inl (K.2.1.2.2 0, 4, .inl (fun _ => 0))), (q2, .inl (K.2.1.2.2 0, 4, .inl (fun _ => 0))), (q3, .inl (K.2.1.2.2 0, 4, .inl (fun _ => 0))), (q4, .inl (K.2.1.2.2 0, 6, .inl (fun _ => 0))), (q5, .inl (K.2.1.2.2 0, 401, .inl (fun _ => 0))), (q6, .inl (K.2.1.2.2 4, 6, .inr (.inr (.inr (.inr (fun j => ([(m7 0), (m8 0)] : List Nat)[j]?))))))] : va_W) ++ T2) (pc := 71) C (kX4 _) zm_X4_init ii_X4 rfl ml_RX9_33 ⟨Nat.le_of_ble_eq_true rfl, Nat.le_of_ble_eq_true rfl, Nat.le_of_ble_eq_true rfl, Nat.le_of_ble_eq_true rfl⟩ (Nat.le_of_ble_eq_true rfl) dX9_init_71 (fun m9 hm9 => ?_)
  subst hm9
  obtain ⟨T3, hT3⟩ : ∃ T : va_W, T = T2 ++ zws wNoise m9 K.2.1.2.2 (zS [] []) := ⟨_, rfl⟩
  refine VC_ws (zass hT3) ?_
  have lt3 : T3.length = 12 := by
    rw [hT3]
    exact zlen_a (m := 4) lt2 zws_len rfl
  show VC K 74 [some (.ref q0), some (.int (2 : Int32))] [.ref (m9 0), .int (2 : Int32), .ref q6] (([(q0, .inr (9, [.ref q1, .ref q2, .ref q3, .ref q4, .ref q5, .ref q6, .int 0, .int 0])), (q1, .inl (K.2.1.2.2 0, 4, .inl (fun _ => 0))), (q2, .inl (K.2.1.2.2 0, 4, .inl (fun _ => 0))), (q3, .inl (K.2.1.2.2 0, 4, .inl (fun _ => 0))), (q4, .inl (K.2.1.2.2 0, 6, .inl (fun _ => 0))), (q5, .inl (K.2.1.2.2 0, 401, .inl (fun _ => 0))), (q6, .inl (K.2.1.2.2 4, 6, .inr (.inr (.inr (.inr (fun j => ([(m7 0), (m8 0)] : List Nat)[j]?))))))] : va_W) ++ T3) 18 572
  refine VC_astv (us := [(m7 0), (m8 0)]) (t := 4) (q0 := 6) (qk := 15) (ci := 4) (pc := 74) C rfl (fun _ => rfl) (zfront (n := 8) rfl (zlook hT3 lt2 (Nat.le_of_ble_eq_true rfl) rfl)) rfl (by decide +kernel) (show ix 2 = 2 from by decide +kernel) dX9_init_74 ?_
  show VC K 75 [some (.ref q0), some (.int (2 : Int32))] [] (([(q0, .inr (9, [.ref q1, .ref q2, .ref q3, .ref q4, .ref q5, .ref q6, .int 0, .int 0])), (q1, .inl (K.2.1.2.2 0, 4, .inl (fun _ => 0))), (q2, .inl (K.2.1.2.2 0, 4, .inl (fun _ => 0))), (q3, .inl (K.2.1.2.2 0, 4, .inl (fun _ => 0))), (q4, .inl (K.2.1.2.2 0, 6, .inl (fun _ => 0))), (q5, .inl (K.2.1.2.2 0, 401, .inl (fun _ => 0))), (q6, .inl (K.2.1.2.2 4, 6, .inr (.inr (.inr (.inr (fun j => ([(m7 0), (m8 0), (m9 0)] : List Nat)[j]?))))))] : va_W) ++ T3) 18 572
  refine VC_iinc (L' := [some (.ref q0), some (.int (3 : Int32))]) (v := (3 : Int32)) (pc := 75) C dX9_init_75 rfl (by decide) (by decide) rfl ?_
  refine VC_goto (tgt := 53) (pc := 78) C dX9_init_78 (by decide) ?_
  refine VC_iload_n (pc := 53) C dX9_init_53 rfl rfl ?_
  refine VC_aload_n (pc := 54) C dX9_init_54 rfl rfl ?_
  refine VC_getN (pc := 55) C fl_RX9_29 rfl rfl dX9_init_55 ?_
  refine VC_alenq (q0 := 6) (t := 4) (v := (6 : Int32)) (pc := 58) C rfl (fun _ => rfl) (by decide) dX9_init_58 ?_
  refine VC_icmp_ge (tgt := 81) (pc := 59) C dX9_init_59 (by decide) (fun hc => absurd hc (by decide)) (fun _ => ?_)
  refine VC_aload_n (pc := 62) C dX9_init_62 rfl rfl ?_
  refine VC_getN (pc := 63) C fl_RX9_29 rfl rfl dX9_init_63 ?_
  refine VC_iload_n (pc := 66) C dX9_init_66 rfl rfl ?_
  refine VC_new (pc := 67) C nc_RX9_27 ⟨Nat.le_of_ble_eq_true rfl, Nat.le_of_ble_eq_true rfl⟩ dX9_init_67 (fun q10 => ?_)
  show VC K 70 [some (.ref q0), some (.int (3 : Int32))] [.ref q10, .int (3 : Int32), .ref q6] ((([(q0, .inr (9, [.ref q1, .ref q2, .ref q3, .ref q4, .ref q5, .ref q6, .int 0, .int 0])), (q1, .inl (K.2.1.2.2 0, 4, .inl (fun _ => 0))), (q2, .inl (K.2.1.2.2 0, 4, .inl (fun _ => 0))), (q3, .inl (K.2.1.2.2 0, 4, .inl (fun _ => 0))), (q4, .inl (K.2.1.2.2 0, 6, .inl (fun _ => 0))), (q5, .inl (K.2.1.2.2 0, 401, .inl (fun _ => 0))), (q6, .inl (K.2.1.2.2 4, 6, .inr (.inr (.inr (.inr (fun j => ([(m7 0), (m8 0), (m9 0)] : List Nat)[j]?))))))] : va_W) ++ T3) ++ [(q10, .inr (4, zbl 4))]) 19 576
  refine VC_dup (pc := 70) C dX9_init_70 rfl ?_
  refine VC_callN (X := ([(q0, .inr (9, [.ref q1, .ref q2, .ref q3, .ref q4, .ref q5, .ref q6, .int 0, .int 0])), (q1, .inl (K.2.1.2.2 0, 4, .inl (fun _ => 0))), (q2, .inl (K.2.1.2.2 0, 4, .inl (fun _ => 0))), (q3, .inl (K.2.1.2.2 0, 4, .inl (fun _ => 0))), (q4, .inl (K.2.1.2.2 0, 6, .inl (fun _ => 0))), (q5, .inl (K.2.1.2.2 0, 401, .inl (fun _ => 0))), (q6, .inl (K.2.1.2.2 4, 6, .inr (.inr (.inr (.inr (fun j => ([(m7 0), (m8 0), (m9 0)] : List Nat)[j]?))))))] : va_W) ++ T3) (pc := 71) C (kX4 _) zm_X4_init ii_X4 rfl ml_RX9_33 ⟨Nat.le_of_ble_eq_true rfl, Nat.le_of_ble_eq_true rfl, Nat.le_of_ble_eq_true rfl, Nat.le_of_ble_eq_true rfl⟩ (Nat.le_of_ble_eq_true rfl) dX9_init_71 (fun m10 hm10 => ?_)
  subst hm10
  obtain ⟨T4, hT4⟩ : ∃ T : va_W, T = T3 ++ zws wNoise m10 K.2.1.2.2 (zS [] []) := ⟨_, rfl⟩
  refine VC_ws (zass hT4) ?_
  have lt4 : T4.length = 16 := by
    rw [hT4]
    exact zlen_a (m := 4) lt3 zws_len rfl
  show VC K 74 [some (.ref q0), some (.int (3 : Int32))] [.ref (m10 0), .int (3 : Int32), .ref q6] (([(q0, .inr (9, [.ref q1, .ref q2, .ref q3, .ref q4, .ref q5, .ref q6, .int 0, .int 0])), (q1, .inl (K.2.1.2.2 0, 4, .inl (fun _ => 0))), (q2, .inl (K.2.1.2.2 0, 4, .inl (fun _ => 0))), (q3, .inl (K.2.1.2.2 0, 4, .inl (fun _ => 0))), (q4, .inl (K.2.1.2.2 0, 6, .inl (fun _ => 0))), (q5, .inl (K.2.1.2.2 0, 401, .inl (fun _ => 0))), (q6, .inl (K.2.1.2.2 4, 6, .inr (.inr (.inr (.inr (fun j => ([(m7 0), (m8 0), (m9 0)] : List Nat)[j]?))))))] : va_W) ++ T4) 22 621
  refine VC_astv (us := [(m7 0), (m8 0), (m9 0)]) (t := 4) (q0 := 6) (qk := 19) (ci := 4) (pc := 74) C rfl (fun _ => rfl) (zfront (n := 12) rfl (zlook hT4 lt3 (Nat.le_of_ble_eq_true rfl) rfl)) rfl (by decide +kernel) (show ix 3 = 3 from by decide +kernel) dX9_init_74 ?_
  show VC K 75 [some (.ref q0), some (.int (3 : Int32))] [] (([(q0, .inr (9, [.ref q1, .ref q2, .ref q3, .ref q4, .ref q5, .ref q6, .int 0, .int 0])), (q1, .inl (K.2.1.2.2 0, 4, .inl (fun _ => 0))), (q2, .inl (K.2.1.2.2 0, 4, .inl (fun _ => 0))), (q3, .inl (K.2.1.2.2 0, 4, .inl (fun _ => 0))), (q4, .inl (K.2.1.2.2 0, 6, .inl (fun _ => 0))), (q5, .inl (K.2.1.2.2 0, 401, .inl (fun _ => 0))), (q6, .inl (K.2.1.2.2 4, 6, .inr (.inr (.inr (.inr (fun j => ([(m7 0), (m8 0), (m9 0), (m10 0)] : List Nat)[j]?))))))] : va_W) ++ T4) 22 621
  refine VC_iinc (L' := [some (.ref q0), some (.int (4 : Int32))]) (v := (4 : Int32)) (pc := 75) C dX9_init_75 rfl (by decide) (by decide) rfl ?_
  refine VC_goto (tgt := 53) (pc := 78) C dX9_init_78 (by decide) ?_
  refine VC_iload_n (pc := 53) C dX9_init_53 rfl rfl ?_
  refine VC_aload_n (pc := 54) C dX9_init_54 rfl rfl ?_
  refine VC_getN (pc := 55) C fl_RX9_29 rfl rfl dX9_init_55 ?_
  refine VC_alenq (q0 := 6) (t := 4) (v := (6 : Int32)) (pc := 58) C rfl (fun _ => rfl) (by decide) dX9_init_58 ?_
  refine VC_icmp_ge (tgt := 81) (pc := 59) C dX9_init_59 (by decide) (fun hc => absurd hc (by decide)) (fun _ => ?_)
  refine VC_aload_n (pc := 62) C dX9_init_62 rfl rfl ?_
  refine VC_getN (pc := 63) C fl_RX9_29 rfl rfl dX9_init_63 ?_
  refine VC_iload_n (pc := 66) C dX9_init_66 rfl rfl ?_
  refine VC_new (pc := 67) C nc_RX9_27 ⟨Nat.le_of_ble_eq_true rfl, Nat.le_of_ble_eq_true rfl⟩ dX9_init_67 (fun q11 => ?_)
  show VC K 70 [some (.ref q0), some (.int (4 : Int32))] [.ref q11, .int (4 : Int32), .ref q6] ((([(q0, .inr (9, [.ref q1, .ref q2, .ref q3, .ref q4, .ref q5, .ref q6, .int 0, .int 0])), (q1, .inl (K.2.1.2.2 0, 4, .inl (fun _ => 0))), (q2, .inl (K.2.1.2.2 0, 4, .inl (fun _ => 0))), (q3, .inl (K.2.1.2.2 0, 4, .inl (fun _ => 0))), (q4, .inl (K.2.1.2.2 0, 6, .inl (fun _ => 0))), (q5, .inl (K.2.1.2.2 0, 401, .inl (fun _ => 0))), (q6, .inl (K.2.1.2.2 4, 6, .inr (.inr (.inr (.inr (fun j => ([(m7 0), (m8 0), (m9 0), (m10 0)] : List Nat)[j]?))))))] : va_W) ++ T4) ++ [(q11, .inr (4, zbl 4))]) 23 625
  refine VC_dup (pc := 70) C dX9_init_70 rfl ?_
  refine VC_callN (X := ([(q0, .inr (9, [.ref q1, .ref q2, .ref q3, .ref q4, .ref q5, .ref q6, .int 0, .int 0])), (q1, .inl (K.2.1.2.2 0, 4, .inl (fun _ => 0))), (q2, .inl (K.2.1.2.2 0, 4, .inl (fun _ => 0))), (q3, .inl (K.2.1.2.2 0, 4, .inl (fun _ => 0))), (q4, .inl (K.2.1.2.2 0, 6, .inl (fun _ => 0))), (q5, .inl (K.2.1.2.2 0, 401, .inl (fun _ => 0))), (q6, .inl (K.2.1.2.2 4, 6, .inr (.inr (.inr (.inr (fun j => ([(m7 0), (m8 0), (m9 0), (m10 0)] : List Nat)[j]?))))))] : va_W) ++ T4) (pc := 71) C (kX4 _) zm_X4_init ii_X4 rfl ml_RX9_33 ⟨Nat.le_of_ble_eq_true rfl, Nat.le_of_ble_eq_true rfl, Nat.le_of_ble_eq_true rfl, Nat.le_of_ble_eq_true rfl⟩ (Nat.le_of_ble_eq_true rfl) dX9_init_71 (fun m11 hm11 => ?_)
  subst hm11
  obtain ⟨T5, hT5⟩ : ∃ T : va_W, T = T4 ++ zws wNoise m11 K.2.1.2.2 (zS [] []) := ⟨_, rfl⟩
  refine VC_ws (zass hT5) ?_
  have lt5 : T5.length = 20 := by
    rw [hT5]
    exact zlen_a (m := 4) lt4 zws_len rfl
  show VC K 74 [some (.ref q0), some (.int (4 : Int32))] [.ref (m11 0), .int (4 : Int32), .ref q6] (([(q0, .inr (9, [.ref q1, .ref q2, .ref q3, .ref q4, .ref q5, .ref q6, .int 0, .int 0])), (q1, .inl (K.2.1.2.2 0, 4, .inl (fun _ => 0))), (q2, .inl (K.2.1.2.2 0, 4, .inl (fun _ => 0))), (q3, .inl (K.2.1.2.2 0, 4, .inl (fun _ => 0))), (q4, .inl (K.2.1.2.2 0, 6, .inl (fun _ => 0))), (q5, .inl (K.2.1.2.2 0, 401, .inl (fun _ => 0))), (q6, .inl (K.2.1.2.2 4, 6, .inr (.inr (.inr (.inr (fun j => ([(m7 0), (m8 0), (m9 0), (m10 0)] : List Nat)[j]?))))))] : va_W) ++ T5) 26 670
  refine VC_astv (us := [(m7 0), (m8 0), (m9 0), (m10 0)]) (t := 4) (q0 := 6) (qk := 23) (ci := 4) (pc := 74) C rfl (fun _ => rfl) (zfront (n := 16) rfl (zlook hT5 lt4 (Nat.le_of_ble_eq_true rfl) rfl)) rfl (by decide +kernel) (show ix 4 = 4 from by decide +kernel) dX9_init_74 ?_
  show VC K 75 [some (.ref q0), some (.int (4 : Int32))] [] (([(q0, .inr (9, [.ref q1, .ref q2, .ref q3, .ref q4, .ref q5, .ref q6, .int 0, .int 0])), (q1, .inl (K.2.1.2.2 0, 4, .inl (fun _ => 0))), (q2, .inl (K.2.1.2.2 0, 4, .inl (fun _ => 0))), (q3, .inl (K.2.1.2.2 0, 4, .inl (fun _ => 0))), (q4, .inl (K.2.1.2.2 0, 6, .inl (fun _ => 0))), (q5, .inl (K.2.1.2.2 0, 401, .inl (fun _ => 0))), (q6, .inl (K.2.1.2.2 4, 6, .inr (.inr (.inr (.inr (fun j => ([(m7 0), (m8 0), (m9 0), (m10 0), (m11 0)] : List Nat)[j]?))))))] : va_W) ++ T5) 26 670
  refine VC_iinc (L' := [some (.ref q0), some (.int (5 : Int32))]) (v := (5 : Int32)) (pc := 75) C dX9_init_75 rfl (by decide) (by decide) rfl ?_
  refine VC_goto (tgt := 53) (pc := 78) C dX9_init_78 (by decide) ?_
  refine VC_iload_n (pc := 53) C dX9_init_53 rfl rfl ?_
  refine VC_aload_n (pc := 54) C dX9_init_54 rfl rfl ?_
  refine VC_getN (pc := 55) C fl_RX9_29 rfl rfl dX9_init_55 ?_
  refine VC_alenq (q0 := 6) (t := 4) (v := (6 : Int32)) (pc := 58) C rfl (fun _ => rfl) (by decide) dX9_init_58 ?_
  refine VC_icmp_ge (tgt := 81) (pc := 59) C dX9_init_59 (by decide) (fun hc => absurd hc (by decide)) (fun _ => ?_)
  refine VC_aload_n (pc := 62) C dX9_init_62 rfl rfl ?_
  refine VC_getN (pc := 63) C fl_RX9_29 rfl rfl dX9_init_63 ?_
  refine VC_iload_n (pc := 66) C dX9_init_66 rfl rfl ?_
  refine VC_new (pc := 67) C nc_RX9_27 ⟨Nat.le_of_ble_eq_true rfl, Nat.le_of_ble_eq_true rfl⟩ dX9_init_67 (fun q12 => ?_)
  show VC K 70 [some (.ref q0), some (.int (5 : Int32))] [.ref q12, .int (5 : Int32), .ref q6] ((([(q0, .inr (9, [.ref q1, .ref q2, .ref q3, .ref q4, .ref q5, .ref q6, .int 0, .int 0])), (q1, .inl (K.2.1.2.2 0, 4, .inl (fun _ => 0))), (q2, .inl (K.2.1.2.2 0, 4, .inl (fun _ => 0))), (q3, .inl (K.2.1.2.2 0, 4, .inl (fun _ => 0))), (q4, .inl (K.2.1.2.2 0, 6, .inl (fun _ => 0))), (q5, .inl (K.2.1.2.2 0, 401, .inl (fun _ => 0))), (q6, .inl (K.2.1.2.2 4, 6, .inr (.inr (.inr (.inr (fun j => ([(m7 0), (m8 0), (m9 0), (m10 0), (m11 0)] : List Nat)[j]?))))))] : va_W) ++ T5) ++ [(q12, .inr (4, zbl 4))]) 27 674
  refine VC_dup (pc := 70) C dX9_init_70 rfl ?_
  refine VC_callN (X := ([(q0, .inr (9, [.ref q1, .ref q2, .ref q3, .ref q4, .ref q5, .ref q6, .int 0, .int 0])), (q1, .inl (K.2.1.2.2 0, 4, .inl (fun _ => 0))), (q2, .inl (K.2.1.2.2 0, 4, .inl (fun _ => 0))), (q3, .inl (K.2.1.2.2 0, 4, .inl (fun _ => 0))), (q4, .inl (K.2.1.2.2 0, 6, .inl (fun _ => 0))), (q5, .inl (K.2.1.2.2 0, 401, .inl (fun _ => 0))), (q6, .inl (K.2.1.2.2 4, 6, .inr (.inr (.inr (.inr (fun j => ([(m7 0), (m8 0), (m9 0), (m10 0), (m11 0)] : List Nat)[j]?))))))] : va_W) ++ T5) (pc := 71) C (kX4 _) zm_X4_init ii_X4 rfl ml_RX9_33 ⟨Nat.le_of_ble_eq_true rfl, Nat.le_of_ble_eq_true rfl, Nat.le_of_ble_eq_true rfl, Nat.le_of_ble_eq_true rfl⟩ (Nat.le_of_ble_eq_true rfl) dX9_init_71 (fun m12 hm12 => ?_)
  subst hm12
  obtain ⟨T6, hT6⟩ : ∃ T : va_W, T = T5 ++ zws wNoise m12 K.2.1.2.2 (zS [] []) := ⟨_, rfl⟩
  refine VC_ws (zass hT6) ?_
  have lt6 : T6.length = 24 := by
    rw [hT6]
    exact zlen_a (m := 4) lt5 zws_len rfl
  show VC K 74 [some (.ref q0), some (.int (5 : Int32))] [.ref (m12 0), .int (5 : Int32), .ref q6] (([(q0, .inr (9, [.ref q1, .ref q2, .ref q3, .ref q4, .ref q5, .ref q6, .int 0, .int 0])), (q1, .inl (K.2.1.2.2 0, 4, .inl (fun _ => 0))), (q2, .inl (K.2.1.2.2 0, 4, .inl (fun _ => 0))), (q3, .inl (K.2.1.2.2 0, 4, .inl (fun _ => 0))), (q4, .inl (K.2.1.2.2 0, 6, .inl (fun _ => 0))), (q5, .inl (K.2.1.2.2 0, 401, .inl (fun _ => 0))), (q6, .inl (K.2.1.2.2 4, 6, .inr (.inr (.inr (.inr (fun j => ([(m7 0), (m8 0), (m9 0), (m10 0), (m11 0)] : List Nat)[j]?))))))] : va_W) ++ T6) 30 719
  refine VC_astv (us := [(m7 0), (m8 0), (m9 0), (m10 0), (m11 0)]) (t := 4) (q0 := 6) (qk := 27) (ci := 4) (pc := 74) C rfl (fun _ => rfl) (zfront (n := 20) rfl (zlook hT6 lt5 (Nat.le_of_ble_eq_true rfl) rfl)) rfl (by decide +kernel) (show ix 5 = 5 from by decide +kernel) dX9_init_74 ?_
  show VC K 75 [some (.ref q0), some (.int (5 : Int32))] [] (([(q0, .inr (9, [.ref q1, .ref q2, .ref q3, .ref q4, .ref q5, .ref q6, .int 0, .int 0])), (q1, .inl (K.2.1.2.2 0, 4, .inl (fun _ => 0))), (q2, .inl (K.2.1.2.2 0, 4, .inl (fun _ => 0))), (q3, .inl (K.2.1.2.2 0, 4, .inl (fun _ => 0))), (q4, .inl (K.2.1.2.2 0, 6, .inl (fun _ => 0))), (q5, .inl (K.2.1.2.2 0, 401, .inl (fun _ => 0))), (q6, .inl (K.2.1.2.2 4, 6, .inr (.inr (.inr (.inr (fun j => ([(m7 0), (m8 0), (m9 0), (m10 0), (m11 0), (m12 0)] : List Nat)[j]?))))))] : va_W) ++ T6) 30 719
  refine VC_iinc (L' := [some (.ref q0), some (.int (6 : Int32))]) (v := (6 : Int32)) (pc := 75) C dX9_init_75 rfl (by decide) (by decide) rfl ?_
  refine VC_goto (tgt := 53) (pc := 78) C dX9_init_78 (by decide) ?_
  refine VC_iload_n (pc := 53) C dX9_init_53 rfl rfl ?_
  refine VC_aload_n (pc := 54) C dX9_init_54 rfl rfl ?_
  refine VC_getN (pc := 55) C fl_RX9_29 rfl rfl dX9_init_55 ?_
  refine VC_alenq (q0 := 6) (t := 4) (v := (6 : Int32)) (pc := 58) C rfl (fun _ => rfl) (by decide) dX9_init_58 ?_
  refine VC_icmp_ge (tgt := 81) (pc := 59) C dX9_init_59 (by decide) (fun _ => ?_) (fun hc => absurd (by decide) hc)
  obtain ⟨μ, hμ⟩ : ∃ μ, μ = zmu [(7, fun k => ([q0, q1, q2, q3, q4, q5, q6] : List Nat).getD k 0), (4, m7), (4, m8), (4, m9), (4, m10), (4, m11), (4, m12)] := ⟨_, rfl⟩
  have hq6 : (fun j : Nat => ([(m7 0), (m8 0), (m9 0), (m10 0), (m11 0), (m12 0)] : List Nat)[j]?) = fun j : Nat => (([7, 11, 15, 19, 23, 27] : List Nat)[j]?).map μ := by
    subst hμ
    funext j
    rw [← List.getElem?_map]
    rfl
  refine VC_ws ?_ (hret 81 _ μ dX9_init_81 (by subst hμ; rfl))
  rw [hq6]
  have e0 : (([(q0, .inr (9, [.ref q1, .ref q2, .ref q3, .ref q4, .ref q5, .ref q6, .int 0, .int 0])), (q1, .inl (K.2.1.2.2 0, 4, .inl (fun _ => 0))), (q2, .inl (K.2.1.2.2 0, 4, .inl (fun _ => 0))), (q3, .inl (K.2.1.2.2 0, 4, .inl (fun _ => 0))), (q4, .inl (K.2.1.2.2 0, 6, .inl (fun _ => 0))), (q5, .inl (K.2.1.2.2 0, 401, .inl (fun _ => 0))), (q6, .inl (K.2.1.2.2 4, 6, .inr (.inr (.inr (.inr (fun j => (([7, 11, 15, 19, 23, 27] : List Nat)[j]?).map μ))))))] : va_W) ++ T0 : va_W) = (List.range 7).map (fun q => (μ q, zen μ K.2.1.2.2 (zS [] []) q (wSense.2 q))) := by
    rw [hT0]
    subst hμ
    rfl
  have b0 : (zws wNoise m7 K.2.1.2.2 (zS [] []) : va_W) = (List.range 4).map (fun k => (fun q => (μ q, zen μ K.2.1.2.2 (zS [] []) q (wSense.2 q))) (7 + k)) := zblk (w := wSense) (μ := μ) (o := 7) rfl (by subst hμ; exact zmu_at _ 1 7 4 _ rfl (by simp only [zsum_s, zsum_0, Nat.reduceAdd])) (fun _ _ => rfl) (fun _ _ => rfl) (by decide +kernel)
  have e1 : (([(q0, .inr (9, [.ref q1, .ref q2, .ref q3, .ref q4, .ref q5, .ref q6, .int 0, .int 0])), (q1, .inl (K.2.1.2.2 0, 4, .inl (fun _ => 0))), (q2, .inl (K.2.1.2.2 0, 4, .inl (fun _ => 0))), (q3, .inl (K.2.1.2.2 0, 4, .inl (fun _ => 0))), (q4, .inl (K.2.1.2.2 0, 6, .inl (fun _ => 0))), (q5, .inl (K.2.1.2.2 0, 401, .inl (fun _ => 0))), (q6, .inl (K.2.1.2.2 4, 6, .inr (.inr (.inr (.inr (fun j => (([7, 11, 15, 19, 23, 27] : List Nat)[j]?).map μ))))))] : va_W) ++ T1 : va_W) = (List.range (7 + 4)).map (fun q => (μ q, zen μ K.2.1.2.2 (zS [] []) q (wSense.2 q))) := (zass hT1).symm.trans (zapp e0 b0)
  have b1 : (zws wNoise m8 K.2.1.2.2 (zS [] []) : va_W) = (List.range 4).map (fun k => (fun q => (μ q, zen μ K.2.1.2.2 (zS [] []) q (wSense.2 q))) (11 + k)) := zblk (w := wSense) (μ := μ) (o := 11) rfl (by subst hμ; exact zmu_at _ 2 11 4 _ rfl (by simp only [zsum_s, zsum_0, Nat.reduceAdd])) (fun _ _ => rfl) (fun _ _ => rfl) (by decide +kernel)
  have e2 : (([(q0, .inr (9, [.ref q1, .ref q2, .ref q3, .ref q4, .ref q5, .ref q6, .int 0, .int 0])), (q1, .inl (K.2.1.2.2 0, 4, .inl (fun _ => 0))), (q2, .inl (K.2.1.2.2 0, 4, .inl (fun _ => 0))), (q3, .inl (K.2.1.2.2 0, 4, .inl (fun _ => 0))), (q4, .inl (K.2.1.2.2 0, 6, .inl (fun _ => 0))), (q5, .inl (K.2.1.2.2 0, 401, .inl (fun _ => 0))), (q6, .inl (K.2.1.2.2 4, 6, .inr (.inr (.inr (.inr (fun j => (([7, 11, 15, 19, 23, 27] : List Nat)[j]?).map μ))))))] : va_W) ++ T2 : va_W) = (List.range (11 + 4)).map (fun q => (μ q, zen μ K.2.1.2.2 (zS [] []) q (wSense.2 q))) := (zass hT2).symm.trans (zapp e1 b1)
  have b2 : (zws wNoise m9 K.2.1.2.2 (zS [] []) : va_W) = (List.range 4).map (fun k => (fun q => (μ q, zen μ K.2.1.2.2 (zS [] []) q (wSense.2 q))) (15 + k)) := zblk (w := wSense) (μ := μ) (o := 15) rfl (by subst hμ; exact zmu_at _ 3 15 4 _ rfl (by simp only [zsum_s, zsum_0, Nat.reduceAdd])) (fun _ _ => rfl) (fun _ _ => rfl) (by decide +kernel)
  have e3 : (([(q0, .inr (9, [.ref q1, .ref q2, .ref q3, .ref q4, .ref q5, .ref q6, .int 0, .int 0])), (q1, .inl (K.2.1.2.2 0, 4, .inl (fun _ => 0))), (q2, .inl (K.2.1.2.2 0, 4, .inl (fun _ => 0))), (q3, .inl (K.2.1.2.2 0, 4, .inl (fun _ => 0))), (q4, .inl (K.2.1.2.2 0, 6, .inl (fun _ => 0))), (q5, .inl (K.2.1.2.2 0, 401, .inl (fun _ => 0))), (q6, .inl (K.2.1.2.2 4, 6, .inr (.inr (.inr (.inr (fun j => (([7, 11, 15, 19, 23, 27] : List Nat)[j]?).map μ))))))] : va_W) ++ T3 : va_W) = (List.range (15 + 4)).map (fun q => (μ q, zen μ K.2.1.2.2 (zS [] []) q (wSense.2 q))) := (zass hT3).symm.trans (zapp e2 b2)
  have b3 : (zws wNoise m10 K.2.1.2.2 (zS [] []) : va_W) = (List.range 4).map (fun k => (fun q => (μ q, zen μ K.2.1.2.2 (zS [] []) q (wSense.2 q))) (19 + k)) := zblk (w := wSense) (μ := μ) (o := 19) rfl (by subst hμ; exact zmu_at _ 4 19 4 _ rfl (by simp only [zsum_s, zsum_0, Nat.reduceAdd])) (fun _ _ => rfl) (fun _ _ => rfl) (by decide +kernel)
  have e4 : (([(q0, .inr (9, [.ref q1, .ref q2, .ref q3, .ref q4, .ref q5, .ref q6, .int 0, .int 0])), (q1, .inl (K.2.1.2.2 0, 4, .inl (fun _ => 0))), (q2, .inl (K.2.1.2.2 0, 4, .inl (fun _ => 0))), (q3, .inl (K.2.1.2.2 0, 4, .inl (fun _ => 0))), (q4, .inl (K.2.1.2.2 0, 6, .inl (fun _ => 0))), (q5, .inl (K.2.1.2.2 0, 401, .inl (fun _ => 0))), (q6, .inl (K.2.1.2.2 4, 6, .inr (.inr (.inr (.inr (fun j => (([7, 11, 15, 19, 23, 27] : List Nat)[j]?).map μ))))))] : va_W) ++ T4 : va_W) = (List.range (19 + 4)).map (fun q => (μ q, zen μ K.2.1.2.2 (zS [] []) q (wSense.2 q))) := (zass hT4).symm.trans (zapp e3 b3)
  have b4 : (zws wNoise m11 K.2.1.2.2 (zS [] []) : va_W) = (List.range 4).map (fun k => (fun q => (μ q, zen μ K.2.1.2.2 (zS [] []) q (wSense.2 q))) (23 + k)) := zblk (w := wSense) (μ := μ) (o := 23) rfl (by subst hμ; exact zmu_at _ 5 23 4 _ rfl (by simp only [zsum_s, zsum_0, Nat.reduceAdd])) (fun _ _ => rfl) (fun _ _ => rfl) (by decide +kernel)
  have e5 : (([(q0, .inr (9, [.ref q1, .ref q2, .ref q3, .ref q4, .ref q5, .ref q6, .int 0, .int 0])), (q1, .inl (K.2.1.2.2 0, 4, .inl (fun _ => 0))), (q2, .inl (K.2.1.2.2 0, 4, .inl (fun _ => 0))), (q3, .inl (K.2.1.2.2 0, 4, .inl (fun _ => 0))), (q4, .inl (K.2.1.2.2 0, 6, .inl (fun _ => 0))), (q5, .inl (K.2.1.2.2 0, 401, .inl (fun _ => 0))), (q6, .inl (K.2.1.2.2 4, 6, .inr (.inr (.inr (.inr (fun j => (([7, 11, 15, 19, 23, 27] : List Nat)[j]?).map μ))))))] : va_W) ++ T5 : va_W) = (List.range (23 + 4)).map (fun q => (μ q, zen μ K.2.1.2.2 (zS [] []) q (wSense.2 q))) := (zass hT5).symm.trans (zapp e4 b4)
  have b5 : (zws wNoise m12 K.2.1.2.2 (zS [] []) : va_W) = (List.range 4).map (fun k => (fun q => (μ q, zen μ K.2.1.2.2 (zS [] []) q (wSense.2 q))) (27 + k)) := zblk (w := wSense) (μ := μ) (o := 27) rfl (by subst hμ; exact zmu_at _ 6 27 4 _ rfl (by simp only [zsum_s, zsum_0, Nat.reduceAdd])) (fun _ _ => rfl) (fun _ _ => rfl) (by decide +kernel)
  have e6 : (([(q0, .inr (9, [.ref q1, .ref q2, .ref q3, .ref q4, .ref q5, .ref q6, .int 0, .int 0])), (q1, .inl (K.2.1.2.2 0, 4, .inl (fun _ => 0))), (q2, .inl (K.2.1.2.2 0, 4, .inl (fun _ => 0))), (q3, .inl (K.2.1.2.2 0, 4, .inl (fun _ => 0))), (q4, .inl (K.2.1.2.2 0, 6, .inl (fun _ => 0))), (q5, .inl (K.2.1.2.2 0, 401, .inl (fun _ => 0))), (q6, .inl (K.2.1.2.2 4, 6, .inr (.inr (.inr (.inr (fun j => (([7, 11, 15, 19, 23, 27] : List Nat)[j]?).map μ))))))] : va_W) ++ T6 : va_W) = (List.range (27 + 4)).map (fun q => (μ q, zen μ K.2.1.2.2 (zS [] []) q (wSense.2 q))) := (zass hT6).symm.trans (zapp e5 b5)
  exact e6
set_option maxRecDepth 100000 in
set_option maxHeartbeats 4000000 in
theorem kX8 (l : Launch) : zCt l yX8_init cX8_init 1 1 20 1 6 8 wSayer (zS [] []) := by
  refine zctor (by decide +kernel) rfl (by rfl) (fun K q0 hKl C hret => ?_)
  show VC K 0 [some (.ref q0)] [] (([(q0, .inr (8, [.null, .int 0, .int 0, .int 0, .int 0, .int 0, .int 0, .int 0, .int 0, .int 0]))] : va_W)) 0 0
  refine VC_aload_n (pc := 0) C dX8_init_0 rfl rfl ?_
  refine VC_obj (pc := 1) C ol_RX8_3 oi_obj oc_obj ⟨Nat.le_of_ble_eq_true rfl, Nat.le_of_ble_eq_true rfl⟩ dX8_init_1 ?_
  refine VC_aload_n (pc := 4) C dX8_init_4 rfl rfl ?_
  refine VC_bipush (pc := 5) C dX8_init_5 kc_b_6 ?_
  refine VC_newa (t := 0) (N := 6) (a0 := (6, .inl (fun _ => 0))) (pc := 7) C aw_int rfl (fun _ => rfl) (fun _ => rfl) ⟨by decide, by decide +kernel, Nat.le_of_ble_eq_true rfl⟩ ⟨Nat.le_of_ble_eq_true rfl, Nat.le_of_ble_eq_true rfl⟩ dX8_init_7 (fun q1 => ?_)
  show VC K 9 [some (.ref q0)] [.ref q1, .ref q0] (([(q0, .inr (8, [.null, .int 0, .int 0, .int 0, .int 0, .int 0, .int 0, .int 0, .int 0, .int 0])), (q1, .inl (K.2.1.2.2 0, 6, .inl (fun _ => 0)))] : va_W)) 1 6
  refine VC_putF (pc := 9) C ff_RX8_9 rfl ⟨rfl, rfl⟩ (Nat.le_of_ble_eq_true rfl) dX8_init_9 ?_
  show VC K 12 [some (.ref q0)] [] (([(q0, .inr (8, [.ref q1, .int 0, .int 0, .int 0, .int 0, .int 0, .int 0, .int 0, .int 0, .int 0])), (q1, .inl (K.2.1.2.2 0, 6, .inl (fun _ => 0)))] : va_W)) 1 6
  obtain ⟨μ, hμ⟩ : ∃ μ, μ = zmu [(2, fun k => ([q0, q1] : List Nat).getD k 0)] := ⟨_, rfl⟩
  refine VC_ws ?_ (hret 12 _ μ dX8_init_12 (by subst hμ; rfl))
  have e0 : (([(q0, .inr (8, [.ref q1, .int 0, .int 0, .int 0, .int 0, .int 0, .int 0, .int 0, .int 0, .int 0])), (q1, .inl (K.2.1.2.2 0, 6, .inl (fun _ => 0)))] : va_W) : va_W) = (List.range 2).map (fun q => (μ q, zen μ K.2.1.2.2 (zS [] []) q (wSayer.2 q))) := by
    subst hμ
    rfl
  exact e0
set_option maxRecDepth 100000 in
set_option maxHeartbeats 4000000 in
theorem kX6 (l : Launch) : zCt l yX6_init cX6_init 1 1 20 0 0 6 wPlan (zS [] []) := by
  refine zctor (by decide +kernel) rfl (by rfl) (fun K q0 hKl C hret => ?_)
  show VC K 0 [some (.ref q0)] [] (([(q0, .inr (6, [.int 0, .int 0, .int 0, .int 0, .int 0]))] : va_W)) 0 0
  refine VC_aload_n (pc := 0) C dX6_init_0 rfl rfl ?_
  refine VC_obj (pc := 1) C ol_RX6_1 oi_obj oc_obj ⟨Nat.le_of_ble_eq_true rfl, Nat.le_of_ble_eq_true rfl⟩ dX6_init_1 ?_
  obtain ⟨μ, hμ⟩ : ∃ μ, μ = zmu [(1, fun k => ([q0] : List Nat).getD k 0)] := ⟨_, rfl⟩
  refine VC_ws ?_ (hret 4 _ μ dX6_init_4 (by subst hμ; rfl))
  have e0 : (([(q0, .inr (6, [.int 0, .int 0, .int 0, .int 0, .int 0]))] : va_W) : va_W) = (List.range 1).map (fun q => (μ q, zen μ K.2.1.2.2 (zS [] []) q (wPlan.2 q))) := by
    subst hμ
    rfl
  exact e0
set_option maxRecDepth 100000 in
set_option maxHeartbeats 4000000 in
theorem kX5 (l : Launch) : zCt l yX5_init cX5_init 1 1 20 0 0 5 wPay (zS [] []) := by
  refine zctor (by decide +kernel) rfl (by rfl) (fun K q0 hKl C hret => ?_)
  show VC K 0 [some (.ref q0)] [] (([(q0, .inr (5, [.int 0, .int 0, .int 0, .int 0, .int 0]))] : va_W)) 0 0
  refine VC_aload_n (pc := 0) C dX5_init_0 rfl rfl ?_
  refine VC_obj (pc := 1) C ol_RX5_1 oi_obj oc_obj ⟨Nat.le_of_ble_eq_true rfl, Nat.le_of_ble_eq_true rfl⟩ dX5_init_1 ?_
  obtain ⟨μ, hμ⟩ : ∃ μ, μ = zmu [(1, fun k => ([q0] : List Nat).getD k 0)] := ⟨_, rfl⟩
  refine VC_ws ?_ (hret 4 _ μ dX5_init_4 (by subst hμ; rfl))
  have e0 : (([(q0, .inr (5, [.int 0, .int 0, .int 0, .int 0, .int 0]))] : va_W) : va_W) = (List.range 1).map (fun q => (μ q, zen μ K.2.1.2.2 (zS [] []) q (wPay.2 q))) := by
    subst hμ
    rfl
  exact e0
