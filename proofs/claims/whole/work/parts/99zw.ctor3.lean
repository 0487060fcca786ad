set_option maxRecDepth 100000 in
set_option maxHeartbeats 4000000 in
theorem kX11 (l : Launch) : zCt l yX11_init cX11_init 1 5 102 489 34646 11 wMore (zS [(0, 8, 243), (2, 6, 6), (456, 0, 457), (456, 1, 459), (456, 2, 459)] []) := by
  refine zctor (by decide +kernel) rfl (by rfl) (fun K q0 hKl C hret => ?_)
  show VC K 0 [some (.ref q0)] [] (([(q0, .inr (11, [.null, .null, .null, .null, .null, .null, .null, .null, .null, .null, .int 0, .int 0, .int 0, .int 0, .int 0]))] : va_W)) 0 0
  refine VC_aload_n (pc := 0) C dX11_init_0 rfl rfl ?_
  refine VC_obj (pc := 1) C ol_RX11_1 oi_obj oc_obj ⟨Nat.le_of_ble_eq_true rfl, Nat.le_of_ble_eq_true rfl⟩ dX11_init_1 ?_
  refine VC_aload_n (pc := 4) C dX11_init_4 rfl rfl ?_
  refine VC_sipush (pc := 5) C dX11_init_5 kc_s_700 ?_
  refine VC_newa (t := 1) (N := 700) (a0 := (700, .inl (fun _ => 0))) (pc := 8) C aw_byte rfl (fun _ => rfl) (fun _ => rfl) ⟨by decide, by decide +kernel, Nat.le_of_ble_eq_true rfl⟩ ⟨Nat.le_of_ble_eq_true rfl, Nat.le_of_ble_eq_true rfl⟩ dX11_init_8 (fun q1 => ?_)
  show VC K 10 [some (.ref q0)] [.ref q1, .ref q0] (([(q0, .inr (11, [.null, .null, .null, .null, .null, .null, .null, .null, .null, .null, .int 0, .int 0, .int 0, .int 0, .int 0])), (q1, .inl (K.2.1.2.2 1, 700, .inl (fun _ => 0)))] : va_W)) 1 700
  refine VC_putF (pc := 10) C ff_RX11_9 rfl ⟨rfl, rfl⟩ (Nat.le_of_ble_eq_true rfl) dX11_init_10 ?_
  show VC K 13 [some (.ref q0)] [] (([(q0, .inr (11, [.ref q1, .null, .null, .null, .null, .null, .null, .null, .null, .null, .int 0, .int 0, .int 0, .int 0, .int 0])), (q1, .inl (K.2.1.2.2 1, 700, .inl (fun _ => 0)))] : va_W)) 1 700
  refine VC_aload_n (pc := 13) C dX11_init_13 rfl rfl ?_
  obtain ⟨T0, hT0⟩ : ∃ T : va_W, T = [] := ⟨_, rfl⟩
  have lt0 : T0.length = 0 := by rw [hT0]; rfl
  refine VC_ws (show ([(q0, .inr (11, [.ref q1, .null, .null, .null, .null, .null, .null, .null, .null, .null, .int 0, .int 0, .int 0, .int 0, .int 0])), (q1, .inl (K.2.1.2.2 1, 700, .inl (fun _ => 0)))] : va_W) = ([(q0, .inr (11, [.ref q1, .null, .null, .null, .null, .null, .null, .null, .null, .null, .int 0, .int 0, .int 0, .int 0, .int 0])), (q1, .inl (K.2.1.2.2 1, 700, .inl (fun _ => 0)))] : va_W) ++ T0 from by subst hT0; exact (List.append_nil _).symm) ?_
  refine VC_new (pc := 14) C nc_RX11_13 ⟨Nat.le_of_ble_eq_true rfl, Nat.le_of_ble_eq_true rfl⟩ dX11_init_14 (fun q2 => ?_)
  show VC K 17 [some (.ref q0)] [.ref q2, .ref q0] ((([(q0, .inr (11, [.ref q1, .null, .null, .null, .null, .null, .null, .null, .null, .null, .int 0, .int 0, .int 0, .int 0, .int 0])), (q1, .inl (K.2.1.2.2 1, 700, .inl (fun _ => 0)))] : va_W) ++ T0) ++ [(q2, .inr (7, zbl 7))]) 2 709
  refine VC_dup (pc := 17) C dX11_init_17 rfl ?_
  refine VC_callN (X := ([(q0, .inr (11, [.ref q1, .null, .null, .null, .null, .null, .null, .null, .null, .null, .int 0, .int 0, .int 0, .int 0, .int 0])), (q1, .inl (K.2.1.2.2 1, 700, .inl (fun _ => 0)))] : va_W) ++ T0) (pc := 18) C (kX7 _) zm_X7_init ii_X7 rfl ml_RX11_15 ⟨Nat.le_of_ble_eq_true rfl, Nat.le_of_ble_eq_true rfl, Nat.le_of_ble_eq_true rfl, Nat.le_of_ble_eq_true rfl⟩ (Nat.le_of_ble_eq_true rfl) dX11_init_18 (fun m2 hm2 => ?_)
  subst hm2
  obtain ⟨T1, hT1⟩ : ∃ T : va_W, T = T0 ++ zws wReader m2 K.2.1.2.2 (zS [(0, 6, 4)] []) := ⟨_, rfl⟩
  refine VC_ws (zass hT1) ?_
  have lt1 : T1.length = 217 := by
    rw [hT1]
    exact zlen_a (m := 217) lt0 zws_len rfl
  show VC K 21 [some (.ref q0)] [.ref (m2 0), .ref q0] (([(q0, .inr (11, [.ref q1, .null, .null, .null, .null, .null, .null, .null, .null, .null, .int 0, .int 0, .int 0, .int 0, .int 0])), (q1, .inl (K.2.1.2.2 1, 700, .inl (fun _ => 0)))] : va_W) ++ T1) 218 7381
  refine VC_putF (pc := 21) C ff_RX11_16 rfl ⟨rfl, rfl⟩ (Nat.le_of_ble_eq_true rfl) dX11_init_21 ?_
  show VC K 24 [some (.ref q0)] [] (([(q0, .inr (11, [.ref q1, .ref (m2 0), .null, .null, .null, .null, .null, .null, .null, .null, .int 0, .int 0, .int 0, .int 0, .int 0])), (q1, .inl (K.2.1.2.2 1, 700, .inl (fun _ => 0)))] : va_W) ++ T1) 218 7381
  refine VC_aload_n (pc := 24) C dX11_init_24 rfl rfl ?_
  refine VC_new (pc := 25) C nc_RX11_20 ⟨Nat.le_of_ble_eq_true rfl, Nat.le_of_ble_eq_true rfl⟩ dX11_init_25 (fun q3 => ?_)
  show VC K 28 [some (.ref q0)] [.ref q3, .ref q0] ((([(q0, .inr (11, [.ref q1, .ref (m2 0), .null, .null, .null, .null, .null, .null, .null, .null, .int 0, .int 0, .int 0, .int 0, .int 0])), (q1, .inl (K.2.1.2.2 1, 700, .inl (fun _ => 0)))] : va_W) ++ T1) ++ [(q3, .inr (1, zbl 1))]) 219 7384
  refine VC_dup (pc := 28) C dX11_init_28 rfl ?_
  refine VC_callN (X := ([(q0, .inr (11, [.ref q1, .ref (m2 0), .null, .null, .null, .null, .null, .null, .null, .null, .int 0, .int 0, .int 0, .int 0, .int 0])), (q1, .inl (K.2.1.2.2 1, 700, .inl (fun _ => 0)))] : va_W) ++ T1) (pc := 29) C (kX1 _) zm_X1_init ii_X1 rfl ml_RX11_22 ⟨Nat.le_of_ble_eq_true rfl, Nat.le_of_ble_eq_true rfl, Nat.le_of_ble_eq_true rfl, Nat.le_of_ble_eq_true rfl⟩ (Nat.le_of_ble_eq_true rfl) dX11_init_29 (fun m3 hm3 => ?_)
  subst hm3
  obtain ⟨T2, hT2⟩ : ∃ T : va_W, T = T1 ++ zws wBook m3 K.2.1.2.2 (zS [] []) := ⟨_, rfl⟩
  refine VC_ws (zass hT2) ?_
  have lt2 : T2.length = 231 := by
    rw [hT2]
    exact zlen_a (m := 14) lt1 zws_len rfl
  show VC K 32 [some (.ref q0)] [.ref (m3 0), .ref q0] (([(q0, .inr (11, [.ref q1, .ref (m2 0), .null, .null, .null, .null, .null, .null, .null, .null, .int 0, .int 0, .int 0, .int 0, .int 0])), (q1, .inl (K.2.1.2.2 1, 700, .inl (fun _ => 0)))] : va_W) ++ T2) 232 23648
  refine VC_putF (pc := 32) C ff_RX11_23 rfl ⟨rfl, rfl⟩ (Nat.le_of_ble_eq_true rfl) dX11_init_32 ?_
  show VC K 35 [some (.ref q0)] [] (([(q0, .inr (11, [.ref q1, .ref (m2 0), .ref (m3 0), .null, .null, .null, .null, .null, .null, .null, .int 0, .int 0, .int 0, .int 0, .int 0])), (q1, .inl (K.2.1.2.2 1, 700, .inl (fun _ => 0)))] : va_W) ++ T2) 232 23648
  refine VC_aload_n (pc := 35) C dX11_init_35 rfl rfl ?_
  refine VC_new (pc := 36) C nc_RX11_27 ⟨Nat.le_of_ble_eq_true rfl, Nat.le_of_ble_eq_true rfl⟩ dX11_init_36 (fun q4 => ?_)
  show VC K 39 [some (.ref q0)] [.ref q4, .ref q0] ((([(q0, .inr (11, [.ref q1, .ref (m2 0), .ref (m3 0), .null, .null, .null, .null, .null, .null, .null, .int 0, .int 0, .int 0, .int 0, .int 0])), (q1, .inl (K.2.1.2.2 1, 700, .inl (fun _ => 0)))] : va_W) ++ T2) ++ [(q4, .inr (10, zbl 10))]) 233 23654
  refine VC_dup (pc := 39) C dX11_init_39 rfl ?_
  refine VC_callN (X := ([(q0, .inr (11, [.ref q1, .ref (m2 0), .ref (m3 0), .null, .null, .null, .null, .null, .null, .null, .int 0, .int 0, .int 0, .int 0, .int 0])), (q1, .inl (K.2.1.2.2 1, 700, .inl (fun _ => 0)))] : va_W) ++ T2) (pc := 40) C (kX10 _) zm_X10_init ii_X10 rfl ml_RX11_29 ⟨Nat.le_of_ble_eq_true rfl, Nat.le_of_ble_eq_true rfl, Nat.le_of_ble_eq_true rfl, Nat.le_of_ble_eq_true rfl⟩ (Nat.le_of_ble_eq_true rfl) dX11_init_40 (fun m4 hm4 => ?_)
  subst hm4
  obtain ⟨T3, hT3⟩ : ∃ T : va_W, T = T2 ++ zws wSpans m4 K.2.1.2.2 (zS [] []) := ⟨_, rfl⟩
  refine VC_ws (zass hT3) ?_
  have lt3 : T3.length = 237 := by
    rw [hT3]
    exact zlen_a (m := 6) lt2 zws_len rfl
  show VC K 43 [some (.ref q0)] [.ref (m4 0), .ref q0] (([(q0, .inr (11, [.ref q1, .ref (m2 0), .ref (m3 0), .null, .null, .null, .null, .null, .null, .null, .int 0, .int 0, .int 0, .int 0, .int 0])), (q1, .inl (K.2.1.2.2 1, 700, .inl (fun _ => 0)))] : va_W) ++ T3) 238 27795
  refine VC_putF (pc := 43) C ff_RX11_30 rfl ⟨rfl, rfl⟩ (Nat.le_of_ble_eq_true rfl) dX11_init_43 ?_
  show VC K 46 [some (.ref q0)] [] (([(q0, .inr (11, [.ref q1, .ref (m2 0), .ref (m3 0), .ref (m4 0), .null, .null, .null, .null, .null, .null, .int 0, .int 0, .int 0, .int 0, .int 0])), (q1, .inl (K.2.1.2.2 1, 700, .inl (fun _ => 0)))] : va_W) ++ T3) 238 27795
  refine VC_aload_n (pc := 46) C dX11_init_46 rfl rfl ?_
  refine VC_sipush (pc := 47) C dX11_init_47 kc_s_200 ?_
  refine VC_newa (t := 0) (N := 200) (a0 := (200, .inl (fun _ => 0))) (pc := 50) C aw_int rfl (fun _ => rfl) (fun _ => rfl) ⟨by decide, by decide +kernel, Nat.le_of_ble_eq_true rfl⟩ ⟨Nat.le_of_ble_eq_true rfl, Nat.le_of_ble_eq_true rfl⟩ dX11_init_50 (fun q5 => ?_)
  obtain ⟨T4, hT4⟩ : ∃ T : va_W, T = T3 ++ [(q5, .inl (K.2.1.2.2 0, 200, .inl (fun _ => 0)))] := ⟨_, rfl⟩
  refine VC_ws (zass hT4) ?_
  have lt4 : T4.length = 238 := by
    rw [hT4]
    exact zlen_a (m := 1) lt3 rfl rfl
  show VC K 52 [some (.ref q0)] [.ref q5, .ref q0] (([(q0, .inr (11, [.ref q1, .ref (m2 0), .ref (m3 0), .ref (m4 0), .null, .null, .null, .null, .null, .null, .int 0, .int 0, .int 0, .int 0, .int 0])), (q1, .inl (K.2.1.2.2 1, 700, .inl (fun _ => 0)))] : va_W) ++ T4) 239 27995
  refine VC_putF (pc := 52) C ff_RX11_34 rfl ⟨rfl, rfl⟩ (Nat.le_of_ble_eq_true rfl) dX11_init_52 ?_
  show VC K 55 [some (.ref q0)] [] (([(q0, .inr (11, [.ref q1, .ref (m2 0), .ref (m3 0), .ref (m4 0), .ref q5, .null, .null, .null, .null, .null, .int 0, .int 0, .int 0, .int 0, .int 0])), (q1, .inl (K.2.1.2.2 1, 700, .inl (fun _ => 0)))] : va_W) ++ T4) 239 27995
  refine VC_aload_n (pc := 55) C dX11_init_55 rfl rfl ?_
  refine VC_sipush (pc := 56) C dX11_init_56 kc_s_401 ?_
  refine VC_newa (t := 3) (N := 401) (a0 := (401, .inr (.inl (fun _ => 0)))) (pc := 59) C aw_long rfl (fun _ => rfl) (fun _ => rfl) ⟨by decide, by decide +kernel, Nat.le_of_ble_eq_true rfl⟩ ⟨Nat.le_of_ble_eq_true rfl, Nat.le_of_ble_eq_true rfl⟩ dX11_init_59 (fun q6 => ?_)
  obtain ⟨T5, hT5⟩ : ∃ T : va_W, T = T4 ++ [(q6, .inl (K.2.1.2.2 3, 401, .inr (.inl (fun _ => 0))))] := ⟨_, rfl⟩
  refine VC_ws (zass hT5) ?_
  have lt5 : T5.length = 239 := by
    rw [hT5]
    exact zlen_a (m := 1) lt4 rfl rfl
  show VC K 61 [some (.ref q0)] [.ref q6, .ref q0] (([(q0, .inr (11, [.ref q1, .ref (m2 0), .ref (m3 0), .ref (m4 0), .ref q5, .null, .null, .null, .null, .null, .int 0, .int 0, .int 0, .int 0, .int 0])), (q1, .inl (K.2.1.2.2 1, 700, .inl (fun _ => 0)))] : va_W) ++ T5) 240 28396
  refine VC_putF (pc := 61) C ff_RX11_38 rfl ⟨rfl, rfl⟩ (Nat.le_of_ble_eq_true rfl) dX11_init_61 ?_
  show VC K 64 [some (.ref q0)] [] (([(q0, .inr (11, [.ref q1, .ref (m2 0), .ref (m3 0), .ref (m4 0), .ref q5, .ref q6, .null, .null, .null, .null, .int 0, .int 0, .int 0, .int 0, .int 0])), (q1, .inl (K.2.1.2.2 1, 700, .inl (fun _ => 0)))] : va_W) ++ T5) 240 28396
  refine VC_aload_n (pc := 64) C dX11_init_64 rfl rfl ?_
  refine VC_sipush (pc := 65) C dX11_init_65 kc_s_401 ?_
  refine VC_newa (t := 3) (N := 401) (a0 := (401, .inr (.inl (fun _ => 0)))) (pc := 68) C aw_long rfl (fun _ => rfl) (fun _ => rfl) ⟨by decide, by decide +kernel, Nat.le_of_ble_eq_true rfl⟩ ⟨Nat.le_of_ble_eq_true rfl, Nat.le_of_ble_eq_true rfl⟩ dX11_init_68 (fun q7 => ?_)
  obtain ⟨T6, hT6⟩ : ∃ T : va_W, T = T5 ++ [(q7, .inl (K.2.1.2.2 3, 401, .inr (.inl (fun _ => 0))))] := ⟨_, rfl⟩
  refine VC_ws (zass hT6) ?_
  have lt6 : T6.length = 240 := by
    rw [hT6]
    exact zlen_a (m := 1) lt5 rfl rfl
  show VC K 70 [some (.ref q0)] [.ref q7, .ref q0] (([(q0, .inr (11, [.ref q1, .ref (m2 0), .ref (m3 0), .ref (m4 0), .ref q5, .ref q6, .null, .null, .null, .null, .int 0, .int 0, .int 0, .int 0, .int 0])), (q1, .inl (K.2.1.2.2 1, 700, .inl (fun _ => 0)))] : va_W) ++ T6) 241 28797
  refine VC_putF (pc := 70) C ff_RX11_42 rfl ⟨rfl, rfl⟩ (Nat.le_of_ble_eq_true rfl) dX11_init_70 ?_
  show VC K 73 [some (.ref q0)] [] (([(q0, .inr (11, [.ref q1, .ref (m2 0), .ref (m3 0), .ref (m4 0), .ref q5, .ref q6, .ref q7, .null, .null, .null, .int 0, .int 0, .int 0, .int 0, .int 0])), (q1, .inl (K.2.1.2.2 1, 700, .inl (fun _ => 0)))] : va_W) ++ T6) 241 28797
  refine VC_aload_n (pc := 73) C dX11_init_73 rfl rfl ?_
  refine VC_sipush (pc := 74) C dX11_init_74 kc_s_529 ?_
  refine VC_newa (t := 2) (N := 529) (a0 := (529, .inl (fun _ => 0))) (pc := 77) C aw_boolean rfl (fun _ => rfl) (fun _ => rfl) ⟨by decide, by decide +kernel, Nat.le_of_ble_eq_true rfl⟩ ⟨Nat.le_of_ble_eq_true rfl, Nat.le_of_ble_eq_true rfl⟩ dX11_init_77 (fun q8 => ?_)
  obtain ⟨T7, hT7⟩ : ∃ T : va_W, T = T6 ++ [(q8, .inl (K.2.1.2.2 2, 529, .inl (fun _ => 0)))] := ⟨_, rfl⟩
  refine VC_ws (zass hT7) ?_
  have lt7 : T7.length = 241 := by
    rw [hT7]
    exact zlen_a (m := 1) lt6 rfl rfl
  show VC K 79 [some (.ref q0)] [.ref q8, .ref q0] (([(q0, .inr (11, [.ref q1, .ref (m2 0), .ref (m3 0), .ref (m4 0), .ref q5, .ref q6, .ref q7, .null, .null, .null, .int 0, .int 0, .int 0, .int 0, .int 0])), (q1, .inl (K.2.1.2.2 1, 700, .inl (fun _ => 0)))] : va_W) ++ T7) 242 29326
  refine VC_putF (pc := 79) C ff_RX11_45 rfl ⟨rfl, rfl⟩ (Nat.le_of_ble_eq_true rfl) dX11_init_79 ?_
  show VC K 82 [some (.ref q0)] [] (([(q0, .inr (11, [.ref q1, .ref (m2 0), .ref (m3 0), .ref (m4 0), .ref q5, .ref q6, .ref q7, .ref q8, .null, .null, .int 0, .int 0, .int 0, .int 0, .int 0])), (q1, .inl (K.2.1.2.2 1, 700, .inl (fun _ => 0)))] : va_W) ++ T7) 242 29326
  refine VC_aload_n (pc := 82) C dX11_init_82 rfl rfl ?_
  refine VC_new (pc := 83) C nc_RX11_49 ⟨Nat.le_of_ble_eq_true rfl, Nat.le_of_ble_eq_true rfl⟩ dX11_init_83 (fun q9 => ?_)
  show VC K 86 [some (.ref q0)] [.ref q9, .ref q0] ((([(q0, .inr (11, [.ref q1, .ref (m2 0), .ref (m3 0), .ref (m4 0), .ref q5, .ref q6, .ref q7, .ref q8, .null, .null, .int 0, .int 0, .int 0, .int 0, .int 0])), (q1, .inl (K.2.1.2.2 1, 700, .inl (fun _ => 0)))] : va_W) ++ T7) ++ [(q9, .inr (3, zbl 3))]) 243 29337
  refine VC_dup (pc := 86) C dX11_init_86 rfl ?_
  refine VC_callI (X := ([(q0, .inr (11, [.ref q1, .ref (m2 0), .ref (m3 0), .ref (m4 0), .ref q5, .ref q6, .ref q7, .ref q8, .null, .null, .int 0, .int 0, .int 0, .int 0, .int 0])), (q1, .inl (K.2.1.2.2 1, 700, .inl (fun _ => 0)))] : va_W) ++ T7) (pc := 87) C (kX3 _) zm_X3_init ii_X3 rfl ml_RX11_51 ⟨Nat.le_of_ble_eq_true rfl, Nat.le_of_ble_eq_true rfl, Nat.le_of_ble_eq_true rfl, Nat.le_of_ble_eq_true rfl⟩ (Nat.le_of_ble_eq_true rfl) dX11_init_87 (fun m9 hm9 => ?_)
  subst hm9
  obtain ⟨T8, hT8⟩ : ∃ T : va_W, T = T7 ++ zws wHall m9 K.2.1.2.2 (zS [] []) := ⟨_, rfl⟩
  refine VC_ws (zass hT8) ?_
  have lt8 : T8.length = 454 := by
    rw [hT8]
    exact zlen_a (m := 213) lt7 zws_len rfl
  show VC K 90 [some (.ref q0)] [.ref (m9 0), .ref q0] (([(q0, .inr (11, [.ref q1, .ref (m2 0), .ref (m3 0), .ref (m4 0), .ref q5, .ref q6, .ref q7, .ref q8, .null, .null, .int 0, .int 0, .int 0, .int 0, .int 0])), (q1, .inl (K.2.1.2.2 1, 700, .inl (fun _ => 0)))] : va_W) ++ T8) 455 33895
  refine VC_putN (pc := 90) C fp_RX11_52 rfl ⟨rfl, rfl⟩ (Nat.le_of_ble_eq_true rfl) dX11_init_90 ?_
  show VC K 93 [some (.ref q0)] [] (([(q0, .inr (11, [.ref q1, .ref (m2 0), .ref (m3 0), .ref (m4 0), .ref q5, .ref q6, .ref q7, .ref q8, .ref (m9 0), .null, .int 0, .int 0, .int 0, .int 0, .int 0])), (q1, .inl (K.2.1.2.2 1, 700, .inl (fun _ => 0)))] : va_W) ++ T8) 455 33895
  refine VC_aload_n (pc := 93) C dX11_init_93 rfl rfl ?_
  refine VC_new (pc := 94) C nc_RX11_56 ⟨Nat.le_of_ble_eq_true rfl, Nat.le_of_ble_eq_true rfl⟩ dX11_init_94 (fun q10 => ?_)
  show VC K 97 [some (.ref q0)] [.ref q10, .ref q0] ((([(q0, .inr (11, [.ref q1, .ref (m2 0), .ref (m3 0), .ref (m4 0), .ref q5, .ref q6, .ref q7, .ref q8, .ref (m9 0), .null, .int 0, .int 0, .int 0, .int 0, .int 0])), (q1, .inl (K.2.1.2.2 1, 700, .inl (fun _ => 0)))] : va_W) ++ T8) ++ [(q10, .inr (0, zbl 0))]) 456 33903
  refine VC_dup (pc := 97) C dX11_init_97 rfl ?_
  refine VC_callN (X := ([(q0, .inr (11, [.ref q1, .ref (m2 0), .ref (m3 0), .ref (m4 0), .ref q5, .ref q6, .ref q7, .ref q8, .ref (m9 0), .null, .int 0, .int 0, .int 0, .int 0, .int 0])), (q1, .inl (K.2.1.2.2 1, 700, .inl (fun _ => 0)))] : va_W) ++ T8) (pc := 98) C (kX0 _) zm_X0_init ii_X0 rfl ml_RX11_58 ⟨Nat.le_of_ble_eq_true rfl, Nat.le_of_ble_eq_true rfl, Nat.le_of_ble_eq_true rfl, Nat.le_of_ble_eq_true rfl⟩ (Nat.le_of_ble_eq_true rfl) dX11_init_98 (fun m10 hm10 => ?_)
  subst hm10
  obtain ⟨T9, hT9⟩ : ∃ T : va_W, T = T8 ++ zws wAsked m10 K.2.1.2.2 (zS [(0, 0, 1), (0, 1, 3), (0, 2, 3)] []) := ⟨_, rfl⟩
  refine VC_ws (zass hT9) ?_
  have lt9 : T9.length = 488 := by
    rw [hT9]
    exact zlen_a (m := 34) lt8 zws_len rfl
  show VC K 101 [some (.ref q0)] [.ref (m10 0), .ref q0] (([(q0, .inr (11, [.ref q1, .ref (m2 0), .ref (m3 0), .ref (m4 0), .ref q5, .ref q6, .ref q7, .ref q8, .ref (m9 0), .null, .int 0, .int 0, .int 0, .int 0, .int 0])), (q1, .inl (K.2.1.2.2 1, 700, .inl (fun _ => 0)))] : va_W) ++ T9) 489 34646
  refine VC_putF (pc := 101) C ff_RX11_59 rfl ⟨rfl, rfl⟩ (Nat.le_of_ble_eq_true rfl) dX11_init_101 ?_
  show VC K 104 [some (.ref q0)] [] (([(q0, .inr (11, [.ref q1, .ref (m2 0), .ref (m3 0), .ref (m4 0), .ref q5, .ref q6, .ref q7, .ref q8, .ref (m9 0), .ref (m10 0), .int 0, .int 0, .int 0, .int 0, .int 0])), (q1, .inl (K.2.1.2.2 1, 700, .inl (fun _ => 0)))] : va_W) ++ T9) 489 34646
  obtain ⟨μ, hμ⟩ : ∃ μ, μ = zmu [(2, fun k => ([q0, q1] : List Nat).getD k 0), (217, m2), (14, m3), (6, m4), (1, fun _ => q5), (1, fun _ => q6), (1, fun _ => q7), (1, fun _ => q8), (213, m9), (34, m10)] := ⟨_, rfl⟩
  refine VC_ws ?_ (hret 104 _ μ dX11_init_104 (by subst hμ; rfl))
  have e0 : (([(q0, .inr (11, [.ref q1, .ref (m2 0), .ref (m3 0), .ref (m4 0), .ref q5, .ref q6, .ref q7, .ref q8, .ref (m9 0), .ref (m10 0), .int 0, .int 0, .int 0, .int 0, .int 0])), (q1, .inl (K.2.1.2.2 1, 700, .inl (fun _ => 0)))] : va_W) ++ T0 : va_W) = (List.range 2).map (fun q => (μ q, zen μ K.2.1.2.2 (zS [(0, 8, 243), (2, 6, 6), (456, 0, 457), (456, 1, 459), (456, 2, 459)] []) q (wMore.2 q))) := by
    rw [hT0]
    subst hμ
    rfl
  have b0 : (zws wReader m2 K.2.1.2.2 (zS [(0, 6, 4)] []) : va_W) = (List.range 217).map (fun k => (fun q => (μ q, zen μ K.2.1.2.2 (zS [(0, 8, 243), (2, 6, 6), (456, 0, 457), (456, 1, 459), (456, 2, 459)] []) q (wMore.2 q))) (2 + k)) := zblk (w := wMore) (μ := μ) (o := 2) rfl (by subst hμ; exact zmu_at _ 1 2 217 _ rfl (by simp only [zsum_s, zsum_0, Nat.reduceAdd])) (fun _ _ => rfl) (fun _ _ => rfl) (by decide +kernel)
  have e1 : (([(q0, .inr (11, [.ref q1, .ref (m2 0), .ref (m3 0), .ref (m4 0), .ref q5, .ref q6, .ref q7, .ref q8, .ref (m9 0), .ref (m10 0), .int 0, .int 0, .int 0, .int 0, .int 0])), (q1, .inl (K.2.1.2.2 1, 700, .inl (fun _ => 0)))] : va_W) ++ T1 : va_W) = (List.range (2 + 217)).map (fun q => (μ q, zen μ K.2.1.2.2 (zS [(0, 8, 243), (2, 6, 6), (456, 0, 457), (456, 1, 459), (456, 2, 459)] []) q (wMore.2 q))) := (zass hT1).symm.trans (zapp e0 b0)
  have b1 : (zws wBook m3 K.2.1.2.2 (zS [] []) : va_W) = (List.range 14).map (fun k => (fun q => (μ q, zen μ K.2.1.2.2 (zS [(0, 8, 243), (2, 6, 6), (456, 0, 457), (456, 1, 459), (456, 2, 459)] []) q (wMore.2 q))) (219 + k)) := zblk (w := wMore) (μ := μ) (o := 219) rfl (by subst hμ; exact zmu_at _ 2 219 14 _ rfl (by simp only [zsum_s, zsum_0, Nat.reduceAdd])) (fun _ _ => rfl) (fun _ _ => rfl) (by decide +kernel)
  have e2 : (([(q0, .inr (11, [.ref q1, .ref (m2 0), .ref (m3 0), .ref (m4 0), .ref q5, .ref q6, .ref q7, .ref q8, .ref (m9 0), .ref (m10 0), .int 0, .int 0, .int 0, .int 0, .int 0])), (q1, .inl (K.2.1.2.2 1, 700, .inl (fun _ => 0)))] : va_W) ++ T2 : va_W) = (List.range (219 + 14)).map (fun q => (μ q, zen μ K.2.1.2.2 (zS [(0, 8, 243), (2, 6, 6), (456, 0, 457), (456, 1, 459), (456, 2, 459)] []) q (wMore.2 q))) := (zass hT2).symm.trans (zapp e1 b1)
  have b2 : (zws wSpans m4 K.2.1.2.2 (zS [] []) : va_W) = (List.range 6).map (fun k => (fun q => (μ q, zen μ K.2.1.2.2 (zS [(0, 8, 243), (2, 6, 6), (456, 0, 457), (456, 1, 459), (456, 2, 459)] []) q (wMore.2 q))) (233 + k)) := zblk (w := wMore) (μ := μ) (o := 233) rfl (by subst hμ; exact zmu_at _ 3 233 6 _ rfl (by simp only [zsum_s, zsum_0, Nat.reduceAdd])) (fun _ _ => rfl) (fun _ _ => rfl) (by decide +kernel)
  have e3 : (([(q0, .inr (11, [.ref q1, .ref (m2 0), .ref (m3 0), .ref (m4 0), .ref q5, .ref q6, .ref q7, .ref q8, .ref (m9 0), .ref (m10 0), .int 0, .int 0, .int 0, .int 0, .int 0])), (q1, .inl (K.2.1.2.2 1, 700, .inl (fun _ => 0)))] : va_W) ++ T3 : va_W) = (List.range (233 + 6)).map (fun q => (μ q, zen μ K.2.1.2.2 (zS [(0, 8, 243), (2, 6, 6), (456, 0, 457), (456, 1, 459), (456, 2, 459)] []) q (wMore.2 q))) := (zass hT3).symm.trans (zapp e2 b2)
  have b3 : ([(q5, .inl (K.2.1.2.2 0, 200, .inl (fun _ => 0)))] : va_W) = (List.range 1).map (fun k => (fun q => (μ q, zen μ K.2.1.2.2 (zS [(0, 8, 243), (2, 6, 6), (456, 0, 457), (456, 1, 459), (456, 2, 459)] []) q (wMore.2 q))) (239 + k)) := by
    subst hμ
    rfl
  have e4 : (([(q0, .inr (11, [.ref q1, .ref (m2 0), .ref (m3 0), .ref (m4 0), .ref q5, .ref q6, .ref q7, .ref q8, .ref (m9 0), .ref (m10 0), .int 0, .int 0, .int 0, .int 0, .int 0])), (q1, .inl (K.2.1.2.2 1, 700, .inl (fun _ => 0)))] : va_W) ++ T4 : va_W) = (List.range (239 + 1)).map (fun q => (μ q, zen μ K.2.1.2.2 (zS [(0, 8, 243), (2, 6, 6), (456, 0, 457), (456, 1, 459), (456, 2, 459)] []) q (wMore.2 q))) := (zass hT4).symm.trans (zapp e3 b3)
  have b4 : ([(q6, .inl (K.2.1.2.2 3, 401, .inr (.inl (fun _ => 0))))] : va_W) = (List.range 1).map (fun k => (fun q => (μ q, zen μ K.2.1.2.2 (zS [(0, 8, 243), (2, 6, 6), (456, 0, 457), (456, 1, 459), (456, 2, 459)] []) q (wMore.2 q))) (240 + k)) := by
    subst hμ
    rfl
  have e5 : (([(q0, .inr (11, [.ref q1, .ref (m2 0), .ref (m3 0), .ref (m4 0), .ref q5, .ref q6, .ref q7, .ref q8, .ref (m9 0), .ref (m10 0), .int 0, .int 0, .int 0, .int 0, .int 0])), (q1, .inl (K.2.1.2.2 1, 700, .inl (fun _ => 0)))] : va_W) ++ T5 : va_W) = (List.range (240 + 1)).map (fun q => (μ q, zen μ K.2.1.2.2 (zS [(0, 8, 243), (2, 6, 6), (456, 0, 457), (456, 1, 459), (456, 2, 459)] []) q (wMore.2 q))) := (zass hT5).symm.trans (zapp e4 b4)
  have b5 : ([(q7, .inl (K.2.1.2.2 3, 401, .inr (.inl (fun _ => 0))))] : va_W) = (List.range 1).map (fun k => (fun q => (μ q, zen μ K.2.1.2.2 (zS [(0, 8, 243), (2, 6, 6), (456, 0, 457), (456, 1, 459), (456, 2, 459)] []) q (wMore.2 q))) (241 + k)) := by
    subst hμ
    rfl
  have e6 : (([(q0, .inr (11, [.ref q1, .ref (m2 0), .ref (m3 0), .ref (m4 0), .ref q5, .ref q6, .ref q7, .ref q8, .ref (m9 0), .ref (m10 0), .int 0, .int 0, .int 0, .int 0, .int 0])), (q1, .inl (K.2.1.2.2 1, 700, .inl (fun _ => 0)))] : va_W) ++ T6 : va_W) = (List.range (241 + 1)).map (fun q => (μ q, zen μ K.2.1.2.2 (zS [(0, 8, 243), (2, 6, 6), (456, 0, 457), (456, 1, 459), (456, 2, 459)] []) q (wMore.2 q))) := (zass hT6).symm.trans (zapp e5 b5)
  have b6 : ([(q8, .inl (K.2.1.2.2 2, 529, .inl (fun _ => 0)))] : va_W) = (List.range 1).map (fun k => (fun q => (μ q, zen μ K.2.1.2.2 (zS [(0, 8, 243), (2, 6, 6), (456, 0, 457), (456, 1, 459), (456, 2, 459)] []) q (wMore.2 q))) (242 + k)) := by
    subst hμ
    rfl
  have e7 : (([(q0, .inr (11, [.ref q1, .ref (m2 0), .ref (m3 0), .ref (m4 0), .ref q5, .ref q6, .ref q7, .ref q8, .ref (m9 0), .ref (m10 0), .int 0, .int 0, .int 0, .int 0, .int 0])), (q1, .inl (K.2.1.2.2 1, 700, .inl (fun _ => 0)))] : va_W) ++ T7 : va_W) = (List.range (242 + 1)).map (fun q => (μ q, zen μ K.2.1.2.2 (zS [(0, 8, 243), (2, 6, 6), (456, 0, 457), (456, 1, 459), (456, 2, 459)] []) q (wMore.2 q))) := (zass hT7).symm.trans (zapp e6 b6)
  have b7 : (zws wHall m9 K.2.1.2.2 (zS [] []) : va_W) = (List.range 213).map (fun k => (fun q => (μ q, zen μ K.2.1.2.2 (zS [(0, 8, 243), (2, 6, 6), (456, 0, 457), (456, 1, 459), (456, 2, 459)] []) q (wMore.2 q))) (243 + k)) := zblk (w := wMore) (μ := μ) (o := 243) rfl (by subst hμ; exact zmu_at _ 8 243 213 _ rfl (by simp only [zsum_s, zsum_0, Nat.reduceAdd])) (fun _ _ => rfl) (fun _ _ => rfl) (by decide +kernel)
  have e8 : (([(q0, .inr (11, [.ref q1, .ref (m2 0), .ref (m3 0), .ref (m4 0), .ref q5, .ref q6, .ref q7, .ref q8, .ref (m9 0), .ref (m10 0), .int 0, .int 0, .int 0, .int 0, .int 0])), (q1, .inl (K.2.1.2.2 1, 700, .inl (fun _ => 0)))] : va_W) ++ T8 : va_W) = (List.range (243 + 213)).map (fun q => (μ q, zen μ K.2.1.2.2 (zS [(0, 8, 243), (2, 6, 6), (456, 0, 457), (456, 1, 459), (456, 2, 459)] []) q (wMore.2 q))) := (zass hT8).symm.trans (zapp e7 b7)
  have b8 : (zws wAsked m10 K.2.1.2.2 (zS [(0, 0, 1), (0, 1, 3), (0, 2, 3)] []) : va_W) = (List.range 34).map (fun k => (fun q => (μ q, zen μ K.2.1.2.2 (zS [(0, 8, 243), (2, 6, 6), (456, 0, 457), (456, 1, 459), (456, 2, 459)] []) q (wMore.2 q))) (456 + k)) := zblk (w := wMore) (μ := μ) (o := 456) rfl (by subst hμ; exact zmu_at _ 9 456 34 _ rfl (by simp only [zsum_s, zsum_0, Nat.reduceAdd])) (fun _ _ => rfl) (fun _ _ => rfl) (by decide +kernel)
  have e9 : (([(q0, .inr (11, [.ref q1, .ref (m2 0), .ref (m3 0), .ref (m4 0), .ref q5, .ref q6, .ref q7, .ref q8, .ref (m9 0), .ref (m10 0), .int 0, .int 0, .int 0, .int 0, .int 0])), (q1, .inl (K.2.1.2.2 1, 700, .inl (fun _ => 0)))] : va_W) ++ T9 : va_W) = (List.range (456 + 34)).map (fun q => (μ q, zen μ K.2.1.2.2 (zS [(0, 8, 243), (2, 6, 6), (456, 0, 457), (456, 1, 459), (456, 2, 459)] []) q (wMore.2 q))) := (zass hT9).symm.trans (zapp e8 b8)
  exact e9
