set_option maxRecDepth 100000 in
set_option maxHeartbeats 4000000 in
theorem kX7 (l : Launch) : zCt l yX7_init cX7_init 1 4 82 216 6672 7 wReader (zS [(0, 6, 4)] []) := by
  refine zctor (by decide +kernel) rfl (by rfl) (fun K q0 hKl C hret => ?_)
  show VC K 0 [some (.ref q0)] [] (([(q0, .inr (7, [.null, .null, .null, .int 0, .int 0, .int 0, .null, .int 0, .int 0]))] : va_W)) 0 0
  refine VC_aload_n (pc := 0) C dX7_init_0 rfl rfl ?_
  refine VC_obj (pc := 1) C ol_RX7_3 oi_obj oc_obj ⟨Nat.le_of_ble_eq_true rfl, Nat.le_of_ble_eq_true rfl⟩ dX7_init_1 ?_
  refine VC_aload_n (pc := 4) C dX7_init_4 rfl rfl ?_
  refine VC_sipush (pc := 5) C dX7_init_5 kc_s_701 ?_
  refine VC_newa (t := 0) (N := 701) (a0 := (701, .inl (fun _ => 0))) (pc := 8) C aw_int rfl (fun _ => rfl) (fun _ => rfl) ⟨by decide, by decide +kernel, Nat.le_of_ble_eq_true rfl⟩ ⟨Nat.le_of_ble_eq_true rfl, Nat.le_of_ble_eq_true rfl⟩ dX7_init_8 (fun q1 => ?_)
  show VC K 10 [some (.ref q0)] [.ref q1, .ref q0] (([(q0, .inr (7, [.null, .null, .null, .int 0, .int 0, .int 0, .null, .int 0, .int 0])), (q1, .inl (K.2.1.2.2 0, 701, .inl (fun _ => 0)))] : va_W)) 1 701
  refine VC_putF (pc := 10) C ff_RX7_9 rfl ⟨rfl, rfl⟩ (Nat.le_of_ble_eq_true rfl) dX7_init_10 ?_
  show VC K 13 [some (.ref q0)] [] (([(q0, .inr (7, [.ref q1, .null, .null, .int 0, .int 0, .int 0, .null, .int 0, .int 0])), (q1, .inl (K.2.1.2.2 0, 701, .inl (fun _ => 0)))] : va_W)) 1 701
  refine VC_aload_n (pc := 13) C dX7_init_13 rfl rfl ?_
  refine VC_sipush (pc := 14) C dX7_init_14 kc_s_701 ?_
  refine VC_newa (t := 0) (N := 701) (a0 := (701, .inl (fun _ => 0))) (pc := 17) C aw_int rfl (fun _ => rfl) (fun _ => rfl) ⟨by decide, by decide +kernel, Nat.le_of_ble_eq_true rfl⟩ ⟨Nat.le_of_ble_eq_true rfl, Nat.le_of_ble_eq_true rfl⟩ dX7_init_17 (fun q2 => ?_)
  show VC K 19 [some (.ref q0)] [.ref q2, .ref q0] (([(q0, .inr (7, [.ref q1, .null, .null, .int 0, .int 0, .int 0, .null, .int 0, .int 0])), (q1, .inl (K.2.1.2.2 0, 701, .inl (fun _ => 0))), (q2, .inl (K.2.1.2.2 0, 701, .inl (fun _ => 0)))] : va_W)) 2 1402
  refine VC_putF (pc := 19) C ff_RX7_15 rfl ⟨rfl, rfl⟩ (Nat.le_of_ble_eq_true rfl) dX7_init_19 ?_
  show VC K 22 [some (.ref q0)] [] (([(q0, .inr (7, [.ref q1, .ref q2, .null, .int 0, .int 0, .int 0, .null, .int 0, .int 0])), (q1, .inl (K.2.1.2.2 0, 701, .inl (fun _ => 0))), (q2, .inl (K.2.1.2.2 0, 701, .inl (fun _ => 0)))] : va_W)) 2 1402
  refine VC_aload_n (pc := 22) C dX7_init_22 rfl rfl ?_
  refine VC_sipush (pc := 23) C dX7_init_23 kc_s_701 ?_
  refine VC_newa (t := 3) (N := 701) (a0 := (701, .inr (.inl (fun _ => 0)))) (pc := 26) C aw_long rfl (fun _ => rfl) (fun _ => rfl) ⟨by decide, by decide +kernel, Nat.le_of_ble_eq_true rfl⟩ ⟨Nat.le_of_ble_eq_true rfl, Nat.le_of_ble_eq_true rfl⟩ dX7_init_26 (fun q3 => ?_)
  show VC K 28 [some (.ref q0)] [.ref q3, .ref q0] (([(q0, .inr (7, [.ref q1, .ref q2, .null, .int 0, .int 0, .int 0, .null, .int 0, .int 0])), (q1, .inl (K.2.1.2.2 0, 701, .inl (fun _ => 0))), (q2, .inl (K.2.1.2.2 0, 701, .inl (fun _ => 0))), (q3, .inl (K.2.1.2.2 3, 701, .inr (.inl (fun _ => 0))))] : va_W)) 3 2103
  refine VC_putF (pc := 28) C ff_RX7_18 rfl ⟨rfl, rfl⟩ (Nat.le_of_ble_eq_true rfl) dX7_init_28 ?_
  show VC K 31 [some (.ref q0)] [] (([(q0, .inr (7, [.ref q1, .ref q2, .ref q3, .int 0, .int 0, .int 0, .null, .int 0, .int 0])), (q1, .inl (K.2.1.2.2 0, 701, .inl (fun _ => 0))), (q2, .inl (K.2.1.2.2 0, 701, .inl (fun _ => 0))), (q3, .inl (K.2.1.2.2 3, 701, .inr (.inl (fun _ => 0))))] : va_W)) 3 2103
  refine VC_aload_n (pc := 31) C dX7_init_31 rfl rfl ?_
  obtain ⟨T0, hT0⟩ : ∃ T : va_W, T = [] := ⟨_, rfl⟩
  have lt0 : T0.length = 0 := by rw [hT0]; rfl
  refine VC_ws (show ([(q0, .inr (7, [.ref q1, .ref q2, .ref q3, .int 0, .int 0, .int 0, .null, .int 0, .int 0])), (q1, .inl (K.2.1.2.2 0, 701, .inl (fun _ => 0))), (q2, .inl (K.2.1.2.2 0, 701, .inl (fun _ => 0))), (q3, .inl (K.2.1.2.2 3, 701, .inr (.inl (fun _ => 0))))] : va_W) = ([(q0, .inr (7, [.ref q1, .ref q2, .ref q3, .int 0, .int 0, .int 0, .null, .int 0, .int 0])), (q1, .inl (K.2.1.2.2 0, 701, .inl (fun _ => 0))), (q2, .inl (K.2.1.2.2 0, 701, .inl (fun _ => 0))), (q3, .inl (K.2.1.2.2 3, 701, .inr (.inl (fun _ => 0))))] : va_W) ++ T0 from by subst hT0; exact (List.append_nil _).symm) ?_
  refine VC_new (pc := 32) C nc_RX7_22 ⟨Nat.le_of_ble_eq_true rfl, Nat.le_of_ble_eq_true rfl⟩ dX7_init_32 (fun q4 => ?_)
  show VC K 35 [some (.ref q0)] [.ref q4, .ref q0] ((([(q0, .inr (7, [.ref q1, .ref q2, .ref q3, .int 0, .int 0, .int 0, .null, .int 0, .int 0])), (q1, .inl (K.2.1.2.2 0, 701, .inl (fun _ => 0))), (q2, .inl (K.2.1.2.2 0, 701, .inl (fun _ => 0))), (q3, .inl (K.2.1.2.2 3, 701, .inr (.inl (fun _ => 0))))] : va_W) ++ T0) ++ [(q4, .inr (3, zbl 3))]) 4 2114
  refine VC_dup (pc := 35) C dX7_init_35 rfl ?_
  refine VC_callI (X := ([(q0, .inr (7, [.ref q1, .ref q2, .ref q3, .int 0, .int 0, .int 0, .null, .int 0, .int 0])), (q1, .inl (K.2.1.2.2 0, 701, .inl (fun _ => 0))), (q2, .inl (K.2.1.2.2 0, 701, .inl (fun _ => 0))), (q3, .inl (K.2.1.2.2 3, 701, .inr (.inl (fun _ => 0))))] : va_W) ++ T0) (pc := 36) C (kX3 _) zm_X3_init ii_X3 rfl ml_RX7_24 ⟨Nat.le_of_ble_eq_true rfl, Nat.le_of_ble_eq_true rfl, Nat.le_of_ble_eq_true rfl, Nat.le_of_ble_eq_true rfl⟩ (Nat.le_of_ble_eq_true rfl) dX7_init_36 (fun m4 hm4 => ?_)
  subst hm4
  obtain ⟨T1, hT1⟩ : ∃ T : va_W, T = T0 ++ zws wHall m4 K.2.1.2.2 (zS [] []) := ⟨_, rfl⟩
  refine VC_ws (zass hT1) ?_
  have lt1 : T1.length = 213 := by
    rw [hT1]
    exact zlen_a (m := 213) lt0 zws_len rfl
  show VC K 39 [some (.ref q0)] [.ref (m4 0), .ref q0] (([(q0, .inr (7, [.ref q1, .ref q2, .ref q3, .int 0, .int 0, .int 0, .null, .int 0, .int 0])), (q1, .inl (K.2.1.2.2 0, 701, .inl (fun _ => 0))), (q2, .inl (K.2.1.2.2 0, 701, .inl (fun _ => 0))), (q3, .inl (K.2.1.2.2 3, 701, .inr (.inl (fun _ => 0))))] : va_W) ++ T1) 216 6672
  refine VC_putN (pc := 39) C fp_RX7_25 rfl ⟨rfl, rfl⟩ (Nat.le_of_ble_eq_true rfl) dX7_init_39 ?_
  show VC K 42 [some (.ref q0)] [] (([(q0, .inr (7, [.ref q1, .ref q2, .ref q3, .int 0, .int 0, .int 0, .ref (m4 0), .int 0, .int 0])), (q1, .inl (K.2.1.2.2 0, 701, .inl (fun _ => 0))), (q2, .inl (K.2.1.2.2 0, 701, .inl (fun _ => 0))), (q3, .inl (K.2.1.2.2 3, 701, .inr (.inl (fun _ => 0))))] : va_W) ++ T1) 216 6672
  obtain ⟨μ, hμ⟩ : ∃ μ, μ = zmu [(4, fun k => ([q0, q1, q2, q3] : List Nat).getD k 0), (213, m4)] := ⟨_, rfl⟩
  refine VC_ws ?_ (hret 42 _ μ dX7_init_42 (by subst hμ; rfl))
  have e0 : (([(q0, .inr (7, [.ref q1, .ref q2, .ref q3, .int 0, .int 0, .int 0, .ref (m4 0), .int 0, .int 0])), (q1, .inl (K.2.1.2.2 0, 701, .inl (fun _ => 0))), (q2, .inl (K.2.1.2.2 0, 701, .inl (fun _ => 0))), (q3, .inl (K.2.1.2.2 3, 701, .inr (.inl (fun _ => 0))))] : va_W) ++ T0 : va_W) = (List.range 4).map (fun q => (μ q, zen μ K.2.1.2.2 (zS [(0, 6, 4)] []) q (wReader.2 q))) := by
    rw [hT0]
    subst hμ
    rfl
  have b0 : (zws wHall m4 K.2.1.2.2 (zS [] []) : va_W) = (List.range 213).map (fun k => (fun q => (μ q, zen μ K.2.1.2.2 (zS [(0, 6, 4)] []) q (wReader.2 q))) (4 + k)) := zblk (w := wReader) (μ := μ) (o := 4) rfl (by subst hμ; exact zmu_at _ 1 4 213 _ rfl (by simp only [zsum_s, zsum_0, Nat.reduceAdd])) (fun _ _ => rfl) (fun _ _ => rfl) (by decide +kernel)
  have e1 : (([(q0, .inr (7, [.ref q1, .ref q2, .ref q3, .int 0, .int 0, .int 0, .ref (m4 0), .int 0, .int 0])), (q1, .inl (K.2.1.2.2 0, 701, .inl (fun _ => 0))), (q2, .inl (K.2.1.2.2 0, 701, .inl (fun _ => 0))), (q3, .inl (K.2.1.2.2 3, 701, .inr (.inl (fun _ => 0))))] : va_W) ++ T1 : va_W) = (List.range (4 + 213)).map (fun q => (μ q, zen μ K.2.1.2.2 (zS [(0, 6, 4)] []) q (wReader.2 q))) := (zass hT1).symm.trans (zapp e0 b0)
  exact e1
set_option maxRecDepth 100000 in
set_option maxHeartbeats 4000000 in
theorem kX2 (l : Launch) : zCt l yX2_init cX2_init 1 1 20 11 10252 2 wCells (zS [] []) := by
  refine zctor (by decide +kernel) rfl (by rfl) (fun K q0 hKl C hret => ?_)
  show VC K 0 [some (.ref q0)] [] (([(q0, .inr (2, [.null, .null, .null, .null, .null, .null, .null, .int 0, .null, .null, .null, .null]))] : va_W)) 0 0
  refine VC_aload_n (pc := 0) C dX2_init_0 rfl rfl ?_
  refine VC_obj (pc := 1) C ol_RX2_3 oi_obj oc_obj ⟨Nat.le_of_ble_eq_true rfl, Nat.le_of_ble_eq_true rfl⟩ dX2_init_1 ?_
  refine VC_aload_n (pc := 4) C dX2_init_4 rfl rfl ?_
  refine VC_sipush (pc := 5) C dX2_init_5 kc_s_2048 ?_
  refine VC_newa (t := 0) (N := 2048) (a0 := (2048, .inl (fun _ => 0))) (pc := 8) C aw_int rfl (fun _ => rfl) (fun _ => rfl) ⟨by decide, by decide +kernel, Nat.le_of_ble_eq_true rfl⟩ ⟨Nat.le_of_ble_eq_true rfl, Nat.le_of_ble_eq_true rfl⟩ dX2_init_8 (fun q1 => ?_)
  show VC K 10 [some (.ref q0)] [.ref q1, .ref q0] (([(q0, .inr (2, [.null, .null, .null, .null, .null, .null, .null, .int 0, .null, .null, .null, .null])), (q1, .inl (K.2.1.2.2 0, 2048, .inl (fun _ => 0)))] : va_W)) 1 2048
  refine VC_putF (pc := 10) C ff_RX2_11 rfl ⟨rfl, rfl⟩ (Nat.le_of_ble_eq_true rfl) dX2_init_10 ?_
  show VC K 13 [some (.ref q0)] [] (([(q0, .inr (2, [.ref q1, .null, .null, .null, .null, .null, .null, .int 0, .null, .null, .null, .null])), (q1, .inl (K.2.1.2.2 0, 2048, .inl (fun _ => 0)))] : va_W)) 1 2048
  refine VC_aload_n (pc := 13) C dX2_init_13 rfl rfl ?_
  refine VC_sipush (pc := 14) C dX2_init_14 kc_s_1000 ?_
  refine VC_newa (t := 0) (N := 1000) (a0 := (1000, .inl (fun _ => 0))) (pc := 17) C aw_int rfl (fun _ => rfl) (fun _ => rfl) ⟨by decide, by decide +kernel, Nat.le_of_ble_eq_true rfl⟩ ⟨Nat.le_of_ble_eq_true rfl, Nat.le_of_ble_eq_true rfl⟩ dX2_init_17 (fun q2 => ?_)
  show VC K 19 [some (.ref q0)] [.ref q2, .ref q0] (([(q0, .inr (2, [.ref q1, .null, .null, .null, .null, .null, .null, .int 0, .null, .null, .null, .null])), (q1, .inl (K.2.1.2.2 0, 2048, .inl (fun _ => 0))), (q2, .inl (K.2.1.2.2 0, 1000, .inl (fun _ => 0)))] : va_W)) 2 3048
  refine VC_putF (pc := 19) C ff_RX2_15 rfl ⟨rfl, rfl⟩ (Nat.le_of_ble_eq_true rfl) dX2_init_19 ?_
  show VC K 22 [some (.ref q0)] [] (([(q0, .inr (2, [.ref q1, .ref q2, .null, .null, .null, .null, .null, .int 0, .null, .null, .null, .null])), (q1, .inl (K.2.1.2.2 0, 2048, .inl (fun _ => 0))), (q2, .inl (K.2.1.2.2 0, 1000, .inl (fun _ => 0)))] : va_W)) 2 3048
  refine VC_aload_n (pc := 22) C dX2_init_22 rfl rfl ?_
  refine VC_sipush (pc := 23) C dX2_init_23 kc_s_1000 ?_
  refine VC_newa (t := 0) (N := 1000) (a0 := (1000, .inl (fun _ => 0))) (pc := 26) C aw_int rfl (fun _ => rfl) (fun _ => rfl) ⟨by decide, by decide +kernel, Nat.le_of_ble_eq_true rfl⟩ ⟨Nat.le_of_ble_eq_true rfl, Nat.le_of_ble_eq_true rfl⟩ dX2_init_26 (fun q3 => ?_)
  show VC K 28 [some (.ref q0)] [.ref q3, .ref q0] (([(q0, .inr (2, [.ref q1, .ref q2, .null, .null, .null, .null, .null, .int 0, .null, .null, .null, .null])), (q1, .inl (K.2.1.2.2 0, 2048, .inl (fun _ => 0))), (q2, .inl (K.2.1.2.2 0, 1000, .inl (fun _ => 0))), (q3, .inl (K.2.1.2.2 0, 1000, .inl (fun _ => 0)))] : va_W)) 3 4048
  refine VC_putF (pc := 28) C ff_RX2_18 rfl ⟨rfl, rfl⟩ (Nat.le_of_ble_eq_true rfl) dX2_init_28 ?_
  show VC K 31 [some (.ref q0)] [] (([(q0, .inr (2, [.ref q1, .ref q2, .ref q3, .null, .null, .null, .null, .int 0, .null, .null, .null, .null])), (q1, .inl (K.2.1.2.2 0, 2048, .inl (fun _ => 0))), (q2, .inl (K.2.1.2.2 0, 1000, .inl (fun _ => 0))), (q3, .inl (K.2.1.2.2 0, 1000, .inl (fun _ => 0)))] : va_W)) 3 4048
  refine VC_aload_n (pc := 31) C dX2_init_31 rfl rfl ?_
  refine VC_sipush (pc := 32) C dX2_init_32 kc_s_1000 ?_
  refine VC_newa (t := 0) (N := 1000) (a0 := (1000, .inl (fun _ => 0))) (pc := 35) C aw_int rfl (fun _ => rfl) (fun _ => rfl) ⟨by decide, by decide +kernel, Nat.le_of_ble_eq_true rfl⟩ ⟨Nat.le_of_ble_eq_true rfl, Nat.le_of_ble_eq_true rfl⟩ dX2_init_35 (fun q4 => ?_)
  show VC K 37 [some (.ref q0)] [.ref q4, .ref q0] (([(q0, .inr (2, [.ref q1, .ref q2, .ref q3, .null, .null, .null, .null, .int 0, .null, .null, .null, .null])), (q1, .inl (K.2.1.2.2 0, 2048, .inl (fun _ => 0))), (q2, .inl (K.2.1.2.2 0, 1000, .inl (fun _ => 0))), (q3, .inl (K.2.1.2.2 0, 1000, .inl (fun _ => 0))), (q4, .inl (K.2.1.2.2 0, 1000, .inl (fun _ => 0)))] : va_W)) 4 5048
  refine VC_putF (pc := 37) C ff_RX2_21 rfl ⟨rfl, rfl⟩ (Nat.le_of_ble_eq_true rfl) dX2_init_37 ?_
  show VC K 40 [some (.ref q0)] [] (([(q0, .inr (2, [.ref q1, .ref q2, .ref q3, .ref q4, .null, .null, .null, .int 0, .null, .null, .null, .null])), (q1, .inl (K.2.1.2.2 0, 2048, .inl (fun _ => 0))), (q2, .inl (K.2.1.2.2 0, 1000, .inl (fun _ => 0))), (q3, .inl (K.2.1.2.2 0, 1000, .inl (fun _ => 0))), (q4, .inl (K.2.1.2.2 0, 1000, .inl (fun _ => 0)))] : va_W)) 4 5048
  refine VC_aload_n (pc := 40) C dX2_init_40 rfl rfl ?_
  refine VC_sipush (pc := 41) C dX2_init_41 kc_s_1000 ?_
  refine VC_newa (t := 0) (N := 1000) (a0 := (1000, .inl (fun _ => 0))) (pc := 44) C aw_int rfl (fun _ => rfl) (fun _ => rfl) ⟨by decide, by decide +kernel, Nat.le_of_ble_eq_true rfl⟩ ⟨Nat.le_of_ble_eq_true rfl, Nat.le_of_ble_eq_true rfl⟩ dX2_init_44 (fun q5 => ?_)
  show VC K 46 [some (.ref q0)] [.ref q5, .ref q0] (([(q0, .inr (2, [.ref q1, .ref q2, .ref q3, .ref q4, .null, .null, .null, .int 0, .null, .null, .null, .null])), (q1, .inl (K.2.1.2.2 0, 2048, .inl (fun _ => 0))), (q2, .inl (K.2.1.2.2 0, 1000, .inl (fun _ => 0))), (q3, .inl (K.2.1.2.2 0, 1000, .inl (fun _ => 0))), (q4, .inl (K.2.1.2.2 0, 1000, .inl (fun _ => 0))), (q5, .inl (K.2.1.2.2 0, 1000, .inl (fun _ => 0)))] : va_W)) 5 6048
  refine VC_putF (pc := 46) C ff_RX2_24 rfl ⟨rfl, rfl⟩ (Nat.le_of_ble_eq_true rfl) dX2_init_46 ?_
  show VC K 49 [some (.ref q0)] [] (([(q0, .inr (2, [.ref q1, .ref q2, .ref q3, .ref q4, .ref q5, .null, .null, .int 0, .null, .null, .null, .null])), (q1, .inl (K.2.1.2.2 0, 2048, .inl (fun _ => 0))), (q2, .inl (K.2.1.2.2 0, 1000, .inl (fun _ => 0))), (q3, .inl (K.2.1.2.2 0, 1000, .inl (fun _ => 0))), (q4, .inl (K.2.1.2.2 0, 1000, .inl (fun _ => 0))), (q5, .inl (K.2.1.2.2 0, 1000, .inl (fun _ => 0)))] : va_W)) 5 6048
  refine VC_aload_n (pc := 49) C dX2_init_49 rfl rfl ?_
  refine VC_sipush (pc := 50) C dX2_init_50 kc_s_1000 ?_
  refine VC_newa (t := 0) (N := 1000) (a0 := (1000, .inl (fun _ => 0))) (pc := 53) C aw_int rfl (fun _ => rfl) (fun _ => rfl) ⟨by decide, by decide +kernel, Nat.le_of_ble_eq_true rfl⟩ ⟨Nat.le_of_ble_eq_true rfl, Nat.le_of_ble_eq_true rfl⟩ dX2_init_53 (fun q6 => ?_)
  show VC K 55 [some (.ref q0)] [.ref q6, .ref q0] (([(q0, .inr (2, [.ref q1, .ref q2, .ref q3, .ref q4, .ref q5, .null, .null, .int 0, .null, .null, .null, .null])), (q1, .inl (K.2.1.2.2 0, 2048, .inl (fun _ => 0))), (q2, .inl (K.2.1.2.2 0, 1000, .inl (fun _ => 0))), (q3, .inl (K.2.1.2.2 0, 1000, .inl (fun _ => 0))), (q4, .inl (K.2.1.2.2 0, 1000, .inl (fun _ => 0))), (q5, .inl (K.2.1.2.2 0, 1000, .inl (fun _ => 0))), (q6, .inl (K.2.1.2.2 0, 1000, .inl (fun _ => 0)))] : va_W)) 6 7048
  refine VC_putF (pc := 55) C ff_RX2_27 rfl ⟨rfl, rfl⟩ (Nat.le_of_ble_eq_true rfl) dX2_init_55 ?_
  show VC K 58 [some (.ref q0)] [] (([(q0, .inr (2, [.ref q1, .ref q2, .ref q3, .ref q4, .ref q5, .ref q6, .null, .int 0, .null, .null, .null, .null])), (q1, .inl (K.2.1.2.2 0, 2048, .inl (fun _ => 0))), (q2, .inl (K.2.1.2.2 0, 1000, .inl (fun _ => 0))), (q3, .inl (K.2.1.2.2 0, 1000, .inl (fun _ => 0))), (q4, .inl (K.2.1.2.2 0, 1000, .inl (fun _ => 0))), (q5, .inl (K.2.1.2.2 0, 1000, .inl (fun _ => 0))), (q6, .inl (K.2.1.2.2 0, 1000, .inl (fun _ => 0)))] : va_W)) 6 7048
  refine VC_aload_n (pc := 58) C dX2_init_58 rfl rfl ?_
  refine VC_sipush (pc := 59) C dX2_init_59 kc_s_3000 ?_
  refine VC_newa (t := 0) (N := 3000) (a0 := (3000, .inl (fun _ => 0))) (pc := 62) C aw_int rfl (fun _ => rfl) (fun _ => rfl) ⟨by decide, by decide +kernel, Nat.le_of_ble_eq_true rfl⟩ ⟨Nat.le_of_ble_eq_true rfl, Nat.le_of_ble_eq_true rfl⟩ dX2_init_62 (fun q7 => ?_)
  show VC K 64 [some (.ref q0)] [.ref q7, .ref q0] (([(q0, .inr (2, [.ref q1, .ref q2, .ref q3, .ref q4, .ref q5, .ref q6, .null, .int 0, .null, .null, .null, .null])), (q1, .inl (K.2.1.2.2 0, 2048, .inl (fun _ => 0))), (q2, .inl (K.2.1.2.2 0, 1000, .inl (fun _ => 0))), (q3, .inl (K.2.1.2.2 0, 1000, .inl (fun _ => 0))), (q4, .inl (K.2.1.2.2 0, 1000, .inl (fun _ => 0))), (q5, .inl (K.2.1.2.2 0, 1000, .inl (fun _ => 0))), (q6, .inl (K.2.1.2.2 0, 1000, .inl (fun _ => 0))), (q7, .inl (K.2.1.2.2 0, 3000, .inl (fun _ => 0)))] : va_W)) 7 10048
  refine VC_putF (pc := 64) C ff_RX2_30 rfl ⟨rfl, rfl⟩ (Nat.le_of_ble_eq_true rfl) dX2_init_64 ?_
  show VC K 67 [some (.ref q0)] [] (([(q0, .inr (2, [.ref q1, .ref q2, .ref q3, .ref q4, .ref q5, .ref q6, .ref q7, .int 0, .null, .null, .null, .null])), (q1, .inl (K.2.1.2.2 0, 2048, .inl (fun _ => 0))), (q2, .inl (K.2.1.2.2 0, 1000, .inl (fun _ => 0))), (q3, .inl (K.2.1.2.2 0, 1000, .inl (fun _ => 0))), (q4, .inl (K.2.1.2.2 0, 1000, .inl (fun _ => 0))), (q5, .inl (K.2.1.2.2 0, 1000, .inl (fun _ => 0))), (q6, .inl (K.2.1.2.2 0, 1000, .inl (fun _ => 0))), (q7, .inl (K.2.1.2.2 0, 3000, .inl (fun _ => 0)))] : va_W)) 7 10048
  refine VC_aload_n (pc := 67) C dX2_init_67 rfl rfl ?_
  refine VC_bipush (pc := 68) C dX2_init_68 kc_b_126 ?_
  refine VC_newa (t := 0) (N := 126) (a0 := (126, .inl (fun _ => 0))) (pc := 70) C aw_int rfl (fun _ => rfl) (fun _ => rfl) ⟨by decide, by decide +kernel, Nat.le_of_ble_eq_true rfl⟩ ⟨Nat.le_of_ble_eq_true rfl, Nat.le_of_ble_eq_true rfl⟩ dX2_init_70 (fun q8 => ?_)
  show VC K 72 [some (.ref q0)] [.ref q8, .ref q0] (([(q0, .inr (2, [.ref q1, .ref q2, .ref q3, .ref q4, .ref q5, .ref q6, .ref q7, .int 0, .null, .null, .null, .null])), (q1, .inl (K.2.1.2.2 0, 2048, .inl (fun _ => 0))), (q2, .inl (K.2.1.2.2 0, 1000, .inl (fun _ => 0))), (q3, .inl (K.2.1.2.2 0, 1000, .inl (fun _ => 0))), (q4, .inl (K.2.1.2.2 0, 1000, .inl (fun _ => 0))), (q5, .inl (K.2.1.2.2 0, 1000, .inl (fun _ => 0))), (q6, .inl (K.2.1.2.2 0, 1000, .inl (fun _ => 0))), (q7, .inl (K.2.1.2.2 0, 3000, .inl (fun _ => 0))), (q8, .inl (K.2.1.2.2 0, 126, .inl (fun _ => 0)))] : va_W)) 8 10174
  refine VC_putF (pc := 72) C ff_RX2_33 rfl ⟨rfl, rfl⟩ (Nat.le_of_ble_eq_true rfl) dX2_init_72 ?_
  show VC K 75 [some (.ref q0)] [] (([(q0, .inr (2, [.ref q1, .ref q2, .ref q3, .ref q4, .ref q5, .ref q6, .ref q7, .int 0, .ref q8, .null, .null, .null])), (q1, .inl (K.2.1.2.2 0, 2048, .inl (fun _ => 0))), (q2, .inl (K.2.1.2.2 0, 1000, .inl (fun _ => 0))), (q3, .inl (K.2.1.2.2 0, 1000, .inl (fun _ => 0))), (q4, .inl (K.2.1.2.2 0, 1000, .inl (fun _ => 0))), (q5, .inl (K.2.1.2.2 0, 1000, .inl (fun _ => 0))), (q6, .inl (K.2.1.2.2 0, 1000, .inl (fun _ => 0))), (q7, .inl (K.2.1.2.2 0, 3000, .inl (fun _ => 0))), (q8, .inl (K.2.1.2.2 0, 126, .inl (fun _ => 0)))] : va_W)) 8 10174
  refine VC_aload_n (pc := 75) C dX2_init_75 rfl rfl ?_
  refine VC_bipush (pc := 76) C dX2_init_76 kc_b_66 ?_
  refine VC_newa (t := 0) (N := 66) (a0 := (66, .inl (fun _ => 0))) (pc := 78) C aw_int rfl (fun _ => rfl) (fun _ => rfl) ⟨by decide, by decide +kernel, Nat.le_of_ble_eq_true rfl⟩ ⟨Nat.le_of_ble_eq_true rfl, Nat.le_of_ble_eq_true rfl⟩ dX2_init_78 (fun q9 => ?_)
  show VC K 80 [some (.ref q0)] [.ref q9, .ref q0] (([(q0, .inr (2, [.ref q1, .ref q2, .ref q3, .ref q4, .ref q5, .ref q6, .ref q7, .int 0, .ref q8, .null, .null, .null])), (q1, .inl (K.2.1.2.2 0, 2048, .inl (fun _ => 0))), (q2, .inl (K.2.1.2.2 0, 1000, .inl (fun _ => 0))), (q3, .inl (K.2.1.2.2 0, 1000, .inl (fun _ => 0))), (q4, .inl (K.2.1.2.2 0, 1000, .inl (fun _ => 0))), (q5, .inl (K.2.1.2.2 0, 1000, .inl (fun _ => 0))), (q6, .inl (K.2.1.2.2 0, 1000, .inl (fun _ => 0))), (q7, .inl (K.2.1.2.2 0, 3000, .inl (fun _ => 0))), (q8, .inl (K.2.1.2.2 0, 126, .inl (fun _ => 0))), (q9, .inl (K.2.1.2.2 0, 66, .inl (fun _ => 0)))] : va_W)) 9 10240
  refine VC_putF (pc := 80) C ff_RX2_36 rfl ⟨rfl, rfl⟩ (Nat.le_of_ble_eq_true rfl) dX2_init_80 ?_
  show VC K 83 [some (.ref q0)] [] (([(q0, .inr (2, [.ref q1, .ref q2, .ref q3, .ref q4, .ref q5, .ref q6, .ref q7, .int 0, .ref q8, .ref q9, .null, .null])), (q1, .inl (K.2.1.2.2 0, 2048, .inl (fun _ => 0))), (q2, .inl (K.2.1.2.2 0, 1000, .inl (fun _ => 0))), (q3, .inl (K.2.1.2.2 0, 1000, .inl (fun _ => 0))), (q4, .inl (K.2.1.2.2 0, 1000, .inl (fun _ => 0))), (q5, .inl (K.2.1.2.2 0, 1000, .inl (fun _ => 0))), (q6, .inl (K.2.1.2.2 0, 1000, .inl (fun _ => 0))), (q7, .inl (K.2.1.2.2 0, 3000, .inl (fun _ => 0))), (q8, .inl (K.2.1.2.2 0, 126, .inl (fun _ => 0))), (q9, .inl (K.2.1.2.2 0, 66, .inl (fun _ => 0)))] : va_W)) 9 10240
  refine VC_aload_n (pc := 83) C dX2_init_83 rfl rfl ?_
  refine VC_bipush (pc := 84) C dX2_init_84 kc_b_6 ?_
  refine VC_newa (t := 0) (N := 6) (a0 := (6, .inl (fun _ => 0))) (pc := 86) C aw_int rfl (fun _ => rfl) (fun _ => rfl) ⟨by decide, by decide +kernel, Nat.le_of_ble_eq_true rfl⟩ ⟨Nat.le_of_ble_eq_true rfl, Nat.le_of_ble_eq_true rfl⟩ dX2_init_86 (fun q10 => ?_)
  show VC K 88 [some (.ref q0)] [.ref q10, .ref q0] (([(q0, .inr (2, [.ref q1, .ref q2, .ref q3, .ref q4, .ref q5, .ref q6, .ref q7, .int 0, .ref q8, .ref q9, .null, .null])), (q1, .inl (K.2.1.2.2 0, 2048, .inl (fun _ => 0))), (q2, .inl (K.2.1.2.2 0, 1000, .inl (fun _ => 0))), (q3, .inl (K.2.1.2.2 0, 1000, .inl (fun _ => 0))), (q4, .inl (K.2.1.2.2 0, 1000, .inl (fun _ => 0))), (q5, .inl (K.2.1.2.2 0, 1000, .inl (fun _ => 0))), (q6, .inl (K.2.1.2.2 0, 1000, .inl (fun _ => 0))), (q7, .inl (K.2.1.2.2 0, 3000, .inl (fun _ => 0))), (q8, .inl (K.2.1.2.2 0, 126, .inl (fun _ => 0))), (q9, .inl (K.2.1.2.2 0, 66, .inl (fun _ => 0))), (q10, .inl (K.2.1.2.2 0, 6, .inl (fun _ => 0)))] : va_W)) 10 10246
  refine VC_putF (pc := 88) C ff_RX2_39 rfl ⟨rfl, rfl⟩ (Nat.le_of_ble_eq_true rfl) dX2_init_88 ?_
  show VC K 91 [some (.ref q0)] [] (([(q0, .inr (2, [.ref q1, .ref q2, .ref q3, .ref q4, .ref q5, .ref q6, .ref q7, .int 0, .ref q8, .ref q9, .ref q10, .null])), (q1, .inl (K.2.1.2.2 0, 2048, .inl (fun _ => 0))), (q2, .inl (K.2.1.2.2 0, 1000, .inl (fun _ => 0))), (q3, .inl (K.2.1.2.2 0, 1000, .inl (fun _ => 0))), (q4, .inl (K.2.1.2.2 0, 1000, .inl (fun _ => 0))), (q5, .inl (K.2.1.2.2 0, 1000, .inl (fun _ => 0))), (q6, .inl (K.2.1.2.2 0, 1000, .inl (fun _ => 0))), (q7, .inl (K.2.1.2.2 0, 3000, .inl (fun _ => 0))), (q8, .inl (K.2.1.2.2 0, 126, .inl (fun _ => 0))), (q9, .inl (K.2.1.2.2 0, 66, .inl (fun _ => 0))), (q10, .inl (K.2.1.2.2 0, 6, .inl (fun _ => 0)))] : va_W)) 10 10246
  refine VC_aload_n (pc := 91) C dX2_init_91 rfl rfl ?_
  refine VC_bipush (pc := 92) C dX2_init_92 kc_b_6 ?_
  refine VC_newa (t := 0) (N := 6) (a0 := (6, .inl (fun _ => 0))) (pc := 94) C aw_int rfl (fun _ => rfl) (fun _ => rfl) ⟨by decide, by decide +kernel, Nat.le_of_ble_eq_true rfl⟩ ⟨Nat.le_of_ble_eq_true rfl, Nat.le_of_ble_eq_true rfl⟩ dX2_init_94 (fun q11 => ?_)
  show VC K 96 [some (.ref q0)] [.ref q11, .ref q0] (([(q0, .inr (2, [.ref q1, .ref q2, .ref q3, .ref q4, .ref q5, .ref q6, .ref q7, .int 0, .ref q8, .ref q9, .ref q10, .null])), (q1, .inl (K.2.1.2.2 0, 2048, .inl (fun _ => 0))), (q2, .inl (K.2.1.2.2 0, 1000, .inl (fun _ => 0))), (q3, .inl (K.2.1.2.2 0, 1000, .inl (fun _ => 0))), (q4, .inl (K.2.1.2.2 0, 1000, .inl (fun _ => 0))), (q5, .inl (K.2.1.2.2 0, 1000, .inl (fun _ => 0))), (q6, .inl (K.2.1.2.2 0, 1000, .inl (fun _ => 0))), (q7, .inl (K.2.1.2.2 0, 3000, .inl (fun _ => 0))), (q8, .inl (K.2.1.2.2 0, 126, .inl (fun _ => 0))), (q9, .inl (K.2.1.2.2 0, 66, .inl (fun _ => 0))), (q10, .inl (K.2.1.2.2 0, 6, .inl (fun _ => 0))), (q11, .inl (K.2.1.2.2 0, 6, .inl (fun _ => 0)))] : va_W)) 11 10252
  refine VC_putF (pc := 96) C ff_RX2_42 rfl ⟨rfl, rfl⟩ (Nat.le_of_ble_eq_true rfl) dX2_init_96 ?_
  show VC K 99 [some (.ref q0)] [] (([(q0, .inr (2, [.ref q1, .ref q2, .ref q3, .ref q4, .ref q5, .ref q6, .ref q7, .int 0, .ref q8, .ref q9, .ref q10, .ref q11])), (q1, .inl (K.2.1.2.2 0, 2048, .inl (fun _ => 0))), (q2, .inl (K.2.1.2.2 0, 1000, .inl (fun _ => 0))), (q3, .inl (K.2.1.2.2 0, 1000, .inl (fun _ => 0))), (q4, .inl (K.2.1.2.2 0, 1000, .inl (fun _ => 0))), (q5, .inl (K.2.1.2.2 0, 1000, .inl (fun _ => 0))), (q6, .inl (K.2.1.2.2 0, 1000, .inl (fun _ => 0))), (q7, .inl (K.2.1.2.2 0, 3000, .inl (fun _ => 0))), (q8, .inl (K.2.1.2.2 0, 126, .inl (fun _ => 0))), (q9, .inl (K.2.1.2.2 0, 66, .inl (fun _ => 0))), (q10, .inl (K.2.1.2.2 0, 6, .inl (fun _ => 0))), (q11, .inl (K.2.1.2.2 0, 6, .inl (fun _ => 0)))] : va_W)) 11 10252
  obtain ⟨μ, hμ⟩ : ∃ μ, μ = zmu [(12, fun k => ([q0, q1, q2, q3, q4, q5, q6, q7, q8, q9, q10, q11] : List Nat).getD k 0)] := ⟨_, rfl⟩
  refine VC_ws ?_ (hret 99 _ μ dX2_init_99 (by subst hμ; rfl))
  have e0 : (([(q0, .inr (2, [.ref q1, .ref q2, .ref q3, .ref q4, .ref q5, .ref q6, .ref q7, .int 0, .ref q8, .ref q9, .ref q10, .ref q11])), (q1, .inl (K.2.1.2.2 0, 2048, .inl (fun _ => 0))), (q2, .inl (K.2.1.2.2 0, 1000, .inl (fun _ => 0))), (q3, .inl (K.2.1.2.2 0, 1000, .inl (fun _ => 0))), (q4, .inl (K.2.1.2.2 0, 1000, .inl (fun _ => 0))), (q5, .inl (K.2.1.2.2 0, 1000, .inl (fun _ => 0))), (q6, .inl (K.2.1.2.2 0, 1000, .inl (fun _ => 0))), (q7, .inl (K.2.1.2.2 0, 3000, .inl (fun _ => 0))), (q8, .inl (K.2.1.2.2 0, 126, .inl (fun _ => 0))), (q9, .inl (K.2.1.2.2 0, 66, .inl (fun _ => 0))), (q10, .inl (K.2.1.2.2 0, 6, .inl (fun _ => 0))), (q11, .inl (K.2.1.2.2 0, 6, .inl (fun _ => 0)))] : va_W) : va_W) = (List.range 12).map (fun q => (μ q, zen μ K.2.1.2.2 (zS [] []) q (wCells.2 q))) := by
    subst hμ
    rfl
  exact e0
set_option maxRecDepth 100000 in
set_option maxHeartbeats 4000000 in
theorem kX1 (l : Launch) : zCt l yX1_init cX1_init 1 2 40 13 16264 1 wBook (zS [] []) := by
  refine zctor (by decide +kernel) rfl (by rfl) (fun K q0 hKl C hret => ?_)
  show VC K 0 [some (.ref q0)] [] (([(q0, .inr (1, [.null, .null, .int 0]))] : va_W)) 0 0
  refine VC_aload_n (pc := 0) C dX1_init_0 rfl rfl ?_
  refine VC_obj (pc := 1) C ol_RX1_3 oi_obj oc_obj ⟨Nat.le_of_ble_eq_true rfl, Nat.le_of_ble_eq_true rfl⟩ dX1_init_1 ?_
  refine VC_aload_n (pc := 4) C dX1_init_4 rfl rfl ?_
  refine VC_sipush (pc := 5) C dX1_init_5 kc_s_6000 ?_
  refine VC_newa (t := 0) (N := 6000) (a0 := (6000, .inl (fun _ => 0))) (pc := 8) C aw_int rfl (fun _ => rfl) (fun _ => rfl) ⟨by decide, by decide +kernel, Nat.le_of_ble_eq_true rfl⟩ ⟨Nat.le_of_ble_eq_true rfl, Nat.le_of_ble_eq_true rfl⟩ dX1_init_8 (fun q1 => ?_)
  show VC K 10 [some (.ref q0)] [.ref q1, .ref q0] (([(q0, .inr (1, [.null, .null, .int 0])), (q1, .inl (K.2.1.2.2 0, 6000, .inl (fun _ => 0)))] : va_W)) 1 6000
  refine VC_putF (pc := 10) C ff_RX1_11 rfl ⟨rfl, rfl⟩ (Nat.le_of_ble_eq_true rfl) dX1_init_10 ?_
  show VC K 13 [some (.ref q0)] [] (([(q0, .inr (1, [.ref q1, .null, .int 0])), (q1, .inl (K.2.1.2.2 0, 6000, .inl (fun _ => 0)))] : va_W)) 1 6000
  refine VC_aload_n (pc := 13) C dX1_init_13 rfl rfl ?_
  obtain ⟨T0, hT0⟩ : ∃ T : va_W, T = [] := ⟨_, rfl⟩
  have lt0 : T0.length = 0 := by rw [hT0]; rfl
  refine VC_ws (show ([(q0, .inr (1, [.ref q1, .null, .int 0])), (q1, .inl (K.2.1.2.2 0, 6000, .inl (fun _ => 0)))] : va_W) = ([(q0, .inr (1, [.ref q1, .null, .int 0])), (q1, .inl (K.2.1.2.2 0, 6000, .inl (fun _ => 0)))] : va_W) ++ T0 from by subst hT0; exact (List.append_nil _).symm) ?_
  refine VC_new (pc := 14) C nc_RX1_15 ⟨Nat.le_of_ble_eq_true rfl, Nat.le_of_ble_eq_true rfl⟩ dX1_init_14 (fun q2 => ?_)
  show VC K 17 [some (.ref q0)] [.ref q2, .ref q0] ((([(q0, .inr (1, [.ref q1, .null, .int 0])), (q1, .inl (K.2.1.2.2 0, 6000, .inl (fun _ => 0)))] : va_W) ++ T0) ++ [(q2, .inr (2, zbl 2))]) 2 6012
  refine VC_dup (pc := 17) C dX1_init_17 rfl ?_
  refine VC_callN (X := ([(q0, .inr (1, [.ref q1, .null, .int 0])), (q1, .inl (K.2.1.2.2 0, 6000, .inl (fun _ => 0)))] : va_W) ++ T0) (pc := 18) C (kX2 _) zm_X2_init ii_X2 rfl ml_RX1_17 ⟨Nat.le_of_ble_eq_true rfl, Nat.le_of_ble_eq_true rfl, Nat.le_of_ble_eq_true rfl, Nat.le_of_ble_eq_true rfl⟩ (Nat.le_of_ble_eq_true rfl) dX1_init_18 (fun m2 hm2 => ?_)
  subst hm2
  obtain ⟨T1, hT1⟩ : ∃ T : va_W, T = T0 ++ zws wCells m2 K.2.1.2.2 (zS [] []) := ⟨_, rfl⟩
  refine VC_ws (zass hT1) ?_
  have lt1 : T1.length = 12 := by
    rw [hT1]
    exact zlen_a (m := 12) lt0 zws_len rfl
  show VC K 21 [some (.ref q0)] [.ref (m2 0), .ref q0] (([(q0, .inr (1, [.ref q1, .null, .int 0])), (q1, .inl (K.2.1.2.2 0, 6000, .inl (fun _ => 0)))] : va_W) ++ T1) 13 16264
  refine VC_putF (pc := 21) C ff_RX1_18 rfl ⟨rfl, rfl⟩ (Nat.le_of_ble_eq_true rfl) dX1_init_21 ?_
  show VC K 24 [some (.ref q0)] [] (([(q0, .inr (1, [.ref q1, .ref (m2 0), .int 0])), (q1, .inl (K.2.1.2.2 0, 6000, .inl (fun _ => 0)))] : va_W) ++ T1) 13 16264
  obtain ⟨μ, hμ⟩ : ∃ μ, μ = zmu [(2, fun k => ([q0, q1] : List Nat).getD k 0), (12, m2)] := ⟨_, rfl⟩
  refine VC_ws ?_ (hret 24 _ μ dX1_init_24 (by subst hμ; rfl))
  have e0 : (([(q0, .inr (1, [.ref q1, .ref (m2 0), .int 0])), (q1, .inl (K.2.1.2.2 0, 6000, .inl (fun _ => 0)))] : va_W) ++ T0 : va_W) = (List.range 2).map (fun q => (μ q, zen μ K.2.1.2.2 (zS [] []) q (wBook.2 q))) := by
    rw [hT0]
    subst hμ
    rfl
  have b0 : (zws wCells m2 K.2.1.2.2 (zS [] []) : va_W) = (List.range 12).map (fun k => (fun q => (μ q, zen μ K.2.1.2.2 (zS [] []) q (wBook.2 q))) (2 + k)) := zblk (w := wBook) (μ := μ) (o := 2) rfl (by subst hμ; exact zmu_at _ 1 2 12 _ rfl (by simp only [zsum_s, zsum_0, Nat.reduceAdd])) (fun _ _ => rfl) (fun _ _ => rfl) (by decide +kernel)
  have e1 : (([(q0, .inr (1, [.ref q1, .ref (m2 0), .int 0])), (q1, .inl (K.2.1.2.2 0, 6000, .inl (fun _ => 0)))] : va_W) ++ T1 : va_W) = (List.range (2 + 12)).map (fun q => (μ q, zen μ K.2.1.2.2 (zS [] []) q (wBook.2 q))) := (zass hT1).symm.trans (zapp e0 b0)
  exact e1
set_option maxRecDepth 100000 in
set_option maxHeartbeats 4000000 in
theorem kX10 (l : Launch) : zCt l yX10_init cX10_init 1 1 20 5 4141 10 wSpans (zS [] []) := by
  refine zctor (by decide +kernel) rfl (by rfl) (fun K q0 hKl C hret => ?_)
  show VC K 0 [some (.ref q0)] [] (([(q0, .inr (10, [.null, .null, .null, .int 0, .null, .null]))] : va_W)) 0 0
  refine VC_aload_n (pc := 0) C dX10_init_0 rfl rfl ?_
  refine VC_obj (pc := 1) C ol_RX10_5 oi_obj oc_obj ⟨Nat.le_of_ble_eq_true rfl, Nat.le_of_ble_eq_true rfl⟩ dX10_init_1 ?_
  refine VC_aload_n (pc := 4) C dX10_init_4 rfl rfl ?_
  refine VC_bipush (pc := 5) C dX10_init_5 kc_b_15 ?_
  refine VC_newa (t := 3) (N := 15) (a0 := (15, .inr (.inl (fun _ => 0)))) (pc := 7) C aw_long rfl (fun _ => rfl) (fun _ => rfl) ⟨by decide, by decide +kernel, Nat.le_of_ble_eq_true rfl⟩ ⟨Nat.le_of_ble_eq_true rfl, Nat.le_of_ble_eq_true rfl⟩ dX10_init_7 (fun q1 => ?_)
  show VC K 9 [some (.ref q0)] [.ref q1, .ref q0] (([(q0, .inr (10, [.null, .null, .null, .int 0, .null, .null])), (q1, .inl (K.2.1.2.2 3, 15, .inr (.inl (fun _ => 0))))] : va_W)) 1 15
  refine VC_putF (pc := 9) C ff_RX10_11 rfl ⟨rfl, rfl⟩ (Nat.le_of_ble_eq_true rfl) dX10_init_9 ?_
  show VC K 12 [some (.ref q0)] [] (([(q0, .inr (10, [.ref q1, .null, .null, .int 0, .null, .null])), (q1, .inl (K.2.1.2.2 3, 15, .inr (.inl (fun _ => 0))))] : va_W)) 1 15
  refine VC_aload_n (pc := 12) C dX10_init_12 rfl rfl ?_
  refine VC_bipush (pc := 13) C dX10_init_13 kc_b_15 ?_
  refine VC_newa (t := 3) (N := 15) (a0 := (15, .inr (.inl (fun _ => 0)))) (pc := 15) C aw_long rfl (fun _ => rfl) (fun _ => rfl) ⟨by decide, by decide +kernel, Nat.le_of_ble_eq_true rfl⟩ ⟨Nat.le_of_ble_eq_true rfl, Nat.le_of_ble_eq_true rfl⟩ dX10_init_15 (fun q2 => ?_)
  show VC K 17 [some (.ref q0)] [.ref q2, .ref q0] (([(q0, .inr (10, [.ref q1, .null, .null, .int 0, .null, .null])), (q1, .inl (K.2.1.2.2 3, 15, .inr (.inl (fun _ => 0)))), (q2, .inl (K.2.1.2.2 3, 15, .inr (.inl (fun _ => 0))))] : va_W)) 2 30
  refine VC_putF (pc := 17) C ff_RX10_15 rfl ⟨rfl, rfl⟩ (Nat.le_of_ble_eq_true rfl) dX10_init_17 ?_
  show VC K 20 [some (.ref q0)] [] (([(q0, .inr (10, [.ref q1, .ref q2, .null, .int 0, .null, .null])), (q1, .inl (K.2.1.2.2 3, 15, .inr (.inl (fun _ => 0)))), (q2, .inl (K.2.1.2.2 3, 15, .inr (.inl (fun _ => 0))))] : va_W)) 2 30
  refine VC_aload_n (pc := 20) C dX10_init_20 rfl rfl ?_
  refine VC_bipush (pc := 21) C dX10_init_21 kc_b_15 ?_
  refine VC_newa (t := 3) (N := 15) (a0 := (15, .inr (.inl (fun _ => 0)))) (pc := 23) C aw_long rfl (fun _ => rfl) (fun _ => rfl) ⟨by decide, by decide +kernel, Nat.le_of_ble_eq_true rfl⟩ ⟨Nat.le_of_ble_eq_true rfl, Nat.le_of_ble_eq_true rfl⟩ dX10_init_23 (fun q3 => ?_)
  show VC K 25 [some (.ref q0)] [.ref q3, .ref q0] (([(q0, .inr (10, [.ref q1, .ref q2, .null, .int 0, .null, .null])), (q1, .inl (K.2.1.2.2 3, 15, .inr (.inl (fun _ => 0)))), (q2, .inl (K.2.1.2.2 3, 15, .inr (.inl (fun _ => 0)))), (q3, .inl (K.2.1.2.2 3, 15, .inr (.inl (fun _ => 0))))] : va_W)) 3 45
  refine VC_putF (pc := 25) C ff_RX10_18 rfl ⟨rfl, rfl⟩ (Nat.le_of_ble_eq_true rfl) dX10_init_25 ?_
  show VC K 28 [some (.ref q0)] [] (([(q0, .inr (10, [.ref q1, .ref q2, .ref q3, .int 0, .null, .null])), (q1, .inl (K.2.1.2.2 3, 15, .inr (.inl (fun _ => 0)))), (q2, .inl (K.2.1.2.2 3, 15, .inr (.inl (fun _ => 0)))), (q3, .inl (K.2.1.2.2 3, 15, .inr (.inl (fun _ => 0))))] : va_W)) 3 45
  refine VC_aload_n (pc := 28) C dX10_init_28 rfl rfl ?_
  refine VC_sipush (pc := 29) C dX10_init_29 kc_s_2048 ?_
  refine VC_newa (t := 3) (N := 2048) (a0 := (2048, .inr (.inl (fun _ => 0)))) (pc := 32) C aw_long rfl (fun _ => rfl) (fun _ => rfl) ⟨by decide, by decide +kernel, Nat.le_of_ble_eq_true rfl⟩ ⟨Nat.le_of_ble_eq_true rfl, Nat.le_of_ble_eq_true rfl⟩ dX10_init_32 (fun q4 => ?_)
  show VC K 34 [some (.ref q0)] [.ref q4, .ref q0] (([(q0, .inr (10, [.ref q1, .ref q2, .ref q3, .int 0, .null, .null])), (q1, .inl (K.2.1.2.2 3, 15, .inr (.inl (fun _ => 0)))), (q2, .inl (K.2.1.2.2 3, 15, .inr (.inl (fun _ => 0)))), (q3, .inl (K.2.1.2.2 3, 15, .inr (.inl (fun _ => 0)))), (q4, .inl (K.2.1.2.2 3, 2048, .inr (.inl (fun _ => 0))))] : va_W)) 4 2093
  refine VC_putF (pc := 34) C ff_RX10_21 rfl ⟨rfl, rfl⟩ (Nat.le_of_ble_eq_true rfl) dX10_init_34 ?_
  show VC K 37 [some (.ref q0)] [] (([(q0, .inr (10, [.ref q1, .ref q2, .ref q3, .int 0, .ref q4, .null])), (q1, .inl (K.2.1.2.2 3, 15, .inr (.inl (fun _ => 0)))), (q2, .inl (K.2.1.2.2 3, 15, .inr (.inl (fun _ => 0)))), (q3, .inl (K.2.1.2.2 3, 15, .inr (.inl (fun _ => 0)))), (q4, .inl (K.2.1.2.2 3, 2048, .inr (.inl (fun _ => 0))))] : va_W)) 4 2093
  refine VC_aload_n (pc := 37) C dX10_init_37 rfl rfl ?_
  refine VC_sipush (pc := 38) C dX10_init_38 kc_s_2048 ?_
  refine VC_newa (t := 0) (N := 2048) (a0 := (2048, .inl (fun _ => 0))) (pc := 41) C aw_int rfl (fun _ => rfl) (fun _ => rfl) ⟨by decide, by decide +kernel, Nat.le_of_ble_eq_true rfl⟩ ⟨Nat.le_of_ble_eq_true rfl, Nat.le_of_ble_eq_true rfl⟩ dX10_init_41 (fun q5 => ?_)
  show VC K 43 [some (.ref q0)] [.ref q5, .ref q0] (([(q0, .inr (10, [.ref q1, .ref q2, .ref q3, .int 0, .ref q4, .null])), (q1, .inl (K.2.1.2.2 3, 15, .inr (.inl (fun _ => 0)))), (q2, .inl (K.2.1.2.2 3, 15, .inr (.inl (fun _ => 0)))), (q3, .inl (K.2.1.2.2 3, 15, .inr (.inl (fun _ => 0)))), (q4, .inl (K.2.1.2.2 3, 2048, .inr (.inl (fun _ => 0)))), (q5, .inl (K.2.1.2.2 0, 2048, .inl (fun _ => 0)))] : va_W)) 5 4141
  refine VC_putF (pc := 43) C ff_RX10_24 rfl ⟨rfl, rfl⟩ (Nat.le_of_ble_eq_true rfl) dX10_init_43 ?_
  show VC K 46 [some (.ref q0)] [] (([(q0, .inr (10, [.ref q1, .ref q2, .ref q3, .int 0, .ref q4, .ref q5])), (q1, .inl (K.2.1.2.2 3, 15, .inr (.inl (fun _ => 0)))), (q2, .inl (K.2.1.2.2 3, 15, .inr (.inl (fun _ => 0)))), (q3, .inl (K.2.1.2.2 3, 15, .inr (.inl (fun _ => 0)))), (q4, .inl (K.2.1.2.2 3, 2048, .inr (.inl (fun _ => 0)))), (q5, .inl (K.2.1.2.2 0, 2048, .inl (fun _ => 0)))] : va_W)) 5 4141
  obtain ⟨μ, hμ⟩ : ∃ μ, μ = zmu [(6, fun k => ([q0, q1, q2, q3, q4, q5] : List Nat).getD k 0)] := ⟨_, rfl⟩
  refine VC_ws ?_ (hret 46 _ μ dX10_init_46 (by subst hμ; rfl))
  have e0 : (([(q0, .inr (10, [.ref q1, .ref q2, .ref q3, .int 0, .ref q4, .ref q5])), (q1, .inl (K.2.1.2.2 3, 15, .inr (.inl (fun _ => 0)))), (q2, .inl (K.2.1.2.2 3, 15, .inr (.inl (fun _ => 0)))), (q3, .inl (K.2.1.2.2 3, 15, .inr (.inl (fun _ => 0)))), (q4, .inl (K.2.1.2.2 3, 2048, .inr (.inl (fun _ => 0)))), (q5, .inl (K.2.1.2.2 0, 2048, .inl (fun _ => 0)))] : va_W) : va_W) = (List.range 6).map (fun q => (μ q, zen μ K.2.1.2.2 (zS [] []) q (wSpans.2 q))) := by
    subst hμ
    rfl
  exact e0
set_option maxRecDepth 100000 in
set_option maxHeartbeats 4000000 in
theorem kX0 (l : Launch) : zCt l yX0_init cX0_init 1 3 61 33 743 0 wAsked (zS [(0, 0, 1), (0, 1, 3), (0, 2, 3)] []) := by
  refine zctor (by decide +kernel) rfl (by rfl) (fun K q0 hKl C hret => ?_)
  show VC K 0 [some (.ref q0)] [] (([(q0, .inr (0, [.null, .null, .null, .int 0, .int 0, .int 0, .int 0, .int 0]))] : va_W)) 0 0
  refine VC_aload_n (pc := 0) C dX0_init_0 rfl rfl ?_
  refine VC_obj (pc := 1) C ol_RX0_3 oi_obj oc_obj ⟨Nat.le_of_ble_eq_true rfl, Nat.le_of_ble_eq_true rfl⟩ dX0_init_1 ?_
  refine VC_aload_n (pc := 4) C dX0_init_4 rfl rfl ?_
  obtain ⟨T0, hT0⟩ : ∃ T : va_W, T = [] := ⟨_, rfl⟩
  have lt0 : T0.length = 0 := by rw [hT0]; rfl
  refine VC_ws (show ([(q0, .inr (0, [.null, .null, .null, .int 0, .int 0, .int 0, .int 0, .int 0]))] : va_W) = ([(q0, .inr (0, [.null, .null, .null, .int 0, .int 0, .int 0, .int 0, .int 0]))] : va_W) ++ T0 from by subst hT0; exact (List.append_nil _).symm) ?_
  refine VC_new (pc := 5) C nc_RX0_9 ⟨Nat.le_of_ble_eq_true rfl, Nat.le_of_ble_eq_true rfl⟩ dX0_init_5 (fun q1 => ?_)
  show VC K 8 [some (.ref q0)] [.ref q1, .ref q0] ((([(q0, .inr (0, [.null, .null, .null, .int 0, .int 0, .int 0, .int 0, .int 0]))] : va_W) ++ T0) ++ [(q1, .inr (8, zbl 8))]) 1 10
  refine VC_dup (pc := 8) C dX0_init_8 rfl ?_
  refine VC_callN (X := ([(q0, .inr (0, [.null, .null, .null, .int 0, .int 0, .int 0, .int 0, .int 0]))] : va_W) ++ T0) (pc := 9) C (kX8 _) zm_X8_init ii_X8 rfl ml_RX0_11 ⟨Nat.le_of_ble_eq_true rfl, Nat.le_of_ble_eq_true rfl, Nat.le_of_ble_eq_true rfl, Nat.le_of_ble_eq_true rfl⟩ (Nat.le_of_ble_eq_true rfl) dX0_init_9 (fun m1 hm1 => ?_)
  subst hm1
  obtain ⟨T1, hT1⟩ : ∃ T : va_W, T = T0 ++ zws wSayer m1 K.2.1.2.2 (zS [] []) := ⟨_, rfl⟩
  refine VC_ws (zass hT1) ?_
  have lt1 : T1.length = 2 := by
    rw [hT1]
    exact zlen_a (m := 2) lt0 zws_len rfl
  show VC K 12 [some (.ref q0)] [.ref (m1 0), .ref q0] (([(q0, .inr (0, [.null, .null, .null, .int 0, .int 0, .int 0, .int 0, .int 0]))] : va_W) ++ T1) 2 16
  refine VC_putN (pc := 12) C fp_RX0_12 rfl ⟨rfl, rfl⟩ (Nat.le_of_ble_eq_true rfl) dX0_init_12 ?_
  show VC K 15 [some (.ref q0)] [] (([(q0, .inr (0, [.ref (m1 0), .null, .null, .int 0, .int 0, .int 0, .int 0, .int 0]))] : va_W) ++ T1) 2 16
  refine VC_aload_n (pc := 15) C dX0_init_15 rfl rfl ?_
  refine VC_new (pc := 16) C nc_RX0_18 ⟨Nat.le_of_ble_eq_true rfl, Nat.le_of_ble_eq_true rfl⟩ dX0_init_16 (fun q2 => ?_)
  show VC K 19 [some (.ref q0)] [.ref q2, .ref q0] ((([(q0, .inr (0, [.ref (m1 0), .null, .null, .int 0, .int 0, .int 0, .int 0, .int 0]))] : va_W) ++ T1) ++ [(q2, .inr (9, zbl 9))]) 3 24
  refine VC_dup (pc := 19) C dX0_init_19 rfl ?_
  refine VC_callI (X := ([(q0, .inr (0, [.ref (m1 0), .null, .null, .int 0, .int 0, .int 0, .int 0, .int 0]))] : va_W) ++ T1) (pc := 20) C (kX9 _) zm_X9_init ii_X9 rfl ml_RX0_20 ⟨Nat.le_of_ble_eq_true rfl, Nat.le_of_ble_eq_true rfl, Nat.le_of_ble_eq_true rfl, Nat.le_of_ble_eq_true rfl⟩ (Nat.le_of_ble_eq_true rfl) dX0_init_20 (fun m2 hm2 => ?_)
  subst hm2
  obtain ⟨T2, hT2⟩ : ∃ T : va_W, T = T1 ++ zws wSense m2 K.2.1.2.2 (zS [] []) := ⟨_, rfl⟩
  refine VC_ws (zass hT2) ?_
  have lt2 : T2.length = 33 := by
    rw [hT2]
    exact zlen_a (m := 31) lt1 zws_len rfl
  show VC K 23 [some (.ref q0)] [.ref (m2 0), .ref q0] (([(q0, .inr (0, [.ref (m1 0), .null, .null, .int 0, .int 0, .int 0, .int 0, .int 0]))] : va_W) ++ T2) 33 743
  refine VC_putN (pc := 23) C fp_RX0_21 rfl ⟨rfl, rfl⟩ (Nat.le_of_ble_eq_true rfl) dX0_init_23 ?_
  show VC K 26 [some (.ref q0)] [] (([(q0, .inr (0, [.ref (m1 0), .ref (m2 0), .null, .int 0, .int 0, .int 0, .int 0, .int 0]))] : va_W) ++ T2) 33 743
  refine VC_aload_n (pc := 26) C dX0_init_26 rfl rfl ?_
  refine VC_aload_n (pc := 27) C dX0_init_27 rfl rfl ?_
  refine VC_getN (pc := 28) C fl_RX0_21 rfl rfl dX0_init_28 ?_
  refine VC_putN (pc := 31) C fp_RX0_25 rfl ⟨rfl, rfl⟩ (Nat.le_of_ble_eq_true rfl) dX0_init_31 ?_
  show VC K 34 [some (.ref q0)] [] (([(q0, .inr (0, [.ref (m1 0), .ref (m2 0), .ref (m2 0), .int 0, .int 0, .int 0, .int 0, .int 0]))] : va_W) ++ T2) 33 743
  obtain ⟨μ, hμ⟩ : ∃ μ, μ = zmu [(1, fun k => ([q0] : List Nat).getD k 0), (2, m1), (31, m2)] := ⟨_, rfl⟩
  refine VC_ws ?_ (hret 34 _ μ dX0_init_34 (by subst hμ; rfl))
  have e0 : (([(q0, .inr (0, [.ref (m1 0), .ref (m2 0), .ref (m2 0), .int 0, .int 0, .int 0, .int 0, .int 0]))] : va_W) ++ T0 : va_W) = (List.range 1).map (fun q => (μ q, zen μ K.2.1.2.2 (zS [(0, 0, 1), (0, 1, 3), (0, 2, 3)] []) q (wAsked.2 q))) := by
    rw [hT0]
    subst hμ
    rfl
  have b0 : (zws wSayer m1 K.2.1.2.2 (zS [] []) : va_W) = (List.range 2).map (fun k => (fun q => (μ q, zen μ K.2.1.2.2 (zS [(0, 0, 1), (0, 1, 3), (0, 2, 3)] []) q (wAsked.2 q))) (1 + k)) := zblk (w := wAsked) (μ := μ) (o := 1) rfl (by subst hμ; exact zmu_at _ 1 1 2 _ rfl (by simp only [zsum_s, zsum_0, Nat.reduceAdd])) (fun _ _ => rfl) (fun _ _ => rfl) (by decide +kernel)
  have e1 : (([(q0, .inr (0, [.ref (m1 0), .ref (m2 0), .ref (m2 0), .int 0, .int 0, .int 0, .int 0, .int 0]))] : va_W) ++ T1 : va_W) = (List.range (1 + 2)).map (fun q => (μ q, zen μ K.2.1.2.2 (zS [(0, 0, 1), (0, 1, 3), (0, 2, 3)] []) q (wAsked.2 q))) := (zass hT1).symm.trans (zapp e0 b0)
  have b1 : (zws wSense m2 K.2.1.2.2 (zS [] []) : va_W) = (List.range 31).map (fun k => (fun q => (μ q, zen μ K.2.1.2.2 (zS [(0, 0, 1), (0, 1, 3), (0, 2, 3)] []) q (wAsked.2 q))) (3 + k)) := zblk (w := wAsked) (μ := μ) (o := 3) rfl (by subst hμ; exact zmu_at _ 2 3 31 _ rfl (by simp only [zsum_s, zsum_0, Nat.reduceAdd])) (fun _ _ => rfl) (fun _ _ => rfl) (by decide +kernel)
  have e2 : (([(q0, .inr (0, [.ref (m1 0), .ref (m2 0), .ref (m2 0), .int 0, .int 0, .int 0, .int 0, .int 0]))] : va_W) ++ T2 : va_W) = (List.range (3 + 31)).map (fun q => (μ q, zen μ K.2.1.2.2 (zS [(0, 0, 1), (0, 1, 3), (0, 2, 3)] []) q (wAsked.2 q))) := (zass hT2).symm.trans (zapp e1 b1)
  exact e2
