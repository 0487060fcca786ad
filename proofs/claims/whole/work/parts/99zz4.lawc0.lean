/-! The law's cases. -/
theorem vS_some {α : Type} {X : Option α} {S S' : zM} {r : α} (h : vS X S = some (r, S')) : X = some r ∧ S = S' := by
  unfold vS at h
  cases X with
  | none => cases h
  | some a =>
    have := Prod.mk.inj (Option.some.inj h)
    exact ⟨congrArg some this.1, this.2⟩
section LAWC
variable {K : zKC} {CE SL ce sl : Nat} {μ ν : Nat → Nat} {q b N t : Nat} {xs : Nat → Int32} {SC SM : zM} {o : Int64} {a5 a6 : Option Value}
theorem zk_b6 : (Int8.ofInt ((6 : Nat) : Int)).toInt32 = J ((6 : Nat) : Int) := by decide +kernel
theorem zk_b7 : (Int8.ofInt ((7 : Nat) : Int)).toInt32 = J ((7 : Nat) : Int) := by decide +kernel
theorem vp_inJ {j : Nat} (hj : j < N) (hN : N ≤ 4096) : vp_in (J (j : Int)) N ∧ (J (j : Int)).toNatClampNeg = j := by
  have e : (J (j : Int)).toNatClampNeg = j := by
    show (J (j : Int)).toInt.toNat = j
    rw [toInt_J (by omega) (by omega)]
    omega
  refine ⟨?_, e⟩
  unfold vp_in
  rw [e]
  rintro (h | h)
  · rw [show (0 : Int32) = J 0 from by decide, J_lt (by omega) (by omega) (by decide) (by decide)] at h
    omega
  · omega
theorem VL_scr {cc : ByteArray} {own : String} {n fr lo pc j : Nat} {L : zL} {st : List Value} {ws : va_W} (C : zCL K cc own n fr lo CE SL) (hX : LX K b N xs) (hN : 8 * t + 8 ≤ N) (hN2 : N ≤ 4096) (hj : j < 8) (h0 : L[0]? = some (some (.ref b))) (h4 : L[4]? = some (some (.int (J ((8 * t : Nat) : Int))))) (d1 : decode cc pc = .ok (.aload_n 0, 1)) (d2 : decode cc (pc + 1) = .ok (.iload 4, 2)) (d3 : decode cc (pc + 3) = .ok (.iconst (j : Int), 1)) (d4 : decode cc (pc + 4) = .ok (.iadd, 1)) (d5 : decode cc (pc + 5) = .ok (.iaload, 1)) (k : VC K (pc + 6) L (.int (xs (8 * t + j)) :: st) ws ce sl) : VC K pc L st ws ce sl := by
  obtain ⟨g1, g2⟩ := vp_inJ (j := 8 * t + j) (N := N) (by omega) hN2
  refine VL_aload_n C d1 rfl h0 ?_
  refine VL_iload C d2 h4 ?_
  refine VL_iconst C (v := J (j : Int)) d3 rfl ?_
  refine VL_iadd C d4 ?_
  have e : J ((8 * t : Nat) : Int) + J (j : Int) = J ((8 * t + j : Nat) : Int) := by rw [J_add]; congr 1
  rw [e]
  refine VL_sld C hX g1 d5 ?_
  rw [g2]
  exact k
theorem VL_scrb {cc : ByteArray} {own : String} {n fr lo pc j : Nat} {L : zL} {st : List Value} {ws : va_W} (C : zCL K cc own n fr lo CE SL) (hX : LX K b N xs) (hN : 8 * t + 8 ≤ N) (hN2 : N ≤ 4096) (hj : j < 8) (h0 : L[0]? = some (some (.ref b))) (h4 : L[4]? = some (some (.int (J ((8 * t : Nat) : Int))))) (d1 : decode cc pc = .ok (.aload_n 0, 1)) (d2 : decode cc (pc + 1) = .ok (.iload 4, 2)) (d3 : decode cc (pc + 3) = .ok (.bipush (j : Int), 2)) (hb : (Int8.ofInt (j : Int)).toInt32 = J (j : Int)) (d4 : decode cc (pc + 5) = .ok (.iadd, 1)) (d5 : decode cc (pc + 6) = .ok (.iaload, 1)) (k : VC K (pc + 7) L (.int (xs (8 * t + j)) :: st) ws ce sl) : VC K pc L st ws ce sl := by
  obtain ⟨g1, g2⟩ := vp_inJ (j := 8 * t + j) (N := N) (by omega) hN2
  refine VL_aload_n C d1 rfl h0 ?_
  refine VL_iload C d2 h4 ?_
  refine VL_bipush C (v := J (j : Int)) d3 hb ?_
  refine VL_iadd C d4 ?_
  have e : J ((8 * t : Nat) : Int) + J (j : Int) = J ((8 * t + j : Nat) : Int) := by rw [J_add]; congr 1
  rw [e]
  refine VL_sld C hX g1 d5 ?_
  rw [g2]
  exact k
set_option maxRecDepth 100000 in
set_option maxHeartbeats 4000000 in
theorem law_c0 (C : zCL K cL_law RL 7 14 532 CE SL) (hz : LZ K μ) (hz2 : LZ K ν) (hX : LX K b N xs) (hN : 8 * t + 8 ≤ N) (hN2 : N ≤ 4096) (hcs : ce ≤ CE ∧ sl ≤ SL) (h : Inv SC SM t) (kk : ∀ (SC1 SM1 : zM) (o1 : Int64) (a5 a6 : Option Value), Inv SC1 SM1 (t + 1) → VC K 2295 [some (.ref b), some (.ref (μ 0)), some (.ref (ν 0)), some (.ref q), some (.int (J ((8 * t : Nat) : Int))), a5, a6] [] (lws μ ν K.2.1.2.2 q SC1 SM1 o1) ce sl) : VC K 220 [some (.ref b), some (.ref (μ 0)), some (.ref (ν 0)), some (.ref q), some (.int (J ((8 * t : Nat) : Int))), a5, a6] [] (lws μ ν K.2.1.2.2 q SC SM o) ce sl := by
  have ht : t < 512 := by omega
  refine VL_aload_n (pc := 220) C dL_law_220 rfl rfl ?_
  refine VL_scr (pc := 221) (j := 1) C hX hN hN2 (by decide) rfl rfl dL_law_221 dL_law_222 dL_law_224 dL_law_225 dL_law_226 ?_
  refine VL_scr (pc := 227) (j := 2) C hX hN hN2 (by decide) rfl rfl dL_law_227 dL_law_228 dL_law_230 dL_law_231 dL_law_232 ?_
  refine VL_scr (pc := 233) (j := 3) C hX hN hN2 (by decide) rfl rfl dL_law_233 dL_law_234 dL_law_236 dL_law_237 dL_law_238 ?_
  refine VL_scr (pc := 239) (j := 4) C hX hN hN2 (by decide) rfl rfl dL_law_239 dL_law_240 dL_law_242 dL_law_243 dL_law_244 ?_
  refine VL_scr (pc := 245) (j := 5) C hX hN hN2 (by decide) rfl rfl dL_law_245 dL_law_246 dL_law_248 dL_law_249 dL_law_250 ?_
  obtain ⟨r, SC1, SM1, e1, e2, hI⟩ := st_feed h (xs (8 * t + 1)) (xs (8 * t + 2)) (xs (8 * t + 3)) (xs (8 * t + 4)) (xs (8 * t + 5))
  refine VL_callX (T := TX11) (N := 15) (ro := some (.int r)) (As := [.int (xs (8 * t + 1)), .int (xs (8 * t + 2)), .int (xs (8 * t + 3)), .int (xs (8 * t + 4)), .int (xs (8 * t + 5))]) (pc := 251) C (mX11_feed _ e1) hz zm_X11_feed zi_X11_feed ml_RL_19 rfl ⟨Nat.le_of_ble_eq_true rfl, Nat.le_of_ble_eq_true rfl⟩ rfl rfl rfl rfl (Nat.le_of_ble_eq_true rfl) dL_law_251 hcs ?_
  show VC K 254 [some (.ref b), some (.ref (μ 0)), some (.ref (ν 0)), some (.ref q), some (.int (J ((8 * t : Nat) : Int))), a5, a6] [.int r] (lws μ ν K.2.1.2.2 q SC1 SM o) ce sl
  refine VL_aload_n (pc := 254) C dL_law_254 rfl rfl ?_
  refine VL_scr (pc := 255) (j := 1) C hX hN hN2 (by decide) rfl rfl dL_law_255 dL_law_256 dL_law_258 dL_law_259 dL_law_260 ?_
  refine VL_scr (pc := 261) (j := 2) C hX hN hN2 (by decide) rfl rfl dL_law_261 dL_law_262 dL_law_264 dL_law_265 dL_law_266 ?_
  refine VL_scr (pc := 267) (j := 3) C hX hN hN2 (by decide) rfl rfl dL_law_267 dL_law_268 dL_law_270 dL_law_271 dL_law_272 ?_
  refine VL_scr (pc := 273) (j := 4) C hX hN hN2 (by decide) rfl rfl dL_law_273 dL_law_274 dL_law_276 dL_law_277 dL_law_278 ?_
  refine VL_scr (pc := 279) (j := 5) C hX hN hN2 (by decide) rfl rfl dL_law_279 dL_law_280 dL_law_282 dL_law_283 dL_law_284 ?_
  refine VL_callM (T := TX12) (N := 45) (ro := some (.int r)) (As := [.int (xs (8 * t + 1)), .int (xs (8 * t + 2)), .int (xs (8 * t + 3)), .int (xs (8 * t + 4)), .int (xs (8 * t + 5))]) (pc := 285) C (mX12_feed _ e2) hz2 zm_X12_feed zi_X12_feed ml_RL_23 rfl ⟨Nat.le_of_ble_eq_true rfl, Nat.le_of_ble_eq_true rfl⟩ rfl rfl rfl rfl (Nat.le_of_ble_eq_true rfl) dL_law_285 hcs ?_
  refine VL_icmp_eq (tgt := 2295) (pc := 288) C dL_law_288 (by decide) (fun _ => ?_) (fun hc => absurd rfl hc)
  exact kk _ _ _ _ _ hI
set_option maxRecDepth 100000 in
set_option maxHeartbeats 4000000 in
theorem law_c1 (C : zCL K cL_law RL 7 14 532 CE SL) (hz : LZ K μ) (hz2 : LZ K ν) (hX : LX K b N xs) (hN : 8 * t + 8 ≤ N) (hN2 : N ≤ 4096) (hcs : ce ≤ CE ∧ sl ≤ SL) (h : Inv SC SM t) (kk : ∀ (SC1 SM1 : zM) (o1 : Int64) (a5 a6 : Option Value), Inv SC1 SM1 (t + 1) → VC K 2295 [some (.ref b), some (.ref (μ 0)), some (.ref (ν 0)), some (.ref q), some (.int (J ((8 * t : Nat) : Int))), a5, a6] [] (lws μ ν K.2.1.2.2 q SC1 SM1 o1) ce sl) : VC K 293 [some (.ref b), some (.ref (μ 0)), some (.ref (ν 0)), some (.ref q), some (.int (J ((8 * t : Nat) : Int))), a5, a6] [] (lws μ ν K.2.1.2.2 q SC SM o) ce sl := by
  have ht : t < 512 := by omega
  refine VL_aload_n (pc := 293) C dL_law_293 rfl rfl ?_
  refine VL_scr (pc := 294) (j := 1) C hX hN hN2 (by decide) rfl rfl dL_law_294 dL_law_295 dL_law_297 dL_law_298 dL_law_299 ?_
  obtain ⟨r, SC1, SM1, e1, e2, hI⟩ := st_room h (xs (8 * t + 1))
  refine VL_callX (T := TX11) (N := 15) (ro := some (.int r)) (As := [.int (xs (8 * t + 1))]) (pc := 300) C (mX11_room _ e1) hz zm_X11_room zi_X11_room ml_RL_24 rfl ⟨Nat.le_of_ble_eq_true rfl, Nat.le_of_ble_eq_true rfl⟩ rfl rfl rfl rfl (Nat.le_of_ble_eq_true rfl) dL_law_300 hcs ?_
  show VC K 303 [some (.ref b), some (.ref (μ 0)), some (.ref (ν 0)), some (.ref q), some (.int (J ((8 * t : Nat) : Int))), a5, a6] [.int r] (lws μ ν K.2.1.2.2 q SC1 SM o) ce sl
  refine VL_aload_n (pc := 303) C dL_law_303 rfl rfl ?_
  refine VL_scr (pc := 304) (j := 1) C hX hN hN2 (by decide) rfl rfl dL_law_304 dL_law_305 dL_law_307 dL_law_308 dL_law_309 ?_
  refine VL_callM (T := TX12) (N := 45) (ro := some (.int r)) (As := [.int (xs (8 * t + 1))]) (pc := 310) C (mX12_room _ e2) hz2 zm_X12_room zi_X12_room ml_RL_28 rfl ⟨Nat.le_of_ble_eq_true rfl, Nat.le_of_ble_eq_true rfl⟩ rfl rfl rfl rfl (Nat.le_of_ble_eq_true rfl) dL_law_310 hcs ?_
  refine VL_icmp_eq (tgt := 2295) (pc := 313) C dL_law_313 (by decide) (fun _ => ?_) (fun hc => absurd rfl hc)
  exact kk _ _ _ _ _ hI
set_option maxRecDepth 100000 in
set_option maxHeartbeats 4000000 in
theorem law_c2 (C : zCL K cL_law RL 7 14 532 CE SL) (hz : LZ K μ) (hz2 : LZ K ν) (hX : LX K b N xs) (hN : 8 * t + 8 ≤ N) (hN2 : N ≤ 4096) (hcs : ce ≤ CE ∧ sl ≤ SL) (h : Inv SC SM t) (kk : ∀ (SC1 SM1 : zM) (o1 : Int64) (a5 a6 : Option Value), Inv SC1 SM1 (t + 1) → VC K 2295 [some (.ref b), some (.ref (μ 0)), some (.ref (ν 0)), some (.ref q), some (.int (J ((8 * t : Nat) : Int))), a5, a6] [] (lws μ ν K.2.1.2.2 q SC1 SM1 o1) ce sl) : VC K 318 [some (.ref b), some (.ref (μ 0)), some (.ref (ν 0)), some (.ref q), some (.int (J ((8 * t : Nat) : Int))), a5, a6] [] (lws μ ν K.2.1.2.2 q SC SM o) ce sl := by
  have ht : t < 512 := by omega
  refine VL_aload_n (pc := 318) C dL_law_318 rfl rfl ?_
  obtain ⟨r, SC1, SM1, e0, e2, hI⟩ := st_fault h
  obtain ⟨e1, e3⟩ := vS_some e0
  subst e3
  refine VL_callX (T := TX11) (N := 15) (ro := some (.int r)) (As := []) (pc := 319) C (mX11_fault _ e1) hz zm_X11_fault zi_X11_fault ml_RL_29 rfl ⟨Nat.le_of_ble_eq_true rfl, Nat.le_of_ble_eq_true rfl⟩ rfl rfl rfl rfl (Nat.le_of_ble_eq_true rfl) dL_law_319 hcs ?_
  show VC K 322 [some (.ref b), some (.ref (μ 0)), some (.ref (ν 0)), some (.ref q), some (.int (J ((8 * t : Nat) : Int))), a5, a6] [.int r] (lws μ ν K.2.1.2.2 q SC SM o) ce sl
  refine VL_aload_n (pc := 322) C dL_law_322 rfl rfl ?_
  refine VL_callM (T := TX12) (N := 45) (ro := some (.int r)) (As := []) (pc := 323) C (mX12_fault _ e2) hz2 zm_X12_fault zi_X12_fault ml_RL_33 rfl ⟨Nat.le_of_ble_eq_true rfl, Nat.le_of_ble_eq_true rfl⟩ rfl rfl rfl rfl (Nat.le_of_ble_eq_true rfl) dL_law_323 hcs ?_
  refine VL_icmp_eq (tgt := 2295) (pc := 326) C dL_law_326 (by decide) (fun _ => ?_) (fun hc => absurd rfl hc)
  exact kk _ _ _ _ _ hI
set_option maxRecDepth 100000 in
set_option maxHeartbeats 4000000 in
theorem law_c3 (C : zCL K cL_law RL 7 14 532 CE SL) (hz : LZ K μ) (hz2 : LZ K ν) (hX : LX K b N xs) (hN : 8 * t + 8 ≤ N) (hN2 : N ≤ 4096) (hcs : ce ≤ CE ∧ sl ≤ SL) (h : Inv SC SM t) (kk : ∀ (SC1 SM1 : zM) (o1 : Int64) (a5 a6 : Option Value), Inv SC1 SM1 (t + 1) → VC K 2295 [some (.ref b), some (.ref (μ 0)), some (.ref (ν 0)), some (.ref q), some (.int (J ((8 * t : Nat) : Int))), a5, a6] [] (lws μ ν K.2.1.2.2 q SC1 SM1 o1) ce sl) : VC K 331 [some (.ref b), some (.ref (μ 0)), some (.ref (ν 0)), some (.ref q), some (.int (J ((8 * t : Nat) : Int))), a5, a6] [] (lws μ ν K.2.1.2.2 q SC SM o) ce sl := by
  have ht : t < 512 := by omega
  refine VL_aload_n (pc := 331) C dL_law_331 rfl rfl ?_
  obtain ⟨r, SC1, SM1, e0, e2, hI⟩ := st_where h
  obtain ⟨e1, e3⟩ := vS_some e0
  subst e3
  refine VL_callX (T := TX11) (N := 15) (ro := some (.int r)) (As := []) (pc := 332) C (mX11_where _ e1) hz zm_X11_where zi_X11_where ml_RL_34 rfl ⟨Nat.le_of_ble_eq_true rfl, Nat.le_of_ble_eq_true rfl⟩ rfl rfl rfl rfl (Nat.le_of_ble_eq_true rfl) dL_law_332 hcs ?_
  show VC K 335 [some (.ref b), some (.ref (μ 0)), some (.ref (ν 0)), some (.ref q), some (.int (J ((8 * t : Nat) : Int))), a5, a6] [.int r] (lws μ ν K.2.1.2.2 q SC SM o) ce sl
  refine VL_aload_n (pc := 335) C dL_law_335 rfl rfl ?_
  refine VL_callM (T := TX12) (N := 45) (ro := some (.int r)) (As := []) (pc := 336) C (mX12_where _ e2) hz2 zm_X12_where zi_X12_where ml_RL_37 rfl ⟨Nat.le_of_ble_eq_true rfl, Nat.le_of_ble_eq_true rfl⟩ rfl rfl rfl rfl (Nat.le_of_ble_eq_true rfl) dL_law_336 hcs ?_
  refine VL_icmp_eq (tgt := 2295) (pc := 339) C dL_law_339 (by decide) (fun _ => ?_) (fun hc => absurd rfl hc)
  exact kk _ _ _ _ _ hI
set_option maxRecDepth 100000 in
set_option maxHeartbeats 4000000 in
theorem law_c4 (C : zCL K cL_law RL 7 14 532 CE SL) (hz : LZ K μ) (hz2 : LZ K ν) (hX : LX K b N xs) (hN : 8 * t + 8 ≤ N) (hN2 : N ≤ 4096) (hcs : ce ≤ CE ∧ sl ≤ SL) (h : Inv SC SM t) (kk : ∀ (SC1 SM1 : zM) (o1 : Int64) (a5 a6 : Option Value), Inv SC1 SM1 (t + 1) → VC K 2295 [some (.ref b), some (.ref (μ 0)), some (.ref (ν 0)), some (.ref q), some (.int (J ((8 * t : Nat) : Int))), a5, a6] [] (lws μ ν K.2.1.2.2 q SC1 SM1 o1) ce sl) : VC K 344 [some (.ref b), some (.ref (μ 0)), some (.ref (ν 0)), some (.ref q), some (.int (J ((8 * t : Nat) : Int))), a5, a6] [] (lws μ ν K.2.1.2.2 q SC SM o) ce sl := by
  have ht : t < 512 := by omega
  refine VL_aload_n (pc := 344) C dL_law_344 rfl rfl ?_
  refine VL_scr (pc := 345) (j := 1) C hX hN hN2 (by decide) rfl rfl dL_law_345 dL_law_346 dL_law_348 dL_law_349 dL_law_350 ?_
  refine VL_scr (pc := 351) (j := 2) C hX hN hN2 (by decide) rfl rfl dL_law_351 dL_law_352 dL_law_354 dL_law_355 dL_law_356 ?_
  obtain ⟨r, SC1, SM1, e0, e2, hI⟩ := st_level h (xs (8 * t + 1)) (xs (8 * t + 2))
  obtain ⟨e1, e3⟩ := vS_some e0
  subst e3
  refine VL_callX (T := TX11) (N := 15) (ro := some (.int r)) (As := [.int (xs (8 * t + 1)), .int (xs (8 * t + 2))]) (pc := 357) C (mX11_level _ e1) hz zm_X11_level zi_X11_level ml_RL_38 rfl ⟨Nat.le_of_ble_eq_true rfl, Nat.le_of_ble_eq_true rfl⟩ rfl rfl rfl rfl (Nat.le_of_ble_eq_true rfl) dL_law_357 hcs ?_
  show VC K 360 [some (.ref b), some (.ref (μ 0)), some (.ref (ν 0)), some (.ref q), some (.int (J ((8 * t : Nat) : Int))), a5, a6] [.int r] (lws μ ν K.2.1.2.2 q SC SM o) ce sl
  refine VL_aload_n (pc := 360) C dL_law_360 rfl rfl ?_
  refine VL_scr (pc := 361) (j := 1) C hX hN hN2 (by decide) rfl rfl dL_law_361 dL_law_362 dL_law_364 dL_law_365 dL_law_366 ?_
  refine VL_scr (pc := 367) (j := 2) C hX hN hN2 (by decide) rfl rfl dL_law_367 dL_law_368 dL_law_370 dL_law_371 dL_law_372 ?_
  refine VL_callM (T := TX12) (N := 45) (ro := some (.int r)) (As := [.int (xs (8 * t + 1)), .int (xs (8 * t + 2))]) (pc := 373) C (mX12_level _ e2) hz2 zm_X12_level zi_X12_level ml_RL_41 rfl ⟨Nat.le_of_ble_eq_true rfl, Nat.le_of_ble_eq_true rfl⟩ rfl rfl rfl rfl (Nat.le_of_ble_eq_true rfl) dL_law_373 hcs ?_
  refine VL_icmp_eq (tgt := 2295) (pc := 376) C dL_law_376 (by decide) (fun _ => ?_) (fun hc => absurd rfl hc)
  exact kk _ _ _ _ _ hI
set_option maxRecDepth 100000 in
set_option maxHeartbeats 4000000 in
theorem law_c5 (C : zCL K cL_law RL 7 14 532 CE SL) (hz : LZ K μ) (hz2 : LZ K ν) (hX : LX K b N xs) (hN : 8 * t + 8 ≤ N) (hN2 : N ≤ 4096) (hcs : ce ≤ CE ∧ sl ≤ SL) (h : Inv SC SM t) (kk : ∀ (SC1 SM1 : zM) (o1 : Int64) (a5 a6 : Option Value), Inv SC1 SM1 (t + 1) → VC K 2295 [some (.ref b), some (.ref (μ 0)), some (.ref (ν 0)), some (.ref q), some (.int (J ((8 * t : Nat) : Int))), a5, a6] [] (lws μ ν K.2.1.2.2 q SC1 SM1 o1) ce sl) : VC K 381 [some (.ref b), some (.ref (μ 0)), some (.ref (ν 0)), some (.ref q), some (.int (J ((8 * t : Nat) : Int))), a5, a6] [] (lws μ ν K.2.1.2.2 q SC SM o) ce sl := by
  have ht : t < 512 := by omega
  refine VL_aload_n (pc := 381) C dL_law_381 rfl rfl ?_
  refine VL_scr (pc := 382) (j := 1) C hX hN hN2 (by decide) rfl rfl dL_law_382 dL_law_383 dL_law_385 dL_law_386 dL_law_387 ?_
  refine VL_scr (pc := 388) (j := 2) C hX hN hN2 (by decide) rfl rfl dL_law_388 dL_law_389 dL_law_391 dL_law_392 dL_law_393 ?_
  obtain ⟨r, SC1, SM1, e0, e2, hI⟩ := st_noise h (xs (8 * t + 1)) (xs (8 * t + 2))
  obtain ⟨e1, e3⟩ := vS_some e0
  subst e3
  refine VL_callX (T := TX11) (N := 15) (ro := some (.int r)) (As := [.int (xs (8 * t + 1)), .int (xs (8 * t + 2))]) (pc := 394) C (mX11_noise _ e1) hz zm_X11_noise zi_X11_noise ml_RL_42 rfl ⟨Nat.le_of_ble_eq_true rfl, Nat.le_of_ble_eq_true rfl⟩ rfl rfl rfl rfl (Nat.le_of_ble_eq_true rfl) dL_law_394 hcs ?_
  show VC K 397 [some (.ref b), some (.ref (μ 0)), some (.ref (ν 0)), some (.ref q), some (.int (J ((8 * t : Nat) : Int))), a5, a6] [.int r] (lws μ ν K.2.1.2.2 q SC SM o) ce sl
  refine VL_aload_n (pc := 397) C dL_law_397 rfl rfl ?_
  refine VL_scr (pc := 398) (j := 1) C hX hN hN2 (by decide) rfl rfl dL_law_398 dL_law_399 dL_law_401 dL_law_402 dL_law_403 ?_
  refine VL_scr (pc := 404) (j := 2) C hX hN hN2 (by decide) rfl rfl dL_law_404 dL_law_405 dL_law_407 dL_law_408 dL_law_409 ?_
  refine VL_callM (T := TX12) (N := 45) (ro := some (.int r)) (As := [.int (xs (8 * t + 1)), .int (xs (8 * t + 2))]) (pc := 410) C (mX12_noise _ e2) hz2 zm_X12_noise zi_X12_noise ml_RL_45 rfl ⟨Nat.le_of_ble_eq_true rfl, Nat.le_of_ble_eq_true rfl⟩ rfl rfl rfl rfl (Nat.le_of_ble_eq_true rfl) dL_law_410 hcs ?_
  refine VL_icmp_eq (tgt := 2295) (pc := 413) C dL_law_413 (by decide) (fun _ => ?_) (fun hc => absurd rfl hc)
  exact kk _ _ _ _ _ hI
set_option maxRecDepth 100000 in
set_option maxHeartbeats 4000000 in
theorem law_c6 (C : zCL K cL_law RL 7 14 532 CE SL) (hz : LZ K μ) (hz2 : LZ K ν) (hX : LX K b N xs) (hN : 8 * t + 8 ≤ N) (hN2 : N ≤ 4096) (hcs : ce ≤ CE ∧ sl ≤ SL) (h : Inv SC SM t) (kk : ∀ (SC1 SM1 : zM) (o1 : Int64) (a5 a6 : Option Value), Inv SC1 SM1 (t + 1) → VC K 2295 [some (.ref b), some (.ref (μ 0)), some (.ref (ν 0)), some (.ref q), some (.int (J ((8 * t : Nat) : Int))), a5, a6] [] (lws μ ν K.2.1.2.2 q SC1 SM1 o1) ce sl) : VC K 418 [some (.ref b), some (.ref (μ 0)), some (.ref (ν 0)), some (.ref q), some (.int (J ((8 * t : Nat) : Int))), a5, a6] [] (lws μ ν K.2.1.2.2 q SC SM o) ce sl := by
  have ht : t < 512 := by omega
  refine VL_aload_n (pc := 418) C dL_law_418 rfl rfl ?_
  refine VL_scr (pc := 419) (j := 1) C hX hN hN2 (by decide) rfl rfl dL_law_419 dL_law_420 dL_law_422 dL_law_423 dL_law_424 ?_
  refine VL_scr (pc := 425) (j := 2) C hX hN hN2 (by decide) rfl rfl dL_law_425 dL_law_426 dL_law_428 dL_law_429 dL_law_430 ?_
  obtain ⟨r, SC1, SM1, e0, e2, hI⟩ := st_sayer h ht (xs (8 * t + 1)) (xs (8 * t + 2))
  obtain ⟨e1, e3⟩ := vS_some e0
  subst e3
  refine VL_callX (T := TX11) (N := 15) (ro := some (.int r)) (As := [.int (xs (8 * t + 1)), .int (xs (8 * t + 2))]) (pc := 431) C (mX11_sayer _ e1) hz zm_X11_sayer zi_X11_sayer ml_RL_46 rfl ⟨Nat.le_of_ble_eq_true rfl, Nat.le_of_ble_eq_true rfl⟩ rfl rfl rfl rfl (Nat.le_of_ble_eq_true rfl) dL_law_431 hcs ?_
  show VC K 434 [some (.ref b), some (.ref (μ 0)), some (.ref (ν 0)), some (.ref q), some (.int (J ((8 * t : Nat) : Int))), a5, a6] [.int r] (lws μ ν K.2.1.2.2 q SC SM o) ce sl
  refine VL_aload_n (pc := 434) C dL_law_434 rfl rfl ?_
  refine VL_scr (pc := 435) (j := 1) C hX hN hN2 (by decide) rfl rfl dL_law_435 dL_law_436 dL_law_438 dL_law_439 dL_law_440 ?_
  refine VL_scr (pc := 441) (j := 2) C hX hN hN2 (by decide) rfl rfl dL_law_441 dL_law_442 dL_law_444 dL_law_445 dL_law_446 ?_
  refine VL_callM (T := TX12) (N := 45) (ro := some (.int r)) (As := [.int (xs (8 * t + 1)), .int (xs (8 * t + 2))]) (pc := 447) C (mX12_sayer _ e2) hz2 zm_X12_sayer zi_X12_sayer ml_RL_49 rfl ⟨Nat.le_of_ble_eq_true rfl, Nat.le_of_ble_eq_true rfl⟩ rfl rfl rfl rfl (Nat.le_of_ble_eq_true rfl) dL_law_447 hcs ?_
  refine VL_icmp_eq (tgt := 2295) (pc := 450) C dL_law_450 (by decide) (fun _ => ?_) (fun hc => absurd rfl hc)
  exact kk _ _ _ _ _ hI
set_option maxRecDepth 100000 in
set_option maxHeartbeats 4000000 in
theorem law_c7 (C : zCL K cL_law RL 7 14 532 CE SL) (hz : LZ K μ) (hz2 : LZ K ν) (hX : LX K b N xs) (hN : 8 * t + 8 ≤ N) (hN2 : N ≤ 4096) (hcs : ce ≤ CE ∧ sl ≤ SL) (h : Inv SC SM t) (kk : ∀ (SC1 SM1 : zM) (o1 : Int64) (a5 a6 : Option Value), Inv SC1 SM1 (t + 1) → VC K 2295 [some (.ref b), some (.ref (μ 0)), some (.ref (ν 0)), some (.ref q), some (.int (J ((8 * t : Nat) : Int))), a5, a6] [] (lws μ ν K.2.1.2.2 q SC1 SM1 o1) ce sl) : VC K 455 [some (.ref b), some (.ref (μ 0)), some (.ref (ν 0)), some (.ref q), some (.int (J ((8 * t : Nat) : Int))), a5, a6] [] (lws μ ν K.2.1.2.2 q SC SM o) ce sl := by
  have ht : t < 512 := by omega
  refine VL_aload_n (pc := 455) C dL_law_455 rfl rfl ?_
  refine VL_scr (pc := 456) (j := 1) C hX hN hN2 (by decide) rfl rfl dL_law_456 dL_law_457 dL_law_459 dL_law_460 dL_law_461 ?_
  obtain ⟨r, SC1, SM1, e1, e2, hI⟩ := st_rest h (xs (8 * t + 1))
  refine VL_callX (T := TX11) (N := 15) (ro := some (.int r)) (As := [.int (xs (8 * t + 1))]) (pc := 462) C (mX11_rest _ e1) hz zm_X11_rest zi_X11_rest ml_RL_50 rfl ⟨Nat.le_of_ble_eq_true rfl, Nat.le_of_ble_eq_true rfl⟩ rfl rfl rfl rfl (Nat.le_of_ble_eq_true rfl) dL_law_462 hcs ?_
  show VC K 465 [some (.ref b), some (.ref (μ 0)), some (.ref (ν 0)), some (.ref q), some (.int (J ((8 * t : Nat) : Int))), a5, a6] [.int r] (lws μ ν K.2.1.2.2 q SC1 SM o) ce sl
  refine VL_aload_n (pc := 465) C dL_law_465 rfl rfl ?_
  refine VL_scr (pc := 466) (j := 1) C hX hN hN2 (by decide) rfl rfl dL_law_466 dL_law_467 dL_law_469 dL_law_470 dL_law_471 ?_
  refine VL_callM (T := TX12) (N := 45) (ro := some (.int r)) (As := [.int (xs (8 * t + 1))]) (pc := 472) C (mX12_rest _ e2) hz2 zm_X12_rest zi_X12_rest ml_RL_54 rfl ⟨Nat.le_of_ble_eq_true rfl, Nat.le_of_ble_eq_true rfl⟩ rfl rfl rfl rfl (Nat.le_of_ble_eq_true rfl) dL_law_472 hcs ?_
  refine VL_icmp_eq (tgt := 2295) (pc := 475) C dL_law_475 (by decide) (fun _ => ?_) (fun hc => absurd rfl hc)
  exact kk _ _ _ _ _ hI
set_option maxRecDepth 100000 in
set_option maxHeartbeats 4000000 in
theorem law_c8 (C : zCL K cL_law RL 7 14 532 CE SL) (hz : LZ K μ) (hz2 : LZ K ν) (hX : LX K b N xs) (hN : 8 * t + 8 ≤ N) (hN2 : N ≤ 4096) (hcs : ce ≤ CE ∧ sl ≤ SL) (h : Inv SC SM t) (kk : ∀ (SC1 SM1 : zM) (o1 : Int64) (a5 a6 : Option Value), Inv SC1 SM1 (t + 1) → VC K 2295 [some (.ref b), some (.ref (μ 0)), some (.ref (ν 0)), some (.ref q), some (.int (J ((8 * t : Nat) : Int))), a5, a6] [] (lws μ ν K.2.1.2.2 q SC1 SM1 o1) ce sl) : VC K 480 [some (.ref b), some (.ref (μ 0)), some (.ref (ν 0)), some (.ref q), some (.int (J ((8 * t : Nat) : Int))), a5, a6] [] (lws μ ν K.2.1.2.2 q SC SM o) ce sl := by
  have ht : t < 512 := by omega
  refine VL_aload_n (pc := 480) C dL_law_480 rfl rfl ?_
  refine VL_scr (pc := 481) (j := 1) C hX hN hN2 (by decide) rfl rfl dL_law_481 dL_law_482 dL_law_484 dL_law_485 dL_law_486 ?_
  refine VL_scr (pc := 487) (j := 2) C hX hN hN2 (by decide) rfl rfl dL_law_487 dL_law_488 dL_law_490 dL_law_491 dL_law_492 ?_
  refine VL_scr (pc := 493) (j := 3) C hX hN hN2 (by decide) rfl rfl dL_law_493 dL_law_494 dL_law_496 dL_law_497 dL_law_498 ?_
  refine VL_scr (pc := 499) (j := 4) C hX hN hN2 (by decide) rfl rfl dL_law_499 dL_law_500 dL_law_502 dL_law_503 dL_law_504 ?_
  refine VL_scr (pc := 505) (j := 5) C hX hN hN2 (by decide) rfl rfl dL_law_505 dL_law_506 dL_law_508 dL_law_509 dL_law_510 ?_
  refine VL_scrb (pc := 511) (j := 6) C hX hN hN2 (by decide) rfl rfl dL_law_511 dL_law_512 dL_law_514 zk_b6 dL_law_516 dL_law_517 ?_
  refine VL_scrb (pc := 518) (j := 7) C hX hN hN2 (by decide) rfl rfl dL_law_518 dL_law_519 dL_law_521 zk_b7 dL_law_523 dL_law_524 ?_
  refine VL_if_eq (tgt := 532) (pc := 525) C dL_law_525 (by decide) (fun hb => ?_) (fun hb => ?_)
  · refine VL_iconst (pc := 532) C dL_law_532 kc_i_0 ?_
    obtain ⟨r, SC1, SM1, e1, e2, hI⟩ := st_odds h ht (xs (8 * t + 1)) (xs (8 * t + 2)) (xs (8 * t + 3)) (xs (8 * t + 4)) (xs (8 * t + 5)) (xs (8 * t + 6)) (0 : Int32)
    refine VL_callX (T := TX11) (N := 15) (ro := some (.int r)) (As := [.int (xs (8 * t + 1)), .int (xs (8 * t + 2)), .int (xs (8 * t + 3)), .int (xs (8 * t + 4)), .int (xs (8 * t + 5)), .int (xs (8 * t + 6)), .int (0 : Int32)]) (pc := 533) C (mX11_odds _ e1) hz zm_X11_odds zi_X11_odds ml_RL_55 rfl ⟨Nat.le_of_ble_eq_true rfl, Nat.le_of_ble_eq_true rfl⟩ rfl rfl rfl rfl (Nat.le_of_ble_eq_true rfl) dL_law_533 hcs ?_
    show VC K 536 [some (.ref b), some (.ref (μ 0)), some (.ref (ν 0)), some (.ref q), some (.int (J ((8 * t : Nat) : Int))), a5, a6] [.int r] (lws μ ν K.2.1.2.2 q SC1 SM o) ce sl
    refine VL_aload_n (pc := 536) C dL_law_536 rfl rfl ?_
    refine VL_scr (pc := 537) (j := 1) C hX hN hN2 (by decide) rfl rfl dL_law_537 dL_law_538 dL_law_540 dL_law_541 dL_law_542 ?_
    refine VL_scr (pc := 543) (j := 2) C hX hN hN2 (by decide) rfl rfl dL_law_543 dL_law_544 dL_law_546 dL_law_547 dL_law_548 ?_
    refine VL_scr (pc := 549) (j := 3) C hX hN hN2 (by decide) rfl rfl dL_law_549 dL_law_550 dL_law_552 dL_law_553 dL_law_554 ?_
    refine VL_scr (pc := 555) (j := 4) C hX hN hN2 (by decide) rfl rfl dL_law_555 dL_law_556 dL_law_558 dL_law_559 dL_law_560 ?_
    refine VL_scr (pc := 561) (j := 5) C hX hN hN2 (by decide) rfl rfl dL_law_561 dL_law_562 dL_law_564 dL_law_565 dL_law_566 ?_
    refine VL_scrb (pc := 567) (j := 6) C hX hN hN2 (by decide) rfl rfl dL_law_567 dL_law_568 dL_law_570 zk_b6 dL_law_572 dL_law_573 ?_
    refine VL_scrb (pc := 574) (j := 7) C hX hN hN2 (by decide) rfl rfl dL_law_574 dL_law_575 dL_law_577 zk_b7 dL_law_579 dL_law_580 ?_
    refine VL_if_eq (tgt := 588) (pc := 581) C dL_law_581 (by decide) (fun hc => ?_) (fun hc => absurd hb hc)
    refine VL_iconst (pc := 588) C dL_law_588 kc_i_0 ?_
    refine VL_callM (T := TX12) (N := 45) (ro := some (.int r)) (As := [.int (xs (8 * t + 1)), .int (xs (8 * t + 2)), .int (xs (8 * t + 3)), .int (xs (8 * t + 4)), .int (xs (8 * t + 5)), .int (xs (8 * t + 6)), .int (0 : Int32)]) (pc := 589) C (mX12_odds _ e2) hz2 zm_X12_odds zi_X12_odds ml_RL_59 rfl ⟨Nat.le_of_ble_eq_true rfl, Nat.le_of_ble_eq_true rfl⟩ rfl rfl rfl rfl (Nat.le_of_ble_eq_true rfl) dL_law_589 hcs ?_
    refine VL_icmp_eq (tgt := 2295) (pc := 592) C dL_law_592 (by decide) (fun _ => ?_) (fun hc => absurd rfl hc)
    exact kk _ _ _ _ _ hI
  · refine VL_iconst (pc := 528) C dL_law_528 kc_i_1 ?_
    refine VL_goto (tgt := 533) (pc := 529) C dL_law_529 (by decide) ?_
    obtain ⟨r, SC1, SM1, e1, e2, hI⟩ := st_odds h ht (xs (8 * t + 1)) (xs (8 * t + 2)) (xs (8 * t + 3)) (xs (8 * t + 4)) (xs (8 * t + 5)) (xs (8 * t + 6)) (1 : Int32)
    refine VL_callX (T := TX11) (N := 15) (ro := some (.int r)) (As := [.int (xs (8 * t + 1)), .int (xs (8 * t + 2)), .int (xs (8 * t + 3)), .int (xs (8 * t + 4)), .int (xs (8 * t + 5)), .int (xs (8 * t + 6)), .int (1 : Int32)]) (pc := 533) C (mX11_odds _ e1) hz zm_X11_odds zi_X11_odds ml_RL_55 rfl ⟨Nat.le_of_ble_eq_true rfl, Nat.le_of_ble_eq_true rfl⟩ rfl rfl rfl rfl (Nat.le_of_ble_eq_true rfl) dL_law_533 hcs ?_
    show VC K 536 [some (.ref b), some (.ref (μ 0)), some (.ref (ν 0)), some (.ref q), some (.int (J ((8 * t : Nat) : Int))), a5, a6] [.int r] (lws μ ν K.2.1.2.2 q SC1 SM o) ce sl
    refine VL_aload_n (pc := 536) C dL_law_536 rfl rfl ?_
    refine VL_scr (pc := 537) (j := 1) C hX hN hN2 (by decide) rfl rfl dL_law_537 dL_law_538 dL_law_540 dL_law_541 dL_law_542 ?_
    refine VL_scr (pc := 543) (j := 2) C hX hN hN2 (by decide) rfl rfl dL_law_543 dL_law_544 dL_law_546 dL_law_547 dL_law_548 ?_
    refine VL_scr (pc := 549) (j := 3) C hX hN hN2 (by decide) rfl rfl dL_law_549 dL_law_550 dL_law_552 dL_law_553 dL_law_554 ?_
    refine VL_scr (pc := 555) (j := 4) C hX hN hN2 (by decide) rfl rfl dL_law_555 dL_law_556 dL_law_558 dL_law_559 dL_law_560 ?_
    refine VL_scr (pc := 561) (j := 5) C hX hN hN2 (by decide) rfl rfl dL_law_561 dL_law_562 dL_law_564 dL_law_565 dL_law_566 ?_
    refine VL_scrb (pc := 567) (j := 6) C hX hN hN2 (by decide) rfl rfl dL_law_567 dL_law_568 dL_law_570 zk_b6 dL_law_572 dL_law_573 ?_
    refine VL_scrb (pc := 574) (j := 7) C hX hN hN2 (by decide) rfl rfl dL_law_574 dL_law_575 dL_law_577 zk_b7 dL_law_579 dL_law_580 ?_
    refine VL_if_eq (tgt := 588) (pc := 581) C dL_law_581 (by decide) (fun hc => absurd hc hb) (fun hc => ?_)
    refine VL_iconst (pc := 584) C dL_law_584 kc_i_1 ?_
    refine VL_goto (tgt := 589) (pc := 585) C dL_law_585 (by decide) ?_
    refine VL_callM (T := TX12) (N := 45) (ro := some (.int r)) (As := [.int (xs (8 * t + 1)), .int (xs (8 * t + 2)), .int (xs (8 * t + 3)), .int (xs (8 * t + 4)), .int (xs (8 * t + 5)), .int (xs (8 * t + 6)), .int (1 : Int32)]) (pc := 589) C (mX12_odds _ e2) hz2 zm_X12_odds zi_X12_odds ml_RL_59 rfl ⟨Nat.le_of_ble_eq_true rfl, Nat.le_of_ble_eq_true rfl⟩ rfl rfl rfl rfl (Nat.le_of_ble_eq_true rfl) dL_law_589 hcs ?_
    refine VL_icmp_eq (tgt := 2295) (pc := 592) C dL_law_592 (by decide) (fun _ => ?_) (fun hc => absurd rfl hc)
    exact kk _ _ _ _ _ hI
set_option maxRecDepth 100000 in
set_option maxHeartbeats 4000000 in
theorem law_c9 (C : zCL K cL_law RL 7 14 532 CE SL) (hz : LZ K μ) (hz2 : LZ K ν) (hX : LX K b N xs) (hN : 8 * t + 8 ≤ N) (hN2 : N ≤ 4096) (hcs : ce ≤ CE ∧ sl ≤ SL) (h : Inv SC SM t) (kk : ∀ (SC1 SM1 : zM) (o1 : Int64) (a5 a6 : Option Value), Inv SC1 SM1 (t + 1) → VC K 2295 [some (.ref b), some (.ref (μ 0)), some (.ref (ν 0)), some (.ref q), some (.int (J ((8 * t : Nat) : Int))), a5, a6] [] (lws μ ν K.2.1.2.2 q SC1 SM1 o1) ce sl) : VC K 597 [some (.ref b), some (.ref (μ 0)), some (.ref (ν 0)), some (.ref q), some (.int (J ((8 * t : Nat) : Int))), a5, a6] [] (lws μ ν K.2.1.2.2 q SC SM o) ce sl := by
  have ht : t < 512 := by omega
  refine VL_aload_n (pc := 597) C dL_law_597 rfl rfl ?_
  refine VL_scr (pc := 598) (j := 1) C hX hN hN2 (by decide) rfl rfl dL_law_598 dL_law_599 dL_law_601 dL_law_602 dL_law_603 ?_
  obtain ⟨r, SC1, SM1, e1, e2, hI⟩ := st_seed h (xs (8 * t + 1))
  refine VL_callX (T := TX11) (N := 15) (ro := some (.int r)) (As := [.int (xs (8 * t + 1))]) (pc := 604) C (mX11_seed _ e1) hz zm_X11_seed zi_X11_seed ml_RL_60 rfl ⟨Nat.le_of_ble_eq_true rfl, Nat.le_of_ble_eq_true rfl⟩ rfl rfl rfl rfl (Nat.le_of_ble_eq_true rfl) dL_law_604 hcs ?_
  show VC K 607 [some (.ref b), some (.ref (μ 0)), some (.ref (ν 0)), some (.ref q), some (.int (J ((8 * t : Nat) : Int))), a5, a6] [.int r] (lws μ ν K.2.1.2.2 q SC1 SM o) ce sl
  refine VL_aload_n (pc := 607) C dL_law_607 rfl rfl ?_
  refine VL_scr (pc := 608) (j := 1) C hX hN hN2 (by decide) rfl rfl dL_law_608 dL_law_609 dL_law_611 dL_law_612 dL_law_613 ?_
  refine VL_callM (T := TX12) (N := 45) (ro := some (.int r)) (As := [.int (xs (8 * t + 1))]) (pc := 614) C (mX12_seed _ e2) hz2 zm_X12_seed zi_X12_seed ml_RL_63 rfl ⟨Nat.le_of_ble_eq_true rfl, Nat.le_of_ble_eq_true rfl⟩ rfl rfl rfl rfl (Nat.le_of_ble_eq_true rfl) dL_law_614 hcs ?_
  refine VL_icmp_eq (tgt := 2295) (pc := 617) C dL_law_617 (by decide) (fun _ => ?_) (fun hc => absurd rfl hc)
  exact kk _ _ _ _ _ hI
set_option maxRecDepth 100000 in
set_option maxHeartbeats 4000000 in
theorem law_c10 (C : zCL K cL_law RL 7 14 532 CE SL) (hz : LZ K μ) (hz2 : LZ K ν) (hX : LX K b N xs) (hN : 8 * t + 8 ≤ N) (hN2 : N ≤ 4096) (hcs : ce ≤ CE ∧ sl ≤ SL) (h : Inv SC SM t) (kk : ∀ (SC1 SM1 : zM) (o1 : Int64) (a5 a6 : Option Value), Inv SC1 SM1 (t + 1) → VC K 2295 [some (.ref b), some (.ref (μ 0)), some (.ref (ν 0)), some (.ref q), some (.int (J ((8 * t : Nat) : Int))), a5, a6] [] (lws μ ν K.2.1.2.2 q SC1 SM1 o1) ce sl) : VC K 622 [some (.ref b), some (.ref (μ 0)), some (.ref (ν 0)), some (.ref q), some (.int (J ((8 * t : Nat) : Int))), a5, a6] [] (lws μ ν K.2.1.2.2 q SC SM o) ce sl := by
  have ht : t < 512 := by omega
  refine VL_aload_n (pc := 622) C dL_law_622 rfl rfl ?_
  refine VL_scr (pc := 623) (j := 1) C hX hN hN2 (by decide) rfl rfl dL_law_623 dL_law_624 dL_law_626 dL_law_627 dL_law_628 ?_
  refine VL_scr (pc := 629) (j := 2) C hX hN hN2 (by decide) rfl rfl dL_law_629 dL_law_630 dL_law_632 dL_law_633 dL_law_634 ?_
  refine VL_scr (pc := 635) (j := 3) C hX hN hN2 (by decide) rfl rfl dL_law_635 dL_law_636 dL_law_638 dL_law_639 dL_law_640 ?_
  refine VL_scr (pc := 641) (j := 4) C hX hN hN2 (by decide) rfl rfl dL_law_641 dL_law_642 dL_law_644 dL_law_645 dL_law_646 ?_
  refine VL_scr (pc := 647) (j := 5) C hX hN hN2 (by decide) rfl rfl dL_law_647 dL_law_648 dL_law_650 dL_law_651 dL_law_652 ?_
  obtain ⟨r, SC1, SM1, e1, e2, hI⟩ := st_trial h ht (xs (8 * t + 1)) (xs (8 * t + 2)) (xs (8 * t + 3)) (xs (8 * t + 4)) (xs (8 * t + 5))
  refine VL_callX (T := TX11) (N := 15) (ro := some (.int r)) (As := [.int (xs (8 * t + 1)), .int (xs (8 * t + 2)), .int (xs (8 * t + 3)), .int (xs (8 * t + 4)), .int (xs (8 * t + 5))]) (pc := 653) C (mX11_trial _ e1) hz zm_X11_trial zi_X11_trial ml_RL_64 rfl ⟨Nat.le_of_ble_eq_true rfl, Nat.le_of_ble_eq_true rfl⟩ rfl rfl rfl rfl (Nat.le_of_ble_eq_true rfl) dL_law_653 hcs ?_
  show VC K 656 [some (.ref b), some (.ref (μ 0)), some (.ref (ν 0)), some (.ref q), some (.int (J ((8 * t : Nat) : Int))), a5, a6] [.int r] (lws μ ν K.2.1.2.2 q SC1 SM o) ce sl
  refine VL_aload_n (pc := 656) C dL_law_656 rfl rfl ?_
  refine VL_scr (pc := 657) (j := 1) C hX hN hN2 (by decide) rfl rfl dL_law_657 dL_law_658 dL_law_660 dL_law_661 dL_law_662 ?_
  refine VL_scr (pc := 663) (j := 2) C hX hN hN2 (by decide) rfl rfl dL_law_663 dL_law_664 dL_law_666 dL_law_667 dL_law_668 ?_
  refine VL_scr (pc := 669) (j := 3) C hX hN hN2 (by decide) rfl rfl dL_law_669 dL_law_670 dL_law_672 dL_law_673 dL_law_674 ?_
  refine VL_scr (pc := 675) (j := 4) C hX hN hN2 (by decide) rfl rfl dL_law_675 dL_law_676 dL_law_678 dL_law_679 dL_law_680 ?_
  refine VL_scr (pc := 681) (j := 5) C hX hN hN2 (by decide) rfl rfl dL_law_681 dL_law_682 dL_law_684 dL_law_685 dL_law_686 ?_
  refine VL_callM (T := TX12) (N := 45) (ro := some (.int r)) (As := [.int (xs (8 * t + 1)), .int (xs (8 * t + 2)), .int (xs (8 * t + 3)), .int (xs (8 * t + 4)), .int (xs (8 * t + 5))]) (pc := 687) C (mX12_trial _ e2) hz2 zm_X12_trial zi_X12_trial ml_RL_67 rfl ⟨Nat.le_of_ble_eq_true rfl, Nat.le_of_ble_eq_true rfl⟩ rfl rfl rfl rfl (Nat.le_of_ble_eq_true rfl) dL_law_687 hcs ?_
  refine VL_icmp_eq (tgt := 2295) (pc := 690) C dL_law_690 (by decide) (fun _ => ?_) (fun hc => absurd rfl hc)
  exact kk _ _ _ _ _ hI
set_option maxRecDepth 100000 in
set_option maxHeartbeats 4000000 in
theorem law_c11 (C : zCL K cL_law RL 7 14 532 CE SL) (hz : LZ K μ) (hz2 : LZ K ν) (hX : LX K b N xs) (hN : 8 * t + 8 ≤ N) (hN2 : N ≤ 4096) (hcs : ce ≤ CE ∧ sl ≤ SL) (h : Inv SC SM t) (kk : ∀ (SC1 SM1 : zM) (o1 : Int64) (a5 a6 : Option Value), Inv SC1 SM1 (t + 1) → VC K 2295 [some (.ref b), some (.ref (μ 0)), some (.ref (ν 0)), some (.ref q), some (.int (J ((8 * t : Nat) : Int))), a5, a6] [] (lws μ ν K.2.1.2.2 q SC1 SM1 o1) ce sl) : VC K 695 [some (.ref b), some (.ref (μ 0)), some (.ref (ν 0)), some (.ref q), some (.int (J ((8 * t : Nat) : Int))), a5, a6] [] (lws μ ν K.2.1.2.2 q SC SM o) ce sl := by
  have ht : t < 512 := by omega
  refine VL_aload_n (pc := 695) C dL_law_695 rfl rfl ?_
  refine VL_scr (pc := 696) (j := 1) C hX hN hN2 (by decide) rfl rfl dL_law_696 dL_law_697 dL_law_699 dL_law_700 dL_law_701 ?_
  refine VL_scr (pc := 702) (j := 2) C hX hN hN2 (by decide) rfl rfl dL_law_702 dL_law_703 dL_law_705 dL_law_706 dL_law_707 ?_
  refine VL_scr (pc := 708) (j := 3) C hX hN hN2 (by decide) rfl rfl dL_law_708 dL_law_709 dL_law_711 dL_law_712 dL_law_713 ?_
  refine VL_scr (pc := 714) (j := 4) C hX hN hN2 (by decide) rfl rfl dL_law_714 dL_law_715 dL_law_717 dL_law_718 dL_law_719 ?_
  refine VL_scr (pc := 720) (j := 5) C hX hN hN2 (by decide) rfl rfl dL_law_720 dL_law_721 dL_law_723 dL_law_724 dL_law_725 ?_
  refine VL_scrb (pc := 726) (j := 6) C hX hN hN2 (by decide) rfl rfl dL_law_726 dL_law_727 dL_law_729 zk_b6 dL_law_731 dL_law_732 ?_
  obtain ⟨r, SC1, SM1, e1, e2, hI⟩ := st_tell h ht (xs (8 * t + 1)) (xs (8 * t + 2)) (xs (8 * t + 3)) (xs (8 * t + 4)) (xs (8 * t + 5)) (xs (8 * t + 6))
  refine VL_callX (T := TX11) (N := 15) (ro := some (.int r)) (As := [.int (xs (8 * t + 1)), .int (xs (8 * t + 2)), .int (xs (8 * t + 3)), .int (xs (8 * t + 4)), .int (xs (8 * t + 5)), .int (xs (8 * t + 6))]) (pc := 733) C (mX11_tell _ e1) hz zm_X11_tell zi_X11_tell ml_RL_68 rfl ⟨Nat.le_of_ble_eq_true rfl, Nat.le_of_ble_eq_true rfl⟩ rfl rfl rfl rfl (Nat.le_of_ble_eq_true rfl) dL_law_733 hcs ?_
  show VC K 736 [some (.ref b), some (.ref (μ 0)), some (.ref (ν 0)), some (.ref q), some (.int (J ((8 * t : Nat) : Int))), a5, a6] [.int r] (lws μ ν K.2.1.2.2 q SC1 SM o) ce sl
  refine VL_aload_n (pc := 736) C dL_law_736 rfl rfl ?_
  refine VL_scr (pc := 737) (j := 1) C hX hN hN2 (by decide) rfl rfl dL_law_737 dL_law_738 dL_law_740 dL_law_741 dL_law_742 ?_
  refine VL_scr (pc := 743) (j := 2) C hX hN hN2 (by decide) rfl rfl dL_law_743 dL_law_744 dL_law_746 dL_law_747 dL_law_748 ?_
  refine VL_scr (pc := 749) (j := 3) C hX hN hN2 (by decide) rfl rfl dL_law_749 dL_law_750 dL_law_752 dL_law_753 dL_law_754 ?_
  refine VL_scr (pc := 755) (j := 4) C hX hN hN2 (by decide) rfl rfl dL_law_755 dL_law_756 dL_law_758 dL_law_759 dL_law_760 ?_
  refine VL_scr (pc := 761) (j := 5) C hX hN hN2 (by decide) rfl rfl dL_law_761 dL_law_762 dL_law_764 dL_law_765 dL_law_766 ?_
  refine VL_scrb (pc := 767) (j := 6) C hX hN hN2 (by decide) rfl rfl dL_law_767 dL_law_768 dL_law_770 zk_b6 dL_law_772 dL_law_773 ?_
  refine VL_callM (T := TX12) (N := 45) (ro := some (.int r)) (As := [.int (xs (8 * t + 1)), .int (xs (8 * t + 2)), .int (xs (8 * t + 3)), .int (xs (8 * t + 4)), .int (xs (8 * t + 5)), .int (xs (8 * t + 6))]) (pc := 774) C (mX12_tell _ e2) hz2 zm_X12_tell zi_X12_tell ml_RL_72 rfl ⟨Nat.le_of_ble_eq_true rfl, Nat.le_of_ble_eq_true rfl⟩ rfl rfl rfl rfl (Nat.le_of_ble_eq_true rfl) dL_law_774 hcs ?_
  refine VL_icmp_eq (tgt := 2295) (pc := 777) C dL_law_777 (by decide) (fun _ => ?_) (fun hc => absurd rfl hc)
  exact kk _ _ _ _ _ hI
set_option maxRecDepth 100000 in
set_option maxHeartbeats 4000000 in
theorem law_c12 (C : zCL K cL_law RL 7 14 532 CE SL) (hz : LZ K μ) (hz2 : LZ K ν) (hX : LX K b N xs) (hN : 8 * t + 8 ≤ N) (hN2 : N ≤ 4096) (hcs : ce ≤ CE ∧ sl ≤ SL) (h : Inv SC SM t) (kk : ∀ (SC1 SM1 : zM) (o1 : Int64) (a5 a6 : Option Value), Inv SC1 SM1 (t + 1) → VC K 2295 [some (.ref b), some (.ref (μ 0)), some (.ref (ν 0)), some (.ref q), some (.int (J ((8 * t : Nat) : Int))), a5, a6] [] (lws μ ν K.2.1.2.2 q SC1 SM1 o1) ce sl) : VC K 782 [some (.ref b), some (.ref (μ 0)), some (.ref (ν 0)), some (.ref q), some (.int (J ((8 * t : Nat) : Int))), a5, a6] [] (lws μ ν K.2.1.2.2 q SC SM o) ce sl := by
  have ht : t < 512 := by omega
  refine VL_aload_n (pc := 782) C dL_law_782 rfl rfl ?_
  refine VL_scr (pc := 783) (j := 1) C hX hN hN2 (by decide) rfl rfl dL_law_783 dL_law_784 dL_law_786 dL_law_787 dL_law_788 ?_
  refine VL_scr (pc := 789) (j := 2) C hX hN hN2 (by decide) rfl rfl dL_law_789 dL_law_790 dL_law_792 dL_law_793 dL_law_794 ?_
  obtain ⟨r, SC1, SM1, e1, e2, hI⟩ := st_run h ht (xs (8 * t + 1)) (xs (8 * t + 2))
  refine VL_callX (T := TX11) (N := 15) (ro := some (.int r)) (As := [.int (xs (8 * t + 1)), .int (xs (8 * t + 2))]) (pc := 795) C (mX11_run _ e1) hz zm_X11_run zi_X11_run ml_RL_73 rfl ⟨Nat.le_of_ble_eq_true rfl, Nat.le_of_ble_eq_true rfl⟩ rfl rfl rfl rfl (Nat.le_of_ble_eq_true rfl) dL_law_795 hcs ?_
  show VC K 798 [some (.ref b), some (.ref (μ 0)), some (.ref (ν 0)), some (.ref q), some (.int (J ((8 * t : Nat) : Int))), a5, a6] [.int r] (lws μ ν K.2.1.2.2 q SC1 SM o) ce sl
  refine VL_aload_n (pc := 798) C dL_law_798 rfl rfl ?_
  refine VL_scr (pc := 799) (j := 1) C hX hN hN2 (by decide) rfl rfl dL_law_799 dL_law_800 dL_law_802 dL_law_803 dL_law_804 ?_
  refine VL_scr (pc := 805) (j := 2) C hX hN hN2 (by decide) rfl rfl dL_law_805 dL_law_806 dL_law_808 dL_law_809 dL_law_810 ?_
  refine VL_callM (T := TX12) (N := 45) (ro := some (.int r)) (As := [.int (xs (8 * t + 1)), .int (xs (8 * t + 2))]) (pc := 811) C (mX12_run _ e2) hz2 zm_X12_run zi_X12_run ml_RL_76 rfl ⟨Nat.le_of_ble_eq_true rfl, Nat.le_of_ble_eq_true rfl⟩ rfl rfl rfl rfl (Nat.le_of_ble_eq_true rfl) dL_law_811 hcs ?_
  refine VL_icmp_eq (tgt := 2295) (pc := 814) C dL_law_814 (by decide) (fun _ => ?_) (fun hc => absurd rfl hc)
  exact kk _ _ _ _ _ hI
set_option maxRecDepth 100000 in
set_option maxHeartbeats 4000000 in
theorem law_c13 (C : zCL K cL_law RL 7 14 532 CE SL) (hz : LZ K μ) (hz2 : LZ K ν) (hX : LX K b N xs) (hN : 8 * t + 8 ≤ N) (hN2 : N ≤ 4096) (hcs : ce ≤ CE ∧ sl ≤ SL) (h : Inv SC SM t) (kk : ∀ (SC1 SM1 : zM) (o1 : Int64) (a5 a6 : Option Value), Inv SC1 SM1 (t + 1) → VC K 2295 [some (.ref b), some (.ref (μ 0)), some (.ref (ν 0)), some (.ref q), some (.int (J ((8 * t : Nat) : Int))), a5, a6] [] (lws μ ν K.2.1.2.2 q SC1 SM1 o1) ce sl) : VC K 819 [some (.ref b), some (.ref (μ 0)), some (.ref (ν 0)), some (.ref q), some (.int (J ((8 * t : Nat) : Int))), a5, a6] [] (lws μ ν K.2.1.2.2 q SC SM o) ce sl := by
  have ht : t < 512 := by omega
  refine VL_aload_n (pc := 819) C dL_law_819 rfl rfl ?_
  refine VL_scr (pc := 820) (j := 1) C hX hN hN2 (by decide) rfl rfl dL_law_820 dL_law_821 dL_law_823 dL_law_824 dL_law_825 ?_
  refine VL_scr (pc := 826) (j := 2) C hX hN hN2 (by decide) rfl rfl dL_law_826 dL_law_827 dL_law_829 dL_law_830 dL_law_831 ?_
  refine VL_scr (pc := 832) (j := 3) C hX hN hN2 (by decide) rfl rfl dL_law_832 dL_law_833 dL_law_835 dL_law_836 dL_law_837 ?_
  refine VL_scr (pc := 838) (j := 4) C hX hN hN2 (by decide) rfl rfl dL_law_838 dL_law_839 dL_law_841 dL_law_842 dL_law_843 ?_
  obtain ⟨r, SC1, SM1, e1, e2, hI⟩ := st_climb h ht (xs (8 * t + 1)) (xs (8 * t + 2)) (xs (8 * t + 3)) (xs (8 * t + 4))
  refine VL_callX (T := TX11) (N := 15) (ro := some (.int r)) (As := [.int (xs (8 * t + 1)), .int (xs (8 * t + 2)), .int (xs (8 * t + 3)), .int (xs (8 * t + 4))]) (pc := 844) C (mX11_climb _ e1) hz zm_X11_climb zi_X11_climb ml_RL_77 rfl ⟨Nat.le_of_ble_eq_true rfl, Nat.le_of_ble_eq_true rfl⟩ rfl rfl rfl rfl (Nat.le_of_ble_eq_true rfl) dL_law_844 hcs ?_
  show VC K 847 [some (.ref b), some (.ref (μ 0)), some (.ref (ν 0)), some (.ref q), some (.int (J ((8 * t : Nat) : Int))), a5, a6] [.int r] (lws μ ν K.2.1.2.2 q SC1 SM o) ce sl
  refine VL_aload_n (pc := 847) C dL_law_847 rfl rfl ?_
  refine VL_scr (pc := 848) (j := 1) C hX hN hN2 (by decide) rfl rfl dL_law_848 dL_law_849 dL_law_851 dL_law_852 dL_law_853 ?_
  refine VL_scr (pc := 854) (j := 2) C hX hN hN2 (by decide) rfl rfl dL_law_854 dL_law_855 dL_law_857 dL_law_858 dL_law_859 ?_
  refine VL_scr (pc := 860) (j := 3) C hX hN hN2 (by decide) rfl rfl dL_law_860 dL_law_861 dL_law_863 dL_law_864 dL_law_865 ?_
  refine VL_scr (pc := 866) (j := 4) C hX hN hN2 (by decide) rfl rfl dL_law_866 dL_law_867 dL_law_869 dL_law_870 dL_law_871 ?_
  refine VL_callM (T := TX12) (N := 45) (ro := some (.int r)) (As := [.int (xs (8 * t + 1)), .int (xs (8 * t + 2)), .int (xs (8 * t + 3)), .int (xs (8 * t + 4))]) (pc := 872) C (mX12_climb _ e2) hz2 zm_X12_climb zi_X12_climb ml_RL_81 rfl ⟨Nat.le_of_ble_eq_true rfl, Nat.le_of_ble_eq_true rfl⟩ rfl rfl rfl rfl (Nat.le_of_ble_eq_true rfl) dL_law_872 hcs ?_
  refine VL_icmp_eq (tgt := 2295) (pc := 875) C dL_law_875 (by decide) (fun _ => ?_) (fun hc => absurd rfl hc)
  exact kk _ _ _ _ _ hI
end LAWC
