/-! The law's led returns 0 and writes the answer, or returns 1. -/
set_option maxRecDepth 100000 in
theorem ld_ret {l : Launch} {μ ν : Nat → Nat} {q : Nat} {SC SM : zM} {o : Int64} {p0 i0 v r : Int32} (h : lRow SC p0 i0 = some v) (hv : ¬ v < 0) (ha : gX1_rowAt SC v 5 = some r) : ldMet l μ ν q SC SM o [.ref (μ 0), .int p0, .int i0, .ref q] r.toInt64 0 0 0 := by
  intro D cA sz
  refine zofWH (cc := cL_led) (maxL := 5) (ret := some .int) (hh := ldH) (by decide +kernel) rfl ?_
  intro p e s m args below meth c s₁ B hml hv0
  obtain ⟨rfl, hsz, hP, hK, hD0, hZ, hN, hX⟩ := hv0
  subst hsz
  have hts := atoms_spec (ws := Cond.codeWith yL_led cL_led 5 (some .int) ldH :: zT) B.pre
  have hts2 : ∀ w ∈ zT, w.before _ s = true := fun w hw => hts w (List.mem_cons_of_mem _ hw)
  have hown : s.vm.findClass yL_led.cls = some m.cls := findClass_of_methodNamed B.named
  have hlk := B.notSynchronized
  have hr : meth.sig.returnType = some .int := B.returns
  rw [lg_entry_eq]
  let K : zKC := ((p, l, e, { frames := 7, cells := 0, slots := 0, locals := 105 }, s, m, ([.ref (μ 0), .int p0, .int i0, .ref q] : List Value).toArray, below, meth, c), (D, va_A (lws μ ν cA q SC SM o) s.heap.size, cA), (5, MQ below (lwQ D cA μ ν q s.heap.size SC SM o r.toInt64 0) ([.ref (μ 0), .int p0, .int i0, .ref q] : List Value).toArray s 0 0 (va_A (lws μ ν cA q SC SM o) s.heap.size)))
  have C : zCL K cL_led RL 5 7 105 0 0 := ⟨B.exec, B.bytes, hts2, hown, hK, fun q h => Or.inr h, hml, rfl, rfl, rfl, rfl, hX, rfl⟩
  have hz : LZ K μ := hZ
  have hw : VC K 0 [some (.ref (μ 0)), some (.int p0), some (.int i0), some (.ref q), none] [] (lws μ ν K.2.1.2.2 q SC SM o) 0 0 := by
    refine VL_aload_n (pc := 0) C dL_led_0 rfl rfl ?_
    refine VL_iconst (pc := 1) C dL_led_1 (v := J 0) rfl ?_
    refine VL_aload_n (pc := 2) C dL_led_2 rfl rfl ?_
    refine VL_iload_n (pc := 3) C dL_led_3 rfl rfl ?_
    refine VL_iload_n (pc := 4) C dL_led_4 rfl rfl ?_
    refine VL_callX (T := TX11) (N := 15) (ro := some (.int r)) (As := [.int p0, .int i0]) (pc := 5) C (mX11_led _ h hv ha) hz zm_X11_led zi_X11_led ml_RL_7 rfl ⟨Nat.le_of_ble_eq_true rfl, Nat.le_of_ble_eq_true rfl⟩ rfl rfl rfl rfl (Nat.le_of_ble_eq_true rfl) dL_led_5 ⟨Nat.le_refl _, Nat.le_refl _⟩ ?_
    show VC K 8 [some (.ref (μ 0)), some (.int p0), some (.int i0), some (.ref q), none] [.int r, .int (J 0), .ref q] (lws μ ν K.2.1.2.2 q SC SM o) 0 0
    refine VL_i2l (pc := 8) C dL_led_8 ?_
    refine VL_last (pc := 9) (x := r.toInt64) C (by decide) dL_led_9 ?_
    refine VL_goto (tgt := 17) (pc := 10) C dL_led_10 (by decide) ?_
    refine VL_iconst (pc := 17) C dL_led_17 (v := 0) rfl ?_
    intro H locs ls hP1 hD1 hS1 hl1
    exact W.zret B.exec B.bytes hr rfl (fun t ht hW => ⟨rfl, by rw [ht]; exact hP1, hS1.F ht⟩) hS1.2.2 dL_led_18 hlk
  have hl := zent_lv (μ := zid) (n := 5) (av := [.ref (μ 0), .int p0, .int i0, .ref q]) (Nat.le_of_ble_eq_true rfl)
  rw [zid_st] at hl
  exact hw s.heap [] _ hP hD0.self va_S.rf hl
set_option maxRecDepth 100000 in
theorem ld_thr {l : Launch} (hlf : l.stackTraces = false) {μ ν : Nat → Nat} {q : Nat} {SC SM : zM} {o : Int64} {p0 i0 v : Int32} (h : lRow SC p0 i0 = some v) (hv : v < 0) : ldMet l μ ν q SC SM o [.ref (μ 0), .int p0, .int i0, .ref q] o 1 1 6 := by
  intro D cA sz
  refine zofWH (cc := cL_led) (maxL := 5) (ret := some .int) (hh := ldH) (by decide +kernel) rfl ?_
  intro p e s m args below meth c s₁ B hml hv0
  obtain ⟨rfl, hsz, hP, hK, hD0, hZ, hN, hX⟩ := hv0
  subst hsz
  have hts := atoms_spec (ws := Cond.codeWith yL_led cL_led 5 (some .int) ldH :: zT) B.pre
  have hts2 : ∀ w ∈ zT, w.before _ s = true := fun w hw => hts w (List.mem_cons_of_mem _ hw)
  have hown : s.vm.findClass yL_led.cls = some m.cls := findClass_of_methodNamed B.named
  have htab : c.exceptionTable.toList = tableOf ldH := vx_table (x := yL_led) B (hts _ List.mem_cons_self)
  have hlk := B.notSynchronized
  have hr : meth.sig.returnType = some .int := B.returns
  rw [lg_entry_eq]
  let K : zKC := ((p, l, e, { frames := 7, cells := 1, slots := 6, locals := 105 }, s, m, ([.ref (μ 0), .int p0, .int i0, .ref q] : List Value).toArray, below, meth, c), (D, va_A (lws μ ν cA q SC SM o) s.heap.size, cA), (5, MQ below (lwQ D cA μ ν q s.heap.size SC SM o o 1) ([.ref (μ 0), .int p0, .int i0, .ref q] : List Value).toArray s 1 6 (va_A (lws μ ν cA q SC SM o) s.heap.size)))
  have C : zCL K cL_led RL 5 7 105 1 6 := ⟨B.exec, B.bytes, hts2, hown, hK, fun q h => Or.inr h, hml, rfl, rfl, rfl, rfl, hX, rfl⟩
  have hw : VC K 0 [some (.ref (μ 0)), some (.int p0), some (.int i0), some (.ref q), none] [] (lws μ ν K.2.1.2.2 q SC SM o) 0 0 := by
    refine VL_aload_n (pc := 0) C dL_led_0 rfl rfl ?_
    refine VL_iconst (pc := 1) C dL_led_1 (v := J 0) rfl ?_
    refine VL_aload_n (pc := 2) C dL_led_2 rfl rfl ?_
    refine VL_iload_n (pc := 3) C dL_led_3 rfl rfl ?_
    refine VL_iload_n (pc := 4) C dL_led_4 rfl rfl ?_
    have kx : ∀ q9 : Nat, VC K 13 [some (.ref (μ 0)), some (.int p0), some (.int i0), some (.ref q), none] [.ref q9] (lws μ ν K.2.1.2.2 q SC SM o) 1 6 := fun q9 => by
      refine VL_astore (pc := 13) (L' := [some (.ref (μ 0)), some (.int p0), some (.int i0), some (.ref q), some (.ref q9)]) C dL_led_13 (by decide) rfl ?_
      refine VL_iconst (pc := 15) C dL_led_15 (v := 1) rfl ?_
      intro H locs ls hP1 hD1 hS1 hl1
      exact W.zret B.exec B.bytes hr rfl (fun t ht hW => ⟨rfl, by rw [ht]; exact hP1, hS1.F ht⟩) hS1.2.2 dL_led_16 hlk
    intro H locs ls hP1 hD1 hS1 hl1
    obtain ⟨-, -, hPB, hDB⟩ := zmid_x (X := []) (B := zws cW μ cA SC) hP1 hD1
    have hAA : ∀ z, va_A (zws cW μ cA SC) H.size z → va_A (lws μ ν cA q SC SM o) s.heap.size z := by
      intro z h
      rcases h with ⟨k, e, h⟩ | h
      · exact hDB.2 k (z, e) h
      · exact Or.inr (Nat.le_trans hS1.1 h)
    have hcw : CallW { frames := 7, cells := 1, slots := 6, locals := 105 } s ([.ref (μ 0), .int p0, .int i0, .ref q] : List Value).toArray RL yX11_led.cls 7 yX11_led cX11_led 4 (some .int) (Cond.code yX11_led cX11_led 4 (some .int) :: zT) { frames := 6, cells := 1, slots := 6, locals := 82 } 1 6 2 :=
      cwV 2 hts2 (zTgood (fun w hw => by
        rcases List.mem_append.mp hw with h | h
        · rcases List.mem_cons.mp h with rfl | h
          · exact ml_RL_7
          · rcases List.mem_cons.mp h with rfl | h
            · exact zi_X11_led.1
            · rcases List.mem_cons.mp h with rfl | h
              · exact zi_X11_led.2
              · rcases List.mem_cons.mp h with rfl | h
                · exact zm_X11_led.2.1
                · cases h
        · rcases List.mem_cons.mp h with rfl | h
          · exact zm_X11_led.1
          · exact h)) rfl rfl rfl ⟨rfl, zm_X11_led.2.2⟩ ⟨Nat.le_of_ble_eq_true rfl, Nat.le_of_ble_eq_true rfl⟩
    have hrun := vx_runV (p := p) (e := e) (R := { frames := 7, cells := 1, slots := 6, locals := 105 }) (below := below) (meth := meth) (H := H) (locs := locs) (cells := 0) (slots := 0) (b := μ 0) (As := [.int p0, .int i0]) (rest := [.int (J 0), .ref q]) (g := F0 m 5 ls [.int i0, .int p0, .ref (μ 0), .int (J 0), .ref q]) ⟨B.exec, B.bytes, hml, hown, hts2⟩ (xX11_led hlf h hv D cA μ H.size) hcw
      ⟨xPre_blind, va_recv hK hPB (q := (yX11_led.cls, TX11, 15)) rfl (zat_o z1_cW_11), fun U hU hW => ⟨rfl, by rw [hU], by rw [hU]; exact hPB, va_K.moved hW.alike hK, fun S' => zD_any (hDB.weaken (fun _ _ _ _ => trivial)), by rw [hU]; exact zOK_call hZ hS1 hW hAA, by rw [hU]; exact hN.call hS1 hW hAA⟩⟩
      rfl rfl hl1.1 rfl (lv_room (Nat.le_of_ble_eq_true rfl)) dL_led_5 ⟨Nat.le_refl _, Nat.le_refl _⟩
    intro T hT X
    rcases hrun T hT X with ⟨v9, st₀, t, T', L, h0, X', hL, e1, e2, hq, hst⟩ | ⟨q9, st₀, t, T', L, E, ce, h0, X', hL, e1, e2, ⟨rfl, hPt, hF⟩, hce, hcv, hcl, hst⟩
    · exact absurd hq id
    · rw [va_F, h0] at hF
      have hPL : va_P D vwCl (lws μ ν cA q SC SM o) T'.heap := by
        rw [e1]
        exact zmid (X := []) hP1 hD1 hF.2 hPt
      have hSL : va_S (va_A (lws μ ν cA q SC SM o) s.heap.size) s.heap T'.heap (locs ++ L) := ⟨Nat.le_trans hS1.1 (by rw [e1]; exact hF.1), fun z h1 h2 => by rw [e1, hF.2 z (Nat.lt_of_lt_of_le h1 hS1.1) (fun y => h2 (hAA z y))]; exact hS1.2.1 z h1 h2, fun z hz => by
        rcases List.mem_append.mp hz with h | h
        · exact hS1.2.2 z h
        · exact hAA _ (hL z h)⟩
      have hcatch := vx_catch (p := p) (l := l) (e := e) (R := { frames := 7, cells := 1, slots := 6, locals := 105 }) (args := ([.ref (μ 0), .int p0, .int i0, .ref q] : List Value).toArray) (below := below) (meth := meth) (H := T'.heap) (locs := locs ++ L) (cells := 0 + 1) (slots := 0 + 6) (pc := 5) (ls := ls) (rest := [.int (J 0), .ref q]) (name := nsE) hown [] ⟨0, 10, 13, 13⟩ [] htab (fun z hz => nomatch hz) (by decide) (by decide) (hts2 _ ns_cat) (va_Nw.use rfl (hN.1 (.castable nsE nsE) (List.mem_cons_of_mem _ (List.mem_cons_of_mem _ (List.mem_cons_of_mem _ List.mem_cons_self))))) (by rw [e1]; exact hce) hcv hcl (kx q9 T'.heap (locs ++ L) ls hPL hD1 hSL hl1)
      obtain ⟨t2, a1, b1⟩ := hcatch T' rfl X'
      exact ⟨t2, hst.trans a1, b1⟩
  have hl := zent_lv (μ := zid) (n := 5) (av := [.ref (μ 0), .int p0, .int i0, .ref q]) (Nat.le_of_ble_eq_true rfl)
  rw [zid_st] at hl
  exact hw s.heap [] _ hP hD0.self va_S.rf hl
