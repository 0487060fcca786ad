/-! Case 38 of the law, and its loop, whose room grows by what is thrown. -/
def LN (K : zKC) : Prop := match K with
  | ((_, _, _, _, s, _, _, _, _, _), (_, A, _), _) => nsOK A s s.heap
theorem in_RL : Cond.initialized RL ∈ zT := (zTm (tk_1 List.mem_cons_self) rfl)
section LAW38
variable {K : zKC} {CE SL ce sl : Nat} {μ ν : Nat → Nat} {q b N : Nat} {xs : Nat → Int32}
theorem VC_widen {pc ce' sl' : Nat} {L : zL} {st : List Value} {ws : va_W} (h1 : ce ≤ ce') (h2 : sl ≤ sl') (k : VC K pc L st ws ce' sl') : VC K pc L st ws ce sl := by
  obtain ⟨⟨p, l, e, R, s, m, args, below, meth, c⟩, ⟨D, A, cA⟩, ⟨n', Q⟩⟩ := K
  intro H locs ls hP hD hS hl T hT X
  exact k H locs ls hP hD hS hl T hT (stand_widen X h1 h2)
theorem VL_ledS {pc mc ms : Nat} {L : zL} {st : List Value} {SC SM : zM} {o o' : Int64} {p0 i0 r : Int32} (C : zCL K cL_law RL 7 14 532 CE SL) (hM : ldMet K.1.2.1 μ ν q SC SM o [.ref (μ 0), .int p0, .int i0, .ref q] o' r mc ms) (hz : LZ K μ) (hN : LN K) (hst : (st.map fun v => v.category).sum ≤ 8) (d : decode cL_law pc = .ok (.invokestatic 187, 3)) (hcs : ce + mc ≤ CE ∧ sl + ms ≤ SL)
    (k : VC K (pc + 3) L (.int r :: st) (lws μ ν K.2.1.2.2 q SC SM o') (ce + mc) (sl + ms)) : VC K pc L (.ref q :: .int i0 :: .int p0 :: .ref (μ 0) :: st) (lws μ ν K.2.1.2.2 q SC SM o) ce sl := by
  obtain ⟨⟨p, l, e, R, s, m, args, below, meth, c⟩, ⟨D, A, cA⟩, ⟨n0, Q⟩⟩ := K
  obtain ⟨hx, hb, hts, hown, hK, hA, hml, hfr, hlo, hcE, hsL, hcx, rfl⟩ := C
  intro H locs ls hP hD hS hl
  have hAA : ∀ z, va_A (lws μ ν cA q SC SM o) H.size z → A z := by
    intro z h
    rcases h with ⟨k, e, h⟩ | h
    · exact hD.2 k (z, e) h
    · exact hA z (Nat.le_trans hS.1 h)
  have hcw : vx_CSW R s args RL 187 yL_led cL_led 5 (some .int) ldH (Cond.codeWith yL_led cL_led 5 (some .int) ldH :: zT) { frames := 7, cells := mc, slots := ms, locals := 105 } mc ms 4 :=
    vx_cwSW 4 hts (zTgood (fun w hw => by
      rcases List.mem_append.mp hw with h | h
      · rcases List.mem_cons.mp h with rfl | h
        · exact ml_RL_187
        · rcases List.mem_cons.mp h with rfl | h
          · exact ls_led
          · rcases List.mem_cons.mp h with rfl | h
            · exact in_RL
            · cases h
      · rcases List.mem_cons.mp h with rfl | h
        · exact lw_led
        · exact h)) rfl rfl rfl (by decide +kernel) ⟨by rw [hfr]; exact Nat.le_of_ble_eq_true rfl, by rw [hlo]; exact Nat.le_of_ble_eq_true rfl⟩
  have hrun := vx_runSW (p := p) (e := e) (R := R) (below := below) (meth := meth) (H := H) (locs := locs) (cells := ce) (slots := sl) (As := [.ref (μ 0), .int p0, .int i0, .ref q]) (rest := st) (g := F0 m pc ls (.ref q :: .int i0 :: .int p0 :: .ref (μ 0) :: st)) ⟨hx, hb, hml, hown, hts⟩ (hM D cA H.size) hcw
    ⟨lwPre_blind, fun U hU hW => ⟨rfl, by rw [hU], by rw [hU]; exact hP, va_K.moved hW.alike hK, hD.weaken (fun _ _ _ _ => trivial), by rw [hU]; exact zOK_call hz hS hW hAA, by rw [hU]; exact nsOK.call hN hS hW hAA, zCX_call hcx hW⟩⟩
    rfl rfl hl.1 rfl (lv_room hst) d ⟨by rw [hcE]; exact hcs.1, by rw [hsL]; exact hcs.2⟩
  intro T hT X
  obtain ⟨v, st₀, t, T', L9, h0, X', hL, e1, e2, ⟨hv, hPt, hF⟩, hst9⟩ := hrun T hT X
  cases hv
  rw [va_F, h0] at hF
  have hSL : va_S A s.heap T'.heap (locs ++ L9) := ⟨Nat.le_trans hS.1 (by rw [e1]; exact hF.1), fun z h1 h2 => by rw [e1, hF.2 z (Nat.lt_of_lt_of_le h1 hS.1) (fun y => h2 (hAA z y))]; exact hS.2.1 z h1 h2, fun z hz => by
    rcases List.mem_append.mp hz with h | h
    · exact hS.2.2 z h
    · exact hAA _ (hL z h)⟩
  obtain ⟨t2, a1, b1⟩ := k T'.heap (locs ++ L9) ls (by rw [e1]; exact hPt) (lws_D hD) hSL hl T' rfl X'
  exact ⟨t2, hst9 t2 a1, b1⟩
set_option maxRecDepth 100000 in
theorem law_c38 {t : Nat} {SC SM : zM} {o : Int64} {a5 a6 : Option Value} {ce' sl' : Nat} (C : zCL K cL_law RL 7 14 532 CE SL) (hz : LZ K μ) (hz2 : LZ K ν) (hX : LX K b N xs) (hN : 8 * t + 8 ≤ N) (hN2 : N ≤ 4096) (hcs : ce + 1 ≤ CE ∧ sl + 6 ≤ SL) (hfl : K.1.2.1.stackTraces = false) (hn : LN K) (h1 : ce + 1 ≤ ce') (h2 : sl + 6 ≤ sl') (h : Inv SC SM t) (kk : ∀ (SC1 SM1 : zM) (o1 : Int64) (a5 a6 : Option Value), Inv SC1 SM1 (t + 1) → VC K 2295 [some (.ref b), some (.ref (μ 0)), some (.ref (ν 0)), some (.ref q), some (.int (J ((8 * t : Nat) : Int))), a5, a6] [] (lws μ ν K.2.1.2.2 q SC1 SM1 o1) ce' sl') : VC K 2189 [some (.ref b), some (.ref (μ 0)), some (.ref (ν 0)), some (.ref q), some (.int (J ((8 * t : Nat) : Int))), a5, a6] [] (lws μ ν K.2.1.2.2 q SC SM o) ce sl := by
  refine VL_aload_n (pc := 2189) C dL_law_2189 rfl rfl ?_
  refine VL_scr (pc := 2190) (j := 1) C hX hN hN2 (by decide) rfl rfl dL_law_2190 dL_law_2191 dL_law_2193 dL_law_2194 dL_law_2195 ?_
  refine VL_scr (pc := 2196) (j := 2) C hX hN hN2 (by decide) rfl rfl dL_law_2196 dL_law_2197 dL_law_2199 dL_law_2200 dL_law_2201 ?_
  refine VL_aload_n (pc := 2202) C dL_law_2202 rfl rfl ?_
  obtain ⟨v, SM1, hv, hcase, hI⟩ := st_led h (xs (8 * t + 1)) (xs (8 * t + 2))
  have rest : ∀ (r a : Int32) (o1 : Int64), gX12_led SM (xs (8 * t + 1)) (xs (8 * t + 2)) = some (a, SM1) → gI SM1 0 0 = r → (r = 0 → o1 = a.toInt64) → VC K 2206 [some (.ref b), some (.ref (μ 0)), some (.ref (ν 0)), some (.ref q), some (.int (J ((8 * t : Nat) : Int))), a5, a6] [.int r] (lws μ ν K.2.1.2.2 q SC SM o1) (ce + 1) (sl + 6) := by
    intro r a o1 e1 e2 e3
    refine VL_istore (L' := [some (.ref b), some (.ref (μ 0)), some (.ref (ν 0)), some (.ref q), some (.int (J ((8 * t : Nat) : Int))), some (.int r), a6]) (pc := 2206) C dL_law_2206 (by decide) rfl ?_
    refine VL_aload_n (pc := 2208) C dL_law_2208 rfl rfl ?_
    refine VL_scr (pc := 2209) (j := 1) C hX hN hN2 (by decide) rfl rfl dL_law_2209 dL_law_2210 dL_law_2212 dL_law_2213 dL_law_2214 ?_
    refine VL_scr (pc := 2215) (j := 2) C hX hN hN2 (by decide) rfl rfl dL_law_2215 dL_law_2216 dL_law_2218 dL_law_2219 dL_law_2220 ?_
    refine VL_callM (T := TX12) (N := 45) (ro := some (.int a)) (As := [.int (xs (8 * t + 1)), .int (xs (8 * t + 2))]) (pc := 2221) C (mX12_led _ e1) hz2 zm_X12_led zi_X12_led ml_RL_192 rfl ⟨Nat.le_of_ble_eq_true rfl, Nat.le_of_ble_eq_true rfl⟩ rfl rfl rfl rfl (Nat.le_of_ble_eq_true rfl) dL_law_2221 hcs ?_
    show VC K 2224 [some (.ref b), some (.ref (μ 0)), some (.ref (ν 0)), some (.ref q), some (.int (J ((8 * t : Nat) : Int))), some (.int r), a6] [.int a] (lws μ ν K.2.1.2.2 q SC SM1 o1) (ce + 1) (sl + 6)
    refine VL_istore (L' := [some (.ref b), some (.ref (μ 0)), some (.ref (ν 0)), some (.ref q), some (.int (J ((8 * t : Nat) : Int))), some (.int r), some (.int a)]) (pc := 2224) C dL_law_2224 (by decide) rfl ?_
    refine VL_aload_n (pc := 2226) C dL_law_2226 rfl rfl ?_
    refine VL_callM (T := TX12) (N := 45) (ro := some (.int (gI SM1 0 0))) (As := []) (pc := 2227) C (mX12_thrown _ rfl) hz2 zm_X12_thrown zi_X12_thrown ml_RL_193 rfl ⟨Nat.le_of_ble_eq_true rfl, Nat.le_of_ble_eq_true rfl⟩ rfl rfl rfl rfl (Nat.le_of_ble_eq_true rfl) dL_law_2227 hcs ?_
    show VC K 2230 [some (.ref b), some (.ref (μ 0)), some (.ref (ν 0)), some (.ref q), some (.int (J ((8 * t : Nat) : Int))), some (.int r), some (.int a)] [.int (gI SM1 0 0)] (lws μ ν K.2.1.2.2 q SC SM1 o1) (ce + 1) (sl + 6)
    have hg : VC K 2254 [some (.ref b), some (.ref (μ 0)), some (.ref (ν 0)), some (.ref q), some (.int (J ((8 * t : Nat) : Int))), some (.int r), some (.int a)] [] (lws μ ν K.2.1.2.2 q SC SM1 o1) (ce + 1) (sl + 6) := by
      refine VL_goto (pc := 2254) (tgt := 2295) C dL_law_2254 (by decide) ?_
      exact VC_widen h1 h2 (kk _ _ _ _ _ hI)
    refine VL_iload (pc := 2230) C dL_law_2230 rfl ?_
    refine VL_icmp_eq (tgt := 2237) (pc := 2232) C dL_law_2232 (by decide) (fun _ => ?_) (fun hc => absurd e2 hc)
    refine VL_iload (pc := 2237) C dL_law_2237 rfl ?_
    refine VL_if_ne (tgt := 2254) (pc := 2239) C dL_law_2239 (by decide) (fun _ => hg) (fun hc => ?_)
    have hr0 : r = 0 := hc
    rw [e3 hr0]
    rw [e3 hr0] at hg
    refine VL_aload_n (pc := 2242) C dL_law_2242 rfl rfl ?_
    refine VL_iconst (pc := 2243) C dL_law_2243 (v := J 0) rfl ?_
    refine VL_lald (pc := 2244) C (by decide) dL_law_2244 ?_
    refine VL_iload (pc := 2245) C dL_law_2245 rfl ?_
    refine VL_i2l (pc := 2247) C dL_law_2247 ?_
    exact VL_lcmp_eq (tgt := 2254) (pc := 2248) C dL_law_2248 dL_law_2249 (by decide) (fun _ => hg) (fun hc => absurd rfl hc)
  rcases hcase with ⟨hv0, e1, e2⟩ | ⟨hv0, a, ea, e1, e2⟩
  · exact VL_ledS (pc := 2203) (mc := 1) (ms := 6) (st := []) C (ld_thr hfl hv hv0) hz hn (Nat.le_of_ble_eq_true rfl) dL_law_2203 hcs (rest 1 0 o e1 e2 (fun h => absurd h (by decide)))
  · exact VL_ledS (pc := 2203) (mc := 0) (ms := 0) (st := []) C (ld_ret hv hv0 ea) hz hn (Nat.le_of_ble_eq_true rfl) dL_law_2203 ⟨by omega, by omega⟩ (VC_widen (Nat.le_succ _) (Nat.le_add_right _ 6) (rest 0 a a.toInt64 e1 e2 (fun _ => rfl)))
set_option maxRecDepth 100000 in
theorem law_loop2 (C : zCL K cL_law RL 7 14 532 CE SL) (hz : LZ K μ) (hz2 : LZ K ν) (hX : LX K b N xs) (hN2 : N ≤ 4096) (hcs : ce + 514 ≤ CE ∧ sl + 6 * 514 ≤ SL) (hfl : K.1.2.1.stackTraces = false) (hn : LN K) (hend : ∀ (t : Nat) (SC SM : zM) (o : Int64) (L1 : zL), t ≤ 513 → VC K 2301 L1 [] (lws μ ν K.2.1.2.2 q SC SM o) (ce + t) (sl + 6 * t)) : ∀ (r t : Nat) (SC SM : zM) (o : Int64) (a5 a6 : Option Value), N < 8 * t + 8 * r + 8 → 8 * t ≤ N + 8 → Inv SC SM t → VC K 23 [some (.ref b), some (.ref (μ 0)), some (.ref (ν 0)), some (.ref q), some (.int (J ((8 * t : Nat) : Int))), a5, a6] [] (lws μ ν K.2.1.2.2 q SC SM o) (ce + t) (sl + 6 * t) := by
  intro r
  induction r with
  | zero =>
    intro t SC SM o a5 a6 h1 h2 h
    refine VL_iload (pc := 23) C dL_law_23 rfl ?_
    refine VL_aload_n (pc := 25) C dL_law_25 rfl rfl ?_
    refine VL_slen (pc := 26) C hX dL_law_26 ?_
    refine VL_bipush (pc := 27) C dL_law_27 zk_b8 ?_
    refine VL_isub (pc := 29) C dL_law_29 ?_
    have e : Int32.ofNat N - J 8 = J ((N : Int) - 8) := by
      rw [show Int32.ofNat N = J (N : Int) from (Int32.ofInt_eq_ofNat (n := N)).symm, J_sub]
    rw [e]
    refine VL_icmp_gt (pc := 30) (tgt := 2301) C dL_law_30 (by decide) (fun _ => hend t SC SM o _ (by omega)) (fun hc => absurd ?_ hc)
    rw [J_lt (by omega) (by omega) (by omega) (by omega)]
    omega
  | succ r ih =>
    intro t SC SM o a5 a6 h1 h2 h
    refine VL_iload (pc := 23) C dL_law_23 rfl ?_
    refine VL_aload_n (pc := 25) C dL_law_25 rfl rfl ?_
    refine VL_slen (pc := 26) C hX dL_law_26 ?_
    refine VL_bipush (pc := 27) C dL_law_27 zk_b8 ?_
    refine VL_isub (pc := 29) C dL_law_29 ?_
    have e : Int32.ofNat N - J 8 = J ((N : Int) - 8) := by
      rw [show Int32.ofNat N = J (N : Int) from (Int32.ofInt_eq_ofNat (n := N)).symm, J_sub]
    rw [e]
    refine VL_icmp_gt (pc := 30) (tgt := 2301) C dL_law_30 (by decide) (fun _ => hend t SC SM o _ (by omega)) (fun hc => ?_)
    rw [J_lt (by omega) (by omega) (by omega) (by omega)] at hc
    have hN : 8 * t + 8 ≤ N := by omega
    obtain ⟨g1, g2⟩ := vp_inJ (j := 8 * t) (N := N) (by omega) hN2
    refine VL_aload_n (pc := 33) C dL_law_33 rfl rfl ?_
    refine VL_iload (pc := 34) C dL_law_34 rfl ?_
    refine VL_sld (pc := 36) C hX g1 dL_law_36 ?_
    refine VL_bipush (pc := 37) C dL_law_37 zk_b63 ?_
    refine VL_iand (pc := 39) C dL_law_39 ?_
    have kk2 : ∀ (SC1 SM1 : zM) (o1 : Int64) (a5 a6 : Option Value), Inv SC1 SM1 (t + 1) → VC K 2295 [some (.ref b), some (.ref (μ 0)), some (.ref (ν 0)), some (.ref q), some (.int (J ((8 * t : Nat) : Int))), a5, a6] [] (lws μ ν K.2.1.2.2 q SC1 SM1 o1) (ce + (t + 1)) (sl + 6 * (t + 1)) := fun SC1 SM1 o1 a5 a6 hI => by
      have ev : J ((8 * t : Nat) : Int) + Int32.ofInt 8 = J ((8 * (t + 1) : Nat) : Int) := by
        show J ((8 * t : Nat) : Int) + J 8 = _
        rw [J_add]
        congr 1
      refine VL_iinc (L' := [some (.ref b), some (.ref (μ 0)), some (.ref (ν 0)), some (.ref q), some (.int (J ((8 * (t + 1) : Nat) : Int))), a5, a6]) (pc := 2295) C dL_law_2295 rfl ev (by decide) rfl ?_
      refine VL_goto (pc := 2298) (tgt := 23) C dL_law_2298 (by decide) ?_
      exact ih (t + 1) SC1 SM1 o1 a5 a6 (by omega) (by omega) hI
    have kk : ∀ (SC1 SM1 : zM) (o1 : Int64) (a5 a6 : Option Value), Inv SC1 SM1 (t + 1) → VC K 2295 [some (.ref b), some (.ref (μ 0)), some (.ref (ν 0)), some (.ref q), some (.int (J ((8 * t : Nat) : Int))), a5, a6] [] (lws μ ν K.2.1.2.2 q SC1 SM1 o1) (ce + t) (sl + 6 * t) := fun SC1 SM1 o1 a5 a6 hI => VC_widen (by omega) (by omega) (kk2 SC1 SM1 o1 a5 a6 hI)
    exact law_sw C hz hz2 hX hN hN2 ⟨by omega, by omega⟩ h kk (law_c38 C hz hz2 hX hN hN2 ⟨by omega, by omega⟩ hfl hn (by omega) (by omega) h kk2)
end LAW38
