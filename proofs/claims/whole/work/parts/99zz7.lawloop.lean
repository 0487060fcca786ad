/-! The law's switch and loop. -/
section LAWL
variable {K : zKC} {CE SL ce sl : Nat} {μ ν : Nat → Nat} {q b N : Nat} {xs : Nat → Int32}
theorem Inv_mono {SC SM : zM} {t : Nat} (h : Inv SC SM t) : Inv SC SM (t + 1) := by
  obtain ⟨h1, h2, h3, h4, h5, h6, h7⟩ := h
  exact ⟨h1, rTot_w h2 (fun _ => rfl) (fun _ => rfl), h3, h4, h5, h6, h7⟩
theorem zk_b8 : (Int8.ofInt 8).toInt32 = J 8 := by decide +kernel
theorem zk_b63 : (Int8.ofInt 63).toInt32 = J 63 := by decide +kernel
set_option maxRecDepth 100000 in
set_option maxHeartbeats 4000000 in
theorem law_sw {t : Nat} {SC SM : zM} {o : Int64} {a5 a6 : Option Value} {x : Int32} (C : zCL K cL_law RL 7 14 532 CE SL) (hz : LZ K μ) (hz2 : LZ K ν) (hX : LX K b N xs) (hN : 8 * t + 8 ≤ N) (hN2 : N ≤ 4096) (hcs : ce ≤ CE ∧ sl ≤ SL) (h : Inv SC SM t) (kk : ∀ (SC1 SM1 : zM) (o1 : Int64) (a5 a6 : Option Value), Inv SC1 SM1 (t + 1) → VC K 2295 [some (.ref b), some (.ref (μ 0)), some (.ref (ν 0)), some (.ref q), some (.int (J ((8 * t : Nat) : Int))), a5, a6] [] (lws μ ν K.2.1.2.2 q SC1 SM1 o1) ce sl) (c38 : VC K 2189 [some (.ref b), some (.ref (μ 0)), some (.ref (ν 0)), some (.ref q), some (.int (J ((8 * t : Nat) : Int))), a5, a6] [] (lws μ ν K.2.1.2.2 q SC SM o) ce sl) : VC K 40 [some (.ref b), some (.ref (μ 0)), some (.ref (ν 0)), some (.ref q), some (.int (J ((8 * t : Nat) : Int))), a5, a6] [.int x] (lws μ ν K.2.1.2.2 q SC SM o) ce sl := by
  by_cases e0 : x = Int32.ofInt (0 + ((0 : Nat) : Int))
  · exact VL_case (pc := 40) (tgt := 220) (off := 180) C dL_law_40 e0 ⟨by decide +kernel, by decide +kernel, by decide +kernel⟩ (by decide) (law_c0 C hz hz2 hX hN hN2 hcs h kk)
  by_cases e1 : x = Int32.ofInt (0 + ((1 : Nat) : Int))
  · exact VL_case (pc := 40) (tgt := 293) (off := 253) C dL_law_40 e1 ⟨by decide +kernel, by decide +kernel, by decide +kernel⟩ (by decide) (law_c1 C hz hz2 hX hN hN2 hcs h kk)
  by_cases e2 : x = Int32.ofInt (0 + ((2 : Nat) : Int))
  · exact VL_case (pc := 40) (tgt := 318) (off := 278) C dL_law_40 e2 ⟨by decide +kernel, by decide +kernel, by decide +kernel⟩ (by decide) (law_c2 C hz hz2 hX hN hN2 hcs h kk)
  by_cases e3 : x = Int32.ofInt (0 + ((3 : Nat) : Int))
  · exact VL_case (pc := 40) (tgt := 331) (off := 291) C dL_law_40 e3 ⟨by decide +kernel, by decide +kernel, by decide +kernel⟩ (by decide) (law_c3 C hz hz2 hX hN hN2 hcs h kk)
  by_cases e4 : x = Int32.ofInt (0 + ((4 : Nat) : Int))
  · exact VL_case (pc := 40) (tgt := 344) (off := 304) C dL_law_40 e4 ⟨by decide +kernel, by decide +kernel, by decide +kernel⟩ (by decide) (law_c4 C hz hz2 hX hN hN2 hcs h kk)
  by_cases e5 : x = Int32.ofInt (0 + ((5 : Nat) : Int))
  · exact VL_case (pc := 40) (tgt := 381) (off := 341) C dL_law_40 e5 ⟨by decide +kernel, by decide +kernel, by decide +kernel⟩ (by decide) (law_c5 C hz hz2 hX hN hN2 hcs h kk)
  by_cases e6 : x = Int32.ofInt (0 + ((6 : Nat) : Int))
  · exact VL_case (pc := 40) (tgt := 418) (off := 378) C dL_law_40 e6 ⟨by decide +kernel, by decide +kernel, by decide +kernel⟩ (by decide) (law_c6 C hz hz2 hX hN hN2 hcs h kk)
  by_cases e7 : x = Int32.ofInt (0 + ((7 : Nat) : Int))
  · exact VL_case (pc := 40) (tgt := 455) (off := 415) C dL_law_40 e7 ⟨by decide +kernel, by decide +kernel, by decide +kernel⟩ (by decide) (law_c7 C hz hz2 hX hN hN2 hcs h kk)
  by_cases e8 : x = Int32.ofInt (0 + ((8 : Nat) : Int))
  · exact VL_case (pc := 40) (tgt := 480) (off := 440) C dL_law_40 e8 ⟨by decide +kernel, by decide +kernel, by decide +kernel⟩ (by decide) (law_c8 C hz hz2 hX hN hN2 hcs h kk)
  by_cases e9 : x = Int32.ofInt (0 + ((9 : Nat) : Int))
  · exact VL_case (pc := 40) (tgt := 597) (off := 557) C dL_law_40 e9 ⟨by decide +kernel, by decide +kernel, by decide +kernel⟩ (by decide) (law_c9 C hz hz2 hX hN hN2 hcs h kk)
  by_cases e10 : x = Int32.ofInt (0 + ((10 : Nat) : Int))
  · exact VL_case (pc := 40) (tgt := 622) (off := 582) C dL_law_40 e10 ⟨by decide +kernel, by decide +kernel, by decide +kernel⟩ (by decide) (law_c10 C hz hz2 hX hN hN2 hcs h kk)
  by_cases e11 : x = Int32.ofInt (0 + ((11 : Nat) : Int))
  · exact VL_case (pc := 40) (tgt := 695) (off := 655) C dL_law_40 e11 ⟨by decide +kernel, by decide +kernel, by decide +kernel⟩ (by decide) (law_c11 C hz hz2 hX hN hN2 hcs h kk)
  by_cases e12 : x = Int32.ofInt (0 + ((12 : Nat) : Int))
  · exact VL_case (pc := 40) (tgt := 782) (off := 742) C dL_law_40 e12 ⟨by decide +kernel, by decide +kernel, by decide +kernel⟩ (by decide) (law_c12 C hz hz2 hX hN hN2 hcs h kk)
  by_cases e13 : x = Int32.ofInt (0 + ((13 : Nat) : Int))
  · exact VL_case (pc := 40) (tgt := 819) (off := 779) C dL_law_40 e13 ⟨by decide +kernel, by decide +kernel, by decide +kernel⟩ (by decide) (law_c13 C hz hz2 hX hN hN2 hcs h kk)
  by_cases e14 : x = Int32.ofInt (0 + ((14 : Nat) : Int))
  · exact VL_case (pc := 40) (tgt := 880) (off := 840) C dL_law_40 e14 ⟨by decide +kernel, by decide +kernel, by decide +kernel⟩ (by decide) (law_c14 C hz hz2 hX hN hN2 hcs h kk)
  by_cases e15 : x = Int32.ofInt (0 + ((15 : Nat) : Int))
  · exact VL_case (pc := 40) (tgt := 917) (off := 877) C dL_law_40 e15 ⟨by decide +kernel, by decide +kernel, by decide +kernel⟩ (by decide) (law_c15 C hz hz2 hX hN hN2 hcs h kk)
  by_cases e16 : x = Int32.ofInt (0 + ((16 : Nat) : Int))
  · exact VL_case (pc := 40) (tgt := 1004) (off := 964) C dL_law_40 e16 ⟨by decide +kernel, by decide +kernel, by decide +kernel⟩ (by decide) (law_c16 C hz hz2 hX hN hN2 hcs h kk)
  by_cases e17 : x = Int32.ofInt (0 + ((17 : Nat) : Int))
  · exact VL_case (pc := 40) (tgt := 1081) (off := 1041) C dL_law_40 e17 ⟨by decide +kernel, by decide +kernel, by decide +kernel⟩ (by decide) (law_c17 C hz hz2 hX hN hN2 hcs h kk)
  by_cases e18 : x = Int32.ofInt (0 + ((18 : Nat) : Int))
  · exact VL_case (pc := 40) (tgt := 1142) (off := 1102) C dL_law_40 e18 ⟨by decide +kernel, by decide +kernel, by decide +kernel⟩ (by decide) (law_c18 C hz hz2 hX hN hN2 hcs h kk)
  by_cases e19 : x = Int32.ofInt (0 + ((19 : Nat) : Int))
  · exact VL_case (pc := 40) (tgt := 1167) (off := 1127) C dL_law_40 e19 ⟨by decide +kernel, by decide +kernel, by decide +kernel⟩ (by decide) (law_c19 C hz hz2 hX hN hN2 hcs h kk)
  by_cases e20 : x = Int32.ofInt (0 + ((20 : Nat) : Int))
  · exact VL_case (pc := 40) (tgt := 1216) (off := 1176) C dL_law_40 e20 ⟨by decide +kernel, by decide +kernel, by decide +kernel⟩ (by decide) (law_c20 C hz hz2 hX hN hN2 hcs h kk)
  by_cases e21 : x = Int32.ofInt (0 + ((21 : Nat) : Int))
  · exact VL_case (pc := 40) (tgt := 1253) (off := 1213) C dL_law_40 e21 ⟨by decide +kernel, by decide +kernel, by decide +kernel⟩ (by decide) (law_c21 C hz hz2 hX hN hN2 hcs h kk)
  by_cases e22 : x = Int32.ofInt (0 + ((22 : Nat) : Int))
  · exact VL_case (pc := 40) (tgt := 1318) (off := 1278) C dL_law_40 e22 ⟨by decide +kernel, by decide +kernel, by decide +kernel⟩ (by decide) (law_c22 C hz hz2 hX hN hN2 hcs h kk)
  by_cases e23 : x = Int32.ofInt (0 + ((23 : Nat) : Int))
  · exact VL_case (pc := 40) (tgt := 1383) (off := 1343) C dL_law_40 e23 ⟨by decide +kernel, by decide +kernel, by decide +kernel⟩ (by decide) (law_c23 C hz hz2 hX hN hN2 hcs h kk)
  by_cases e24 : x = Int32.ofInt (0 + ((24 : Nat) : Int))
  · exact VL_case (pc := 40) (tgt := 1432) (off := 1392) C dL_law_40 e24 ⟨by decide +kernel, by decide +kernel, by decide +kernel⟩ (by decide) (law_c24 C hz hz2 hX hN hN2 hcs h kk)
  by_cases e25 : x = Int32.ofInt (0 + ((25 : Nat) : Int))
  · exact VL_case (pc := 40) (tgt := 1505) (off := 1465) C dL_law_40 e25 ⟨by decide +kernel, by decide +kernel, by decide +kernel⟩ (by decide) (law_c25 C hz hz2 hX hN hN2 hcs h kk)
  by_cases e26 : x = Int32.ofInt (0 + ((26 : Nat) : Int))
  · exact VL_case (pc := 40) (tgt := 1566) (off := 1526) C dL_law_40 e26 ⟨by decide +kernel, by decide +kernel, by decide +kernel⟩ (by decide) (law_c26 C hz hz2 hX hN hN2 hcs h kk)
  by_cases e27 : x = Int32.ofInt (0 + ((27 : Nat) : Int))
  · exact VL_case (pc := 40) (tgt := 1603) (off := 1563) C dL_law_40 e27 ⟨by decide +kernel, by decide +kernel, by decide +kernel⟩ (by decide) (law_c27 C hz hz2 hX hN hN2 hcs h kk)
  by_cases e28 : x = Int32.ofInt (0 + ((28 : Nat) : Int))
  · exact VL_case (pc := 40) (tgt := 1665) (off := 1625) C dL_law_40 e28 ⟨by decide +kernel, by decide +kernel, by decide +kernel⟩ (by decide) (law_c28 C hz hz2 hX hN hN2 hcs h kk)
  by_cases e29 : x = Int32.ofInt (0 + ((29 : Nat) : Int))
  · exact VL_case (pc := 40) (tgt := 1714) (off := 1674) C dL_law_40 e29 ⟨by decide +kernel, by decide +kernel, by decide +kernel⟩ (by decide) (law_c29 C hz hz2 hX hN hN2 hcs h kk)
  by_cases e30 : x = Int32.ofInt (0 + ((30 : Nat) : Int))
  · exact VL_case (pc := 40) (tgt := 1763) (off := 1723) C dL_law_40 e30 ⟨by decide +kernel, by decide +kernel, by decide +kernel⟩ (by decide) (law_c30 C hz hz2 hX hN hN2 hcs h kk)
  by_cases e31 : x = Int32.ofInt (0 + ((31 : Nat) : Int))
  · exact VL_case (pc := 40) (tgt := 1836) (off := 1796) C dL_law_40 e31 ⟨by decide +kernel, by decide +kernel, by decide +kernel⟩ (by decide) (law_c31 C hz hz2 hX hN hN2 hcs h kk)
  by_cases e32 : x = Int32.ofInt (0 + ((32 : Nat) : Int))
  · exact VL_case (pc := 40) (tgt := 1897) (off := 1857) C dL_law_40 e32 ⟨by decide +kernel, by decide +kernel, by decide +kernel⟩ (by decide) (law_c32 C hz hz2 hX hN hN2 hcs h kk)
  by_cases e33 : x = Int32.ofInt (0 + ((33 : Nat) : Int))
  · exact VL_case (pc := 40) (tgt := 1946) (off := 1906) C dL_law_40 e33 ⟨by decide +kernel, by decide +kernel, by decide +kernel⟩ (by decide) (law_c33 C hz hz2 hX hN hN2 hcs h kk)
  by_cases e34 : x = Int32.ofInt (0 + ((34 : Nat) : Int))
  · exact VL_case (pc := 40) (tgt := 2007) (off := 1967) C dL_law_40 e34 ⟨by decide +kernel, by decide +kernel, by decide +kernel⟩ (by decide) (law_c34 C hz hz2 hX hN hN2 hcs h kk)
  by_cases e35 : x = Int32.ofInt (0 + ((35 : Nat) : Int))
  · exact VL_case (pc := 40) (tgt := 2081) (off := 2041) C dL_law_40 e35 ⟨by decide +kernel, by decide +kernel, by decide +kernel⟩ (by decide) (law_c35 C hz hz2 hX hN hN2 hcs h kk)
  by_cases e36 : x = Int32.ofInt (0 + ((36 : Nat) : Int))
  · exact VL_case (pc := 40) (tgt := 2107) (off := 2067) C dL_law_40 e36 ⟨by decide +kernel, by decide +kernel, by decide +kernel⟩ (by decide) (law_c36 C hz hz2 hX hN hN2 hcs h kk)
  by_cases e37 : x = Int32.ofInt (0 + ((37 : Nat) : Int))
  · exact VL_case (pc := 40) (tgt := 2176) (off := 2136) C dL_law_40 e37 ⟨by decide +kernel, by decide +kernel, by decide +kernel⟩ (by decide) (law_c37 C hz hz2 hX hN hN2 hcs h kk)
  by_cases e38 : x = Int32.ofInt (0 + ((38 : Nat) : Int))
  · exact VL_case (pc := 40) (tgt := 2189) (off := 2149) C dL_law_40 e38 ⟨by decide +kernel, by decide +kernel, by decide +kernel⟩ (by decide) (c38)
  by_cases e39 : x = Int32.ofInt (0 + ((39 : Nat) : Int))
  · exact VL_case (pc := 40) (tgt := 2257) (off := 2217) C dL_law_40 e39 ⟨by decide +kernel, by decide +kernel, by decide +kernel⟩ (by decide) (law_c39 C hz hz2 hX hN hN2 hcs h kk)
  by_cases e40 : x = Int32.ofInt (0 + ((40 : Nat) : Int))
  · exact VL_case (pc := 40) (tgt := 2282) (off := 2242) C dL_law_40 e40 ⟨by decide +kernel, by decide +kernel, by decide +kernel⟩ (by decide) (law_c40 C hz hz2 hX hN hN2 hcs h kk)
  refine VL_dflt (pc := 40) (tgt := 2295) (m := 41) C dL_law_40 (by decide) (fun i hi => ?_) (by decide) (kk SC SM o a5 a6 (Inv_mono h))
  have hk : i = 0 ∨ i = 1 ∨ i = 2 ∨ i = 3 ∨ i = 4 ∨ i = 5 ∨ i = 6 ∨ i = 7 ∨ i = 8 ∨ i = 9 ∨ i = 10 ∨ i = 11 ∨ i = 12 ∨ i = 13 ∨ i = 14 ∨ i = 15 ∨ i = 16 ∨ i = 17 ∨ i = 18 ∨ i = 19 ∨ i = 20 ∨ i = 21 ∨ i = 22 ∨ i = 23 ∨ i = 24 ∨ i = 25 ∨ i = 26 ∨ i = 27 ∨ i = 28 ∨ i = 29 ∨ i = 30 ∨ i = 31 ∨ i = 32 ∨ i = 33 ∨ i = 34 ∨ i = 35 ∨ i = 36 ∨ i = 37 ∨ i = 38 ∨ i = 39 ∨ i = 40 := by omega
  rcases hk with z | z | z | z | z | z | z | z | z | z | z | z | z | z | z | z | z | z | z | z | z | z | z | z | z | z | z | z | z | z | z | z | z | z | z | z | z | z | z | z | z
  · rw [z]; exact e0
  · rw [z]; exact e1
  · rw [z]; exact e2
  · rw [z]; exact e3
  · rw [z]; exact e4
  · rw [z]; exact e5
  · rw [z]; exact e6
  · rw [z]; exact e7
  · rw [z]; exact e8
  · rw [z]; exact e9
  · rw [z]; exact e10
  · rw [z]; exact e11
  · rw [z]; exact e12
  · rw [z]; exact e13
  · rw [z]; exact e14
  · rw [z]; exact e15
  · rw [z]; exact e16
  · rw [z]; exact e17
  · rw [z]; exact e18
  · rw [z]; exact e19
  · rw [z]; exact e20
  · rw [z]; exact e21
  · rw [z]; exact e22
  · rw [z]; exact e23
  · rw [z]; exact e24
  · rw [z]; exact e25
  · rw [z]; exact e26
  · rw [z]; exact e27
  · rw [z]; exact e28
  · rw [z]; exact e29
  · rw [z]; exact e30
  · rw [z]; exact e31
  · rw [z]; exact e32
  · rw [z]; exact e33
  · rw [z]; exact e34
  · rw [z]; exact e35
  · rw [z]; exact e36
  · rw [z]; exact e37
  · rw [z]; exact e38
  · rw [z]; exact e39
  · rw [z]; exact e40
set_option maxRecDepth 100000 in
theorem law_loop (C : zCL K cL_law RL 7 14 532 CE SL) (hz : LZ K μ) (hz2 : LZ K ν) (hX : LX K b N xs) (hN2 : N ≤ 4096) (hcs : ce ≤ CE ∧ sl ≤ SL) (c38 : ∀ (t : Nat) (SC SM : zM) (o : Int64) (a5 a6 : Option Value), 8 * t + 8 ≤ N → Inv SC SM t → (∀ (SC1 SM1 : zM) (o1 : Int64) (a5 a6 : Option Value), Inv SC1 SM1 (t + 1) → VC K 2295 [some (.ref b), some (.ref (μ 0)), some (.ref (ν 0)), some (.ref q), some (.int (J ((8 * t : Nat) : Int))), a5, a6] [] (lws μ ν K.2.1.2.2 q SC1 SM1 o1) ce sl) → VC K 2189 [some (.ref b), some (.ref (μ 0)), some (.ref (ν 0)), some (.ref q), some (.int (J ((8 * t : Nat) : Int))), a5, a6] [] (lws μ ν K.2.1.2.2 q SC SM o) ce sl) (hend : ∀ (SC SM : zM) (o : Int64) (L1 : zL), VC K 2301 L1 [] (lws μ ν K.2.1.2.2 q SC SM o) ce sl) : ∀ (r t : Nat) (SC SM : zM) (o : Int64) (a5 a6 : Option Value), N < 8 * t + 8 * r + 8 → 8 * t ≤ N + 8 → Inv SC SM t → VC K 23 [some (.ref b), some (.ref (μ 0)), some (.ref (ν 0)), some (.ref q), some (.int (J ((8 * t : Nat) : Int))), a5, a6] [] (lws μ ν K.2.1.2.2 q SC SM o) ce sl := by
  intro r
  induction r with
  | zero =>
    intro t SC SM o a5 a6 h1 h2 h
    refine VL_iload (pc := 23) C dL_law_23 rfl ?_
    refine VL_aload_n (pc := 25) C dL_law_25 rfl rfl ?_
    refine VL_slen (pc := 26) C hX dL_law_26 ?_
    refine VL_bipush (pc := 27) C dL_law_27 zk_b8 ?_
    refine VL_isub (pc := 29) C dL_law_29 ?_
    have e : Int32.ofNat N - J 8 = J ((N : Int) - 8) := by
      rw [show Int32.ofNat N = J (N : Int) from (Int32.ofInt_eq_ofNat (n := N)).symm, J_sub]
    rw [e]
    refine VL_icmp_gt (pc := 30) (tgt := 2301) C dL_law_30 (by decide) (fun _ => hend SC SM o _) (fun hc => absurd ?_ hc)
    rw [J_lt (by omega) (by omega) (by omega) (by omega)]
    omega
  | succ r ih =>
    intro t SC SM o a5 a6 h1 h2 h
    refine VL_iload (pc := 23) C dL_law_23 rfl ?_
    refine VL_aload_n (pc := 25) C dL_law_25 rfl rfl ?_
    refine VL_slen (pc := 26) C hX dL_law_26 ?_
    refine VL_bipush (pc := 27) C dL_law_27 zk_b8 ?_
    refine VL_isub (pc := 29) C dL_law_29 ?_
    have e : Int32.ofNat N - J 8 = J ((N : Int) - 8) := by
      rw [show Int32.ofNat N = J (N : Int) from (Int32.ofInt_eq_ofNat (n := N)).symm, J_sub]
    rw [e]
    refine VL_icmp_gt (pc := 30) (tgt := 2301) C dL_law_30 (by decide) (fun _ => hend SC SM o _) (fun hc => ?_)
    rw [J_lt (by omega) (by omega) (by omega) (by omega)] at hc
    have hN : 8 * t + 8 ≤ N := by omega
    obtain ⟨g1, g2⟩ := vp_inJ (j := 8 * t) (N := N) (by omega) hN2
    refine VL_aload_n (pc := 33) C dL_law_33 rfl rfl ?_
    refine VL_iload (pc := 34) C dL_law_34 rfl ?_
    refine VL_sld (pc := 36) C hX g1 dL_law_36 ?_
    refine VL_bipush (pc := 37) C dL_law_37 zk_b63 ?_
    refine VL_iand (pc := 39) C dL_law_39 ?_
    have kk : ∀ (SC1 SM1 : zM) (o1 : Int64) (a5 a6 : Option Value), Inv SC1 SM1 (t + 1) → VC K 2295 [some (.ref b), some (.ref (μ 0)), some (.ref (ν 0)), some (.ref q), some (.int (J ((8 * t : Nat) : Int))), a5, a6] [] (lws μ ν K.2.1.2.2 q SC1 SM1 o1) ce sl := fun SC1 SM1 o1 a5 a6 hI => by
      have ev : J ((8 * t : Nat) : Int) + Int32.ofInt 8 = J ((8 * (t + 1) : Nat) : Int) := by
        show J ((8 * t : Nat) : Int) + J 8 = _
        rw [J_add]
        congr 1
      refine VL_iinc (L' := [some (.ref b), some (.ref (μ 0)), some (.ref (ν 0)), some (.ref q), some (.int (J ((8 * (t + 1) : Nat) : Int))), a5, a6]) (pc := 2295) C dL_law_2295 rfl ev (by decide) rfl ?_
      refine VL_goto (pc := 2298) (tgt := 23) C dL_law_2298 (by decide) ?_
      exact ih (t + 1) SC1 SM1 o1 a5 a6 (by omega) (by omega) hI
    exact law_sw C hz hz2 hX hN hN2 hcs h kk (c38 t SC SM o a5 a6 hN h kk)
end LAWL
