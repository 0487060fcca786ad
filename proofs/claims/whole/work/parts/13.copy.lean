/-! System.arraycopy of a row of longs -/
theorem ml_RX11_418 : Cond.methodLink RX11 418 arraycopyName ∈ zT := (zTm (tk_6 (tl100 (tl10 (tl10 (tl10 (tl1 (tl1 (tl1 (tl1 (tl1 (tl1 List.mem_cons_self))))))))))) rfl)
theorem znat_cp : Cond.native arraycopyName ∈ zT := (zTm (tk_6 (tl100 (tl10 (tl10 (tl10 (tl1 (tl1 (tl1 (tl1 (tl1 (tl1 (tl1 (tl1 List.mem_cons_self))))))))))))) rfl)
theorem zstat_cp : Cond.static arraycopyName ∈ zT := (zTm (tk_6 (tl100 (tl10 (tl10 (tl10 (tl1 (tl1 (tl1 (tl1 (tl1 (tl1 (tl1 List.mem_cons_self)))))))))))) rfl)
theorem zini_cp : Cond.initialized "java/lang/System" ∈ zT := (zTm (tk_1 (tl10 (tl10 List.mem_cons_self))) rfl)
theorem gL_cqL_s {S : zM} {q r n : Nat} : gL (cqL S q r n) r = va_cpy (gL S q) (gL S r) 0 0 n := by
  show (if r = r then va_cpy (S.2.1 q) (S.2.1 r) 0 0 n else S.2.1 r) = _
  rw [if_pos rfl]
  rfl
theorem gL_cqL_o {S : zM} {q r n a : Nat} (h : a ≠ r) : gL (cqL S q r n) a = gL S a := by
  show (if a = r then va_cpy (S.2.1 q) (S.2.1 r) 0 0 n else S.2.1 a) = _
  rw [if_neg h]
  rfl
theorem zen_cqL {μ : Nat → Nat} {cA : Nat → ClassId} {S : zM} {q k n q' : Nat} {e : zE} (h : q' ≠ k) : zen μ cA (cqL S q k n) q' e = zen μ cA S q' e := by
  have h1 : gL (cqL S q k n) q' = gL S q' := gL_cqL_o h
  unfold zen zfs zfv
  rw [h1]
  rfl
theorem V_cpL {K : zK} {cc : ByteArray} {own : String} {n fr lo pc : Nat} {w : zWd} {L : zL} {st : List Value} {S : zM} (C : zC K cc own n fr lo w) {q r len i : Nat} {m1 : Int32} (hq : zar w 2 3 len q) (hr : zar w 2 3 len r) (hm : ¬ m1 < 0 ∧ m1.toNatClampNeg = len) (hlink : Cond.methodLink own i arraycopyName ∈ zT) (hroom : 1 ≤ fr ∧ (st.map fun v => v.category).sum + (nativeFrameWords "java/lang/System" "arraycopy" 5 + 11) ≤ lo) (d : decode cc pc = .ok (.invokestatic i, 3))
    (k : V K (pc + 3) L st (cqL S q r len)) : V K pc L (.int m1 :: .int 0 :: .ref r :: .int 0 :: .ref q :: st) S := by
  obtain ⟨⟨p, l, e, R, s, m, args, below, meth, c⟩, ⟨D, A, cA, μ⟩, ⟨n', Q, w', z⟩⟩ := K
  obtain ⟨hx, hb, hts, hown, hK, hD, hA, hml, hfr, hlo, hz, rfl, rfl, rfl⟩ := C
  obtain ⟨hm1, hm2⟩ := hm
  intro H locs ls hP hS hl
  refine va_copyl hx hb (hml.trans hl.1.symm) hown (hts _ hlink) (hts _ znat_cp) (hts _ zstat_cp) (hts _ zini_cp) hK hP (hD S) hS q r 3 3 (zat_l hq) (zat_l hr) rfl rfl rfl (by decide) (by decide) hm1 (by rw [hm2, sb_cl0]; omega) (by rw [hm2, sb_cl0]; omega) (fun _ _ => rfl) (by rw [hfr]; exact hroom.1) (by rw [ztr_cats, hlo]; exact hroom.2) d (fun H1 locs1 hP1 hD1 hS1 => ?_)
  rw [hm2, sb_cl0] at hP1
  have e : (zws w' μ cA S).set r (μ r, .inl (cA 3, (len, .inr (.inl (va_cpy (gL S q) (gL S r) 0 0 len))))) = zws w' μ cA (cqL S q r len) := zws_set (by
    have hq2 := zws_at (μ := μ) (cA := cA) (S := cqL S q r len) hr.1
    rw [zat_l hr] at hq2
    have h3 := (Prod.mk.inj (Option.some.inj hq2)).2
    rw [← h3, gL_cqL_s]) (fun q' hq' => zen_cqL hq')
  rw [e] at hP1
  exact k H1 locs1 ls hP1 hS1 hl
theorem zq_0 : zstr 10000 := ⟨by decide, by decide⟩
theorem zq_1 : zstr 10001 := ⟨by decide, by decide⟩
theorem zq_2 : zstr 10002 := ⟨by decide, by decide⟩
theorem zq_3 : zstr 10003 := ⟨by decide, by decide⟩
theorem zq_4 : zstr 10004 := ⟨by decide, by decide⟩
theorem zq_5 : zstr 10005 := ⟨by decide, by decide⟩
theorem zq_6 : zstr 10006 := ⟨by decide, by decide⟩
theorem zq_7 : zstr 10007 := ⟨by decide, by decide⟩
theorem zq_8 : zstr 10008 := ⟨by decide, by decide⟩
theorem zq_9 : zstr 10009 := ⟨by decide, by decide⟩
theorem zq_10 : zstr 10010 := ⟨by decide, by decide⟩
theorem zq_11 : zstr 10011 := ⟨by decide, by decide⟩
theorem zq_12 : zstr 10012 := ⟨by decide, by decide⟩
theorem zq_13 : zstr 10013 := ⟨by decide, by decide⟩
theorem zq_14 : zstr 10014 := ⟨by decide, by decide⟩
theorem zq_15 : zstr 10015 := ⟨by decide, by decide⟩
theorem zq_16 : zstr 10016 := ⟨by decide, by decide⟩
theorem zq_17 : zstr 10017 := ⟨by decide, by decide⟩
theorem zq_18 : zstr 10018 := ⟨by decide, by decide⟩
theorem zq_19 : zstr 10019 := ⟨by decide, by decide⟩
theorem zq_20 : zstr 10020 := ⟨by decide, by decide⟩
theorem zq_21 : zstr 10021 := ⟨by decide, by decide⟩
theorem zq_22 : zstr 10022 := ⟨by decide, by decide⟩
theorem zq_23 : zstr 10023 := ⟨by decide, by decide⟩
theorem zq_24 : zstr 10024 := ⟨by decide, by decide⟩
theorem zq_25 : zstr 10025 := ⟨by decide, by decide⟩
theorem zq_26 : zstr 10026 := ⟨by decide, by decide⟩
theorem zq_27 : zstr 10027 := ⟨by decide, by decide⟩
theorem zq_28 : zstr 10028 := ⟨by decide, by decide⟩
theorem zB0 : narrow .boolean (.int 0) = .int 0 := rfl
theorem zB1 : narrow .boolean (.int 1) = .int 1 := rfl
