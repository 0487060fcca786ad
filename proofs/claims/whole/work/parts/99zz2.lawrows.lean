/-! Rows of the law's walk. -/
/-- what the law has beside the words -/
def zCL (K : zKC) (cc : ByteArray) (own : String) (n fr lo CE SL : Nat) : Prop := match K with
  | ((p, _, _, R, s, m, args, _, _, c), (D, A, cA), (n', _)) => p.tables.exec = Jvm.exec ∧ c.code = cc ∧ (∀ w ∈ zT, w.before args s = true) ∧ s.vm.findClass own = some m.cls ∧ va_K D vwCl (ztys cA) s ∧ (∀ q, s.heap.size ≤ q → A q) ∧ c.maxLocals = n ∧ R.frames = fr ∧ R.locals = lo ∧ R.cells = CE ∧ R.slots = SL ∧ zCX s ∧ n' = n
section ZL
variable {K : zKC} {cc : ByteArray} {own : String} {n fr lo CE SL pc ce sl : Nat} {L : zL} {st : List Value} {ws : va_W}
theorem VL_iconst (C : zCL K cc own n fr lo CE SL) {j : Int} {v : Int32} (d : decode cc pc = .ok (.iconst j, 1)) (hv : Int32.ofInt j = v) (k : VC K (pc + 1) L (.int v :: st) ws ce sl) : VC K pc L st ws ce sl := by
  obtain ⟨⟨p, l, e, R, s, m, args, below, meth, c⟩, ⟨D, A, cA⟩, ⟨n', Q⟩⟩ := K
  obtain ⟨hx, hb, hts, hown, hK, hA, hml, hfr, hlo, hce, hsl, hcx, rfl⟩ := C
  intro H locs ls hP hD hS hl
  exact lv_iconst hx hb d hv (k H locs ls hP hD hS hl)
theorem VL_bipush (C : zCL K cc own n fr lo CE SL) {j : Int} {v : Int32} (d : decode cc pc = .ok (.bipush j, 2)) (hv : (Int8.ofInt j).toInt32 = v) (k : VC K (pc + 2) L (.int v :: st) ws ce sl) : VC K pc L st ws ce sl := by
  obtain ⟨⟨p, l, e, R, s, m, args, below, meth, c⟩, ⟨D, A, cA⟩, ⟨n', Q⟩⟩ := K
  obtain ⟨hx, hb, hts, hown, hK, hA, hml, hfr, hlo, hce, hsl, hcx, rfl⟩ := C
  intro H locs ls hP hD hS hl
  exact lv_bipush hx hb d hv (k H locs ls hP hD hS hl)
theorem VL_aload_n (C : zCL K cc own n fr lo CE SL) {j : Fin 4} {i : Nat} {x : Nat} (d : decode cc pc = .ok (.aload_n j, 1)) (hi : (j : Nat) = i) (hL : L[i]? = some (some (.ref x))) (k : VC K (pc + 1) L (.ref x :: st) ws ce sl) : VC K pc L st ws ce sl := by
  obtain ⟨⟨p, l, e, R, s, m, args, below, meth, c⟩, ⟨D, A, cA⟩, ⟨n', Q⟩⟩ := K
  obtain ⟨hx, hb, hts, hown, hK, hA, hml, hfr, hlo, hce, hsl, hcx, rfl⟩ := C
  intro H locs ls hP hD hS hl
  exact lv_aload_n hx hb d hi (hl.2.2 _ _ hL) (k H locs ls hP hD hS hl)
theorem VL_iload_n (C : zCL K cc own n fr lo CE SL) {j : Fin 4} {i : Nat} {x : Int32} (d : decode cc pc = .ok (.iload_n j, 1)) (hi : (j : Nat) = i) (hL : L[i]? = some (some (.int x))) (k : VC K (pc + 1) L (.int x :: st) ws ce sl) : VC K pc L st ws ce sl := by
  obtain ⟨⟨p, l, e, R, s, m, args, below, meth, c⟩, ⟨D, A, cA⟩, ⟨n', Q⟩⟩ := K
  obtain ⟨hx, hb, hts, hown, hK, hA, hml, hfr, hlo, hce, hsl, hcx, rfl⟩ := C
  intro H locs ls hP hD hS hl
  exact lv_iload_n hx hb d hi (hl.2.2 _ _ hL) (k H locs ls hP hD hS hl)
theorem VL_iinc (C : zCL K cc own n fr lo CE SL) {i : Nat} {j : Int} {x v : Int32} {L' : zL} (d : decode cc pc = .ok (.iinc i j, 3)) (hL0 : L[i]? = some (some (.int x))) (hv : x + Int32.ofInt j = v) (hn : i < n) (hL : zst1 L i (.int v) = L') (k : VC K (pc + 3) L' st ws ce sl) : VC K pc L st ws ce sl := by
  obtain ⟨⟨p, l, e, R, s, m, args, below, meth, c⟩, ⟨D, A, cA⟩, ⟨n', Q⟩⟩ := K
  obtain ⟨hx, hb, hts, hown, hK, hA, hml, hfr, hlo, hce, hsl, hcx, rfl⟩ := C
  intro H locs ls hP hD hS hl
  obtain ⟨y, hy⟩ := List.getElem?_of_mem (zprs_in (μ := zid) hL0)
  exact lv_iinc hx hb d (zlv_has hl) (k := y) hy hv hn rfl (fun ls' hl' => k H locs ls' hP hD hS (hL ▸ zlv_s1' (v := .int v) hl'))
theorem VL_goto (C : zCL K cc own n fr lo CE SL) {off : Int} {tgt : Nat} (d : decode cc pc = .ok (.goto off, 3)) (ht : (pc : Int) + off = (tgt : Int)) (k : VC K tgt L st ws ce sl) : VC K pc L st ws ce sl := by
  obtain ⟨⟨p, l, e, R, s, m, args, below, meth, c⟩, ⟨D, A, cA⟩, ⟨n', Q⟩⟩ := K
  obtain ⟨hx, hb, hts, hown, hK, hA, hml, hfr, hlo, hce, hsl, hcx, rfl⟩ := C
  intro H locs ls hP hD hS hl
  exact lv_goto hx hb d ht (k H locs ls hP hD hS hl)
theorem VL_dup (C : zCL K cc own n fr lo CE SL) {v : Value} (d : decode cc pc = .ok (.dup, 1)) (hv : v.category = 1) (k : VC K (pc + 1) L (v :: v :: st) ws ce sl) : VC K pc L (v :: st) ws ce sl := by
  obtain ⟨⟨p, l, e, R, s, m, args, below, meth, c⟩, ⟨D, A, cA⟩, ⟨n', Q⟩⟩ := K
  obtain ⟨hx, hb, hts, hown, hK, hA, hml, hfr, hlo, hce, hsl, hcx, rfl⟩ := C
  intro H locs ls hP hD hS hl
  exact lv_dup hx hb d hv (k H locs ls hP hD hS hl)
theorem VL_newa (C : zCL K cc own n fr lo CE SL) {atype : ArrayType} {ty : FieldType} {v : Int32} {N t : Nat} {a0 : vp_A} (hw : Cond.arrayClass ty ∈ zT) (hty : newarray.typeOf atype = ty) (ht : ∀ cA, (ztys cA)[t]? = some (cA t, ty)) (ha : ∀ cA : ClassId, vp_cell cA a0 = arrV cA N (fun _ => defaultValue ty)) (hv : ¬ v < 0 ∧ v.toNatClampNeg = N ∧ N * componentBytes ty ≤ 536870912) (hce : ce + 1 ≤ CE ∧ sl + N ≤ SL) (d : decode cc pc = .ok (.newarray atype, 2))
    (k : ∀ q, VC K (pc + 2) L (.ref q :: st) (ws ++ [(q, .inl (K.2.1.2.2 t, a0))]) (ce + 1) (sl + N)) : VC K pc L (.int v :: st) ws ce sl := by
  obtain ⟨⟨p, l, e, R, s, m, args, below, meth, c⟩, ⟨D, A, cA⟩, ⟨n', Q⟩⟩ := K
  obtain ⟨hx, hb, hts, hown, hK, hA, hml, hfr, hlo, hcE, hsL, hcx, rfl⟩ := C
  intro H locs ls hP hD hS hl
  refine va_newa hx hb (by rw [hty]; exact hts _ hw) hty hK hP hD hS hA ha hv.1 hv.2.1 hv.2.2 (by rw [hcE]; exact hce.1) (by rw [hsL]; exact hce.2) d (fun q c1 H1 hK1 hP1 hD1 hS1 => ?_)
  have e1 : c1 = cA t := by
    refine zcA_eq hK (ht cA) ?_
    have := (hK1.2 (ztys cA).length (c1, ty) (by simp)).2
    exact this
  subst e1
  exact k q H1 locs ls hP1 hD1 hS1 hl
theorem VL_new (C : zCL K cc own n fr lo CE SL) {i ci : Nat} (hN : zNC own i ci) (hce : ce + 1 ≤ CE ∧ sl + (zkn ci).length ≤ SL) (d : decode cc pc = .ok (.new i, 3)) (k : ∀ q, VC K (pc + 3) L (.ref q :: st) (ws ++ [(q, .inr (ci, zbl ci))]) (ce + 1) (sl + (zkn ci).length)) : VC K pc L st ws ce sl := by
  obtain ⟨⟨p, l, e, R, s, m, args, below, meth, c⟩, ⟨D, A, cA⟩, ⟨n', Q⟩⟩ := K
  obtain ⟨hx, hb, hts, hown, hK, hA, hml, hfr, hlo, hcE, hsL, hcx, rfl⟩ := C
  obtain ⟨cn, T, N, tf, h1, h2, h3, h4, h5, h6, h7, rfl⟩ := hN
  intro H locs ls hP hD hS hl
  exact va_new hx hb hts h2 tf h3 hown (hts _ h4) (hts _ h5) (hts _ h6) hK hP hD hS hA h1 h7 (by rw [hcE]; exact hce.1) (by rw [hsL]; exact hce.2) d (fun q H1 hP1 hD1 hS1 => k q H1 locs ls hP1 hD1 hS1 hl)
theorem VL_callI (C : zCL K cc own n fr lo CE SL) {y : MethodName} {cc' : ByteArray} {n' fr' lo' CE' SL' ci q i : Nat} {w : zWd} {S : zM} {X : va_W}
    (hM : zCt K.1.2.1 y cc' n' fr' lo' CE' SL' ci w S) (hm : zMth y cc' n' none 0) (hi : Cond.instanceMethod y ∈ zT) (hname : y.name = "<init>") (hlink : Cond.methodLink own i y ∈ zT)
    (hroom : fr' + 1 ≤ fr ∧ 8 + (n' + 11) + lo' ≤ lo ∧ ce + CE' ≤ CE ∧ sl + SL' ≤ SL) (hst : (st.map fun v => v.category).sum ≤ 8) (d : decode cc pc = .ok (.invokespecial i, 3))
    (k : ∀ μ : Nat → Nat, μ 0 = q → VC K (pc + 3) L st (X ++ zws w μ K.2.1.2.2 S) (ce + CE') (sl + SL')) : VC K pc L (.ref q :: st) (X ++ [(q, .inr (ci, zbl ci))]) ce sl := by
  obtain ⟨⟨p, l, e, R, s, m, args, below, meth, c⟩, ⟨D, A, cA⟩, ⟨n0, Q⟩⟩ := K
  obtain ⟨hx, hb, hts, hown, hK, hA, hml, hfr, hlo, hcE, hsL, hcx, rfl⟩ := C
  intro H locs ls hP hD hS hl
  have hl1 : (X ++ [((q : Nat), (Sum.inr (ci, zbl ci) : va_E))])[X.length]? = some (q, .inr (ci, zbl ci)) := by simp
  have hFc : ∀ z, va_A [(q, .inr (ci, zbl ci))] H.size z → A z := by
    intro z h
    rcases h with ⟨j, e, h⟩ | h
    · cases j with
      | zero => cases h; exact hD.2 _ _ hl1
      | succ j => simp at h
    · exact hA z (Nat.le_trans hS.1 h)
  refine va_callv (va_runI (As := []) (rest := st) ⟨hx, hb, hml, hown, hts⟩ (hM D cA q H.size) (cwI 0 hts (zTgood (fun w hw => by
      rcases List.mem_cons.mp hw with rfl | h
      · exact hm.1
      · exact h)) rfl rfl rfl (hts _ hm.2.1) (hts _ hlink) (hts _ hi) hname hm.2.2 ⟨by rw [hfr]; exact hroom.1, by rw [hlo]; exact hroom.2.1⟩)
    ⟨zCpre_blind, fun U hU hW => ⟨rfl, by rw [hU], ?_, va_K.moved hW.alike hK, ?_, zCX_call hcx hW⟩⟩
    rfl rfl hl.1 rfl (lv_room hst) d ⟨by rw [hcE]; exact hroom.2.2.1, by rw [hsL]; exact hroom.2.2.2⟩) hS (fun z _ h => hFc z h) hFc (fun μ t H1 locs1 ht hvm hw hB hz1 hk1 hS1 => ?_)
  · rw [hU]
    intro j x hx1
    cases j with
    | zero => cases hx1; exact hP _ _ hl1
    | succ j => simp at hx1
  · refine ⟨fun i j x y hi hj hxy => ?_, fun _ _ _ => trivial⟩
    cases i with
    | zero =>
      cases j with
      | zero => rfl
      | succ j => simp at hj
    | succ i => simp at hi
  · obtain ⟨hP1, hD1⟩ := hB
    rw [ht] at hP1
    obtain ⟨hP2, hD2⟩ := zjoin hP hD hk1 hFc hP1 hD1
    exact k μ hw H1 locs1 ls hP2 hD2 hS1 hl
theorem VL_iload (C : zCL K cc own n fr lo CE SL) {i : Nat} {x : Int32} (d : decode cc pc = .ok (.iload i, 2)) (hL : L[i]? = some (some (.int x))) (k : VC K (pc + 2) L (.int x :: st) ws ce sl) : VC K pc L (st) ws ce sl := by
  obtain ⟨⟨p, l, e, R, s, m, args, below, meth, c⟩, ⟨D, A, cA⟩, ⟨n', Q⟩⟩ := K
  obtain ⟨hx, hb, hts, hown, hK, hA, hml, hfr, hlo, hcE, hsL, hcx, rfl⟩ := C
  intro H locs ls hP hD hS hl
  exact lv_iload hx hb d (hl.2.2 _ _ hL) (k H locs ls hP hD hS hl)
theorem VL_istore (C : zCL K cc own n fr lo CE SL) {i : Nat} {x : Int32} {L' : zL} (d : decode cc pc = .ok (.istore i, 2)) (hin : i < n) (hL : zst1 L i (.int x) = L') (k : VC K (pc + 2) L' st ws ce sl) : VC K pc L (.int x :: st) ws ce sl := by
  obtain ⟨⟨p, l, e, R, s, m, args, below, meth, c⟩, ⟨D, A, cA⟩, ⟨n', Q⟩⟩ := K
  obtain ⟨hx, hb, hts, hown, hK, hA, hml, hfr, hlo, hcE, hsL, hcx, rfl⟩ := C
  intro H locs ls hP hD hS hl
  exact lv_istore hx hb d (zlv_has hl) hin rfl (fun ls' hl' => k H locs ls' hP hD hS (hL ▸ zlv_s1' (v := .int x) hl'))
theorem VL_astore_n (C : zCL K cc own n fr lo CE SL) {j : Fin 4} {i : Nat} {x : Nat} {L' : zL} (d : decode cc pc = .ok (.astore_n j, 1)) (hi : (j : Nat) = i) (hin : i < n) (hL : zst1 L i (.ref x) = L') (k : VC K (pc + 1) L' st ws ce sl) : VC K pc L (.ref x :: st) ws ce sl := by
  obtain ⟨⟨p, l, e, R, s, m, args, below, meth, c⟩, ⟨D, A, cA⟩, ⟨n', Q⟩⟩ := K
  obtain ⟨hx, hb, hts, hown, hK, hA, hml, hfr, hlo, hcE, hsL, hcx, rfl⟩ := C
  intro H locs ls hP hD hS hl
  exact lv_astore_n hx hb d hi (zlv_has hl) hin rfl (fun ls' hl' => k H locs ls' hP hD hS (hL ▸ zlv_s1' (v := .ref x) hl'))
theorem VL_iadd (C : zCL K cc own n fr lo CE SL) {x y : Int32} (d : decode cc pc = .ok (.iadd, 1)) (k : VC K (pc + 1) L (.int (x + y) :: st) ws ce sl) : VC K pc L (.int y :: .int x :: st) ws ce sl := by
  obtain ⟨⟨p, l, e, R, s, m, args, below, meth, c⟩, ⟨D, A, cA⟩, ⟨n', Q⟩⟩ := K
  obtain ⟨hx, hb, hts, hown, hK, hA, hml, hfr, hlo, hcE, hsL, hcx, rfl⟩ := C
  intro H locs ls hP hD hS hl
  exact lv_iadd hx hb d (k H locs ls hP hD hS hl)
theorem VL_isub (C : zCL K cc own n fr lo CE SL) {x y : Int32} (d : decode cc pc = .ok (.isub, 1)) (k : VC K (pc + 1) L (.int (x - y) :: st) ws ce sl) : VC K pc L (.int y :: .int x :: st) ws ce sl := by
  obtain ⟨⟨p, l, e, R, s, m, args, below, meth, c⟩, ⟨D, A, cA⟩, ⟨n', Q⟩⟩ := K
  obtain ⟨hx, hb, hts, hown, hK, hA, hml, hfr, hlo, hcE, hsL, hcx, rfl⟩ := C
  intro H locs ls hP hD hS hl
  exact lv_isub hx hb d (k H locs ls hP hD hS hl)
theorem VL_iand (C : zCL K cc own n fr lo CE SL) {x y : Int32} (d : decode cc pc = .ok (.iand, 1)) (k : VC K (pc + 1) L (.int (x &&& y) :: st) ws ce sl) : VC K pc L (.int y :: .int x :: st) ws ce sl := by
  obtain ⟨⟨p, l, e, R, s, m, args, below, meth, c⟩, ⟨D, A, cA⟩, ⟨n', Q⟩⟩ := K
  obtain ⟨hx, hb, hts, hown, hK, hA, hml, hfr, hlo, hcE, hsL, hcx, rfl⟩ := C
  intro H locs ls hP hD hS hl
  exact lv_iand hx hb d (k H locs ls hP hD hS hl)
theorem VL_i2l (C : zCL K cc own n fr lo CE SL) {x : Int32} (d : decode cc pc = .ok (.i2l, 1)) (k : VC K (pc + 1) L (.long x.toInt64 :: st) ws ce sl) : VC K pc L (.int x :: st) ws ce sl := by
  obtain ⟨⟨p, l, e, R, s, m, args, below, meth, c⟩, ⟨D, A, cA⟩, ⟨n', Q⟩⟩ := K
  obtain ⟨hx, hb, hts, hown, hK, hA, hml, hfr, hlo, hcE, hsL, hcx, rfl⟩ := C
  intro H locs ls hP hD hS hl
  exact lv_i2l hx hb d rfl (k H locs ls hP hD hS hl)
theorem VL_lshl (C : zCL K cc own n fr lo CE SL) {x : Int64} {y : Int32} (d : decode cc pc = .ok (.lshl, 1)) (k : VC K (pc + 1) L (.long (x <<< (y.toInt64 &&& 63)) :: st) ws ce sl) : VC K pc L (.int y :: .long x :: st) ws ce sl := by
  obtain ⟨⟨p, l, e, R, s, m, args, below, meth, c⟩, ⟨D, A, cA⟩, ⟨n', Q⟩⟩ := K
  obtain ⟨hx, hb, hts, hown, hK, hA, hml, hfr, hlo, hcE, hsL, hcx, rfl⟩ := C
  intro H locs ls hP hD hS hl
  exact lv_lshl hx hb d rfl (k H locs ls hP hD hS hl)
theorem VL_land (C : zCL K cc own n fr lo CE SL) {x y : Int64} (d : decode cc pc = .ok (.land, 1)) (k : VC K (pc + 1) L (.long (x &&& y) :: st) ws ce sl) : VC K pc L (.long y :: .long x :: st) ws ce sl := by
  obtain ⟨⟨p, l, e, R, s, m, args, below, meth, c⟩, ⟨D, A, cA⟩, ⟨n', Q⟩⟩ := K
  obtain ⟨hx, hb, hts, hown, hK, hA, hml, hfr, hlo, hcE, hsL, hcx, rfl⟩ := C
  intro H locs ls hP hD hS hl
  exact lv_land hx hb d (k H locs ls hP hD hS hl)
theorem VL_lor (C : zCL K cc own n fr lo CE SL) {x y : Int64} (d : decode cc pc = .ok (.lor, 1)) (k : VC K (pc + 1) L (.long (x ||| y) :: st) ws ce sl) : VC K pc L (.long y :: .long x :: st) ws ce sl := by
  obtain ⟨⟨p, l, e, R, s, m, args, below, meth, c⟩, ⟨D, A, cA⟩, ⟨n', Q⟩⟩ := K
  obtain ⟨hx, hb, hts, hown, hK, hA, hml, hfr, hlo, hcE, hsL, hcx, rfl⟩ := C
  intro H locs ls hP hD hS hl
  exact lv_lor hx hb d (k H locs ls hP hD hS hl)
theorem VL_ldc2 (C : zCL K cc own n fr lo CE SL) {i : Nat} {v : Int64} (d : decode cc pc = .ok (.ldc2_w i, 3)) (h : Cond.constantLong own i v ∈ zT) (k : VC K (pc + 3) L (.long v :: st) ws ce sl) : VC K pc L (st) ws ce sl := by
  obtain ⟨⟨p, l, e, R, s, m, args, below, meth, c⟩, ⟨D, A, cA⟩, ⟨n', Q⟩⟩ := K
  obtain ⟨hx, hb, hts, hown, hK, hA, hml, hfr, hlo, hcE, hsL, hcx, rfl⟩ := C
  intro H locs ls hP hD hS hl
  exact lv_ldc2 hx hb hown (hts _ h) d (k H locs ls hP hD hS hl)
theorem VL_if_eq (C : zCL K cc own n fr lo CE SL) {x : Int32} {off : Int} {tgt : Nat} (d : decode cc pc = .ok (.ifCond .eq off, 3)) (ht : (pc : Int) + off = (tgt : Int)) (kt : x = 0 → VC K tgt L st ws ce sl) (kf : ¬ x = 0 → VC K (pc + 3) L st ws ce sl) : VC K pc L (.int x :: st) ws ce sl := by
  obtain ⟨⟨p, l, e, R, s, m, args, below, meth, c⟩, ⟨D, A, cA⟩, ⟨n', Q⟩⟩ := K
  obtain ⟨hx, hb, hts, hown, hK, hA, hml, hfr, hlo, hcE, hsL, hcx, rfl⟩ := C
  intro H locs ls hP hD hS hl
  exact lv_if_eq hx hb d ht (fun h => kt h H locs ls hP hD hS hl) (fun h => kf h H locs ls hP hD hS hl)
theorem VL_if_ne (C : zCL K cc own n fr lo CE SL) {x : Int32} {off : Int} {tgt : Nat} (d : decode cc pc = .ok (.ifCond .ne off, 3)) (ht : (pc : Int) + off = (tgt : Int)) (kt : ¬ x = 0 → VC K tgt L st ws ce sl) (kf : x = 0 → VC K (pc + 3) L st ws ce sl) : VC K pc L (.int x :: st) ws ce sl := by
  obtain ⟨⟨p, l, e, R, s, m, args, below, meth, c⟩, ⟨D, A, cA⟩, ⟨n', Q⟩⟩ := K
  obtain ⟨hx, hb, hts, hown, hK, hA, hml, hfr, hlo, hcE, hsL, hcx, rfl⟩ := C
  intro H locs ls hP hD hS hl
  exact lv_if_ne hx hb d ht (fun h => kt h H locs ls hP hD hS hl) (fun h => kf h H locs ls hP hD hS hl)
theorem VL_icmp_eq (C : zCL K cc own n fr lo CE SL) {x y : Int32} {off : Int} {tgt : Nat} (d : decode cc pc = .ok (.if_icmp .eq off, 3)) (ht : (pc : Int) + off = (tgt : Int)) (kt : x = y → VC K tgt L st ws ce sl) (kf : ¬ x = y → VC K (pc + 3) L st ws ce sl) : VC K pc L (.int y :: .int x :: st) ws ce sl := by
  obtain ⟨⟨p, l, e, R, s, m, args, below, meth, c⟩, ⟨D, A, cA⟩, ⟨n', Q⟩⟩ := K
  obtain ⟨hx, hb, hts, hown, hK, hA, hml, hfr, hlo, hcE, hsL, hcx, rfl⟩ := C
  intro H locs ls hP hD hS hl
  exact lv_icmp_eq hx hb d ht (fun h => kt h H locs ls hP hD hS hl) (fun h => kf h H locs ls hP hD hS hl)
theorem VL_icmp_gt (C : zCL K cc own n fr lo CE SL) {x y : Int32} {off : Int} {tgt : Nat} (d : decode cc pc = .ok (.if_icmp .gt off, 3)) (ht : (pc : Int) + off = (tgt : Int)) (kt : y < x → VC K tgt L st ws ce sl) (kf : ¬ y < x → VC K (pc + 3) L st ws ce sl) : VC K pc L (.int y :: .int x :: st) ws ce sl := by
  obtain ⟨⟨p, l, e, R, s, m, args, below, meth, c⟩, ⟨D, A, cA⟩, ⟨n', Q⟩⟩ := K
  obtain ⟨hx, hb, hts, hown, hK, hA, hml, hfr, hlo, hcE, hsL, hcx, rfl⟩ := C
  intro H locs ls hP hD hS hl
  exact lv_icmp_gt hx hb d ht (fun h => kt h H locs ls hP hD hS hl) (fun h => kf h H locs ls hP hD hS hl)
theorem VL_lcmp_eq (C : zCL K cc own n fr lo CE SL) {x y : Int64} {off : Int} {tgt : Nat} (d : decode cc pc = .ok (.lcmp, 1)) (d2 : decode cc (pc + 1) = .ok (.ifCond .eq off, 3)) (ht : ((pc + 1 : Nat) : Int) + off = (tgt : Int)) (kt : x = y → VC K tgt L st ws ce sl) (kf : ¬ x = y → VC K (pc + 4) L st ws ce sl) : VC K pc L (.long y :: .long x :: st) ws ce sl := by
  obtain ⟨⟨p, l, e, R, s, m, args, below, meth, c⟩, ⟨D, A, cA⟩, ⟨n', Q⟩⟩ := K
  obtain ⟨hx, hb, hts, hown, hK, hA, hml, hfr, hlo, hcE, hsL, hcx, rfl⟩ := C
  intro H locs ls hP hD hS hl
  exact W.lcmp hx hb d (lv_if_eq hx hb d2 ht (fun h => kt (zcm_eq.mp h) H locs ls hP hD hS hl) (fun h => kf (fun z => h (zcm_eq.mpr z)) H locs ls hP hD hS hl))
theorem VL_case (C : zCL K cc own n fr lo CE SL) {dflt lo1 hi1 : Int} {offs : Array Int} {len : Nat} {x v : Int32} {off : Int} {tgt : Nat} (d : decode cc pc = .ok (.tableswitch dflt lo1 hi1 offs, len)) (hv : x = v) (h : ¬ v.toInt < lo1 ∧ ¬ hi1 < v.toInt ∧ offs[(v.toInt - lo1).toNat]? = some off) (ht : (pc : Int) + off = (tgt : Int)) (k : VC K tgt L st ws ce sl) : VC K pc L (.int x :: st) ws ce sl := by
  obtain ⟨⟨p, l, e, R, s, m, args, below, meth, c⟩, ⟨D, A, cA⟩, ⟨n', Q⟩⟩ := K
  obtain ⟨hx, hb, hts, hown, hK, hA, hml, hfr, hlo, hcE, hsL, hcx, rfl⟩ := C
  intro H locs ls hP hD hS hl
  subst hv
  exact lv_tableIn hx hb d h.1 h.2.1 h.2.2 ht (k H locs ls hP hD hS hl)
theorem VL_dflt (C : zCL K cc own n fr lo CE SL) {dflt lo1 hi1 : Int} {offs : Array Int} {len m : Nat} {x : Int32} {tgt : Nat} (d : decode cc pc = .ok (.tableswitch dflt lo1 hi1 offs, len)) (hm : hi1 = lo1 + (m : Int) - 1) (h : ∀ i : Nat, i < m → x ≠ Int32.ofInt (lo1 + i)) (ht : (pc : Int) + dflt = (tgt : Int)) (k : VC K tgt L st ws ce sl) : VC K pc L (.int x :: st) ws ce sl := by
  obtain ⟨⟨p, l, e, R, s, m, args, below, meth, c⟩, ⟨D, A, cA⟩, ⟨n', Q⟩⟩ := K
  obtain ⟨hx, hb, hts, hown, hK, hA, hml, hfr, hlo, hcE, hsL, hcx, rfl⟩ := C
  intro H locs ls hP hD hS hl
  subst hm
  exact lv_tableOut hx hb d (zdef h) ht (k H locs ls hP hD hS hl)
end ZL
