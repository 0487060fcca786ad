/-! constructors: a walk over a growing list of cells, addresses as they are -/
abbrev zKC : Type := (Program × Launch × Env × Room × State × MethodId × Array Value × List Frame × Method × Code) × (va_G × (Nat → Prop) × (Nat → ClassId)) × (Nat × (State → Prop))
abbrev zid : Nat → Nat := fun q => q
def VC (K : zKC) (pc : Nat) (L : zL) (st : List Value) (ws : va_W) (ce sl : Nat) : Prop := match K with
  | ((p, l, e, R, s, m, args, below, meth, c), (D, A, _), (n, Q)) => ∀ (H : Heap) (locs : List Loc) (ls : Array Slot), va_P D vwCl ws H → va_D A ws → va_S A s.heap H locs → zlv zid ls n L → W p l e R s m args below meth c H locs ce sl Q (F0 m pc ls st)
/-- what constructors need beside the words -/
def zCX (U : State) : Prop := (∀ r ∈ zNw, va_Nw (.methodLinkNest r.1 r.2.1 r.2.2.1 r.2.2.2) U) ∧ ∀ C ∈ [RX4, RX9, RX8, RX6, RX5], va_AO C U
def zCC (K : zKC) (cc : ByteArray) (own : String) (n fr lo CE SL : Nat) : Prop := match K with
  | ((p, _, _, R, s, m, args, _, meth, c), (D, A, cA), (n', _)) => p.tables.exec = Jvm.exec ∧ c.code = cc ∧ (∀ w ∈ zT, w.before args s = true) ∧ s.vm.findClass own = some m.cls ∧ va_K D vwCl (ztys cA) s ∧ (∀ q, s.heap.size ≤ q → A q) ∧ c.maxLocals = n ∧ R.frames = fr ∧ R.locals = lo ∧ R.cells = CE ∧ R.slots = SL ∧ meth.name = "<init>" ∧ zCX s ∧ n' = n
theorem zid_st (st : List Value) : st.map (ztr zid) = st := by
  induction st with
  | nil => rfl
  | cons v t ih =>
    rw [List.map_cons, ih]
    cases v <;> rfl
theorem zlv_s1' {ls' : Array Slot} {n i : Nat} {L : zL} {v : Value} (h : lv_has ls' n ((i, v) :: (zprs zid L).filter (fun q => !(q.1 == i) && !(q.1 + 1 == i && q.2.category == 2)))) : zlv zid ls' n (zst1 L i v) := zlv_s1 (by
  have e : ztr zid v = v := by cases v <;> rfl
  rw [e]
  exact h)
def zbl (ci : Nat) : List Value := (zkn ci).map (fun kd => if kd = 2 then .long 0 else if 3 ≤ kd then .null else .int 0)
section ZC
variable {K : zKC} {cc : ByteArray} {own : String} {n fr lo CE SL pc ce sl : Nat} {L : zL} {st : List Value} {ws : va_W}
theorem VC_iconst (C : zCC K cc own n fr lo CE SL) {j : Int} {v : Int32} (d : decode cc pc = .ok (.iconst j, 1)) (hv : Int32.ofInt j = v) (k : VC K (pc + 1) L (.int v :: st) ws ce sl) : VC K pc L st ws ce sl := by
  obtain ⟨⟨p, l, e, R, s, m, args, below, meth, c⟩, ⟨D, A, cA⟩, ⟨n', Q⟩⟩ := K
  obtain ⟨hx, hb, hts, hown, hK, hA, hml, hfr, hlo, hce, hsl, hin, hcx, rfl⟩ := C
  intro H locs ls hP hD hS hl
  exact lv_iconst hx hb d hv (k H locs ls hP hD hS hl)
theorem VC_bipush (C : zCC K cc own n fr lo CE SL) {j : Int} {v : Int32} (d : decode cc pc = .ok (.bipush j, 2)) (hv : (Int8.ofInt j).toInt32 = v) (k : VC K (pc + 2) L (.int v :: st) ws ce sl) : VC K pc L st ws ce sl := by
  obtain ⟨⟨p, l, e, R, s, m, args, below, meth, c⟩, ⟨D, A, cA⟩, ⟨n', Q⟩⟩ := K
  obtain ⟨hx, hb, hts, hown, hK, hA, hml, hfr, hlo, hce, hsl, hin, hcx, rfl⟩ := C
  intro H locs ls hP hD hS hl
  exact lv_bipush hx hb d hv (k H locs ls hP hD hS hl)
theorem VC_sipush (C : zCC K cc own n fr lo CE SL) {j : Int} {v : Int32} (d : decode cc pc = .ok (.sipush j, 3)) (hv : (Int16.ofInt j).toInt32 = v) (k : VC K (pc + 3) L (.int v :: st) ws ce sl) : VC K pc L st ws ce sl := by
  obtain ⟨⟨p, l, e, R, s, m, args, below, meth, c⟩, ⟨D, A, cA⟩, ⟨n', Q⟩⟩ := K
  obtain ⟨hx, hb, hts, hown, hK, hA, hml, hfr, hlo, hce, hsl, hin, hcx, rfl⟩ := C
  intro H locs ls hP hD hS hl
  exact lv_sipush hx hb d hv (k H locs ls hP hD hS hl)
theorem VC_aload_n (C : zCC K cc own n fr lo CE SL) {j : Fin 4} {i : Nat} {x : Nat} (d : decode cc pc = .ok (.aload_n j, 1)) (hi : (j : Nat) = i) (hL : L[i]? = some (some (.ref x))) (k : VC K (pc + 1) L (.ref x :: st) ws ce sl) : VC K pc L st ws ce sl := by
  obtain ⟨⟨p, l, e, R, s, m, args, below, meth, c⟩, ⟨D, A, cA⟩, ⟨n', Q⟩⟩ := K
  obtain ⟨hx, hb, hts, hown, hK, hA, hml, hfr, hlo, hce, hsl, hin, hcx, rfl⟩ := C
  intro H locs ls hP hD hS hl
  exact lv_aload_n hx hb d hi (hl.2.2 _ _ hL) (k H locs ls hP hD hS hl)
theorem VC_iload_n (C : zCC K cc own n fr lo CE SL) {j : Fin 4} {i : Nat} {x : Int32} (d : decode cc pc = .ok (.iload_n j, 1)) (hi : (j : Nat) = i) (hL : L[i]? = some (some (.int x))) (k : VC K (pc + 1) L (.int x :: st) ws ce sl) : VC K pc L st ws ce sl := by
  obtain ⟨⟨p, l, e, R, s, m, args, below, meth, c⟩, ⟨D, A, cA⟩, ⟨n', Q⟩⟩ := K
  obtain ⟨hx, hb, hts, hown, hK, hA, hml, hfr, hlo, hce, hsl, hin, hcx, rfl⟩ := C
  intro H locs ls hP hD hS hl
  exact lv_iload_n hx hb d hi (hl.2.2 _ _ hL) (k H locs ls hP hD hS hl)
theorem VC_istore_n (C : zCC K cc own n fr lo CE SL) {j : Fin 4} {i : Nat} {x : Int32} {L' : zL} (d : decode cc pc = .ok (.istore_n j, 1)) (hi : (j : Nat) = i) (hn : i < n) (hL : zst1 L i (.int x) = L') (k : VC K (pc + 1) L' st ws ce sl) : VC K pc L (.int x :: st) ws ce sl := by
  obtain ⟨⟨p, l, e, R, s, m, args, below, meth, c⟩, ⟨D, A, cA⟩, ⟨n', Q⟩⟩ := K
  obtain ⟨hx, hb, hts, hown, hK, hA, hml, hfr, hlo, hce, hsl, hin, hcx, rfl⟩ := C
  intro H locs ls hP hD hS hl
  exact lv_istore_n hx hb d hi (zlv_has hl) hn rfl (fun ls' hl' => k H locs ls' hP hD hS (hL ▸ zlv_s1' (v := .int x) hl'))
theorem VC_iinc (C : zCC K cc own n fr lo CE SL) {i : Nat} {j : Int} {x v : Int32} {L' : zL} (d : decode cc pc = .ok (.iinc i j, 3)) (hL0 : L[i]? = some (some (.int x))) (hv : x + Int32.ofInt j = v) (hn : i < n) (hL : zst1 L i (.int v) = L') (k : VC K (pc + 3) L' st ws ce sl) : VC K pc L st ws ce sl := by
  obtain ⟨⟨p, l, e, R, s, m, args, below, meth, c⟩, ⟨D, A, cA⟩, ⟨n', Q⟩⟩ := K
  obtain ⟨hx, hb, hts, hown, hK, hA, hml, hfr, hlo, hce, hsl, hin, hcx, rfl⟩ := C
  intro H locs ls hP hD hS hl
  obtain ⟨y, hy⟩ := List.getElem?_of_mem (zprs_in (μ := zid) hL0)
  exact lv_iinc hx hb d (zlv_has hl) (k := y) hy hv hn rfl (fun ls' hl' => k H locs ls' hP hD hS (hL ▸ zlv_s1' (v := .int v) hl'))
theorem VC_icmp_ge (C : zCC K cc own n fr lo CE SL) {x y : Int32} {off : Int} {tgt : Nat} (d : decode cc pc = .ok (.if_icmp .ge off, 3)) (ht : (pc : Int) + off = (tgt : Int)) (kt : y ≤ x → VC K tgt L st ws ce sl) (kf : ¬ y ≤ x → VC K (pc + 3) L st ws ce sl) : VC K pc L (.int y :: .int x :: st) ws ce sl := by
  obtain ⟨⟨p, l, e, R, s, m, args, below, meth, c⟩, ⟨D, A, cA⟩, ⟨n', Q⟩⟩ := K
  obtain ⟨hx, hb, hts, hown, hK, hA, hml, hfr, hlo, hce, hsl, hin, hcx, rfl⟩ := C
  intro H locs ls hP hD hS hl
  exact lv_icmp_ge hx hb d ht (fun h => kt h H locs ls hP hD hS hl) (fun h => kf h H locs ls hP hD hS hl)
theorem VC_goto (C : zCC K cc own n fr lo CE SL) {off : Int} {tgt : Nat} (d : decode cc pc = .ok (.goto off, 3)) (ht : (pc : Int) + off = (tgt : Int)) (k : VC K tgt L st ws ce sl) : VC K pc L st ws ce sl := by
  obtain ⟨⟨p, l, e, R, s, m, args, below, meth, c⟩, ⟨D, A, cA⟩, ⟨n', Q⟩⟩ := K
  obtain ⟨hx, hb, hts, hown, hK, hA, hml, hfr, hlo, hce, hsl, hin, hcx, rfl⟩ := C
  intro H locs ls hP hD hS hl
  exact lv_goto hx hb d ht (k H locs ls hP hD hS hl)
theorem VC_dup (C : zCC K cc own n fr lo CE SL) {v : Value} (d : decode cc pc = .ok (.dup, 1)) (hv : v.category = 1) (k : VC K (pc + 1) L (v :: v :: st) ws ce sl) : VC K pc L (v :: st) ws ce sl := by
  obtain ⟨⟨p, l, e, R, s, m, args, below, meth, c⟩, ⟨D, A, cA⟩, ⟨n', Q⟩⟩ := K
  obtain ⟨hx, hb, hts, hown, hK, hA, hml, hfr, hlo, hce, hsl, hin, hcx, rfl⟩ := C
  intro H locs ls hP hD hS hl
  exact lv_dup hx hb d hv (k H locs ls hP hD hS hl)
theorem VC_obj (C : zCC K cc own n fr lo CE SL) {a i : Nat} (hlink : Cond.methodLink own i Lib.objectInit ∈ zT) (hinst : Cond.instanceMethod Lib.objectInit ∈ zT) (hcode : Cond.code Lib.objectInit ⟨#[0xb1]⟩ 1 none ∈ zT) (hroom : 1 ≤ fr ∧ (st.map fun v => v.category).sum + 12 ≤ lo) (d : decode cc pc = .ok (.invokespecial i, 3)) (k : VC K (pc + 3) L st ws ce sl) : VC K pc L (.ref a :: st) ws ce sl := by
  obtain ⟨⟨p, l, e, R, s, m, args, below, meth, c⟩, ⟨D, A, cA⟩, ⟨n', Q⟩⟩ := K
  obtain ⟨hx, hb, hts, hown, hK, hA, hml, hfr, hlo, hce, hsl, hin, hcx, rfl⟩ := C
  intro H locs ls hP hD hS hl
  exact W.objInit hx hb hown (hts _ hlink) (hts _ hinst) (hts _ hcode) rfl (hl.1.trans hml.symm) rfl d (by rw [hfr]; exact hroom.1) (by rw [hlo]; have := hroom.2; simpa [JFrame.monitorRoom] using this) (k H locs ls hP hD hS hl)
theorem zcA_eq {D : va_G} {cA : Nat → ClassId} {s : State} {t : Nat} {ty : FieldType} {c1 : ClassId} (hK : va_K D vwCl (ztys cA) s) (ht : (ztys cA)[t]? = some (cA t, ty)) (h1 : va_RA s c1 ty) : c1 = cA t := by
  have h2 := (hK.2 t _ ht).2
  cases ty with
  | object C =>
    obtain ⟨kA, comp, -, -, -, e1⟩ := h1
    obtain ⟨kA', comp', -, -, -, e2⟩ := h2
    exact Option.some.inj (e1.symm.trans e2)
  | _ => exact Option.some.inj (Eq.trans (Eq.symm h1) h2)
theorem VC_newa (C : zCC K cc own n fr lo CE SL) {atype : ArrayType} {ty : FieldType} {v : Int32} {N t : Nat} {a0 : vp_A} (hw : Cond.arrayClass ty ∈ zT) (hty : newarray.typeOf atype = ty) (ht : ∀ cA, (ztys cA)[t]? = some (cA t, ty)) (ha : ∀ cA : ClassId, vp_cell cA a0 = arrV cA N (fun _ => defaultValue ty)) (hv : ¬ v < 0 ∧ v.toNatClampNeg = N ∧ N * componentBytes ty ≤ 536870912) (hce : ce + 1 ≤ CE ∧ sl + N ≤ SL) (d : decode cc pc = .ok (.newarray atype, 2))
    (k : ∀ q, VC K (pc + 2) L (.ref q :: st) (ws ++ [(q, .inl (K.2.1.2.2 t, a0))]) (ce + 1) (sl + N)) : VC K pc L (.int v :: st) ws ce sl := by
  obtain ⟨⟨p, l, e, R, s, m, args, below, meth, c⟩, ⟨D, A, cA⟩, ⟨n', Q⟩⟩ := K
  obtain ⟨hx, hb, hts, hown, hK, hA, hml, hfr, hlo, hcE, hsL, hin, hcx, rfl⟩ := C
  intro H locs ls hP hD hS hl
  refine va_newa hx hb (by rw [hty]; exact hts _ hw) hty hK hP hD hS hA ha hv.1 hv.2.1 hv.2.2 (by rw [hcE]; exact hce.1) (by rw [hsL]; exact hce.2) d (fun q c1 H1 hK1 hP1 hD1 hS1 => ?_)
  have e1 : c1 = cA t := by
    refine zcA_eq hK (ht cA) ?_
    have := (hK1.2 (ztys cA).length (c1, ty) (by simp)).2
    exact this
  subst e1
  exact k q H1 locs ls hP1 hD1 hS1 hl
theorem VC_newq (C : zCC K cc own n fr lo CE SL) {cn : String} {v : Int32} {N t i : Nat} (hcl : Cond.classLink own i cn ∈ zT) (ho : cn ∈ [RX4, RX9, RX8, RX6, RX5]) (ht : ∀ cA, (ztys cA)[t]? = some (cA t, .object cn)) (hv : ¬ v < 0 ∧ v.toNatClampNeg = N ∧ N * 4 ≤ 536870912) (hce : ce + 1 ≤ CE ∧ sl + N ≤ SL) (d : decode cc pc = .ok (.anewarray i, 3))
    (k : ∀ q, VC K (pc + 3) L (.ref q :: st) (ws ++ [(q, .inl (K.2.1.2.2 t, N, .inr (.inr (.inr (.inr (fun _ => none))))))]) (ce + 1) (sl + N)) : VC K pc L (.int v :: st) ws ce sl := by
  obtain ⟨⟨p, l, e, R, s, m, args, below, meth, c⟩, ⟨D, A, cA⟩, ⟨n', Q⟩⟩ := K
  obtain ⟨hx, hb, hts, hown, hK, hA, hml, hfr, hlo, hcE, hsL, hin, hcx, rfl⟩ := C
  intro H locs ls hP hD hS hl
  refine va_newq hx hb hown (hts _ hcl) (hcx.2 _ ho) hK hP hD hS hA hv.1 hv.2.1 hv.2.2 (by rw [hcE]; exact hce.1) (by rw [hsL]; exact hce.2) d (fun q c1 H1 hK1 hP1 hD1 hS1 => ?_)
  have e1 : c1 = cA t := zcA_eq hK (ht cA) (hK1.2 (ztys cA).length (c1, .object cn) (by simp)).2
  subst e1
  exact k q H1 locs ls hP1 hD1 hS1 hl
def zNC (own : String) (i ci : Nat) : Prop := ∃ (cn : String) (T : u_T) (N : Nat) (tf : Nat → FieldType), vwCl[ci]? = some (cn, T, N) ∧ (∀ w ∈ u_ws cn T N, w ∈ zT) ∧ (∀ k, k < N → parseFieldDescriptor (T k).2.2.1 = some (tf k)) ∧ Cond.classLink own i cn ∈ zT ∧ Cond.instantiable cn N ∈ zT ∧ Cond.initialized cn ∈ zT ∧ (∀ j, j < N → defaultValue (tf j) = vp_V (zbl ci) j) ∧ N = (zkn ci).length
theorem VC_new (C : zCC K cc own n fr lo CE SL) {i ci : Nat} (hN : zNC own i ci) (hce : ce + 1 ≤ CE ∧ sl + (zkn ci).length ≤ SL) (d : decode cc pc = .ok (.new i, 3)) (k : ∀ q, VC K (pc + 3) L (.ref q :: st) (ws ++ [(q, .inr (ci, zbl ci))]) (ce + 1) (sl + (zkn ci).length)) : VC K pc L st ws ce sl := by
  obtain ⟨⟨p, l, e, R, s, m, args, below, meth, c⟩, ⟨D, A, cA⟩, ⟨n', Q⟩⟩ := K
  obtain ⟨hx, hb, hts, hown, hK, hA, hml, hfr, hlo, hcE, hsL, hin, hcx, rfl⟩ := C
  obtain ⟨cn, T, N, tf, h1, h2, h3, h4, h5, h6, h7, rfl⟩ := hN
  intro H locs ls hP hD hS hl
  exact va_new hx hb hts h2 tf h3 hown (hts _ h4) (hts _ h5) (hts _ h6) hK hP hD hS hA h1 h7 (by rw [hcE]; exact hce.1) (by rw [hsL]; exact hce.2) d (fun q H1 hP1 hD1 hS1 => k q H1 locs ls hP1 hD1 hS1 hl)
/-- a final field, in its class' constructor -/
def zFF (own : String) (i ci k : Nat) (ty : FieldType) : Prop := ∃ (T : u_T) (N : Nat) (tf : Nat → FieldType), vwCl[ci]? = some (own, T, N) ∧ (∀ w ∈ u_ws own T N, w ∈ zT) ∧ k < N ∧ Cond.fieldLink own i (T k).1 (T k).2.1 (T k).2.2.1 ∈ zT ∧ (∀ k, k < N → parseFieldDescriptor (T k).2.2.1 = some (tf k)) ∧ (∀ a, a < N → ∀ b, b < N → a ≠ b → (T a).2.1 ≠ (T b).2.1) ∧ (T k).2.2.2 = true ∧ tf k = ty ∧ (T k).1 = own
theorem VC_putF (C : zCC K cc own n fr lo CE SL) {a x ci k1 i : Nat} {ty : FieldType} {fs : List Value} (hF : zFF own i ci k1 ty) (h0 : ws[0]? = some (a, .inr (ci, fs))) (hfit : narrow ty (.ref x) = .ref x ∧ fits ty (.ref x) = true) (hlen : k1 < fs.length) (d : decode cc pc = .ok (.putfield i, 3)) (k : VC K (pc + 3) L st (ws.set 0 (a, .inr (ci, fs.set k1 (.ref x)))) ce sl) : VC K pc L (.ref x :: .ref a :: st) ws ce sl := by
  obtain ⟨⟨p, l, e, R, s, m, args, below, meth, c⟩, ⟨D, A, cA⟩, ⟨n', Q⟩⟩ := K
  obtain ⟨hx, hb, hts, hown, hK, hA, hml, hfr, hlo, hcE, hsL, hin, hcx, rfl⟩ := C
  obtain ⟨T, N, tf, h1, h2, h3, h4, h5, h6, h7, h8, h9⟩ := hF
  intro H locs ls hP hD hS hl
  exact va_putF hx hb hts h2 tf h5 h6 hown hK hP hD hS 0 h0 h1 k1 h3 (hts _ h4) (fun _ h => h) h7 hin h9 (ty := tf k1) (v := .ref x) (h5 k1 h3) (by rw [h8]; exact hfit.1) (by rw [h8]; exact hfit.2) hlen d (fun H1 locs1 hP1 hD1 hS1 => k H1 locs1 ls hP1 hD1 hS1 hl)
theorem VC_putN (C : zCC K cc own n fr lo CE SL) {a ci k1 i kd : Nat} {ty : FieldType} {fs : List Value} {v : Value} (hF : zFP own i ci k1 kd ty) (h0 : ws[0]? = some (a, .inr (ci, fs))) (hfit : narrow ty v = v ∧ fits ty v = true) (hlen : k1 < fs.length) (d : decode cc pc = .ok (.putfield i, 3)) (k : VC K (pc + 3) L st (ws.set 0 (a, .inr (ci, fs.set k1 v))) ce sl) : VC K pc L (v :: .ref a :: st) ws ce sl := by
  obtain ⟨⟨p, l, e, R, s, m, args, below, meth, c⟩, ⟨D, A, cA⟩, ⟨n', Q⟩⟩ := K
  obtain ⟨hx, hb, hts, hown, hK, hA, hml, hfr, hlo, hcE, hsL, hin, hcx, rfl⟩ := C
  obtain ⟨cn, T, N, tf, h1, h2, h3, h4, h5, h6, h7, h8, h9⟩ := hF
  intro H locs ls hP hD hS hl
  exact va_put hx hb hts h2 tf h6 h7 hown hK hP hD hS 0 h0 h1 k1 h3 (hts _ h4) (fun _ h => h) h8 (ty := tf k1) (v := v) (h6 k1 h3) (by rw [h9]; exact hfit.1) (by rw [h9]; exact hfit.2) hlen d (fun H1 locs1 hP1 hD1 hS1 => k H1 locs1 ls hP1 hD1 hS1 hl)
theorem VC_getN (C : zCC K cc own n fr lo CE SL) {a ci k1 i kd : Nat} {fs : List Value} {v : Value} (hF : zFL own i ci k1 kd) (h0 : ws[0]? = some (a, .inr (ci, fs))) (hv : fs[k1]? = some v) (d : decode cc pc = .ok (.getfield i, 3)) (k : VC K (pc + 3) L (v :: st) ws ce sl) : VC K pc L (.ref a :: st) ws ce sl := by
  obtain ⟨⟨p, l, e, R, s, m, args, below, meth, c⟩, ⟨D, A, cA⟩, ⟨n', Q⟩⟩ := K
  obtain ⟨hx, hb, hts, hown, hK, hA, hml, hfr, hlo, hcE, hsL, hin, hcx, rfl⟩ := C
  obtain ⟨cn, T, N, h1, h2, h3, h4, h5⟩ := hF
  intro H locs ls hP hD hS hl
  exact va_get hx hb hts h2 hown hK hP 0 h0 h1 k1 h3 (hts _ h4) (fun _ h => h) hv d (k H locs ls hP hD hS hl)
theorem VC_alenq (C : zCC K cc own n fr lo CE SL) {a t q0 N : Nat} {cn : String} {f : Nat → Option Nat} {v : Int32} (h0 : ws[q0]? = some (a, .inl (K.2.1.2.2 t, N, .inr (.inr (.inr (.inr f)))))) (ht : ∀ cA, (ztys cA)[t]? = some (cA t, .object cn)) (hv : Int32.ofNat N = v) (d : decode cc pc = .ok (.arraylength, 1)) (k : VC K (pc + 1) L (.int v :: st) ws ce sl) : VC K pc L (.ref a :: st) ws ce sl := by
  obtain ⟨⟨p, l, e, R, s, m, args, below, meth, c⟩, ⟨D, A, cA⟩, ⟨n', Q⟩⟩ := K
  obtain ⟨hx, hb, hts, hown, hK, hA, hml, hfr, hlo, hcE, hsL, hin, hcx, rfl⟩ := C
  intro H locs ls hP hD hS hl
  exact va_alen hx hb hK hP q0 t h0 (ht cA) hv d (k H locs ls hP hD hS hl)
theorem VC_astq (C : zCC K cc own n fr lo CE SL) {a t q0 qk ci N v : Nat} {i : Int32} {r : vw_C} {vs : List Value} {f : Nat → Option Nat} (h0 : ws[q0]? = some (a, .inl (K.2.1.2.2 t, N, .inr (.inr (.inr (.inr f)))))) (ht : ∀ cA, (ztys cA)[t]? = some (cA t, .object r.1)) (hv : ws[qk]? = some (v, .inr (ci, vs))) (hc : vwCl[ci]? = some r) (hi : ixb i N = true) (d : decode cc pc = .ok (.aastore, 1)) (k : VC K (pc + 1) L st (ws.set q0 (a, .inl (K.2.1.2.2 t, N, .inr (.inr (.inr (.inr (va_up f (ix i) (some v)))))))) ce sl) : VC K pc L (.ref v :: .int i :: .ref a :: st) ws ce sl := by
  obtain ⟨⟨p, l, e, R, s, m, args, below, meth, c⟩, ⟨D, A, cA⟩, ⟨n', Q⟩⟩ := K
  obtain ⟨hx, hb, hts, hown, hK, hA, hml, hfr, hlo, hcE, hsL, hin, hcx, rfl⟩ := C
  intro H locs ls hP hD hS hl
  exact va_astq hx hb hK hP hD hS q0 t qk ci h0 (ht cA) hv hc (ixb_in hi) d (fun H1 locs1 hP1 hD1 hS1 => k H1 locs1 ls hP1 hD1 hS1 hl)
theorem VC_ws {ws' : va_W} (h : ws = ws') (k : VC K pc L st ws' ce sl) : VC K pc L st ws ce sl := h ▸ k
theorem VC_num {ce' sl' : Nat} (h : ce = ce' ∧ sl = sl') (k : VC K pc L st ws ce' sl') : VC K pc L st ws ce sl := h.1 ▸ h.2 ▸ k
end ZC
theorem zCX_call {s U : State} (h : zCX s) (hW : s.WarmedH U.vm) : zCX U := ⟨fun r hr => va_Nw.warmM hW (h.1 r hr), fun C hC => va_AO.moved hW.alike (h.2 C hC)⟩
def zCpre (D : va_G) (cA : Nat → ClassId) (ci q0 sz : Nat) : Array Value → State → Prop :=
  va_Pc [.ref q0] (fun U => U.heap.size = sz ∧ va_P D vwCl [(q0, .inr (ci, zbl ci))] U.heap ∧ va_K D vwCl (ztys cA) U ∧ va_D (fun _ => True) [(q0, .inr (ci, zbl ci))] ∧ zCX U)
def zCpost (w : zWd) (S : zM) (D : va_G) (cA : Nat → ClassId) (ci q0 sz : Nat) : Array Value → State → Outcome → State → Prop :=
  va_Qv (fun μ : Nat → Nat => μ 0 = q0) (fun μ t => va_P D vwCl (zws w μ cA S) t.heap ∧ va_D (va_A [(q0, .inr (ci, zbl ci))] sz) (zws w μ cA S)) (va_A [(q0, .inr (ci, zbl ci))] sz)
/-- a constructor's contract: of a blank object it makes a world -/
def zCt (l : Launch) (y : MethodName) (cc : ByteArray) (n fr lo CE SL ci : Nat) (w : zWd) (S : zM) : Prop :=
  ∀ (D : va_G) (cA : Nat → ClassId) (q0 sz : Nat), Met l y (Cond.code y cc n none :: zT) { frames := fr, cells := CE, slots := SL, locals := lo } (zCpre D cA ci q0 sz) (zCpost w S D cA ci q0 sz) CE SL (va_A [(q0, .inr (ci, zbl ci))] sz)
theorem zCpre_blind {D : va_G} {cA : Nat → ClassId} {ci q0 sz : Nat} : FrameBlind (zCpre D cA ci q0 sz) := by
  intro a U g mk q
  obtain ⟨q0, q1, qP, qK, qD, qX⟩ := q
  exact ⟨q0, q1, qP, va_K.moved (u := U) (U := U.calling g mk a) (Vm.Alike.refl U.vm) qK, qD, ⟨fun r hr => va_Nw.same rfl (u := U) (U := U.calling g mk a) rfl (qX.1 r hr), fun C hC => va_AO.moved (u := U) (U := U.calling g mk a) (Vm.Alike.refl U.vm) (qX.2 C hC)⟩⟩
theorem znd_range (n : Nat) : va_nd (List.range n) = true := by
  have key : ∀ (l : List Nat), l.Nodup → va_nd l = true := by
    intro l
    induction l with
    | nil => intro _; rfl
    | cons a t ih =>
      intro h
      obtain ⟨h1, h2⟩ := List.nodup_cons.mp h
      simp only [va_nd, Bool.and_eq_true, decide_eq_true_eq]
      exact ⟨h1, ih h2⟩
  exact key _ List.nodup_range
theorem zjoin {A0 : Nat → Prop} {D : va_G} {cl : List vw_C} {X w1 : va_W} {c : Nat × va_E} {H H1 : Heap} (hP : va_P D cl (X ++ [c]) H) (hD : va_D A0 (X ++ [c])) (hk : ∀ q : Nat, q < H.size → ¬ va_A [c] H.size q → H1[q]? = H[q]?) (hF : ∀ q, va_A [c] H.size q → A0 q) (hP1 : va_P D cl w1 H1) (hD1 : va_D (va_A [c] H.size) w1) : va_P D cl (X ++ w1) H1 ∧ va_D A0 (X ++ w1) := by
  refine va_join (wc := [c]) (wr := X) hP hD [X.length] (List.range X.length) (by simp) ?_ (znd_range _) (fun i hi => ?_) hk hF hP1 hD1
  · apply List.ext_getElem?
    intro i
    by_cases hi : i < X.length
    · rw [List.getElem?_map, List.getElem?_range hi, List.getElem?_map, List.getElem?_eq_getElem hi]
      simp [List.getElem?_append_left hi, List.getElem?_eq_getElem hi]
    · simp [hi]
  · have := List.mem_range.mp hi
    simp
    omega
section ZC2
variable {K : zKC} {cc : ByteArray} {own : String} {n fr lo CE SL pc ce sl : Nat} {L : zL} {st : List Value} {ws : va_W}
theorem VC_callI (C : zCC K cc own n fr lo CE SL) {y : MethodName} {cc' : ByteArray} {n' fr' lo' CE' SL' ci q i : Nat} {w : zWd} {S : zM} {X : va_W}
    (hM : zCt K.1.2.1 y cc' n' fr' lo' CE' SL' ci w S) (hm : zMth y cc' n' none 0) (hi : Cond.instanceMethod y ∈ zT) (hname : y.name = "<init>") (hlink : Cond.methodLink own i y ∈ zT)
    (hroom : fr' + 1 ≤ fr ∧ 8 + (n' + 11) + lo' ≤ lo ∧ ce + CE' ≤ CE ∧ sl + SL' ≤ SL) (hst : (st.map fun v => v.category).sum ≤ 8) (d : decode cc pc = .ok (.invokespecial i, 3))
    (k : ∀ μ : Nat → Nat, μ 0 = q → VC K (pc + 3) L st (X ++ zws w μ K.2.1.2.2 S) (ce + CE') (sl + SL')) : VC K pc L (.ref q :: st) (X ++ [(q, .inr (ci, zbl ci))]) ce sl := by
  obtain ⟨⟨p, l, e, R, s, m, args, below, meth, c⟩, ⟨D, A, cA⟩, ⟨n0, Q⟩⟩ := K
  obtain ⟨hx, hb, hts, hown, hK, hA, hml, hfr, hlo, hcE, hsL, hin, hcx, rfl⟩ := C
  intro H locs ls hP hD hS hl
  have hl1 : (X ++ [((q : Nat), (Sum.inr (ci, zbl ci) : va_E))])[X.length]? = some (q, .inr (ci, zbl ci)) := by simp
  have hFc : ∀ z, va_A [(q, .inr (ci, zbl ci))] H.size z → A z := by
    intro z h
    rcases h with ⟨j, e, h⟩ | h
    · cases j with
      | zero => cases h; exact hD.2 _ _ hl1
      | succ j => simp at h
    · exact hA z (Nat.le_trans hS.1 h)
  refine va_callv (va_runI (As := []) (rest := st) ⟨hx, hb, hml, hown, hts⟩ (hM D cA q H.size) (cwI 0 hts (zTgood (fun w hw => by
      rcases List.mem_cons.mp hw with rfl | h
      · exact hm.1
      · exact h)) rfl rfl rfl (hts _ hm.2.1) (hts _ hlink) (hts _ hi) hname hm.2.2 ⟨by rw [hfr]; exact hroom.1, by rw [hlo]; exact hroom.2.1⟩)
    ⟨zCpre_blind, fun U hU hW => ⟨rfl, by rw [hU], ?_, va_K.moved hW.alike hK, ?_, zCX_call hcx hW⟩⟩
    rfl rfl hl.1 rfl (lv_room hst) d ⟨by rw [hcE]; exact hroom.2.2.1, by rw [hsL]; exact hroom.2.2.2⟩) hS (fun z _ h => hFc z h) hFc (fun μ t H1 locs1 ht hvm hw hB hz1 hk1 hS1 => ?_)
  · rw [hU]
    intro j x hx1
    cases j with
    | zero => cases hx1; exact hP _ _ hl1
    | succ j => simp at hx1
  · refine ⟨fun i j x y hi hj hxy => ?_, fun _ _ _ => trivial⟩
    cases i with
    | zero =>
      cases j with
      | zero => rfl
      | succ j => simp at hj
    | succ i => simp at hi
  · obtain ⟨hP1, hD1⟩ := hB
    rw [ht] at hP1
    obtain ⟨hP2, hD2⟩ := zjoin hP hD hk1 hFc hP1 hD1
    exact k μ hw H1 locs1 ls hP2 hD2 hS1 hl
theorem VC_callN (C : zCC K cc own n fr lo CE SL) {y : MethodName} {cc' : ByteArray} {n' fr' lo' CE' SL' ci q i : Nat} {host : String} {w : zWd} {S : zM} {X : va_W}
    (hM : zCt K.1.2.1 y cc' n' fr' lo' CE' SL' ci w S) (hm : zMth y cc' n' none 0) (hi : Cond.instanceMethod y ∈ zT) (hname : y.name = "<init>") (hlink : (own, i, y, host) ∈ zNw)
    (hroom : fr' + 1 ≤ fr ∧ 8 + (n' + 11) + lo' ≤ lo ∧ ce + CE' ≤ CE ∧ sl + SL' ≤ SL) (hst : (st.map fun v => v.category).sum ≤ 8) (d : decode cc pc = .ok (.invokespecial i, 3))
    (k : ∀ μ : Nat → Nat, μ 0 = q → VC K (pc + 3) L st (X ++ zws w μ K.2.1.2.2 S) (ce + CE') (sl + SL')) : VC K pc L (.ref q :: st) (X ++ [(q, .inr (ci, zbl ci))]) ce sl := by
  obtain ⟨⟨p, l, e, R, s, m, args, below, meth, c⟩, ⟨D, A, cA⟩, ⟨n0, Q⟩⟩ := K
  obtain ⟨hx, hb, hts, hown, hK, hA, hml, hfr, hlo, hcE, hsL, hin, hcx, rfl⟩ := C
  intro H locs ls hP hD hS hl
  have hl1 : (X ++ [((q : Nat), (Sum.inr (ci, zbl ci) : va_E))])[X.length]? = some (q, .inr (ci, zbl ci)) := by simp
  have hFc : ∀ z, va_A [(q, .inr (ci, zbl ci))] H.size z → A z := by
    intro z h
    rcases h with ⟨j, e, h⟩ | h
    · cases j with
      | zero => cases h; exact hD.2 _ _ hl1
      | succ j => simp at h
    · exact hA z (Nat.le_trans hS.1 h)
  refine va_callv (va_runIN (As := []) (rest := st) ⟨hx, hb, hml, hown, hts⟩ (hM D cA q H.size) ⟨va_cnB 0 hts (zTgood (fun w hw => by
      rcases List.mem_cons.mp hw with rfl | h
      · exact hm.1
      · exact h)) rfl rfl rfl (hcx.1 _ hlink) (hts _ hm.2.1) hm.2.2 ⟨by rw [hfr]; exact hroom.1, by rw [hlo]; exact hroom.2.1⟩, hname, hts _ hi⟩
    ⟨zCpre_blind, fun U hU hW => ⟨rfl, by rw [hU], ?_, va_K.moved hW.alike hK, ?_, zCX_call hcx hW⟩⟩
    rfl rfl hl.1 rfl (lv_room hst) d ⟨by rw [hcE]; exact hroom.2.2.1, by rw [hsL]; exact hroom.2.2.2⟩) hS (fun z _ h => hFc z h) hFc (fun μ t H1 locs1 ht hvm hw hB hz1 hk1 hS1 => ?_)
  · rw [hU]
    intro j x hx1
    cases j with
    | zero => cases hx1; exact hP _ _ hl1
    | succ j => simp at hx1
  · refine ⟨fun i j x y hi hj hxy => ?_, fun _ _ _ => trivial⟩
    cases i with
    | zero =>
      cases j with
      | zero => rfl
      | succ j => simp at hj
    | succ i => simp at hi
  · obtain ⟨hP1, hD1⟩ := hB
    rw [ht] at hP1
    obtain ⟨hP2, hD2⟩ := zjoin hP hD hk1 hFc hP1 hD1
    exact k μ hw H1 locs1 ls hP2 hD2 hS1 hl
end ZC2
theorem zctor {l : Launch} {y : MethodName} {cc : ByteArray} {n fr lo CE SL ci : Nat} {w : zWd} {S : zM} (hy : plainFor y = true) (hname : y.name = "<init>") (hn : Nat.ble 1 n = true)
    (body : ∀ (K : zKC) (q0 : Nat), K.1.2.1 = l → zCC K cc y.cls n fr lo CE SL → (∀ (pc : Nat) (L : zL) (μ : Nat → Nat), decode cc pc = .ok (.return_, 1) → μ 0 = q0 → VC K pc L [] (zws w μ K.2.1.2.2 S) CE SL) → VC K 0 (zent n [.ref q0]) [] [(q0, .inr (ci, zbl ci))] 0 0) : zCt l y cc n fr lo CE SL ci w S := by
  intro D cA q0 sz
  refine zofW (cc := cc) (maxL := n) (ret := none) hy rfl ?_
  intro p e s m args below meth c s₁ B hml hv
  obtain ⟨rfl, hsz, hP, hK, hD0, hX⟩ := hv
  subst hsz
  have hts := atoms_spec (ws := Cond.code y cc n none :: zT) B.pre
  have hown : s.vm.findClass y.cls = some m.cls := findClass_of_methodNamed B.named
  have hmn : meth.name = "<init>" := (name_of_methodNamed B.named B.method).1.trans hname
  let K : zKC := ((p, l, e, { frames := fr, cells := CE, slots := SL, locals := lo }, s, m, ([.ref q0] : List Value).toArray, below, meth, c), (D, va_A [(q0, .inr (ci, zbl ci))] s.heap.size, cA), (n, MQ below (zCpost w S D cA ci q0 s.heap.size) ([.ref q0] : List Value).toArray s CE SL (va_A [(q0, .inr (ci, zbl ci))] s.heap.size)))
  have C : zCC K cc y.cls n fr lo CE SL := ⟨B.exec, B.bytes, fun w hw => hts w (List.mem_cons_of_mem _ hw), hown, hK, fun q h => Or.inr h, hml, rfl, rfl, rfl, rfl, hmn, hX, rfl⟩
  have hr : meth.sig.returnType = none := B.returns
  have hlk := B.notSynchronized
  have hb := body K q0 rfl C (fun pc L μ d h0 H locs ls hP hD hS hl => W.vret B.exec B.bytes hr (fun t ht hW => ⟨⟨μ, rfl, h0, by rw [ht]; exact hP, hD⟩, hS.F ht⟩) hS.2.2 d hlk)
  have hl := lv_entry ([.ref q0]) (n := n) (Nat.le_of_ble_eq_true hn)
  rw [lg_entry_eq]
  refine hb s.heap [] _ hP hD0.self va_S.rf ⟨hl.1, hl.2.1, fun i v hi => ?_⟩
  have hi2 : i = 0 ∧ v = .ref q0 := by
    unfold zent at hi
    rw [List.getElem?_map] at hi
    cases hr : (List.range n)[i]? with
    | none => rw [hr] at hi; cases hi
    | some j =>
      have hj : j = i := by
        have h9 := List.getElem?_eq_some_iff.mp hr
        obtain ⟨h9, h8⟩ := h9
        simpa using h8.symm
      rw [hr] at hi
      subst hj
      simp only [Option.map_some, Option.some.injEq] at hi
      cases j with
      | zero =>
        refine ⟨rfl, ?_⟩
        have : (lg_sl [Value.ref q0])[0]? = some (.val (.ref q0)) := rfl
        rw [this] at hi
        simpa using hi.symm
      | succ j =>
        have : (lg_sl [Value.ref q0])[j + 1]? = none := rfl
        rw [this] at hi
        cases hi
  obtain ⟨rfl, rfl⟩ := hi2
  exact hl.2.2 (0, .ref q0) List.mem_cons_self
/-! worlds out of blocks -/
def zmu : List (Nat × (Nat → Nat)) → Nat → Nat
  | [], _ => 0
  | (n, f) :: t, k => if k < n then f k else zmu t (k - n)
def zsum : List (Nat × (Nat → Nat)) → Nat → Nat
  | [], _ => 0
  | _, 0 => 0
  | (n, _) :: t, i + 1 => n + zsum t i
theorem zmu_at : ∀ (l : List (Nat × (Nat → Nat))) (i o n : Nat) (f : Nat → Nat), l[i]? = some (n, f) → zsum l i = o → ∀ k, k < n → zmu l (o + k) = f k
  | [], i, o, n, f, h, _, k, hk => by simp at h
  | (n0, f0) :: t, 0, o, n, f, h, h2, k, hk => by
    simp only [List.getElem?_cons_zero, Option.some.injEq, Prod.mk.injEq] at h
    obtain ⟨rfl, rfl⟩ := h
    have : o = 0 := by rw [← h2]; rfl
    subst this
    unfold zmu
    rw [if_pos (by omega), Nat.zero_add]
  | (n0, f0) :: t, i + 1, o, n, f, h, h2, k, hk => by
    have h3 : n0 + zsum t i = o := h2
    unfold zmu
    rw [if_neg (by omega)]
    have h4 := zmu_at t i (zsum t i) n f (by simpa using h) rfl k hk
    rw [show o + k - n0 = zsum t i + k by omega]
    exact h4
/-- the first memory: references, and ints that are not 0 -/
def zS (rs : List (Nat × Nat × Nat)) (is : List (Nat × Nat × Int32)) : zM :=
  (fun q k => ((is.find? (fun x => x.1 == q && x.2.1 == k)).map (fun x => x.2.2)).getD 0, fun _ _ => 0, fun q k => ((rs.find? (fun x => x.1 == q && x.2.1 == k)).map (fun x => x.2.2)).getD 0)
theorem zapp {F : Nat → Nat × va_E} {o n : Nat} {ws B : va_W} (h1 : ws = (List.range o).map F) (h2 : B = (List.range n).map (fun k => F (o + k))) : ws ++ B = (List.range (o + n)).map F := by
  rw [List.range_add, List.map_append, List.map_map, h1, h2]
  rfl
def zcmp (o n : Nat) (e e1 : zE) (g g1 : Nat → Nat) : Bool :=
  e.1 == e1.1 && (e.2.1 == e1.2.1 && (e.2.2.1 == e1.2.2.1 && (
    if e.1 = 0 then (List.range (zkn e.2.1).length).all (fun j => let kd := (zkn e.2.1).getD j 0
      if kd = 3 then decide (g j = o + g1 j ∧ g1 j < n) else if kd = 4 then decide (e.2.2.2.getD j 0 = o + e1.2.2.2.getD j 0 ∧ e1.2.2.2.getD j 0 < n) else true)
    else if e.1 = 1 then true else if e.1 = 2 then true else decide (e.2.2.2 = e1.2.2.2.map (fun x => o + x)) && e1.2.2.2.all (fun x => decide (x < n)))))
theorem zcmp_zen {μ μ1 : Nat → Nat} {cA : Nat → ClassId} {S S1 : zM} {o n k : Nat} {e e1 : zE} (hμ : ∀ k, k < n → μ (o + k) = μ1 k) (hI : gI S (o + k) = gI S1 k) (hL : gL S (o + k) = gL S1 k) (h : zcmp o n e e1 (gR S (o + k)) (gR S1 k) = true) : zen μ cA S (o + k) e = zen μ1 cA S1 k e1 := by
  unfold zcmp at h
  simp only [Bool.and_eq_true, beq_iff_eq] at h
  obtain ⟨h1, h2, h3, h4⟩ := h
  unfold zen
  rw [← h1, ← h2, ← h3]
  by_cases c0 : e.1 = 0
  · rw [if_pos c0] at h4 ⊢
    rw [if_pos c0]
    congr 2
    unfold zfs
    apply List.map_congr_left
    intro j hj
    have h5 := List.all_eq_true.mp h4 j hj
    unfold zfv
    rw [hI, hL]
    by_cases c2 : (zkn e.2.1).getD j 0 = 2
    · rw [if_pos c2, if_pos c2]
    · rw [if_neg c2, if_neg c2]
      by_cases c3 : (zkn e.2.1).getD j 0 = 3
      · rw [if_pos c3] at h5 ⊢
        rw [if_pos c3]
        obtain ⟨h6, h7⟩ := of_decide_eq_true h5
        rw [h6, hμ _ h7]
      · rw [if_neg c3] at h5 ⊢
        rw [if_neg c3]
        by_cases c4 : (zkn e.2.1).getD j 0 = 4
        · rw [if_pos c4] at h5 ⊢
          rw [if_pos c4]
          obtain ⟨h6, h7⟩ := of_decide_eq_true h5
          rw [h6, hμ _ h7]
        · rw [if_neg c4, if_neg c4]
  · rw [if_neg c0] at h4 ⊢
    rw [if_neg c0]
    by_cases c1 : e.1 = 1
    · rw [if_pos c1, if_pos c1, hI]
    · rw [if_neg c1] at h4 ⊢
      rw [if_neg c1]
      by_cases c2 : e.1 = 2
      · rw [if_pos c2, if_pos c2, hL]
      · rw [if_neg c2] at h4 ⊢
        rw [if_neg c2]
        simp only [Bool.and_eq_true] at h4
        have h6 := of_decide_eq_true h4.1
        have h7 := List.all_eq_true.mp h4.2
        have hf : (fun j : Nat => (e.2.2.2[j]?).map μ) = fun j : Nat => (e1.2.2.2[j]?).map μ1 := by
         funext j
         rw [h6, List.getElem?_map]
         cases hx : e1.2.2.2[j]? with
         | none => rfl
         | some x =>
          have := of_decide_eq_true (h7 x (List.mem_of_getElem? hx))
          simp only [Option.map_some]
          rw [hμ x this]
        rw [hf]
theorem zblk {w w1 : zWd} {μ μ1 : Nat → Nat} {cA : Nat → ClassId} {S S1 : zM} {o n : Nat} (hn : w1.1 = n) (hμ : ∀ k, k < n → μ (o + k) = μ1 k) (hI : ∀ k, k < n → gI S (o + k) = gI S1 k) (hL : ∀ k, k < n → gL S (o + k) = gL S1 k) (h : (List.range n).all (fun k => zcmp o n (w.2 (o + k)) (w1.2 k) (gR S (o + k)) (gR S1 k)) = true) :
    zws w1 μ1 cA S1 = (List.range n).map (fun k => (fun q => (μ q, zen μ cA S q (w.2 q))) (o + k)) := by
  unfold zws
  rw [hn]
  apply List.map_congr_left
  intro k hk
  have hk2 := List.mem_range.mp hk
  have h1 := zcmp_zen (cA := cA) hμ (hI k hk2) (hL k hk2) (List.all_eq_true.mp h k hk)
  show (μ1 k, zen μ1 cA S1 k (w1.2 k)) = (μ (o + k), zen μ cA S (o + k) (w.2 (o + k)))
  rw [h1, hμ k hk2]
theorem zup_app (vs : List Nat) (v : Nat) : va_up (fun j => vs[j]?) vs.length (some v) = fun j => (vs ++ [v])[j]? := by
  funext j
  unfold va_up
  by_cases h : j = vs.length
  · subst h
    simp
  · rw [if_neg h]
    show vs[j]? = (vs ++ [v])[j]?
    by_cases h2 : j < vs.length
    · rw [List.getElem?_append_left h2]
    · have h3 : (vs ++ [v]).length = vs.length + 1 := by rw [List.length_append]; rfl
      rw [List.getElem?_eq_none (show vs.length ≤ j by omega), List.getElem?_eq_none (show (vs ++ [v]).length ≤ j by omega)]
theorem VC_astv {K : zKC} {cc : ByteArray} {own : String} {n fr lo CE SL pc ce sl : Nat} {L : zL} {st : List Value} {ws : va_W} (C : zCC K cc own n fr lo CE SL) {a t q0 qk ci N v : Nat} {i : Int32} {r : vw_C} {vs : List Value} {us : List Nat} (h0 : ws[q0]? = some (a, .inl (K.2.1.2.2 t, N, .inr (.inr (.inr (.inr (fun j => us[j]?))))))) (ht : ∀ cA, (ztys cA)[t]? = some (cA t, .object r.1)) (hv : ws[qk]? = some (v, .inr (ci, vs))) (hc : vwCl[ci]? = some r) (hi : ixb i N = true) (hu : ix i = us.length) (d : decode cc pc = .ok (.aastore, 1)) (k : VC K (pc + 1) L st (ws.set q0 (a, .inl (K.2.1.2.2 t, N, .inr (.inr (.inr (.inr (fun j => (us ++ [v])[j]?))))))) ce sl) : VC K pc L (.ref v :: .int i :: .ref a :: st) ws ce sl := by
  refine VC_astq C h0 ht hv hc hi d ?_
  rw [hu, zup_app]
  exact k
