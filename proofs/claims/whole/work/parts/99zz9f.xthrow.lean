/-! The class' led throws. -/
theorem zent_lv {μ : Nat → Nat} {av : List Value} {n : Nat} (hlen : (lg_sl av).length ≤ n) : zlv μ ((lg_sl (av.map (ztr μ)) ++ List.replicate (n - (lg_sl (av.map (ztr μ))).length) Slot.unset).toArray) n (zent n av) := by
  have hlg : (lg_sl (av.map (ztr μ))).length = (lg_sl av).length ∧ ∀ (i : Nat) (v : Value), (lg_sl av)[i]? = some (.val v) → (lg_sl (av.map (ztr μ)))[i]? = some (.val (ztr μ v)) := by
    have e : lg_sl (av.map (ztr μ)) = (lg_sl av).map (fun s => match s with
      | .val v => .val (ztr μ v)
      | s => s) := by
      unfold lg_sl
      rw [List.flatMap_map, List.map_flatMap]
      congr 1
      funext v
      rw [ztr_cat]
      by_cases h : v.category = 2 <;> simp [h]
    rw [e]
    refine ⟨List.length_map _, fun i v h => ?_⟩
    rw [List.getElem?_map, h]
    rfl
  have hl := lv_entry (av.map (ztr μ)) (n := n) (by rw [hlg.1]; exact hlen)
  refine ⟨hl.1, hl.2.1, fun i v hi => ?_⟩
  unfold zent at hi
  rw [List.getElem?_map] at hi
  have hin : i < n := by
    rcases Nat.lt_or_ge i n with h | h
    · exact h
    · rw [List.getElem?_eq_none (by simpa using h)] at hi
      cases hi
  rw [List.getElem?_range hin] at hi
  simp only [Option.map_some, Option.some.injEq] at hi
  obtain ⟨sl, h1, h2⟩ := Option.bind_eq_some_iff.mp hi
  have h3 : sl = .val v := by
    cases sl with
    | val u => simp only [Option.some.injEq] at h2; rw [h2]
    | _ => cases h2
  rw [h3] at h1
  have h4 := hlg.2 i v h1
  have h5 := (List.getElem?_eq_some_iff.mp h4).1
  rw [List.getElem?_toArray, List.getElem?_append_left h5]
  exact h4
theorem va_P_kept {D : va_G} {cl : List vw_C} {ws : va_W} {H H1 : Heap} (hP : va_P D cl ws H) (hk : ∀ q : Nat, q < H.size → H1[q]? = H[q]?) : va_P D cl ws H1 := fun k q h => (hP k q h).kept (hk _ (hP k q h).lt)
theorem ns_str : ("LittleMore", 449, "no such answe\x72", 28) ∈ zS0.2.2 := by decide +kernel
def xPre (D : va_G) (cA : Nat → ClassId) (μ : Nat → Nat) (sz : Nat) (av : List Value) (S : zM) : Array Value → State → Prop :=
  va_Pc (av.map (ztr μ)) (fun U => U.heap.size = sz ∧ va_P D vwCl (zws cW μ cA S) U.heap ∧ va_K D vwCl (ztys cA) U ∧ (∀ S', va_D (fun _ => True) (zws cW μ cA S')) ∧ zOK zS0 μ (va_A (zws cW μ cA S) sz) U U.heap ∧ nsOK (va_A (zws cW μ cA S) sz) U U.heap)
def xXC (D : va_G) (cA : Nat → ClassId) (μ : Nat → Nat) (sz : Nat) (S : zM) : String → State → State → Prop := fun E st t => E = nsE ∧ va_P D vwCl (zws cW μ cA S) t.heap ∧ va_F (va_A (zws cW μ cA S) sz) st t
theorem zOK_same {z : zSt} {μ : Nat → Nat} {A : Nat → Prop} {u U : State} {H : Heap} (hvm : u.vm = U.vm) (h : zOK z μ A u H) : zOK z μ A U H :=
  ⟨h.1.moved (by rw [hvm]; exact Vm.Alike.refl U.vm), fun r hr => (h.2.1 r hr).same hvm.symm, h.2.2.1.moved (by rw [hvm]; exact Vm.Alike.refl U.vm), by
    obtain ⟨v, h1, h2⟩ := h.2.2.2.1
    exact ⟨v, h1, h2.moved (by rw [hvm]; exact Vm.Alike.refl U.vm)⟩, fun r hr => va_Nw.same rfl hvm (h.2.2.2.2 r hr)⟩
theorem xPre_blind {D : va_G} {cA : Nat → ClassId} {μ : Nat → Nat} {sz : Nat} {av : List Value} {S : zM} : FrameBlind (xPre D cA μ sz av S) := by
  intro a U g mk q
  obtain ⟨q0, q1, qP, qK, qD, qZ, qN⟩ := q
  exact ⟨q0, q1, qP, va_K.moved (u := U) (U := U.calling g mk a) (Vm.Alike.refl U.vm) qK, qD, zOK_same (u := U) (U := U.calling g mk a) rfl qZ, nsOK.same (u := U) (U := U.calling g mk a) rfl qN⟩
set_option maxRecDepth 100000 in
theorem xX11_led {l : Launch} (hl : l.stackTraces = false) {S : zM} {a1 a2 v : Int32} (h : lRow S a1 a2 = some v) (hv : v < 0) (D : va_G) (cA : Nat → ClassId) (μ : Nat → Nat) (sz : Nat) : vx_Met l yX11_led (Cond.code yX11_led cX11_led 4 (some .int) :: zT) { frames := 6, cells := 1, slots := 6, locals := 82 } (xPre D cA μ sz [.ref 0, .int a1, .int a2] S) (fun _ _ _ _ => False) (xXC D cA μ sz S) 1 6 (va_A (zws cW μ cA S) sz) := by
  refine vx_ofW (cc := cX11_led) (maxL := 4) (ret := some .int) (by decide) rfl ?_
  intro p e s m args below meth c s₁ B hml hex hv0
  obtain ⟨rfl, hsz, hP, hK, hD0, hZ, hN⟩ := hv0
  subst hsz
  have hts := atoms_spec (ws := Cond.code yX11_led cX11_led 4 (some .int) :: zT) B.pre
  have hts2 : ∀ w ∈ zT, w.before _ s = true := fun w hw => hts w (List.mem_cons_of_mem _ hw)
  have hown : s.vm.findClass yX11_led.cls = some m.cls := findClass_of_methodNamed B.named
  have hD : ∀ S1, va_D (va_A (zws cW μ cA S) s.heap.size) (zws cW μ cA S1) := fun S1 => zD_any (hD0 S).self
  have hlk := B.notSynchronized
  rw [lg_entry_eq]
  let K : zK := ((p, l, e, { frames := 6, cells := 1, slots := 6, locals := 82 }, s, m, (([.ref 0, .int a1, .int a2] : List Value).map (ztr μ)).toArray, below, meth, c), (D, va_A (zws cW μ cA S) s.heap.size, cA, μ), (4, vx_MQ below (fun _ _ _ _ => False) (xXC D cA μ s.heap.size S) (([.ref 0, .int a1, .int a2] : List Value).map (ztr μ)).toArray s 1 6 (va_A (zws cW μ cA S) s.heap.size), cW, zS0))
  have C : zC K cX11_led yX11_led.cls 4 6 82 cW := ⟨B.exec, B.bytes, hts2, hown, hK, hD, fun q h => Or.inr h, hml, rfl, rfl, hZ, rfl, rfl, rfl⟩
  have hw : V K 0 [some (.ref 0), some (.int a1), some (.int a2), none] [] S := by
    refine led_walk C (by omega) (by omega) h ?_
    refine V_iload_n (pc := 22) C dX11_led_22 rfl rfl ?_
    refine V_if_ge (tgt := 37) (pc := 23) C dX11_led_23 (by decide) (fun hc => absurd hv (Int32.not_lt.mpr hc)) (fun _ => ?_)
    intro H locs ls hP1 hS1 hl1
    exact ns_throw B.exec B.bytes hl hown (hts2 _ ns_cl) (hts2 _ ns_ini) (hZ.2.1 _ ns_str) (ns_hat hts2 hN) ns_ot hN.2.1 hN.2.2 hS1 (hl1.1.trans hml.symm) dX11_led_26 dX11_led_29 dX11_led_30 dX11_led_33 dX11_led_36 (fun x hx => absurd (hex x hx) id) (by decide) (Nat.le_of_ble_eq_true rfl) (by decide) (by decide) hlk
      (fun t _ h1 h2 => ⟨rfl, va_P_kept hP1 h2, Nat.le_trans hS1.1 h1, fun q h3 h4 => by rw [h2 q (Nat.lt_of_lt_of_le h3 hS1.1)]; exact hS1.2.1 q h3 h4⟩) hS1.2.2 (by decide) (by decide)
  exact hw s.heap [] _ hP va_S.rf (zent_lv (av := [.ref 0, .int a1, .int a2]) (Nat.le_of_ble_eq_true rfl))
