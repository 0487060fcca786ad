/-! The class' led by its machine: it answers, or it throws. -/
def nsOK (A : Nat → Prop) (U : State) (H : Heap) : Prop := (∀ w ∈ nsD, va_Nw w U) ∧ vx_Zq Bundle.tN "UNASSIGNED_STACK" Bundle.steD A U H ∧ vx_Zq Bundle.tN "SUPPRESSED_SENTINEL" Bundle.listD A U H
theorem nsOK.call {A A' : Nat → Prop} {s U : State} {H : Heap} {locs : List Loc} (h : nsOK A s s.heap) (hS : va_S A s.heap H locs) (hW : s.WarmedH U.vm) (hA : ∀ q, A' q → A q) : nsOK A' U H :=
  ⟨List.forall_mem_cons.mpr ⟨va_Nw.warmD hW (h.1 _ List.mem_cons_self), List.forall_mem_cons.mpr ⟨va_Nw.warmD hW (h.1 _ (List.mem_cons_of_mem _ List.mem_cons_self)), List.forall_mem_cons.mpr ⟨va_Nw.warmD hW (h.1 _ (List.mem_cons_of_mem _ (List.mem_cons_of_mem _ List.mem_cons_self))), List.forall_mem_cons.mpr ⟨va_Nw.warmC hW (h.1 _ (List.mem_cons_of_mem _ (List.mem_cons_of_mem _ (List.mem_cons_of_mem _ List.mem_cons_self)))), fun _ h => absurd h List.not_mem_nil⟩⟩⟩⟩,
    ((h.2.1.kept hS.2.1).moved hW.alike).narrow hA, ((h.2.2.kept hS.2.1).moved hW.alike).narrow hA⟩
theorem nsD_tab : ∀ w ∈ nsD, w.onTables = true := by decide
theorem nsOK.same {A : Nat → Prop} {u U : State} {H : Heap} (hvm : u.vm = U.vm) (h : nsOK A u H) : nsOK A U H :=
  ⟨fun w hw => va_Nw.same (nsD_tab w hw) hvm (h.1 w hw), h.2.1.moved (by rw [hvm]; exact Vm.Alike.refl U.vm), h.2.2.moved (by rw [hvm]; exact Vm.Alike.refl U.vm)⟩
theorem ns_hat {s : State} {args : Array Value} {A : Nat → Prop} {H : Heap} (hts : ∀ w ∈ zT, w.before args s = true) (h : nsOK A s H) : ∀ w ∈ (nsL RX11 451).filter vx_no, w.before args s = true := fun w hw => by
  obtain ⟨h1, h2⟩ := List.mem_filter.mp hw
  rcases ns_in w h1 h2 with z | z
  · exact hts w z
  · exact va_Nw.use (nsD_tab w z) (h.1 w z)
theorem ns_ot : ∀ w ∈ Cond.classLink RX11 447 nsE :: Cond.initialized nsE :: (nsL RX11 451).filter vx_no, vx_ot w = true := by
  have g : ∀ w, goodWord w = true → vx_ot w = true := fun w h => by unfold vx_ot; rw [h, Bool.or_true]
  refine List.forall_mem_cons.mpr ⟨g _ (zTg ns_cl), List.forall_mem_cons.mpr ⟨g _ (zTg ns_ini), fun w hw => ?_⟩⟩
  obtain ⟨h1, h2⟩ := List.mem_filter.mp hw
  rcases ns_in w h1 h2 with z | z
  · exact g _ (zTg z)
  · unfold vx_ot; rw [nsD_tab w z, Bool.true_or]
set_option maxRecDepth 100000 in
theorem led_walk {K : zK} {fr lo : Nat} (C : zC K cX11_led yX11_led.cls 4 fr lo cW) (hfr : 2 ≤ fr) (hlo : 46 ≤ lo) {S : zM} {a1 a2 v : Int32} (h : lRow S a1 a2 = some v) (k : V K 22 [some (.ref 0), some (.int a1), some (.int a2), some (.int v)] [] S) : V K 0 [some (.ref 0), some (.int a1), some (.int a2), none] [] S := by
  unfold lRow at h
  refine V_aload_n (pc := 0) C dX11_led_0 rfl rfl ?_
  refine V_iload_n (pc := 1) C dX11_led_1 rfl rfl ?_
  obtain ⟨r1, er1, h⟩ := b1_some h
  refine V_callV (As := [.int a1]) (pc := 2) C (mX11_isSayer _ er1) zm_X11_isSayer zi_X11_isSayer ml_RX11_129 z1_cW_11 rfl ⟨by omega, by omega⟩ rfl rfl (Nat.le_of_ble_eq_true rfl) dX11_led_2 ?_
  show V K 5 [some (.ref 0), some (.int a1), some (.int a2), none] [.int r1] S
  refine V_if_eq (tgt := 20) (pc := 5) C dX11_led_5 (by decide) (fun hc => ?_) (fun hc => ?_)
  · have h := it_t hc h
    refine V_iconst (pc := 20) C dX11_led_20 (v := J (-1)) rfl ?_
    cases h
    refine V_istore_n (L' := [some (.ref 0), some (.int a1), some (.int a2), some (.int (J (-1)))]) (pc := 21) C dX11_led_21 rfl (by decide) rfl ?_
    exact k
  · have h := it_f hc h
    refine V_aload_n (pc := 8) C dX11_led_8 rfl rfl ?_
    refine V_getF (p1 := 219) (pc := 9) C z1_cW_11 fl_RX11_23 rfl (zf_cW_11_2 z1_cW_11) dX11_led_9 ?_
    refine V_iload_n (pc := 12) C dX11_led_12 rfl rfl ?_
    refine V_iload_n (pc := 13) C dX11_led_13 rfl rfl ?_
    refine V_callV (As := [.int a1, .int a2]) (pc := 14) C (mX1_rowOf _ h) zm_X1_rowOf zi_X1_rowOf ml_RX11_444 z1_cW_1 rfl ⟨by omega, by omega⟩ rfl rfl (Nat.le_of_ble_eq_true rfl) dX11_led_14 ?_
    show V K 17 [some (.ref 0), some (.int a1), some (.int a2), none] [.int v] S
    refine V_goto (tgt := 21) (pc := 17) C dX11_led_17 (by decide) ?_
    refine V_istore_n (L' := [some (.ref 0), some (.int a1), some (.int a2), some (.int v)]) (pc := 21) C dX11_led_21 rfl (by decide) rfl ?_
    exact k
set_option maxRecDepth 100000 in
theorem mX11_led (l : Launch) {S : zM} {a1 a2 v r : Int32} (h : lRow S a1 a2 = some v) (hv : ¬ v < 0) (ha : gX1_rowAt S v 5 = some r) : zMet l cW zS0 yX11_led cX11_led 4 (some .int) 2 46 [.ref 0, .int a1, .int a2] S (some (.int r)) S := by
  refine zmeth (by decide +kernel) (by rfl) (fun K hKl C hR => ?_)
  subst hKl
  show V K 0 [some (.ref 0), some (.int a1), some (.int a2), none] [] S
  refine led_walk C (by omega) (by omega) h ?_
  refine V_iload_n (pc := 22) C dX11_led_22 rfl rfl ?_
  refine V_if_ge (tgt := 37) (pc := 23) C dX11_led_23 (by decide) (fun _ => ?_) (fun hc => absurd (Int32.not_lt.mp hv) hc)
  refine V_aload_n (pc := 37) C dX11_led_37 rfl rfl ?_
  refine V_getF (p1 := 219) (pc := 38) C z1_cW_11 fl_RX11_23 rfl (zf_cW_11_2 z1_cW_11) dX11_led_38 ?_
  refine V_iload_n (pc := 41) C dX11_led_41 rfl rfl ?_
  refine V_iconst (pc := 42) C dX11_led_42 (v := 5) rfl ?_
  refine V_callV (As := [.int v, .int 5]) (pc := 43) C (mX1_rowAt _ ha) zm_X1_rowAt zi_X1_rowAt ml_RX11_249 z1_cW_1 rfl ⟨Nat.le_of_ble_eq_true rfl, Nat.le_of_ble_eq_true rfl⟩ rfl rfl (Nat.le_of_ble_eq_true rfl) dX11_led_43 ?_
  exact hR 46 _ ⟨_, rfl, rfl⟩ dX11_led_46
