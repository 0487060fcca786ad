/-! The law's led: it asks the class, and writes the answer down, or catches what is thrown. -/
theorem va_P_mem {D : va_G} {cl : List vw_C} {ws : va_W} {H : Heap} : va_P D cl ws H ↔ ∀ q ∈ ws, va_at D cl q H :=
  ⟨fun h q hq => by obtain ⟨k, hk⟩ := List.getElem?_of_mem hq; exact h k q hk, fun h k q hk => h q (List.mem_of_getElem? hk)⟩
theorem lws_set {μ ν : Nat → Nat} {cA : Nat → ClassId} {q : Nat} {SC SM : zM} {o : Int64} {x : Nat × va_E} : (lws μ ν cA q SC SM o).set (490 + (30 + 0)) x = zws cW μ cA SC ++ (zws mW ν cA SM ++ [x]) := by
  have e1 : (zws cW μ cA SC).length = 490 := zws_len
  have e2 : (zws mW ν cA SM).length = 30 := zws_len
  unfold lws
  rw [List.set_append_right _ _ (by omega), e1, Nat.add_sub_cancel_left, List.set_append_right _ _ (by omega), e2, Nat.add_sub_cancel_left]
  rfl
theorem row_one {c : ClassId} {f g : Nat → Int64} (h : f 0 = g 0) : vp_cell c (1, .inr (.inl f)) = vp_cell c (1, .inr (.inl g)) := by
  show arrV c 1 (fun j => .long (f j)) = arrV c 1 (fun j => .long (g j))
  simp [arrV, h]
section LWL
variable {K : zKC} {cc : ByteArray} {own : String} {n fr lo CE SL pc ce sl : Nat} {L : zL} {st : List Value} {μ ν : Nat → Nat} {q : Nat} {SC SM : zM} {o : Int64}
theorem VL_last (C : zCL K cc own n fr lo CE SL) {i : Int32} {x : Int64} (hi : ixb i 1 = true) (d : decode cc pc = .ok (.lastore, 1)) (k : VC K (pc + 1) L st (lws μ ν K.2.1.2.2 q SC SM x) ce sl) : VC K pc L (.long x :: .int i :: .ref q :: st) (lws μ ν K.2.1.2.2 q SC SM o) ce sl := by
  obtain ⟨⟨p, l, e, R, s, m, args, below, meth, c⟩, ⟨D, A, cA⟩, ⟨n', Q⟩⟩ := K
  obtain ⟨hx, hb, hts, hown, hK, hA, hml, hfr, hlo, hcE, hsL, hcx, rfl⟩ := C
  intro H locs ls hP hD hS hl
  have h0 : (lws μ ν cA q SC SM o)[490 + (30 + 0)]? = some (q, .inl (cA 3, 1, .inr (.inl (fun _ => o)))) := by
    have e1 : (zws cW μ cA SC).length = 490 := zws_len
    have e2 : (zws mW ν cA SM).length = 30 := zws_len
    unfold lws
    rw [List.getElem?_append_right (by omega), e1, Nat.add_sub_cancel_left, List.getElem?_append_right (by omega), e2]
    rfl
  refine va_last hx hb hK hP hD hS (490 + (30 + 0)) 3 h0 rfl (ixb_in hi) d (fun H1 locs1 hP1 hD1 hS1 => k H1 locs1 ls ?_ (lws_D hD) hS1 hl)
  rw [lws_set, va_P_mem] at hP1
  rw [va_P_mem]
  intro z hz
  unfold lws at hz
  rcases List.mem_append.mp hz with h | h
  · exact hP1 z (List.mem_append_left _ h)
  rcases List.mem_append.mp h with h | h
  · exact hP1 z (List.mem_append_right _ (List.mem_append_left _ h))
  rw [List.mem_singleton] at h
  subst h
  have h1 := hP1 _ (List.mem_append_right _ (List.mem_append_right _ (List.mem_singleton.mpr rfl)))
  have h2 : H1[q]? = some (vp_cell (cA 3) (1, .inr (.inl (vp_updL (fun _ => o) i.toNatClampNeg x)))) := h1
  show H1[q]? = some (vp_cell (cA 3) (1, .inr (.inl (fun _ => x))))
  rw [h2]
  refine congrArg some (row_one ?_)
  have hz : i.toNatClampNeg = 0 := by
    have h3 := ixb_in hi
    unfold vp_in at h3
    omega
  rw [hz]
  rfl
theorem VL_astore (C : zCL K cc own n fr lo CE SL) {i : Nat} {x : Nat} {L' : zL} {ws : va_W} (d : decode cc pc = .ok (.astore i, 2)) (hin : i < n) (hL : zst1 L i (.ref x) = L') (k : VC K (pc + 2) L' st ws ce sl) : VC K pc L (.ref x :: st) ws ce sl := by
  obtain ⟨⟨p, l, e, R, s, m, args, below, meth, c⟩, ⟨D, A, cA⟩, ⟨n', Q⟩⟩ := K
  obtain ⟨hx, hb, hts, hown, hK, hA, hml, hfr, hlo, hcE, hsL, hcx, rfl⟩ := C
  intro H locs ls hP hD hS hl
  exact lv_astore hx hb d (zlv_has hl) hin rfl (fun ls' hl' => k H locs ls' hP hD hS (hL ▸ zlv_s1' (v := .ref x) hl'))
end LWL
def ldH : List (Nat × Nat × Nat × Nat) := [(0, 10, 13, 13)]
def lwPre (D : va_G) (cA : Nat → ClassId) (μ ν : Nat → Nat) (q sz : Nat) (av : List Value) (SC SM : zM) (o : Int64) : Array Value → State → Prop :=
  va_Pc av (fun U => U.heap.size = sz ∧ va_P D vwCl (lws μ ν cA q SC SM o) U.heap ∧ va_K D vwCl (ztys cA) U ∧ va_D (fun _ => True) (lws μ ν cA q SC SM o) ∧ zOK zS0 μ (va_A (lws μ ν cA q SC SM o) sz) U U.heap ∧ nsOK (va_A (lws μ ν cA q SC SM o) sz) U U.heap ∧ zCX U)
def lwQ (D : va_G) (cA : Nat → ClassId) (μ ν : Nat → Nat) (q sz : Nat) (SC SM : zM) (o o' : Int64) (r : Int32) : Array Value → State → Outcome → State → Prop :=
  fun _ st oc t => oc = .returned (some (.int r)) ∧ va_P D vwCl (lws μ ν cA q SC SM o') t.heap ∧ va_F (va_A (lws μ ν cA q SC SM o) sz) st t
def ldMet (l : Launch) (μ ν : Nat → Nat) (q : Nat) (SC SM : zM) (o : Int64) (av : List Value) (o' : Int64) (r : Int32) (mc ms : Nat) : Prop :=
  ∀ (D : va_G) (cA : Nat → ClassId) (sz : Nat), Met l yL_led (Cond.codeWith yL_led cL_led 5 (some .int) ldH :: zT) { frames := 7, cells := mc, slots := ms, locals := 105 } (lwPre D cA μ ν q sz av SC SM o) (lwQ D cA μ ν q sz SC SM o o' r) mc ms (va_A (lws μ ν cA q SC SM o) sz)
theorem lwPre_blind {D : va_G} {cA : Nat → ClassId} {μ ν : Nat → Nat} {q sz : Nat} {av : List Value} {SC SM : zM} {o : Int64} : FrameBlind (lwPre D cA μ ν q sz av SC SM o) := by
  intro a U g mk q
  obtain ⟨q0, q1, qP, qK, qD, qZ, qN, qX⟩ := q
  exact ⟨q0, q1, qP, va_K.moved (u := U) (U := U.calling g mk a) (Vm.Alike.refl U.vm) qK, qD, zOK_same (u := U) (U := U.calling g mk a) rfl qZ, nsOK.same (u := U) (U := U.calling g mk a) rfl qN, ⟨fun r hr => va_Nw.same rfl (u := U) (U := U.calling g mk a) rfl (qX.1 r hr), fun C hC => va_AO.moved (u := U) (U := U.calling g mk a) (Vm.Alike.refl U.vm) (qX.2 C hC)⟩⟩
theorem zofWH {l : Launch} {y : MethodName} {ws ws' : List Cond} {rm : Room} {Pc : Array Value → State → Prop} {Qc : Array Value → State → Outcome → State → Prop} {mc ms : Nat} {free : Addr → Prop} {cc : ByteArray} {maxL : Nat} {ret : Option FieldType} {hh : List (Nat × Nat × Nat × Nat)}
    (hy : plainFor y = true) (hw : ws = Cond.codeWith y cc maxL ret hh :: ws')
    (body : ∀ p e s m args below meth c s₁, BodyLoose p l y (headSpec ws rm) cc maxL ret e s m args below meth c s₁ → c.maxLocals = maxL → Pc args s →
      W p l e (headSpec ws rm).room s m args below meth c s.heap [] 0 0 (MQ below Qc args s mc ms free) (entryFrame m args maxL)) : Met l y ws rm Pc Qc mc ms free := by
  refine MetFree.of_bodySF (code := cc) (maxLocals := maxL) (ret := ret) hy ?_ ?_
  · intro args s m h hn
    obtain ⟨m9, meth, c, hn9, h1, h2, h3, h4, -, h5, h6, -⟩ := Cond.codeWith_spec (atoms_spec (ws := ws) h _ (by rw [hw]; exact List.mem_cons_self))
    cases hn.symm.trans hn9
    exact ⟨meth, c, h1, h2, h3, h4, h5, h6⟩
  · intro p e s m args below meth c s₁ B hml hP _
    have hh0 : s₁.heap = s.heap := by rw [B.state]; rfl
    obtain ⟨t, a1, o, b1, b2, b3⟩ := body p e s m args below meth c s₁ B hml hP s₁ hh0 (Stand.of_body B)
    exact ⟨t, o, a1, b1, b2, ⟨b3.1, b3.2⟩⟩
