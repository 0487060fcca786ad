/-! THE CLAIM OUT OF ONE WALK OF THE LAW'S BODY. Your part is whole_start (and what it stands on); all else here is the same for every law, but numbers. -/
def R_law : String := "LittleMoreLaw"
def lw_P (b : Addr) (xs : List Int32) (args : Array Value) (s : State) : Prop := args = #[.ref b] ∧ s.IntsAt b xs ∧ xs.length ≤ 4096 ∧ (Jvm.Cond.and given_1 narrow_1).before args s = true
def lw_Q (_ : Array Value) (s : State) (o : Outcome) (t : State) : Prop := o = .returned (some (.int 1)) ∧ Framed s o t [] 601024 7293034
def lw_Z (below : List Frame) (a : Array Value) (s : State) : State → Prop := fun t => ∃ o, t.status = .running ∧ Ended t below o ∧ lw_Q a s o t
/-- the law's own end, with 1 on the stack, nothing written that was there before, its room as the claim has it -/
theorem lw_ret {p : Program} {l : Launch} {e : Env} {s : State} {m : MethodId} {below : List Frame} {meth : Method} {c : Code} {b : Nat} (hx : p.tables.exec = Jvm.exec) (hb : c.code = code) (hr : meth.sig.returnType = ret) (hlocks : meth.locks = false) {pc : Nat} {H : Heap} {ls : Array Slot} (hdg : decode code pc = .ok (.ireturn, 1)) : W p l e room_1 s m #[Value.ref b] below meth c H [] 601024 7293034 (lw_Z below #[Value.ref b] s) (F0 m pc ls [.int 1]) := by
  intro T hT X
  obtain ⟨fs, hret, hrun, hended, hW, hframe⟩ := X.leave (v := some (.int 1)) (hlocks := hlocks) (fun h => by rw [hr] at h; cases h)
  have hmeth' : T.vm.method? m = some meth := X.method'
  refine ⟨T.setFrames fs, ?_, .returned (some (.int 1)), hrun, hended, rfl, ⟨_, rfl⟩, hW, hframe⟩
  jvm_step X.here [X.here.top, hx, hb, hdg, hmeth', hr, ret, narrow_b1]
  (try refine ⟨rfl, ?_⟩); (try refine ⟨rfl, ?_⟩)
  first | (intro acts; rw [hret _ acts rfl rfl rfl]) | rw [hret _ _ rfl rfl rfl]
  exact Steps.refl _
/-- what holds at the law's entry: the machine, the code, the tables' words (any of lw_tbl by 'hts w (by decide +kernel)'), the script of L ints xs at the cell b, what the Statement gives of the start (any of its parts by flat_of_before) -/
def lw_At (p : Program) (s : State) (m : MethodId) (meth : Method) (c : Code) (b L : Nat) (xs : Nat → Int32) : Prop :=
  p.tables.exec = Jvm.exec ∧ c.code = code ∧ meth.sig.returnType = ret ∧ c.maxLocals = 7 ∧ s.vm.findClass R_law = some m.cls ∧ (∀ w ∈ lw_tbl, w.before #[Value.ref b] s = true) ∧ va_X b L xs s s.heap ∧ b < s.heap.size ∧ meth.locks = false ∧ (Jvm.Cond.and given_1 narrow_1).before #[Value.ref b] s = true

/-! The classes and rows at the start; the first memories. -/
theorem zK_start {s : State} {args : Array Value} (hts : ∀ w ∈ lw_tbl, w.before args s = true) : ∃ (D : va_G) (cA : Nat → ClassId), va_K D vwCl (ztys cA) s := by
  have hz : ∀ w ∈ zT, w.before args s = true := fun w hw => hts w (List.mem_filter.mp hw).1
  obtain ⟨c0, i0, k0⟩ := u_known (C := RX0) (T := TX0) (N := 8) (n := 8) hz zu_0 (hts _ is_X0)
  obtain ⟨c1, i1, k1⟩ := u_known (C := RX1) (T := TX1) (N := 3) (n := 3) hz zu_1 (hts _ is_X1)
  obtain ⟨c2, i2, k2⟩ := u_known (C := RX2) (T := TX2) (N := 12) (n := 12) hz zu_2 (hts _ is_X2)
  obtain ⟨c3, i3, k3⟩ := u_known (C := RX3) (T := TX3) (N := 11) (n := 11) hz zu_3 (hts _ is_X3)
  obtain ⟨c4, i4, k4⟩ := u_known (C := RX4) (T := TX4) (N := 4) (n := 4) hz zu_4 (hts _ is_X4)
  obtain ⟨c5, i5, k5⟩ := u_known (C := RX5) (T := TX5) (N := 5) (n := 5) hz zu_5 (hts _ is_X5)
  obtain ⟨c6, i6, k6⟩ := u_known (C := RX6) (T := TX6) (N := 5) (n := 5) hz zu_6 (hts _ is_X6)
  obtain ⟨c7, i7, k7⟩ := u_known (C := RX7) (T := TX7) (N := 9) (n := 9) hz zu_7 (hts _ is_X7)
  obtain ⟨c8, i8, k8⟩ := u_known (C := RX8) (T := TX8) (N := 10) (n := 10) hz zu_8 (hts _ is_X8)
  obtain ⟨c9, i9, k9⟩ := u_known (C := RX9) (T := TX9) (N := 8) (n := 8) hz zu_9 (hts _ is_X9)
  obtain ⟨c10, i10, k10⟩ := u_known (C := RX10) (T := TX10) (N := 6) (n := 6) hz zu_10 (hts _ is_X10)
  obtain ⟨c11, i11, k11⟩ := u_known (C := RX11) (T := TX11) (N := 15) (n := 15) hz zu_11 (hts _ is_X11)
  obtain ⟨c12, i12, k12⟩ := u_known (C := RX12) (T := TX12) (N := 45) (n := 45) hz zu_12 (hts _ is_X12)
  have key : ∀ c : Nat, ∃ x : ClassId × (Nat → Nat), ∀ q : vw_C, vwCl[c]? = some q → u_Kn s q.1 q.2.1 q.2.2 x.1 x.2 := by
    intro c
    match c with
    | 0 => exact ⟨(c0, i0), fun q hq => by cases hq; exact k0⟩
    | 1 => exact ⟨(c1, i1), fun q hq => by cases hq; exact k1⟩
    | 2 => exact ⟨(c2, i2), fun q hq => by cases hq; exact k2⟩
    | 3 => exact ⟨(c3, i3), fun q hq => by cases hq; exact k3⟩
    | 4 => exact ⟨(c4, i4), fun q hq => by cases hq; exact k4⟩
    | 5 => exact ⟨(c5, i5), fun q hq => by cases hq; exact k5⟩
    | 6 => exact ⟨(c6, i6), fun q hq => by cases hq; exact k6⟩
    | 7 => exact ⟨(c7, i7), fun q hq => by cases hq; exact k7⟩
    | 8 => exact ⟨(c8, i8), fun q hq => by cases hq; exact k8⟩
    | 9 => exact ⟨(c9, i9), fun q hq => by cases hq; exact k9⟩
    | 10 => exact ⟨(c10, i10), fun q hq => by cases hq; exact k10⟩
    | 11 => exact ⟨(c11, i11), fun q hq => by cases hq; exact k11⟩
    | 12 => exact ⟨(c12, i12), fun q hq => by cases hq; exact k12⟩
    | n + 13 => exact ⟨(c0, i0), fun q hq => by simp [vwCl] at hq⟩
  obtain ⟨f, hf⟩ := Classical.axiomOfChoice key
  obtain ⟨a0, g0, m0, u0, v0, w0⟩ := Cond.arrayClass_spec (hz _ aw_int)
  obtain ⟨a1, g1, m1, u1, v1, w1⟩ := Cond.arrayClass_spec (hz _ aw_byte)
  obtain ⟨a2, g2, m2, u2, v2, w2⟩ := Cond.arrayClass_spec (hz _ aw_boolean)
  obtain ⟨a3, g3, m3, u3, v3, w3⟩ := Cond.arrayClass_spec (hz _ aw_long)
  obtain ⟨m4, a4, g4, u4, _, v4, w4, x4⟩ := Cond.arrayOver_spec (hts _ ao_X4)
  obtain ⟨m5, a5, g5, u5, _, v5, w5, x5⟩ := Cond.arrayOver_spec (hts _ ao_X9)
  obtain ⟨m6, a6, g6, u6, _, v6, w6, x6⟩ := Cond.arrayOver_spec (hts _ ao_X8)
  obtain ⟨m7, a7, g7, u7, _, v7, w7, x7⟩ := Cond.arrayOver_spec (hts _ ao_X6)
  obtain ⟨m8, a8, g8, u8, _, v8, w8, x8⟩ := Cond.arrayOver_spec (hts _ ao_X5)
  refine ⟨(fun c => (f c).1, fun c => (f c).2), fun t => [a0, a1, a2, a3, a4, a5, a6, a7, a8].getD t a0, fun c q hq => hf c q hq, fun k q hq => ?_⟩
  match k, hq with
  | 0, hq => cases hq; exact ⟨fun _ _ => ⟨(fun _ h => by cases h), g0, v0, m0, w0⟩, u0⟩
  | 1, hq => cases hq; exact ⟨fun _ _ => ⟨(fun _ h => by cases h), g1, v1, m1, w1⟩, u1⟩
  | 2, hq => cases hq; exact ⟨fun _ _ => ⟨(fun _ h => by cases h), g2, v2, m2, w2⟩, u2⟩
  | 3, hq => cases hq; exact ⟨fun _ _ => ⟨(fun _ h => by cases h), g3, v3, m3, w3⟩, u3⟩
  | 4, hq => cases hq; exact ⟨fun _ _ => ⟨(fun _ h => by cases h), g4, v4, m4, w4⟩, g4, m4, v4, w4, u4, x4⟩
  | 5, hq => cases hq; exact ⟨fun _ _ => ⟨(fun _ h => by cases h), g5, v5, m5, w5⟩, g5, m5, v5, w5, u5, x5⟩
  | 6, hq => cases hq; exact ⟨fun _ _ => ⟨(fun _ h => by cases h), g6, v6, m6, w6⟩, g6, m6, v6, w6, u6, x6⟩
  | 7, hq => cases hq; exact ⟨fun _ _ => ⟨(fun _ h => by cases h), g7, v7, m7, w7⟩, g7, m7, v7, w7, u7, x7⟩
  | 8, hq => cases hq; exact ⟨fun _ _ => ⟨(fun _ h => by cases h), g8, v8, m8, w8⟩, g8, m8, v8, w8, u8, x8⟩
  | n + 9, hq => simp [ztys] at hq
/-- the first memories -/
def SC0 : zM := zS [(0, 8, 243), (2, 6, 6), (456, 0, 457), (456, 1, 459), (456, 2, 459)] []
def SM0 : zM := zS [] [(0, 10, -1)]
theorem SC0_i (q k : Nat) : gI SC0 q k = J 0 := rfl
theorem SC0_l (q k : Nat) : gL SC0 q k = JL 0 := rfl
theorem SM0_i {q k : Nat} (h : ¬ (q = 0 ∧ k = 10)) : gI SM0 q k = J 0 := by
  show ((([(0, 10, -1)] : List (Nat × Nat × Int32)).find? (fun x => x.1 == q && x.2.1 == k)).map (fun x => x.2.2)).getD 0 = 0
  have e : ((0 : Nat) == q && (10 : Nat) == k) = false := by
    by_cases h1 : 0 = q
    · by_cases h2 : 10 = k
      · exact absurd ⟨h1.symm, h2.symm⟩ h
      · simp [h2]
    · simp [h1]
  rw [List.find?_cons]
  simp [e]
theorem SM0_v {q k : Nat} (h : ¬ (q = 0 ∧ k = 10)) : iI SM0 q k = 0 := iI_of (SM0_i h) (by decide) (by decide)
theorem Inv_first : Inv SC0 SM0 0 := by
  have e14 : gI SM0 0 14 = J 0 := SM0_i (by omega)
  have cn : ∀ i, cnt SM0 i = 0 := fun i => if_pos e14
  have hb : bkn SM0 = 0 := by unfold bkn; rw [SM0_v (by omega)]; rfl
  have v6 : ∀ p, iI SM0 6 p = 0 ∧ iI SM0 7 p = 0 := fun p => ⟨SM0_v (by omega), SM0_v (by omega)⟩
  refine ⟨⟨243, ⟨Or.inr rfl, by decide +kernel, by decide +kernel⟩, ⟨by rw [cn]; decide, by rw [cn]; decide, by rw [cn]; decide, by rw [cn]; decide⟩, ⟨by rw [cn]; rfl, by rw [cn]; rfl, by rw [cn]; rfl, by rw [cn]; rfl⟩, fun s h => ?_, fun s h => ?_, fun s h => ?_, fun s h => ?_⟩, fun p hp => ?_, ⟨?_, ?_, fun i hi => ?_⟩, rCells_0 rfl (fun _ _ => rfl) hb, fun s hs => Or.inl ?_, ⟨?_, ?_, fun k hk => ?_⟩, ⟨⟨?_, ?_⟩, ?_, ?_, fun z => ?_, fun _ => hb⟩⟩
  · rw [cn] at h; omega
  · rw [cn] at h; omega
  · rw [cn] at h; omega
  · rw [cn] at h; omega
  · rw [(v6 p).1, (v6 p).2]; omega
  · rw [SM0_i (by omega)]; rfl
  · rw [SM0_v (by omega)]; omega
  · rw [hb] at hi; omega
  · show (gL SC0 237 s).toInt = 0
    rw [SC0_l]
    decide +kernel
  · rw [SM0_i (by omega)]; rfl
  · rw [SM0_v (by omega)]; omega
  · rw [SM0_v (by omega)] at hk; omega
  · rw [SM0_i (by omega)]; rfl
  · rw [SM0_v (by omega)]; omega
  · rw [SM0_i (by omega)]; rfl
  · rw [SM0_i (by omega)]; rfl
  · rw [SM0_v (by omega)] at z; omega
theorem zre {w w1 : zWd} {μ μ' : Nat → Nat} {cA : Nat → ClassId} {S : zM} {n : Nat} (hn : w1.1 = n) (hw : w.1 = n) (hμ : ∀ k, k < n → μ' k = μ k) (h : (List.range n).all (fun k => zcmp 0 n (w.2 (0 + k)) (w1.2 k) (gR S (0 + k)) (gR S k)) = true) : zws w1 μ cA S = zws w μ' cA S := by
  rw [zblk (w := w) (μ := μ') (S := S) (o := 0) hn (fun k hk => by rw [Nat.zero_add]; exact hμ k hk) (fun k _ => by rw [Nat.zero_add]) (fun k _ => by rw [Nat.zero_add]) h]
  unfold zws
  rw [hw]
  apply List.map_congr_left
  intro k _
  show (μ' (0 + k), zen μ' cA S (0 + k) (w.2 (0 + k))) = _
  rw [Nat.zero_add]
theorem zre_C {μ μ' : Nat → Nat} {cA : Nat → ClassId} (hμ : ∀ k, k < 10000 → μ' k = μ k) : zws wMore μ cA SC0 = zws cW μ' cA SC0 := zre (n := 490) rfl rfl (fun k hk => hμ k (by omega)) (by decide +kernel)
theorem zre_M {μ μ' : Nat → Nat} {cA : Nat → ClassId} (hμ : ∀ k, k < 10000 → μ' k = μ k) : zws wModel μ cA SM0 = zws mW μ' cA SM0 := zre (n := 30) rfl rfl (fun k hk => hμ k (by omega)) (by decide +kernel)
