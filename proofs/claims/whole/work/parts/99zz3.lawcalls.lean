/-! The law's own cells: the class' world, the model's, one row of a long; its calls. -/
theorem zmid_x {D : va_G} {cl : List vw_C} {A0 : Nat → Prop} {X B Y : va_W} {H : Heap} (hP : va_P D cl (X ++ (B ++ Y)) H) (hD : va_D A0 (X ++ (B ++ Y))) : (∀ (k : Nat) (q : Nat × va_E), X[k]? = some q → va_at D cl q H ∧ q.1 < H.size ∧ ¬ va_A B H.size q.1) ∧ (∀ (k : Nat) (q : Nat × va_E), Y[k]? = some q → va_at D cl q H ∧ q.1 < H.size ∧ ¬ va_A B H.size q.1) ∧ va_P D cl B H ∧ va_D A0 B := by
  have iX : ∀ (k : Nat) (q : Nat × va_E), X[k]? = some q → (X ++ (B ++ Y))[k]? = some q := fun k q h => by
    rw [List.getElem?_append_left (List.getElem?_eq_some_iff.mp h).1]
    exact h
  have iB : ∀ (k : Nat) (q : Nat × va_E), B[k]? = some q → (X ++ (B ++ Y))[X.length + k]? = some q := fun k q h => by
    rw [List.getElem?_append_right (by omega), Nat.add_sub_cancel_left, List.getElem?_append_left (List.getElem?_eq_some_iff.mp h).1]
    exact h
  have iY : ∀ (k : Nat) (q : Nat × va_E), Y[k]? = some q → (X ++ (B ++ Y))[X.length + (B.length + k)]? = some q := fun k q h => by
    rw [List.getElem?_append_right (by omega), Nat.add_sub_cancel_left, List.getElem?_append_right (by omega), Nat.add_sub_cancel_left]
    exact h
  have lB : ∀ (k : Nat) (q : Nat × va_E), B[k]? = some q → k < B.length := fun k q h => (List.getElem?_eq_some_iff.mp h).1
  refine ⟨fun k q h => ?_, fun k q h => ?_, fun k q h => hP _ q (iB k q h), fun i j p q hi hj e => ?_, fun k q h => hD.2 _ q (iB k q h)⟩
  · have h1 := hP k q (iX k q h)
    refine ⟨h1, h1.lt, fun z => ?_⟩
    rcases z with ⟨j, e, z⟩ | z
    · have := hD.1 k (X.length + j) q (q.1, e) (iX k q h) (iB j _ z) rfl
      have := (List.getElem?_eq_some_iff.mp h).1
      omega
    · have := h1.lt
      omega
  · have h1 := hP _ q (iY k q h)
    refine ⟨h1, h1.lt, fun z => ?_⟩
    rcases z with ⟨j, e, z⟩ | z
    · have := hD.1 (X.length + (B.length + k)) (X.length + j) q (q.1, e) (iY k q h) (iB j _ z) rfl
      have := lB j _ z
      omega
    · have := h1.lt
      omega
  · have := hD.1 (X.length + i) (X.length + j) p q (iB i p hi) (iB j q hj) e
    omega
theorem zmid {D : va_G} {cl : List vw_C} {A0 : Nat → Prop} {X B Y B' : va_W} {H H1 : Heap} (hP : va_P D cl (X ++ (B ++ Y)) H) (hD : va_D A0 (X ++ (B ++ Y))) (hk : ∀ q : Nat, q < H.size → ¬ va_A B H.size q → H1[q]? = H[q]?) (hP1 : va_P D cl B' H1) : va_P D cl (X ++ (B' ++ Y)) H1 := by
  obtain ⟨hX, hY, -, -⟩ := zmid_x hP hD
  exact va_P.app (fun k q h => (hX k q h).1.kept (hk _ (hX k q h).2.1 (hX k q h).2.2)) (va_P.app hP1 (fun k q h => (hY k q h).1.kept (hk _ (hY k q h).2.1 (hY k q h).2.2)))
/-- being apart is a matter of the addresses -/
theorem zD_addr {A : Nat → Prop} {ws ws' : va_W} (e : ws'.map Prod.fst = ws.map Prod.fst) (h : va_D A ws) : va_D A ws' := by
  have key : ∀ (k : Nat) (p : Nat × va_E), ws'[k]? = some p → ∃ p', ws[k]? = some p' ∧ p'.1 = p.1 := fun k p hp => by
    have h1 : (ws'.map Prod.fst)[k]? = some p.1 := by rw [List.getElem?_map, hp]; rfl
    rw [e, List.getElem?_map] at h1
    cases h2 : ws[k]? with
    | none => rw [h2] at h1; cases h1
    | some p' =>
      rw [h2] at h1
      exact ⟨p', rfl, Option.some.inj h1⟩
  refine ⟨fun i j p q hi hj e => ?_, fun k q hk => ?_⟩
  · obtain ⟨p', h1, e1⟩ := key i p hi
    obtain ⟨q', h2, e2⟩ := key j q hj
    exact h.1 i j p' q' h1 h2 (e1.trans (e.trans e2.symm))
  · obtain ⟨q', h1, e1⟩ := key k q hk
    rw [← e1]
    exact h.2 k q' h1
theorem zws_fst {w : zWd} {μ : Nat → Nat} {cA : Nat → ClassId} {S : zM} : (zws w μ cA S).map Prod.fst = (List.range w.1).map μ := by
  unfold zws
  rw [List.map_map]
  rfl
/-- all cells of the law -/
def lws (μ ν : Nat → Nat) (cA : Nat → ClassId) (q : Nat) (SC SM : zM) (o : Int64) : va_W := zws cW μ cA SC ++ (zws mW ν cA SM ++ [(q, .inl (cA 3, 1, .inr (.inl (fun _ => o))))])
theorem lws_D {A : Nat → Prop} {μ ν : Nat → Nat} {cA : Nat → ClassId} {q : Nat} {SC SM SC' SM' : zM} {o o' : Int64} (h : va_D A (lws μ ν cA q SC SM o)) : va_D A (lws μ ν cA q SC' SM' o') := by
  refine zD_addr ?_ h
  unfold lws
  simp only [List.map_append, zws_fst, List.map_cons, List.map_nil]
def LZ (K : zKC) (μ : Nat → Nat) : Prop := match K with
  | ((_, _, _, _, s, _, _, _, _, _), (_, A, _), _) => zOK zS0 μ A s s.heap
theorem zrunL {p : Program} {l : Launch} {e : Env} {R : Room} {s : State} {m : MethodId} {args : Array Value} {below : List Frame} {meth : Method} {c : Code} {H : Heap} {locs : List Loc} {Q : State → Prop} {pc ce sl : Nat} {ls : Array Slot} {st0 rest : List Value} {a : Array Value} {w : zWd} {D : va_G} {cA : Nat → ClassId} {μ : Nat → Nat} {S S' : zM} {ro : Option Value} {A : Nat → Prop}
    (hr : va_Run p l e R s m args below meth c H locs ce sl 0 0 (F0 m pc ls st0) rest (zQ w D cA μ H.size S S' ro a) (va_A (zws w μ cA S) H.size)) (hS : va_S A s.heap H locs) (hA : ∀ q, va_A (zws w μ cA S) H.size q → A q)
    (k : ∀ (H1 : Heap) (locs1 : List Loc), va_P D vwCl (zws w μ cA S') H1 → (∀ q : Nat, q < H.size → ¬ va_A (zws w μ cA S) H.size q → H1[q]? = H[q]?) → va_S A s.heap H1 locs1 → W p l e R s m args below meth c H1 locs1 ce sl Q (F0 m (pc + 3) ls ((ro.map (ztr μ)).toList ++ rest))) : W p l e R s m args below meth c H locs ce sl Q (F0 m pc ls st0) := by
  intro T hT X
  obtain ⟨v, st₀, t, T', L, h0, X', hL, e1, e2, ⟨hv, hP, hz, hk⟩, hst⟩ := hr T hT X
  cases hv
  rw [h0] at hz hk
  obtain ⟨t2, a1, b1⟩ := k T'.heap (locs ++ L) (by rw [e1]; exact hP) (fun q h1 h2 => by rw [e1]; exact hk q h1 h2)
    ⟨Nat.le_trans hS.1 (by rw [e1]; exact hz), fun q h1 h2 => by rw [e1, hk q (Nat.lt_of_lt_of_le h1 hS.1) (fun z => h2 (hA q z))]; exact hS.2.1 q h1 h2, fun q hq => by
      rcases List.mem_append.mp hq with h | h
      · exact hS.2.2 q h
      · exact hA _ (hL q h)⟩ T' rfl X'
  exact ⟨t2, hst t2 a1, b1⟩
section ZLC
variable {K : zKC} {cc : ByteArray} {own : String} {n fr lo CE SL pc ce sl : Nat} {L : zL} {st : List Value} {μ ν : Nat → Nat} {q : Nat} {SC SM : zM} {o : Int64}
/-- a call of a method of one of the two -/
theorem VL_callW (C : zCL K cc own n fr lo CE SL) {X Y : va_W} {w : zWd} {S S' : zM} {y : MethodName} {cc' : ByteArray} {n' k1 fr' lo' i ci : Nat} {T : u_T} {N : Nat} {ret : Option FieldType} {As stk : List Value} {ro : Option Value}
    (hM : zMet K.1.2.1 w zS0 y cc' n' ret fr' lo' (.ref 0 :: As) S ro S') (hz : LZ K μ) (hm : zMth y cc' n' ret k1) (hi : zInst y) (hlink : Cond.methodLink own i y ∈ zT)
    (hq : zob w ci 0) (hc : vwCl[ci]? = some (y.cls, T, N)) (hroom : fr' + 1 ≤ fr ∧ 8 + (n' + 11) + lo' ≤ lo) (hn : As.length = k1) (hAs : As.map (ztr μ) = As) (hro : ro.map (ztr μ) = ro) (hstk : stk = As.reverse ++ .ref (μ 0) :: st) (hst : (st.map fun v => v.category).sum ≤ 8) (d : decode cc pc = .ok (.invokevirtual i, 3)) (hcs : ce ≤ CE ∧ sl ≤ SL)
    (k : VC K (pc + 3) L (ro.toList ++ st) (X ++ (zws w μ K.2.1.2.2 S' ++ Y)) ce sl) : VC K pc L stk (X ++ (zws w μ K.2.1.2.2 S ++ Y)) ce sl := by
  obtain ⟨⟨p, l, e, R, s, m, args, below, meth, c⟩, ⟨D, A, cA⟩, ⟨n0, Q⟩⟩ := K
  obtain ⟨hx, hb, hts, hown, hK, hA, hml, hfr, hlo, hcE, hsL, hcx, rfl⟩ := C
  subst hstk
  intro H locs ls hP hD hS hl
  obtain ⟨-, -, hPB, hDB⟩ := zmid_x hP hD
  have hAA : ∀ q, va_A (zws w μ cA S) H.size q → A q := by
    intro q h
    rcases h with ⟨k, e, h⟩ | h
    · exact hDB.2 k (q, e) h
    · exact hA q (Nat.le_trans hS.1 h)
  have hcw : CallW R s args own y.cls i y cc' n' ret (Cond.code y cc' n' ret :: zT) { frames := fr', cells := 0, slots := 0, locals := lo' } 0 0 k1 :=
    cwV k1 hts (zTgood (fun w hw => by
      rcases List.mem_append.mp hw with h | h
      · rcases List.mem_cons.mp h with rfl | h
        · exact hlink
        · rcases List.mem_cons.mp h with rfl | h
          · exact hi.1
          · rcases List.mem_cons.mp h with rfl | h
            · exact hi.2
            · rcases List.mem_cons.mp h with rfl | h
              · exact hm.2.1
              · cases h
      · rcases List.mem_cons.mp h with rfl | h
        · exact hm.1
        · exact h)) rfl rfl rfl ⟨rfl, hm.2.2⟩ ⟨by rw [hfr]; exact hroom.1, by rw [hlo]; exact hroom.2⟩
  refine zrunL (ro := ro) (rest := st) (a := (Value.ref (μ 0) :: As).toArray) (va_runV (As := As) ⟨hx, hb, hml, hown, hts⟩ (hM D cA μ H.size) hcw
    ⟨zPre_blind, va_recv hK hPB hc (zat_o hq), fun U hU hW => ⟨by rw [List.map_cons, hAs]; rfl, by rw [hU], by rw [hU]; exact hPB, va_K.moved hW.alike hK, fun S' => zD_any (hDB.weaken (fun _ _ _ _ => trivial)), by rw [hU]; exact zOK_call hz hS hW hAA⟩⟩
    rfl hn hl.1 rfl (lv_room hst) d ⟨by rw [hcE]; exact hcs.1, by rw [hsL]; exact hcs.2⟩) hS hAA (fun H1 locs1 hP1 hk1 hS1 => ?_)
  rw [hro]
  refine k H1 locs1 ls (zmid hP hD hk1 hP1) (zD_addr ?_ hD) hS1 hl
  simp only [List.map_append, zws_fst]
theorem VL_callX (C : zCL K cc own n fr lo CE SL) {S' : zM} {y : MethodName} {cc' : ByteArray} {n' k1 fr' lo' i : Nat} {T : u_T} {N : Nat} {ret : Option FieldType} {As stk : List Value} {ro : Option Value}
    (hM : zMet K.1.2.1 cW zS0 y cc' n' ret fr' lo' (.ref 0 :: As) SC ro S') (hz : LZ K μ) (hm : zMth y cc' n' ret k1) (hi : zInst y) (hlink : Cond.methodLink own i y ∈ zT)
    (hc : vwCl[11]? = some (y.cls, T, N)) (hroom : fr' + 1 ≤ fr ∧ 8 + (n' + 11) + lo' ≤ lo) (hn : As.length = k1) (hAs : As.map (ztr μ) = As) (hro : ro.map (ztr μ) = ro) (hstk : stk = As.reverse ++ .ref (μ 0) :: st) (hst : (st.map fun v => v.category).sum ≤ 8) (d : decode cc pc = .ok (.invokevirtual i, 3)) (hcs : ce ≤ CE ∧ sl ≤ SL)
    (k : VC K (pc + 3) L (ro.toList ++ st) (lws μ ν K.2.1.2.2 q S' SM o) ce sl) : VC K pc L stk (lws μ ν K.2.1.2.2 q SC SM o) ce sl :=
  VL_callW (X := []) (ci := 11) C hM hz hm hi hlink z1_cW_11 hc hroom hn hAs hro hstk hst d hcs k
theorem VL_callM (C : zCL K cc own n fr lo CE SL) {S' : zM} {y : MethodName} {cc' : ByteArray} {n' k1 fr' lo' i : Nat} {T : u_T} {N : Nat} {ret : Option FieldType} {As stk : List Value} {ro : Option Value}
    (hM : zMet K.1.2.1 mW zS0 y cc' n' ret fr' lo' (.ref 0 :: As) SM ro S') (hz : LZ K ν) (hm : zMth y cc' n' ret k1) (hi : zInst y) (hlink : Cond.methodLink own i y ∈ zT)
    (hc : vwCl[12]? = some (y.cls, T, N)) (hroom : fr' + 1 ≤ fr ∧ 8 + (n' + 11) + lo' ≤ lo) (hn : As.length = k1) (hAs : As.map (ztr ν) = As) (hro : ro.map (ztr ν) = ro) (hstk : stk = As.reverse ++ .ref (ν 0) :: st) (hst : (st.map fun v => v.category).sum ≤ 8) (d : decode cc pc = .ok (.invokevirtual i, 3)) (hcs : ce ≤ CE ∧ sl ≤ SL)
    (k : VC K (pc + 3) L (ro.toList ++ st) (lws μ ν K.2.1.2.2 q SC S' o) ce sl) : VC K pc L stk (lws μ ν K.2.1.2.2 q SC SM o) ce sl :=
  VL_callW (ci := 12) C hM hz hm hi hlink z1_mW_12 hc hroom hn hAs hro hstk hst d hcs k
/-- the script -/
def LX (K : zKC) (b L : Nat) (xs : Nat → Int32) : Prop := match K with
  | ((_, _, _, _, s, _, _, _, _, _), (_, A, _), _) => va_X b L xs s s.heap ∧ b < s.heap.size ∧ ¬ A b
theorem VL_sld (C : zCL K cc own n fr lo CE SL) {b N : Nat} {xs : Nat → Int32} {ws : va_W} {i : Int32} (hX : LX K b N xs) (hi : vp_in i N) (d : decode cc pc = .ok (.iaload, 1)) (k : VC K (pc + 1) L (.int (xs i.toNatClampNeg) :: st) ws ce sl) : VC K pc L (.int i :: .ref b :: st) ws ce sl := by
  obtain ⟨⟨p, l, e, R, s, m, args, below, meth, c⟩, ⟨D, A, cA⟩, ⟨n', Q⟩⟩ := K
  obtain ⟨hx, hb, hts, hown, hK, hA, hml, hfr, hlo, hcE, hsL, hcx, rfl⟩ := C
  intro H locs ls hP hD hS hl
  exact va_sld hx hb hX.1 hX.2.1 hX.2.2 hS hi d (k H locs ls hP hD hS hl)
theorem VL_slen (C : zCL K cc own n fr lo CE SL) {b N : Nat} {xs : Nat → Int32} {ws : va_W} (hX : LX K b N xs) (d : decode cc pc = .ok (.arraylength, 1)) (k : VC K (pc + 1) L (.int (Int32.ofNat N) :: st) ws ce sl) : VC K pc L (.ref b :: st) ws ce sl := by
  obtain ⟨⟨p, l, e, R, s, m, args, below, meth, c⟩, ⟨D, A, cA⟩, ⟨n', Q⟩⟩ := K
  obtain ⟨hx, hb, hts, hown, hK, hA, hml, hfr, hlo, hcE, hsL, hcx, rfl⟩ := C
  intro H locs ls hP hD hS hl
  exact va_slen hx hb hX.1 hX.2.1 hX.2.2 hS d (k H locs ls hP hD hS hl)
/-- the row of a long -/
theorem VL_lald (C : zCL K cc own n fr lo CE SL) {i : Int32} (hi : ixb i 1 = true) (d : decode cc pc = .ok (.laload, 1)) (k : VC K (pc + 1) L (.long o :: st) (lws μ ν K.2.1.2.2 q SC SM o) ce sl) : VC K pc L (.int i :: .ref q :: st) (lws μ ν K.2.1.2.2 q SC SM o) ce sl := by
  obtain ⟨⟨p, l, e, R, s, m, args, below, meth, c⟩, ⟨D, A, cA⟩, ⟨n', Q⟩⟩ := K
  obtain ⟨hx, hb, hts, hown, hK, hA, hml, hfr, hlo, hcE, hsL, hcx, rfl⟩ := C
  intro H locs ls hP hD hS hl
  have h0 : (lws μ ν cA q SC SM o)[490 + (30 + 0)]? = some (q, .inl (cA 3, 1, .inr (.inl (fun _ => o)))) := by
    have e1 : (zws cW μ cA SC).length = 490 := zws_len
    have e2 : (zws mW ν cA SM).length = 30 := zws_len
    unfold lws
    rw [List.getElem?_append_right (by omega), e1, Nat.add_sub_cancel_left, List.getElem?_append_right (by omega), e2]
    rfl
  exact va_lald hx hb hK hP (490 + (30 + 0)) 3 h0 rfl (ixb_in hi) d (k H locs ls hP hD hS hl)
end ZLC
