/-! The start: the strings, the statics, the classes. -/
def nwF : List Cond := flatC (Jvm.Cond.and given_1 narrow_1)
def zRow (i : Nat) : String × Nat × String × Nat := zS0.2.2.getD i ("", 0, "", 0)
def zTe (i : Nat) : Term := .string (zRow i).1 (zRow i).2.1
def zVa (i : Nat) : Term := .field (zTe i) "java/lang/String" "value" "[B"
def zLn (i : Nat) : Nat := zS0.1.getD i 0
def zBy (i j : Nat) : Int32 := (zS0.2.1.getD i []).getD j 0
set_option maxRecDepth 100000 in
theorem nw_ex : (List.range 29).all (fun i => decide (Cond.exactly (zTe i) "java/lang/String" ∈ nwF)) = true := by decide +kernel
set_option maxRecDepth 100000 in
theorem nw_co : (List.range 29).all (fun i => decide (Cond.eq (.field (zTe i) "java/lang/String" "coder" "B") (.int 0) ∈ nwF)) = true := by decide +kernel
set_option maxRecDepth 100000 in
theorem nw_ar : (List.range 29).all (fun i => decide (Cond.arrayOf (zVa i) .byte ∈ nwF)) = true := by decide +kernel
set_option maxRecDepth 100000 in
theorem nw_le : (List.range 29).all (fun i => decide (Cond.eq (.length (zVa i)) (.int (Int32.ofNat (zLn i))) ∈ nwF)) = true := by decide +kernel
set_option maxRecDepth 100000 in
theorem nw_el : (List.range 29).all (fun i => (List.range (zLn i)).all (fun j => decide (Cond.eq (.elem (zVa i) (.int (Int32.ofNat j))) (.int (zBy i j)) ∈ nwF))) = true := by decide +kernel
set_option maxRecDepth 100000 in
theorem nw_eq : (List.range 28).all (fun k => decide (Cond.eq (zTe k) (zTe (29 + k)) ∈ nwF)) = true := by decide +kernel
theorem nw_cs : Cond.eq (.static "java/lang/String" "COMPACT_STRINGS" "Z") (.int 1) ∈ nwF := by decide +kernel
theorem nw_sf : Cond.isRef (.static "jdk/internal/util/Preconditions" "SIOOBE_FORMATTER" "Ljava/util/function/BiFunction;") ∈ nwF := by decide +kernel
theorem zL_sm : (List.range 29).all (fun i => decide (zLn i < 100)) = true := by decide +kernel
theorem z_apart : (List.range 29).all (fun i => (List.range 29).all (fun j => i == j || (zLn i != zLn j || (List.range (zLn i)).any (fun k => zBy i k != zBy j k)))) = true := by decide +kernel
theorem z_rows : (List.range 57).all (fun n => (zRow n).2.2.2 == (if n < 29 then n else n - 29)) = true := by decide +kernel
theorem z_len : zS0.2.2.length = 57 := by decide +kernel
theorem nwall {n : Nat} {f : Nat → Bool} (h : (List.range n).all f = true) {i : Nat} (hi : i < n) : f i = true := List.all_eq_true.mp h i (List.mem_range.mpr hi)
section ZST
variable {s : State} {args : Array Value} {A : Nat → Prop}
theorem zvS (hF : ∀ c ∈ nwF, c.before args s = true) (hA : ∀ a : Nat, a < s.heap.size → ¬ A a) : ∃ adK adV : Nat → Nat, vk_S 29 zS0.1 zS0.2.1 adK adV A s s.heap ∧ ∀ i : Nat, i < 29 → (zTe i).eval args s none [] s = some (.ref (adK i)) := by
  have h0 : ∀ i : Nat, ∃ q : Nat × Nat, i < 29 → (zTe i).eval args s none [] s = some (.ref q.1) ∧ va_O "java/lang/String" q.1 A s s.heap ∧ va_OF "java/lang/String" "coder" "B" (.int 0) q.1 A s s.heap ∧ va_OF "java/lang/String" "value" "[B" (.ref q.2) q.1 A s s.heap ∧ va_T .byte q.2 (zS0.1.getD i 0) (fun j => .int ((zS0.2.1.getD i []).getD j 0)) A s s.heap := by
    intro i
    by_cases hi : i < 29
    · have hex := hF _ (of_decide_eq_true (nwall nw_ex hi))
      have hco := hF _ (of_decide_eq_true (nwall nw_co hi))
      have har := hF _ (of_decide_eq_true (nwall nw_ar hi))
      have hle := hF _ (of_decide_eq_true (nwall nw_le hi))
      have hel : ∀ j : Nat, j < zLn i → (Cond.eq (.elem (zVa i) (.int (Int32.ofNat j))) (.int (zBy i j))).before args s = true := fun j hj => hF _ (of_decide_eq_true (nwall (nwall nw_el hi) hj))
      have hsm := of_decide_eq_true (nwall zL_sm hi)
      obtain ⟨a, c, cA, kA, q1, q2, q3, q4, q5, q6, -⟩ := Cond.exactly_spec (args := args) (first := s) (o := none) (s := s) (idx := []) (t := zTe i) (cls := "java/lang/String") hex
      obtain ⟨t, ht, hT⟩ := va_Tof (f := fun j => .int ((zS0.2.1.getD i []).getD j 0)) (A := A) (show zLn i < 2 ^ 31 by omega) har (va_eqt hle) (fun j hj => va_eqt (hel j hj)) hA
      exact ⟨(a, t), fun _ => ⟨q1, ⟨cA, q3, q5, by rw [q6]; exact q2, hA a (Array.getElem?_eq_some_iff.mp q3).1⟩, vk_OFof q1 (va_eqt hco) hA, vk_OFof q1 ht hA, hT⟩⟩
    · exact ⟨(0, 0), fun h => absurd h hi⟩
  obtain ⟨ad, had⟩ := Classical.axiomOfChoice h0
  refine ⟨fun i => (ad i).1, fun i => (ad i).2, ⟨fun i hi => (had i hi).2, fun i j hi hj e => ?_⟩, fun i hi => (had i hi).1⟩
  obtain ⟨-, -, -, hvi, hTi⟩ := had i hi
  obtain ⟨-, -, -, hvj, hTj⟩ := had j hj
  have e' : (ad i).1 = (ad j).1 := e
  obtain ⟨cf, k, n, f, cell, g1, g2, g3, g4, g5, -⟩ := hvi
  obtain ⟨cf', k', n', f', cell', g1', g2', g3', g4', g5', -⟩ := hvj
  rw [g1] at g1'
  have g1e := Option.some.inj g1'
  have ef : f = f' := (Prod.mk.inj (Prod.mk.inj (Prod.mk.inj g1e).2).2).2
  rw [e', g3'] at g3
  have ec : cell' = cell := Option.some.inj g3
  rw [ef, ← ec, g5'] at g5
  have ev : (ad j).2 = (ad i).2 := by
    have := Option.some.inj g5
    injection this
  obtain ⟨t1, b1, b2, b3, b4, b5, b6, -⟩ := hTi
  obtain ⟨t2, d1, d2, d3, d4, d5, d6, -⟩ := hTj
  rw [ev, b1] at d1
  have et : t1 = t2 := Option.some.inj d1
  subst et
  have hsi := of_decide_eq_true (nwall zL_sm hi)
  have hsj := of_decide_eq_true (nwall zL_sm hj)
  have el : zLn i = zLn j := by
    have h1 : Int32.ofNat (zLn i) = Int32.ofNat (zLn j) := b5.symm.trans d5
    have h2 : J ((zLn i : Nat) : Int) = J ((zLn j : Nat) : Int) := by
      rw [show J ((zLn i : Nat) : Int) = Int32.ofNat (zLn i) from Int32.ofInt_eq_ofNat, show J ((zLn j : Nat) : Int) = Int32.ofNat (zLn j) from Int32.ofInt_eq_ofNat, h1]
    rw [J_inj (by omega) (by omega) (by omega) (by omega)] at h2
    omega
  have hap := nwall (nwall z_apart hi) hj
  simp only [Bool.or_eq_true, beq_iff_eq, bne_iff_ne, ne_eq] at hap
  rcases hap with h | h | h
  · exact h
  · exact absurd el h
  · obtain ⟨x, hx, hne⟩ := List.any_eq_true.mp h
    have hx' := List.mem_range.mp hx
    have h1 := b6 x hx'
    have h2 := d6 x (by rw [← show zLn j = zS0.1.getD j 0 from rfl, ← el]; exact hx')
    rw [h1] at h2
    have h3 := Option.some.inj h2
    have h4 : zBy i x = zBy j x := by
      injection h3
    simp [h4] at hne
theorem zOK_start (hF : ∀ c ∈ nwF, c.before args s = true) (hts : ∀ w ∈ lw_tbl, w.before args s = true) (hA : ∀ a : Nat, a < s.heap.size → ¬ A a) : ∃ f : Nat → Nat, ∀ μ : Nat → Nat, (∀ k, 10000 ≤ k → μ k = f k) → zOK zS0 μ A s s.heap := by
  obtain ⟨adK, adV, hS, hev⟩ := zvS (A := A) hF hA
  have hcs : va_Z "java/lang/String" "COMPACT_STRINGS" "Z" (.int 1) A s s.heap := va_Zof (hts _ ls_cs) (hts _ in_str) (va_eqi (hF _ nw_cs)) hA
  have hsf : va_Zq "jdk/internal/util/Preconditions" "SIOOBE_FORMATTER" "Ljava/util/function/BiFunction;" A s s.heap := va_Zqof (hts _ ls_sf) (hts _ in_pre) (hF _ nw_sf) hA
  have hall : ∀ n, n < 57 → (zTe n).eval args s none [] s = some (.ref (adK (zRow n).2.2.2)) := by
    intro n hn
    have hr := nwall z_rows hn
    rw [beq_iff_eq] at hr
    rw [hr]
    by_cases h : n < 29
    · rw [if_pos h]
      exact hev n h
    · rw [if_neg h]
      have := va_eqR (hF _ (of_decide_eq_true (nwall nw_eq (show n - 29 < 28 by omega)))) (hev (n - 29) (by omega))
      rw [show 29 + (n - 29) = n by omega] at this
      exact this
  have key : ∀ aS : Nat, ∃ f : Nat → Nat, (∀ i, i < 29 → f (10000 + i) = adK i ∧ f (20000 + i) = adV i) ∧ f 30000 = aS := fun aS => ⟨fun k => if k < 20000 then adK (k - 10000) else if k < 30000 then adV (k - 20000) else aS, fun i hi => ⟨by
    show (if 10000 + i < 20000 then adK (10000 + i - 10000) else _) = _
    rw [if_pos (by omega), Nat.add_sub_cancel_left], by
    show (if 20000 + i < 20000 then _ else if 20000 + i < 30000 then adV (20000 + i - 20000) else aS) = _
    rw [if_neg (by omega), if_pos (by omega), Nat.add_sub_cancel_left]⟩, by
    show (if 30000 < 20000 then _ else if 30000 < 30000 then _ else aS) = aS
    rw [if_neg (by omega), if_neg (by omega)]⟩
  obtain ⟨aS, hsv⟩ : ∃ aS : Nat, ∃ v : Value, (v = .null ∨ v = .ref 30000) ∧ ∀ μ : Nat → Nat, μ 30000 = aS → va_Z "jdk/internal/util/Preconditions" "SIOOBE_FORMATTER" "Ljava/util/function/BiFunction;" (ztr μ v) A s s.heap := by
    rcases hsf with h | ⟨a, h⟩
    · exact ⟨0, .null, Or.inl rfl, fun μ _ => h⟩
    · refine ⟨a, .ref 30000, Or.inr rfl, fun μ e => ?_⟩
      show va_Z _ _ _ (.ref (μ 30000)) A s s.heap
      rw [e]
      exact h
  obtain ⟨f, hf, hf3⟩ := key aS
  refine ⟨f, fun μ hμ => ⟨⟨fun i hi => ?_, fun i j hi hj e => ?_⟩, fun r hr => ?_, hcs, ?_, fun r hr => va_Nw.of rfl (hts _ (nw_all r hr))⟩⟩
  · show va_O "java/lang/String" (μ (10000 + i)) A s s.heap ∧ va_OF "java/lang/String" "coder" "B" (.int 0) (μ (10000 + i)) A s s.heap ∧ va_OF "java/lang/String" "value" "[B" (.ref (μ (20000 + i))) (μ (10000 + i)) A s s.heap ∧ va_T .byte (μ (20000 + i)) _ _ A s s.heap
    rw [hμ _ (by omega), hμ _ (by omega), (hf i hi).1, (hf i hi).2]
    exact hS.1 i hi
  · have e' : μ (10000 + i) = μ (10000 + j) := e
    rw [hμ _ (by omega), hμ _ (by omega), (hf i hi).1, (hf j hj).1] at e'
    exact hS.2 i j hi hj e'
  · obtain ⟨n, hn⟩ := List.getElem?_of_mem hr
    have hlt : n < 57 := by
      rw [← z_len]
      exact (List.getElem?_eq_some_iff.mp hn).1
    have er : zRow n = r := by
      unfold zRow
      rw [List.getD_eq_getElem?_getD, hn]
      rfl
    have hr2 := nwall z_rows hlt
    rw [beq_iff_eq] at hr2
    have hi : r.2.2.2 < 29 := by
      rw [← er, hr2]
      split <;> omega
    have h2 := hall n hlt
    rw [er] at h2
    have h3 : (Term.string r.1 r.2.1).eval args s none [] s = some (.ref (adK r.2.2.2)) := by
      have : zTe n = .string r.1 r.2.1 := by unfold zTe; rw [er]
      rw [← this]
      exact h2
    rw [hμ _ (by omega), (hf _ hi).1]
    exact vk_R.of (hts _ (sr_all r hr)) h3
  · obtain ⟨v, h1, h2⟩ := hsv
    exact ⟨v, h1, h2 μ (by rw [hμ _ (by omega), hf3])⟩
end ZST
