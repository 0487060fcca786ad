/-! The whole: from the entry to the loop. -/
set_option maxRecDepth 100000 in
theorem nw_us : Cond.isRef (.static Bundle.tN "UNASSIGNED_STACK" Bundle.steD) ∈ nwF := by decide +kernel
set_option maxRecDepth 100000 in
theorem nw_ss : Cond.isRef (.static Bundle.tN "SUPPRESSED_SENTINEL" Bundle.listD) ∈ nwF := by decide +kernel
theorem fl_no {l : Launch} (h : l.flags = flags0) : l.stackTraces = false := by
  unfold Launch.stackTraces
  rw [h]
  decide +kernel
theorem zcx_start {s : State} {args : Array Value} (hts : ∀ w ∈ lw_tbl, w.before args s = true) : zCX s :=
  ⟨fun r hr => va_Nw.of rfl (hts _ (nw_all r hr)), List.forall_mem_cons.mpr ⟨va_AO.of (hts _ ao_X4), List.forall_mem_cons.mpr ⟨va_AO.of (hts _ ao_X9), List.forall_mem_cons.mpr ⟨va_AO.of (hts _ ao_X8), List.forall_mem_cons.mpr ⟨va_AO.of (hts _ ao_X6), List.forall_mem_cons.mpr ⟨va_AO.of (hts _ ao_X5), fun _ h => absurd h List.not_mem_nil⟩⟩⟩⟩⟩⟩
set_option maxRecDepth 100000 in
/-- from the entry, for every script of at most 4096 ints, the law comes to its end with true -/
theorem whole_start {p : Program} {e : Env} {s : State} {m : MethodId} {below : List Frame} {meth : Method} {c : Code} (l : Launch) (hflags : l.flags = flags0) {b L : Nat} {xs : Nat → Int32} (hL : L ≤ 4096) (C0 : lw_At p s m meth c b L xs) : W p l e room_1 s m #[Value.ref b] below meth c s.heap [] 0 0 (lw_Z below #[Value.ref b] s) (entryFrame m ([Value.ref b] : List Value).toArray 7) := by
  obtain ⟨hx, hb, hret, hml, hown, hts, hX, hbl, hlk, hgv⟩ := C0
  have hF : ∀ c ∈ nwF, c.before #[Value.ref b] s = true := flat_of_before _ hgv
  have hA : ∀ a : Nat, a < s.heap.size → ¬ s.heap.size ≤ a := fun a h => Nat.not_le.mpr h
  obtain ⟨D, cA, hK⟩ := zK_start hts
  obtain ⟨f, hf⟩ := zOK_start (A := fun q => s.heap.size ≤ q) hF hts hA
  have hfl : l.stackTraces = false := fl_no hflags
  have hn : nsOK (fun q => s.heap.size ≤ q) s s.heap := ⟨fun w hw => va_Nw.of (nsD_tab w hw) (hts w (nsD_all w hw)), vx_Zqof (hts _ ls_us) (hts _ in_thr) (hF _ nw_us) hA, vx_Zqof (hts _ ls_ss) (hts _ in_thr) (hF _ nw_ss) hA⟩
  let K : zKC := ((p, l, e, room_1, s, m, #[Value.ref b], below, meth, c), (D, (fun q => s.heap.size ≤ q), cA), (7, lw_Z below #[Value.ref b] s))
  have C : zCL K cL_law RL 7 14 532 601024 7293034 := ⟨hx, hb, fun w hw => hts w (List.mem_filter.mp hw).1, hown, hK, fun q h => h, hml, rfl, rfl, rfl, rfl, zcx_start hts, rfl⟩
  have hLX : LX K b L xs := ⟨hX, hbl, hA b hbl⟩
  have hend : ∀ (ce sl : Nat) (ws : va_W) (L1 : zL), ce ≤ 601024 → sl ≤ 7293034 → VC K 2301 L1 [] ws ce sl := fun ce sl ws L1 h1 h2 => by
    refine VL_iconst (pc := 2301) C dL_law_2301 (v := 1) rfl ?_
    intro H locs ls hP hD hS hl
    exact va_forget (fun q hq => hS.2.2 q hq) (fun T hT X => lw_ret hx hb hret hlk dL_law_2302 T hT (stand_widen X h1 h2))
  have hw : VC K 0 [some (.ref b), none, none, none, none, none, none] [] [] 0 0 := by
    refine VL_new (pc := 0) C nc_RL_8 ⟨Nat.le_of_ble_eq_true rfl, Nat.le_of_ble_eq_true rfl⟩ dL_law_0 (fun q1 => ?_)
    refine VL_dup (pc := 3) C dL_law_3 rfl ?_
    refine VL_callI (X := []) (pc := 4) C (kX11 l) zm_X11_init ii_X11 rfl ml_RL_15 ⟨Nat.le_of_ble_eq_true rfl, Nat.le_of_ble_eq_true rfl, Nat.le_of_ble_eq_true rfl, Nat.le_of_ble_eq_true rfl⟩ (Nat.le_of_ble_eq_true rfl) dL_law_4 (fun μ1 hμ1 => ?_)
    subst hμ1
    refine VL_astore_n (L' := [some (.ref b), some (.ref (μ1 0)), none, none, none, none, none]) (pc := 7) C dL_law_7 rfl (by decide) rfl ?_
    refine VL_new (pc := 8) C nc_RL_16 ⟨Nat.le_of_ble_eq_true rfl, Nat.le_of_ble_eq_true rfl⟩ dL_law_8 (fun q2 => ?_)
    refine VL_dup (pc := 11) C dL_law_11 rfl ?_
    refine VL_callI (pc := 12) C (kX12 l) zm_X12_init ii_X12 rfl ml_RL_18 ⟨Nat.le_of_ble_eq_true rfl, Nat.le_of_ble_eq_true rfl, Nat.le_of_ble_eq_true rfl, Nat.le_of_ble_eq_true rfl⟩ (Nat.le_of_ble_eq_true rfl) dL_law_12 (fun ν1 hν1 => ?_)
    subst hν1
    refine VL_astore_n (L' := [some (.ref b), some (.ref (μ1 0)), some (.ref (ν1 0)), none, none, none, none]) (pc := 15) C dL_law_15 rfl (by decide) rfl ?_
    refine VL_iconst (pc := 16) C dL_law_16 (v := 1) rfl ?_
    refine VL_newa (t := 3) (N := 1) (a0 := (1, .inr (.inl (fun _ => 0)))) (pc := 17) C aw_long rfl (fun _ => rfl) (fun _ => rfl) ⟨by decide, by decide, by decide⟩ ⟨Nat.le_of_ble_eq_true rfl, Nat.le_of_ble_eq_true rfl⟩ dL_law_17 (fun q3 => ?_)
    refine VL_astore_n (L' := [some (.ref b), some (.ref (μ1 0)), some (.ref (ν1 0)), some (.ref q3), none, none, none]) (pc := 19) C dL_law_19 rfl (by decide) rfl ?_
    refine VL_iconst (pc := 20) C dL_law_20 (v := J ((8 * 0 : Nat) : Int)) rfl ?_
    refine VL_istore (L' := [some (.ref b), some (.ref (μ1 0)), some (.ref (ν1 0)), some (.ref q3), some (.int (J ((8 * 0 : Nat) : Int))), none, none]) (pc := 21) C dL_law_21 (by decide) rfl ?_
    have hμ : ∀ (g : Nat → Nat) (k : Nat), k < 10000 → (fun k => if k < 10000 then g k else f k) k = g k := fun g k hk => if_pos hk
    have hz : ∀ g : Nat → Nat, LZ K (fun k => if k < 10000 then g k else f k) := fun g => hf (fun k => if k < 10000 then g k else f k) (fun k (hk : 10000 ≤ k) => if_neg (show ¬ k < 10000 by omega))
    have eW : (([] ++ zws wMore μ1 cA SC0) ++ zws wModel ν1 cA SM0) ++ [(q3, .inl (cA 3, (1, .inr (.inl (fun _ => 0)))))] = lws (fun k => if k < 10000 then μ1 k else f k) (fun k => if k < 10000 then ν1 k else f k) cA q3 SC0 SM0 0 := by
      rw [List.nil_append, zre_C (hμ μ1), zre_M (hμ ν1), List.append_assoc]
      rfl
    have hgo := fun (ce sl : Nat) (h1 : ce + 514 ≤ 601024) (h2 : sl + 6 * 514 ≤ 7293034) => law_loop2 (ce := ce) (sl := sl) (q := q3) C (hz μ1) (hz ν1) hLX hL ⟨h1, h2⟩ hfl hn (fun t SC SM o L1 ht => hend (ce + t) (sl + 6 * t) _ L1 (by omega) (by omega)) 512 0 SC0 SM0 0 none none (by omega) (by omega) Inv_first
    have hfin : ∀ (ce sl : Nat), ce + 514 ≤ 601024 → sl + 6 * 514 ≤ 7293034 → VC K 23 [some (.ref b), some (.ref (μ1 0)), some (.ref (ν1 0)), some (.ref q3), some (.int (J ((8 * 0 : Nat) : Int))), none, none] [] ((([] ++ zws wMore μ1 cA SC0) ++ zws wModel ν1 cA SM0) ++ [(q3, .inl (cA 3, (1, .inr (.inl (fun _ => 0)))))]) ce sl := fun ce sl h1 h2 => by
      rw [eW]
      exact hgo ce sl h1 h2
    exact hfin _ _ (Nat.le_of_ble_eq_true rfl) (Nat.le_of_ble_eq_true rfl)
  have hl := zent_lv (μ := zid) (n := 7) (av := [.ref b]) (Nat.le_of_ble_eq_true rfl)
  rw [zid_st] at hl
  rw [lg_entry_eq]
  exact hw s.heap [] _ (fun k q h => by simp at h) ⟨fun i j p q h => by simp at h, fun k q h => by simp at h⟩ va_S.rf hl
