/-- the kinds of a class's fields: 0 int, 1 boolean, 2 long, 3 a reference that changes, 4 one that doesn't -/
def zkn (ci : Nat) : List Nat := match ci with
  | 0 => [3, 3, 3, 0, 0, 0, 0, 0]
  | 1 => [4, 4, 0]
  | 2 => [4, 4, 4, 4, 4, 4, 4, 0, 4, 4, 4, 4]
  | 3 => [4, 4, 4, 4, 4, 4, 0, 0, 0, 0, 0]
  | 4 => [4, 4, 4, 0]
  | 5 => [0, 0, 0, 0, 0]
  | 6 => [0, 0, 0, 0, 0]
  | 7 => [4, 4, 4, 0, 0, 0, 3, 0, 0]
  | 8 => [4, 0, 0, 0, 0, 0, 1, 0, 0, 0]
  | 9 => [4, 4, 4, 4, 4, 4, 0, 0]
  | 10 => [4, 4, 4, 0, 4, 4]
  | 11 => [4, 4, 4, 4, 4, 4, 4, 4, 3, 4, 0, 0, 0, 0, 0]
  | 12 => [0, 4, 0, 0, 0, 0, 0, 0, 0, 0, 0, 0, 4, 1, 1, 4, 4, 4, 4, 4, 0, 0, 4, 4, 4, 4, 4, 4, 4, 4, 4, 4, 4, 4, 0, 4, 4, 4, 4, 4, 4, 4, 4, 4, 4]
  | _ => []
def zfv (μ : Nat → Nat) (S : zM) (q : Nat) (l : List Nat) (kd j : Nat) : Value :=
  if kd = 2 then .long (gL S q j) else if kd = 3 then .ref (μ (gR S q j)) else if kd = 4 then .ref (μ (l.getD j 0)) else .int (gI S q j)
def zfs (μ : Nat → Nat) (S : zM) (q ci : Nat) (l : List Nat) : List Value := (List.range (zkn ci).length).map (fun j => zfv μ S q l ((zkn ci).getD j 0) j)
def zen (μ : Nat → Nat) (cA : Nat → ClassId) (S : zM) (q : Nat) (e : zE) : va_E :=
  if e.1 = 0 then .inr (e.2.1, zfs μ S q e.2.1 e.2.2.2)
  else if e.1 = 1 then .inl (cA e.2.1, (e.2.2.1, .inl (gI S q)))
  else if e.1 = 2 then .inl (cA e.2.1, (e.2.2.1, .inr (.inl (gL S q))))
  else .inl (cA e.2.1, (e.2.2.1, .inr (.inr (.inr (.inr (fun j => (e.2.2.2[j]?).map μ))))))
def zws (w : zWd) (μ : Nat → Nat) (cA : Nat → ClassId) (S : zM) : va_W := (List.range w.1).map (fun q => (μ q, zen μ cA S q (w.2 q)))
theorem zws_at {w : zWd} {μ : Nat → Nat} {cA : Nat → ClassId} {S : zM} {q : Nat} (h : q < w.1) : (zws w μ cA S)[q]? = some (μ q, zen μ cA S q (w.2 q)) := by
  simp [zws, h]
theorem zws_set {w : zWd} {μ : Nat → Nat} {cA : Nat → ClassId} {S S' : zM} {q : Nat} {e : va_E} (h1 : e = zen μ cA S' q (w.2 q)) (h2 : ∀ q', q' ≠ q → zen μ cA S' q' (w.2 q') = zen μ cA S q' (w.2 q')) : (zws w μ cA S).set q (μ q, e) = zws w μ cA S' := by
  apply List.ext_getElem?
  intro k
  by_cases hk : k = q
  · subst hk
    by_cases hq : k < w.1
    · rw [List.getElem?_set_self (by simp [zws, hq]), zws_at hq, h1]
    · simp [zws, hq]
  · rw [List.getElem?_set_ne (fun z => hk z.symm)]
    by_cases hq : k < w.1
    · rw [zws_at hq, zws_at hq, h2 k hk]
    · simp [zws, hq]
theorem zfs_len {μ : Nat → Nat} {S : zM} {q ci : Nat} {l : List Nat} : (zfs μ S q ci l).length = (zkn ci).length := by simp [zfs]
theorem zfs_at {μ : Nat → Nat} {S : zM} {q ci j kd : Nat} {l : List Nat} (h : (zkn ci)[j]? = some kd) : (zfs μ S q ci l)[j]? = some (zfv μ S q l kd j) := by
  obtain ⟨hl, he⟩ := List.getElem?_eq_some_iff.mp h
  subst he
  simp [zfs, hl]
theorem zfs_set {μ : Nat → Nat} {S S' : zM} {q ci j kd : Nat} {l : List Nat} {v : Value} (h : (zkn ci)[j]? = some kd) (hv : v = zfv μ S' q l kd j) (ho : ∀ (k' kd' : Nat), k' ≠ j → zfv μ S' q l kd' k' = zfv μ S q l kd' k') : (zfs μ S q ci l).set j v = zfs μ S' q ci l := by
  apply List.ext_getElem?
  intro k
  have hl := (List.getElem?_eq_some_iff.mp h).1
  by_cases hk : k = j
  · subst hk
    rw [List.getElem?_set_self (by rw [zfs_len]; exact hl), zfs_at h, hv]
  · rw [List.getElem?_set_ne (fun z => hk z.symm)]
    by_cases hq : k < (zkn ci).length
    · simp only [zfs, List.getElem?_map, List.getElem?_range hq, Option.map_some]
      rw [ho k _ hk]
    · simp [zfs, hq]
theorem zen_o {μ : Nat → Nat} {cA : Nat → ClassId} {S : zM} {q ci : Nat} {e : zE} (h : e.1 = 0) (h2 : e.2.1 = ci) : zen μ cA S q e = .inr (ci, zfs μ S q ci e.2.2.2) := by
  subst h2
  unfold zen
  rw [if_pos h]
theorem zen_i {μ : Nat → Nat} {cA : Nat → ClassId} {S : zM} {q t n : Nat} {l : List Nat} {e : zE} (h : e = (1, t, n, l)) : zen μ cA S q e = .inl (cA t, (n, .inl (gI S q))) := by
  subst h
  rfl
theorem zen_l {μ : Nat → Nat} {cA : Nat → ClassId} {S : zM} {q t n : Nat} {l : List Nat} {e : zE} (h : e = (2, t, n, l)) : zen μ cA S q e = .inl (cA t, (n, .inr (.inl (gL S q)))) := by
  subst h
  rfl
theorem zen_r {μ : Nat → Nat} {cA : Nat → ClassId} {S : zM} {q t n : Nat} {l : List Nat} {e : zE} (h : e = (3, t, n, l)) : zen μ cA S q e = .inl (cA t, (n, .inr (.inr (.inr (.inr (fun j => (l[j]?).map μ)))))) := by
  subst h
  rfl
theorem gI_pI {S : zM} {q k a b : Nat} {v : Int32} : gI (pI S q k v) a b = if a = q ∧ b = k then v else gI S a b := rfl
theorem gL_pL {S : zM} {q k a b : Nat} {v : Int64} : gL (pL S q k v) a b = if a = q ∧ b = k then v else gL S a b := rfl
theorem gR_pR {S : zM} {q k a b : Nat} {v : Nat} : gR (pR S q k v) a b = if a = q ∧ b = k then v else gR S a b := rfl
theorem gI_pI_o {S : zM} {q k a : Nat} {v : Int32} (h : a ≠ q) : gI (pI S q k v) a = gI S a := by
  funext b
  rw [gI_pI, if_neg (fun z => h z.1)]
theorem gL_pL_o {S : zM} {q k a : Nat} {v : Int64} (h : a ≠ q) : gL (pL S q k v) a = gL S a := by
  funext b
  rw [gL_pL, if_neg (fun z => h z.1)]
theorem gI_pI_s {S : zM} {q k : Nat} {v : Int32} : gI (pI S q k v) q = upd (gI S q) k v := by
  funext b
  rw [gI_pI]
  by_cases h : b = k
  · rw [if_pos ⟨rfl, h⟩, upd, if_pos h]
  · rw [if_neg (fun z => h z.2), upd, if_neg h]
theorem gL_pL_s {S : zM} {q k : Nat} {v : Int64} : gL (pL S q k v) q = vp_updL (gL S q) k v := by
  funext b
  rw [gL_pL]
  by_cases h : b = k
  · rw [if_pos ⟨rfl, h⟩, vp_updL, if_pos h]
  · rw [if_neg (fun z => h z.2), vp_updL, if_neg h]
theorem zen_pI {μ : Nat → Nat} {cA : Nat → ClassId} {S : zM} {q k q' : Nat} {v : Int32} {e : zE} (h : q' ≠ q) : zen μ cA (pI S q k v) q' e = zen μ cA S q' e := by
  have h1 : gI (pI S q k v) q' = gI S q' := gI_pI_o h
  unfold zen zfs zfv
  rw [h1]
  rfl
theorem zen_pL {μ : Nat → Nat} {cA : Nat → ClassId} {S : zM} {q k q' : Nat} {v : Int64} {e : zE} (h : q' ≠ q) : zen μ cA (pL S q k v) q' e = zen μ cA S q' e := by
  have h1 : gL (pL S q k v) q' = gL S q' := gL_pL_o h
  unfold zen zfs zfv
  rw [h1]
  rfl
theorem zen_pR {μ : Nat → Nat} {cA : Nat → ClassId} {S : zM} {q k q' : Nat} {v : Nat} {e : zE} (h : q' ≠ q) : zen μ cA (pR S q k v) q' e = zen μ cA S q' e := by
  have h1 : gR (pR S q k v) q' = gR S q' := by
    funext b
    rw [gR_pR, if_neg (fun z => h z.1)]
  unfold zen zfs zfv
  rw [h1]
  rfl
/-! The judgement: from every machine state that shows this place, these locals, this stack and this memory, the goal is reached. -/
def ztr (μ : Nat → Nat) (v : Value) : Value := match v with
  | .ref q => .ref (μ q)
  | w => w
theorem ztr_cat (μ : Nat → Nat) (v : Value) : (ztr μ v).category = v.category := by cases v <;> rfl
theorem ztr_cats (μ : Nat → Nat) (st : List Value) : ((st.map (ztr μ)).map fun v => v.category) = st.map fun v => v.category := by
  rw [List.map_map]
  exact List.map_congr_left (fun v _ => ztr_cat μ v)
abbrev zL : Type := List (Option Value)
def zc2 (a : Option Value) : Option Value := match a with
  | some (.long _) => none
  | some (.double _) => none
  | b => b
def zst1 : zL → Nat → Value → zL
  | [], _, _ => []
  | _ :: t, 0, v => some v :: t
  | a :: t, i + 1, v => (match i with
    | 0 => zc2 a
    | _ + 1 => a) :: zst1 t i v
def zst2 : zL → Nat → Value → zL
  | [], _, _ => []
  | _ :: t, 0, v => some v :: (match t with
    | [] => []
    | _ :: t' => none :: t')
  | a :: t, i + 1, v => (match i with
    | 0 => zc2 a
    | _ + 1 => a) :: zst2 t i v
def zmask : List Bool → zL → zL
  | true :: bs, a :: t => a :: zmask bs t
  | false :: bs, _ :: t => none :: zmask bs t
  | [], t => t
  | _, [] => []
theorem zc2_some {a : Option Value} {w : Value} (h : zc2 a = some w) : a = some w ∧ w.category ≠ 2 := by
  unfold zc2 at h
  split at h
  · cases h
  · cases h
  · next n1 n2 =>
    subst h
    refine ⟨rfl, fun z => ?_⟩
    cases w <;> first | exact n1 _ rfl | exact n2 _ rfl | (simp [Value.category] at z)
theorem zst1_at : ∀ (L : zL) (i : Nat) (v : Value) (j : Nat) (w : Value), (zst1 L i v)[j]? = some (some w) → (j = i ∧ w = v) ∨ (j ≠ i ∧ L[j]? = some (some w) ∧ (j + 1 = i → w.category ≠ 2))
  | [], i, v, j, w, h => by simp [zst1] at h
  | a :: t, 0, v, j, w, h => by
    cases j with
    | zero =>
      simp only [zst1, List.getElem?_cons_zero, Option.some.injEq] at h
      exact Or.inl ⟨rfl, h.symm⟩
    | succ j =>
      simp only [zst1, List.getElem?_cons_succ] at h
      exact Or.inr ⟨by omega, by simpa using h, by omega⟩
  | a :: t, i + 1, v, j, w, h => by
    cases j with
    | zero =>
      simp only [zst1, List.getElem?_cons_zero, Option.some.injEq] at h
      refine Or.inr ⟨by omega, ?_⟩
      cases i with
      | zero =>
        obtain ⟨h1, h2⟩ := zc2_some h
        exact ⟨by simp [h1], fun _ => h2⟩
      | succ i => exact ⟨by simpa using h, by omega⟩
    | succ j =>
      simp only [zst1, List.getElem?_cons_succ] at h
      rcases zst1_at t i v j w h with ⟨h1, h2⟩ | ⟨h1, h2, h3⟩
      · exact Or.inl ⟨by omega, h2⟩
      · exact Or.inr ⟨by omega, by simpa using h2, fun z => h3 (by omega)⟩
theorem zst2_at : ∀ (L : zL) (i : Nat) (v : Value) (j : Nat) (w : Value), (zst2 L i v)[j]? = some (some w) → (j = i ∧ w = v) ∨ (j ≠ i ∧ j ≠ i + 1 ∧ L[j]? = some (some w) ∧ (j + 1 = i → w.category ≠ 2))
  | [], i, v, j, w, h => by simp [zst2] at h
  | a :: t, 0, v, j, w, h => by
    cases j with
    | zero =>
      simp only [zst2, List.getElem?_cons_zero, Option.some.injEq] at h
      exact Or.inl ⟨rfl, h.symm⟩
    | succ j =>
      simp only [zst2, List.getElem?_cons_succ] at h
      cases t with
      | nil => simp at h
      | cons b t' =>
        cases j with
        | zero => simp at h
        | succ j => exact Or.inr ⟨by omega, by omega, by simpa using h, by omega⟩
  | a :: t, i + 1, v, j, w, h => by
    cases j with
    | zero =>
      simp only [zst2, List.getElem?_cons_zero, Option.some.injEq] at h
      refine Or.inr ⟨by omega, by omega, ?_⟩
      cases i with
      | zero =>
        obtain ⟨h1, h2⟩ := zc2_some h
        exact ⟨by simp [h1], fun _ => h2⟩
      | succ i => exact ⟨by simpa using h, by omega⟩
    | succ j =>
      simp only [zst2, List.getElem?_cons_succ] at h
      rcases zst2_at t i v j w h with ⟨h1, h2⟩ | ⟨h1, h2, h3, h4⟩
      · exact Or.inl ⟨by omega, h2⟩
      · exact Or.inr ⟨by omega, by omega, by simpa using h3, fun z => h4 (by omega)⟩
theorem zmask_at : ∀ (bs : List Bool) (L : zL) (j : Nat) (w : Value), (zmask bs L)[j]? = some (some w) → L[j]? = some (some w)
  | [], L, j, w, h => by simpa [zmask] using h
  | true :: bs, [], j, w, h => by simp [zmask] at h
  | false :: bs, [], j, w, h => by simp [zmask] at h
  | true :: bs, a :: t, j, w, h => by
    cases j with
    | zero => simpa [zmask] using h
    | succ j =>
      simp only [zmask, List.getElem?_cons_succ] at h
      simpa using zmask_at bs t j w h
  | false :: bs, a :: t, j, w, h => by
    cases j with
    | zero => simp [zmask] at h
    | succ j =>
      simp only [zmask, List.getElem?_cons_succ] at h
      simpa using zmask_at bs t j w h
/-- the locals hold what the list says, and there are n -/
def zlv (μ : Nat → Nat) (ls : Array Slot) (n : Nat) (L : zL) : Prop := ls.size = n ∧ lv_wf ls ∧ ∀ (i : Nat) (v : Value), L[i]? = some (some v) → ls[i]? = some (.val (ztr μ v))
def zprs (μ : Nat → Nat) (L : zL) : List (Nat × Value) := (List.range L.length).filterMap (fun i => match L[i]? with
  | some (some v) => some (i, ztr μ v)
  | _ => none)
theorem zprs_in {μ : Nat → Nat} {L : zL} {i : Nat} {v : Value} (h : L[i]? = some (some v)) : (i, ztr μ v) ∈ zprs μ L := by
  have hl := (List.getElem?_eq_some_iff.mp h).1
  refine List.mem_filterMap.mpr ⟨i, List.mem_range.mpr hl, ?_⟩
  rw [h]
theorem zlv_has {μ : Nat → Nat} {ls : Array Slot} {n : Nat} {L : zL} (h : zlv μ ls n L) : lv_has ls n (zprs μ L) := by
  refine ⟨h.1, h.2.1, fun q hq => ?_⟩
  obtain ⟨i, -, hi⟩ := List.mem_filterMap.mp hq
  split at hi
  · next v hv =>
    cases hi
    exact h.2.2 i v hv
  · cases hi
theorem zlv_s1 {μ : Nat → Nat} {ls' : Array Slot} {n i : Nat} {L : zL} {v : Value} (h : lv_has ls' n ((i, ztr μ v) :: (zprs μ L).filter (fun q => !(q.1 == i) && !(q.1 + 1 == i && q.2.category == 2)))) : zlv μ ls' n (zst1 L i v) := by
  refine ⟨h.1, h.2.1, fun j w hj => ?_⟩
  rcases zst1_at L i v j w hj with ⟨rfl, rfl⟩ | ⟨h1, h2, h3⟩
  · exact h.2.2 _ List.mem_cons_self
  · refine h.2.2 (j, ztr μ w) (List.mem_cons_of_mem _ (List.mem_filter.mpr ⟨zprs_in h2, ?_⟩))
    have h4 : ¬ j == i := by simpa using h1
    by_cases h5 : j + 1 = i
    · have := h3 h5
      simp [h1, ztr_cat, this]
    · simp [h1, h5]
theorem zlv_s2 {μ : Nat → Nat} {ls' : Array Slot} {n i : Nat} {L : zL} {v : Value} (h : lv_has ls' n ((i, ztr μ v) :: (zprs μ L).filter (fun q => !(q.1 == i) && (!(q.1 == i + 1) && !(q.1 + 1 == i && q.2.category == 2))))) : zlv μ ls' n (zst2 L i v) := by
  refine ⟨h.1, h.2.1, fun j w hj => ?_⟩
  rcases zst2_at L i v j w hj with ⟨rfl, rfl⟩ | ⟨h1, h1', h2, h3⟩
  · exact h.2.2 _ List.mem_cons_self
  · refine h.2.2 (j, ztr μ w) (List.mem_cons_of_mem _ (List.mem_filter.mpr ⟨zprs_in h2, ?_⟩))
    by_cases h5 : j + 1 = i
    · have := h3 h5
      simp [h1, h1', ztr_cat, this]
    · simp [h1, h1', h5]
theorem zlv_mask {μ : Nat → Nat} {ls : Array Slot} {n : Nat} {L : zL} (bs : List Bool) (h : zlv μ ls n L) : zlv μ ls n (zmask bs L) := ⟨h.1, h.2.1, fun i v hi => h.2.2 i v (zmask_at bs L i v hi)⟩
/-- the words -/
def zT : List Cond := lw_tbl.filter goodWord
theorem zTin {w : Cond} (i : Nat) (h : lw_tbl[i]? = some w) (g : goodWord w = true) : w ∈ zT := List.mem_filter.mpr ⟨List.mem_of_getElem? h, g⟩
theorem zTg {w : Cond} (h : w ∈ zT) : goodWord w = true := (List.mem_filter.mp h).2
theorem zTgood {ws : List Cond} (h : ∀ w ∈ ws, w ∈ zT) : GoodIn zT ws := fun w hw => ⟨h w hw, good_of_word (zTg (h w hw))⟩
def ztys (cA : Nat → ClassId) : List (ClassId × FieldType) := [(cA 0, .int), (cA 1, .byte), (cA 2, .boolean), (cA 3, .long), (cA 4, .object RX4), (cA 5, .object RX9), (cA 6, .object RX8), (cA 7, .object RX6), (cA 8, .object RX5)]
/-- links to a nest mate: own class, index, method, host -/
def zNw : List (String × Nat × MethodName × String) := [(RX11, 15, yX7_init, "LittleMore"), (RX9, 33, yX4_init, "LittleMore"), (RX3, 44, yX8_init, "LittleMore"), (RX3, 45, yX6_init, "LittleMore"), (RX3, 46, yX5_init, "LittleMore"), (RX11, 22, yX1_init, "LittleMore"), (RX1, 17, yX2_init, "LittleMore"), (RX11, 29, yX10_init, "LittleMore"), (RX11, 58, yX0_init, "LittleMore"), (RX0, 11, yX8_init, "LittleMore"), (RX0, 44, yX11_isSize, "LittleMore")]
def zOK (z : zSt) (μ : Nat → Nat) (A : Nat → Prop) (U : State) (H : Heap) : Prop :=
  vk_S z.1.length z.1 z.2.1 (fun i => μ (10000 + i)) (fun i => μ (20000 + i)) A U H ∧ (∀ r ∈ z.2.2, vk_R r.1 r.2.1 r.2.2.1 (μ (10000 + r.2.2.2)) U) ∧ va_Z "java/lang/String" "COMPACT_STRINGS" "Z" (.int 1) A U H ∧ (∃ v : Value, (v = .null ∨ v = .ref 30000) ∧ va_Z "jdk/internal/util/Preconditions" "SIOOBE_FORMATTER" "Ljava/util/function/BiFunction;" (ztr μ v) A U H) ∧ ∀ r ∈ zNw, va_Nw (.methodLinkNest r.1 r.2.1 r.2.2.1 r.2.2.2) U
abbrev zK : Type := (Program × Launch × Env × Room × State × MethodId × Array Value × List Frame × Method × Code) × (va_G × (Nat → Prop) × (Nat → ClassId) × (Nat → Nat)) × (Nat × (State → Prop) × zWd × zSt)
def V (K : zK) (pc : Nat) (L : zL) (st : List Value) (S : zM) : Prop := match K with
  | ((p, l, e, R, s, m, args, below, meth, c), (D, A, cA, μ), (n, Q, w, _)) => ∀ (H : Heap) (locs : List Loc) (ls : Array Slot), va_P D vwCl (zws w μ cA S) H → va_S A s.heap H locs → zlv μ ls n L → W p l e R s m args below meth c H locs 0 0 Q (F0 m pc ls (st.map (ztr μ)))
def zC (K : zK) (cc : ByteArray) (own : String) (n fr lo : Nat) (w : zWd) : Prop := match K with
  | ((p, _, _, R, s, m, args, _, _, c), (D, A, cA, μ), (n', _, w', z)) => p.tables.exec = Jvm.exec ∧ c.code = cc ∧ (∀ w ∈ zT, w.before args s = true) ∧ s.vm.findClass own = some m.cls ∧ va_K D vwCl (ztys cA) s ∧ (∀ S, va_D A (zws w μ cA S)) ∧ (∀ q, s.heap.size ≤ q → A q) ∧ c.maxLocals = n ∧ R.frames = fr ∧ R.locals = lo ∧ zOK z μ A s s.heap ∧ n' = n ∧ w' = w ∧ z = zS0
/-- an object of a class stands at a place; what a field or an array's element refers to; an array stands there -/
def zob (w : zWd) (ci q : Nat) : Prop := q < w.1 ∧ (w.2 q).1 = 0 ∧ (w.2 q).2.1 = ci
def zto (w : zWd) (q k p : Nat) : Prop := (w.2 q).2.2.2.getD k 0 = p
def zar (w : zWd) (tg t len q : Nat) : Prop := q < w.1 ∧ (w.2 q).1 = tg ∧ (w.2 q).2.1 = t ∧ (w.2 q).2.2.1 = len
def zFL (own : String) (i ci k kd : Nat) : Prop := ∃ (cn : String) (T : u_T) (N : Nat), vwCl[ci]? = some (cn, T, N) ∧ (∀ w ∈ u_ws cn T N, w ∈ zT) ∧ k < N ∧ Cond.fieldLink own i (T k).1 (T k).2.1 (T k).2.2.1 ∈ zT ∧ (zkn ci)[k]? = some kd
def zFP (own : String) (i ci k kd : Nat) (ty : FieldType) : Prop := ∃ (cn : String) (T : u_T) (N : Nat) (tf : Nat → FieldType), vwCl[ci]? = some (cn, T, N) ∧ (∀ w ∈ u_ws cn T N, w ∈ zT) ∧ k < N ∧ Cond.fieldLink own i (T k).1 (T k).2.1 (T k).2.2.1 ∈ zT ∧ (zkn ci)[k]? = some kd ∧ (∀ k, k < N → parseFieldDescriptor (T k).2.2.1 = some (tf k)) ∧ (∀ a, a < N → ∀ b, b < N → a ≠ b → (T a).2.1 ≠ (T b).2.1) ∧ (T k).2.2.2 = false ∧ tf k = ty
section ZV
variable {K : zK} {cc : ByteArray} {own : String} {n fr lo pc : Nat} {w : zWd} {L : zL} {st : List Value} {S : zM}
theorem V_mask (bs : List Bool) (k : V K pc (zmask bs L) st S) : V K pc L st S := by
  obtain ⟨⟨p, l, e, R, s, m, args, below, meth, c⟩, ⟨D, A, cA, μ⟩, ⟨n', Q, w', z⟩⟩ := K
  intro H locs ls hP hS hl
  exact k H locs ls hP hS (zlv_mask bs hl)
theorem V_iadd (C : zC K cc own n fr lo w) {x y : Int32} (d : decode cc pc = .ok (.iadd, 1)) (k : V K (pc + 1) L (.int (x + y) :: st) S) : V K pc L (.int y :: .int x :: st) S := by
  obtain ⟨⟨p, l, e, R, s, m, args, below, meth, c⟩, ⟨D, A, cA, μ⟩, ⟨n', Q, w', z⟩⟩ := K
  obtain ⟨hx, hb, hts, hown, hK, hD, hA, hml, hfr, hlo, hz, rfl, rfl, rfl⟩ := C
  intro H locs ls hP hS hl
  exact lv_iadd hx hb d (k H locs ls hP hS hl)
theorem V_isub (C : zC K cc own n fr lo w) {x y : Int32} (d : decode cc pc = .ok (.isub, 1)) (k : V K (pc + 1) L (.int (x - y) :: st) S) : V K pc L (.int y :: .int x :: st) S := by
  obtain ⟨⟨p, l, e, R, s, m, args, below, meth, c⟩, ⟨D, A, cA, μ⟩, ⟨n', Q, w', z⟩⟩ := K
  obtain ⟨hx, hb, hts, hown, hK, hD, hA, hml, hfr, hlo, hz, rfl, rfl, rfl⟩ := C
  intro H locs ls hP hS hl
  exact lv_isub hx hb d (k H locs ls hP hS hl)
theorem V_imul (C : zC K cc own n fr lo w) {x y : Int32} (d : decode cc pc = .ok (.imul, 1)) (k : V K (pc + 1) L (.int (x * y) :: st) S) : V K pc L (.int y :: .int x :: st) S := by
  obtain ⟨⟨p, l, e, R, s, m, args, below, meth, c⟩, ⟨D, A, cA, μ⟩, ⟨n', Q, w', z⟩⟩ := K
  obtain ⟨hx, hb, hts, hown, hK, hD, hA, hml, hfr, hlo, hz, rfl, rfl, rfl⟩ := C
  intro H locs ls hP hS hl
  exact lv_imul hx hb d (k H locs ls hP hS hl)
theorem V_iand (C : zC K cc own n fr lo w) {x y : Int32} (d : decode cc pc = .ok (.iand, 1)) (k : V K (pc + 1) L (.int (x &&& y) :: st) S) : V K pc L (.int y :: .int x :: st) S := by
  obtain ⟨⟨p, l, e, R, s, m, args, below, meth, c⟩, ⟨D, A, cA, μ⟩, ⟨n', Q, w', z⟩⟩ := K
  obtain ⟨hx, hb, hts, hown, hK, hD, hA, hml, hfr, hlo, hz, rfl, rfl, rfl⟩ := C
  intro H locs ls hP hS hl
  exact lv_iand hx hb d (k H locs ls hP hS hl)
theorem V_ior (C : zC K cc own n fr lo w) {x y : Int32} (d : decode cc pc = .ok (.ior, 1)) (k : V K (pc + 1) L (.int (x ||| y) :: st) S) : V K pc L (.int y :: .int x :: st) S := by
  obtain ⟨⟨p, l, e, R, s, m, args, below, meth, c⟩, ⟨D, A, cA, μ⟩, ⟨n', Q, w', z⟩⟩ := K
  obtain ⟨hx, hb, hts, hown, hK, hD, hA, hml, hfr, hlo, hz, rfl, rfl, rfl⟩ := C
  intro H locs ls hP hS hl
  exact lv_ior hx hb d (k H locs ls hP hS hl)
theorem V_ixor (C : zC K cc own n fr lo w) {x y : Int32} (d : decode cc pc = .ok (.ixor, 1)) (k : V K (pc + 1) L (.int (x ^^^ y) :: st) S) : V K pc L (.int y :: .int x :: st) S := by
  obtain ⟨⟨p, l, e, R, s, m, args, below, meth, c⟩, ⟨D, A, cA, μ⟩, ⟨n', Q, w', z⟩⟩ := K
  obtain ⟨hx, hb, hts, hown, hK, hD, hA, hml, hfr, hlo, hz, rfl, rfl, rfl⟩ := C
  intro H locs ls hP hS hl
  exact lv_ixor hx hb d (k H locs ls hP hS hl)
theorem V_ishl (C : zC K cc own n fr lo w) {x y : Int32} (d : decode cc pc = .ok (.ishl, 1)) (k : V K (pc + 1) L (.int (x <<< (y &&& 31)) :: st) S) : V K pc L (.int y :: .int x :: st) S := by
  obtain ⟨⟨p, l, e, R, s, m, args, below, meth, c⟩, ⟨D, A, cA, μ⟩, ⟨n', Q, w', z⟩⟩ := K
  obtain ⟨hx, hb, hts, hown, hK, hD, hA, hml, hfr, hlo, hz, rfl, rfl, rfl⟩ := C
  intro H locs ls hP hS hl
  exact lv_ishl hx hb d (k H locs ls hP hS hl)
theorem V_ishr (C : zC K cc own n fr lo w) {x y : Int32} (d : decode cc pc = .ok (.ishr, 1)) (k : V K (pc + 1) L (.int (x >>> (y &&& 31)) :: st) S) : V K pc L (.int y :: .int x :: st) S := by
  obtain ⟨⟨p, l, e, R, s, m, args, below, meth, c⟩, ⟨D, A, cA, μ⟩, ⟨n', Q, w', z⟩⟩ := K
  obtain ⟨hx, hb, hts, hown, hK, hD, hA, hml, hfr, hlo, hz, rfl, rfl, rfl⟩ := C
  intro H locs ls hP hS hl
  exact lv_ishr hx hb d (k H locs ls hP hS hl)
theorem V_ladd (C : zC K cc own n fr lo w) {x y : Int64} (d : decode cc pc = .ok (.ladd, 1)) (k : V K (pc + 1) L (.long (x + y) :: st) S) : V K pc L (.long y :: .long x :: st) S := by
  obtain ⟨⟨p, l, e, R, s, m, args, below, meth, c⟩, ⟨D, A, cA, μ⟩, ⟨n', Q, w', z⟩⟩ := K
  obtain ⟨hx, hb, hts, hown, hK, hD, hA, hml, hfr, hlo, hz, rfl, rfl, rfl⟩ := C
  intro H locs ls hP hS hl
  exact lv_ladd hx hb d (k H locs ls hP hS hl)
theorem V_lsub (C : zC K cc own n fr lo w) {x y : Int64} (d : decode cc pc = .ok (.lsub, 1)) (k : V K (pc + 1) L (.long (x - y) :: st) S) : V K pc L (.long y :: .long x :: st) S := by
  obtain ⟨⟨p, l, e, R, s, m, args, below, meth, c⟩, ⟨D, A, cA, μ⟩, ⟨n', Q, w', z⟩⟩ := K
  obtain ⟨hx, hb, hts, hown, hK, hD, hA, hml, hfr, hlo, hz, rfl, rfl, rfl⟩ := C
  intro H locs ls hP hS hl
  exact lv_lsub hx hb d (k H locs ls hP hS hl)
theorem V_lmul (C : zC K cc own n fr lo w) {x y : Int64} (d : decode cc pc = .ok (.lmul, 1)) (k : V K (pc + 1) L (.long (x * y) :: st) S) : V K pc L (.long y :: .long x :: st) S := by
  obtain ⟨⟨p, l, e, R, s, m, args, below, meth, c⟩, ⟨D, A, cA, μ⟩, ⟨n', Q, w', z⟩⟩ := K
  obtain ⟨hx, hb, hts, hown, hK, hD, hA, hml, hfr, hlo, hz, rfl, rfl, rfl⟩ := C
  intro H locs ls hP hS hl
  exact lv_lmul hx hb d (k H locs ls hP hS hl)
theorem V_land (C : zC K cc own n fr lo w) {x y : Int64} (d : decode cc pc = .ok (.land, 1)) (k : V K (pc + 1) L (.long (x &&& y) :: st) S) : V K pc L (.long y :: .long x :: st) S := by
  obtain ⟨⟨p, l, e, R, s, m, args, below, meth, c⟩, ⟨D, A, cA, μ⟩, ⟨n', Q, w', z⟩⟩ := K
  obtain ⟨hx, hb, hts, hown, hK, hD, hA, hml, hfr, hlo, hz, rfl, rfl, rfl⟩ := C
  intro H locs ls hP hS hl
  exact lv_land hx hb d (k H locs ls hP hS hl)
theorem V_lor (C : zC K cc own n fr lo w) {x y : Int64} (d : decode cc pc = .ok (.lor, 1)) (k : V K (pc + 1) L (.long (x ||| y) :: st) S) : V K pc L (.long y :: .long x :: st) S := by
  obtain ⟨⟨p, l, e, R, s, m, args, below, meth, c⟩, ⟨D, A, cA, μ⟩, ⟨n', Q, w', z⟩⟩ := K
  obtain ⟨hx, hb, hts, hown, hK, hD, hA, hml, hfr, hlo, hz, rfl, rfl, rfl⟩ := C
  intro H locs ls hP hS hl
  exact lv_lor hx hb d (k H locs ls hP hS hl)
theorem V_idiv (C : zC K cc own n fr lo w) {x y : Int32} (d : decode cc pc = .ok (.idiv, 1)) (hne : ¬ y = 0) (k : V K (pc + 1) L (.int (x / y) :: st) S) : V K pc L (.int y :: .int x :: st) S := by
  obtain ⟨⟨p, l, e, R, s, m, args, below, meth, c⟩, ⟨D, A, cA, μ⟩, ⟨n', Q, w', z⟩⟩ := K
  obtain ⟨hx, hb, hts, hown, hK, hD, hA, hml, hfr, hlo, hz, rfl, rfl, rfl⟩ := C
  intro H locs ls hP hS hl
  exact lv_idiv hx hb d hne (k H locs ls hP hS hl)
theorem V_irem (C : zC K cc own n fr lo w) {x y : Int32} (d : decode cc pc = .ok (.irem, 1)) (hne : ¬ y = 0) (k : V K (pc + 1) L (.int (x - x / y * y) :: st) S) : V K pc L (.int y :: .int x :: st) S := by
  obtain ⟨⟨p, l, e, R, s, m, args, below, meth, c⟩, ⟨D, A, cA, μ⟩, ⟨n', Q, w', z⟩⟩ := K
  obtain ⟨hx, hb, hts, hown, hK, hD, hA, hml, hfr, hlo, hz, rfl, rfl, rfl⟩ := C
  intro H locs ls hP hS hl
  exact lv_irem hx hb d hne (k H locs ls hP hS hl)
theorem V_ldiv (C : zC K cc own n fr lo w) {x y : Int64} (d : decode cc pc = .ok (.ldiv, 1)) (hne : ¬ y = 0) (k : V K (pc + 1) L (.long (x / y) :: st) S) : V K pc L (.long y :: .long x :: st) S := by
  obtain ⟨⟨p, l, e, R, s, m, args, below, meth, c⟩, ⟨D, A, cA, μ⟩, ⟨n', Q, w', z⟩⟩ := K
  obtain ⟨hx, hb, hts, hown, hK, hD, hA, hml, hfr, hlo, hz, rfl, rfl, rfl⟩ := C
  intro H locs ls hP hS hl
  exact lv_ldiv hx hb d hne (k H locs ls hP hS hl)
theorem V_lrem (C : zC K cc own n fr lo w) {x y : Int64} (d : decode cc pc = .ok (.lrem, 1)) (hne : ¬ y = 0) (k : V K (pc + 1) L (.long (x - x / y * y) :: st) S) : V K pc L (.long y :: .long x :: st) S := by
  obtain ⟨⟨p, l, e, R, s, m, args, below, meth, c⟩, ⟨D, A, cA, μ⟩, ⟨n', Q, w', z⟩⟩ := K
  obtain ⟨hx, hb, hts, hown, hK, hD, hA, hml, hfr, hlo, hz, rfl, rfl, rfl⟩ := C
  intro H locs ls hP hS hl
  exact lv_lrem hx hb d hne (k H locs ls hP hS hl)
theorem V_ineg (C : zC K cc own n fr lo w) {x : Int32} (d : decode cc pc = .ok (.ineg, 1)) (k : V K (pc + 1) L (.int (-x) :: st) S) : V K pc L (.int x :: st) S := by
  obtain ⟨⟨p, l, e, R, s, m, args, below, meth, c⟩, ⟨D, A, cA, μ⟩, ⟨n', Q, w', z⟩⟩ := K
  obtain ⟨hx, hb, hts, hown, hK, hD, hA, hml, hfr, hlo, hz, rfl, rfl, rfl⟩ := C
  intro H locs ls hP hS hl
  exact lv_ineg hx hb d (k H locs ls hP hS hl)
theorem V_i2b (C : zC K cc own n fr lo w) {x : Int32} (d : decode cc pc = .ok (.i2b, 1)) (k : V K (pc + 1) L (.int x.toInt8.toInt32 :: st) S) : V K pc L (.int x :: st) S := by
  obtain ⟨⟨p, l, e, R, s, m, args, below, meth, c⟩, ⟨D, A, cA, μ⟩, ⟨n', Q, w', z⟩⟩ := K
  obtain ⟨hx, hb, hts, hown, hK, hD, hA, hml, hfr, hlo, hz, rfl, rfl, rfl⟩ := C
  intro H locs ls hP hS hl
  exact lv_i2b hx hb d rfl (k H locs ls hP hS hl)
theorem V_i2c (C : zC K cc own n fr lo w) {x : Int32} (d : decode cc pc = .ok (.i2c, 1)) (k : V K (pc + 1) L (.int (x.toUInt32 % 65536).toInt32 :: st) S) : V K pc L (.int x :: st) S := by
  obtain ⟨⟨p, l, e, R, s, m, args, below, meth, c⟩, ⟨D, A, cA, μ⟩, ⟨n', Q, w', z⟩⟩ := K
  obtain ⟨hx, hb, hts, hown, hK, hD, hA, hml, hfr, hlo, hz, rfl, rfl, rfl⟩ := C
  intro H locs ls hP hS hl
  exact lv_i2c hx hb d rfl (k H locs ls hP hS hl)
theorem V_i2l (C : zC K cc own n fr lo w) {x : Int32} (d : decode cc pc = .ok (.i2l, 1)) (k : V K (pc + 1) L (.long x.toInt64 :: st) S) : V K pc L (.int x :: st) S := by
  obtain ⟨⟨p, l, e, R, s, m, args, below, meth, c⟩, ⟨D, A, cA, μ⟩, ⟨n', Q, w', z⟩⟩ := K
  obtain ⟨hx, hb, hts, hown, hK, hD, hA, hml, hfr, hlo, hz, rfl, rfl, rfl⟩ := C
  intro H locs ls hP hS hl
  exact lv_i2l hx hb d rfl (k H locs ls hP hS hl)
theorem V_l2i (C : zC K cc own n fr lo w) {x : Int64} (d : decode cc pc = .ok (.l2i, 1)) (k : V K (pc + 1) L (.int x.toInt32 :: st) S) : V K pc L (.long x :: st) S := by
  obtain ⟨⟨p, l, e, R, s, m, args, below, meth, c⟩, ⟨D, A, cA, μ⟩, ⟨n', Q, w', z⟩⟩ := K
  obtain ⟨hx, hb, hts, hown, hK, hD, hA, hml, hfr, hlo, hz, rfl, rfl, rfl⟩ := C
  intro H locs ls hP hS hl
  exact lv_l2i hx hb d rfl (k H locs ls hP hS hl)
theorem V_lshl (C : zC K cc own n fr lo w) {x : Int64} {y : Int32} (d : decode cc pc = .ok (.lshl, 1)) (k : V K (pc + 1) L (.long (x <<< (y.toInt64 &&& 63)) :: st) S) : V K pc L (.int y :: .long x :: st) S := by
  obtain ⟨⟨p, l, e, R, s, m, args, below, meth, c⟩, ⟨D, A, cA, μ⟩, ⟨n', Q, w', z⟩⟩ := K
  obtain ⟨hx, hb, hts, hown, hK, hD, hA, hml, hfr, hlo, hz, rfl, rfl, rfl⟩ := C
  intro H locs ls hP hS hl
  exact lv_lshl hx hb d rfl (k H locs ls hP hS hl)
theorem V_lshr (C : zC K cc own n fr lo w) {x : Int64} {y : Int32} (d : decode cc pc = .ok (.lshr, 1)) (k : V K (pc + 1) L (.long (x >>> (y.toInt64 &&& 63)) :: st) S) : V K pc L (.int y :: .long x :: st) S := by
  obtain ⟨⟨p, l, e, R, s, m, args, below, meth, c⟩, ⟨D, A, cA, μ⟩, ⟨n', Q, w', z⟩⟩ := K
  obtain ⟨hx, hb, hts, hown, hK, hD, hA, hml, hfr, hlo, hz, rfl, rfl, rfl⟩ := C
  intro H locs ls hP hS hl
  exact lv_lshr hx hb d rfl (k H locs ls hP hS hl)
theorem V_lushr (C : zC K cc own n fr lo w) {x : Int64} {y : Int32} (d : decode cc pc = .ok (.lushr, 1)) (k : V K (pc + 1) L (.long ((x.toUInt64 >>> (y.toInt64.toUInt64 &&& Int64.toUInt64 63)).toInt64) :: st) S) : V K pc L (.int y :: .long x :: st) S := by
  obtain ⟨⟨p, l, e, R, s, m, args, below, meth, c⟩, ⟨D, A, cA, μ⟩, ⟨n', Q, w', z⟩⟩ := K
  obtain ⟨hx, hb, hts, hown, hK, hD, hA, hml, hfr, hlo, hz, rfl, rfl, rfl⟩ := C
  intro H locs ls hP hS hl
  exact lv_lushr hx hb d rfl (k H locs ls hP hS hl)
theorem V_dup (C : zC K cc own n fr lo w) {v : Value} (d : decode cc pc = .ok (.dup, 1)) (hv : v.category = 1) (k : V K (pc + 1) L (v :: v :: st) S) : V K pc L (v :: st) S := by
  obtain ⟨⟨p, l, e, R, s, m, args, below, meth, c⟩, ⟨D, A, cA, μ⟩, ⟨n', Q, w', z⟩⟩ := K
  obtain ⟨hx, hb, hts, hown, hK, hD, hA, hml, hfr, hlo, hz, rfl, rfl, rfl⟩ := C
  intro H locs ls hP hS hl
  exact lv_dup hx hb d (by rw [ztr_cat]; exact hv) (k H locs ls hP hS hl)
theorem V_dup2 (C : zC K cc own n fr lo w) {v u : Value} (d : decode cc pc = .ok (.dup2, 1)) (hv : v.category = 1) (hu : u.category = 1) (k : V K (pc + 1) L (v :: u :: v :: u :: st) S) : V K pc L (v :: u :: st) S := by
  obtain ⟨⟨p, l, e, R, s, m, args, below, meth, c⟩, ⟨D, A, cA, μ⟩, ⟨n', Q, w', z⟩⟩ := K
  obtain ⟨hx, hb, hts, hown, hK, hD, hA, hml, hfr, hlo, hz, rfl, rfl, rfl⟩ := C
  intro H locs ls hP hS hl
  exact lv_dup2_11 hx hb d (by rw [ztr_cat]; exact hv) (by rw [ztr_cat]; exact hu) (k H locs ls hP hS hl)
theorem V_dupx1 (C : zC K cc own n fr lo w) {v u : Value} (d : decode cc pc = .ok (.dup_x1, 1)) (hv : v.category = 1) (hu : u.category = 1) (k : V K (pc + 1) L (v :: u :: v :: st) S) : V K pc L (v :: u :: st) S := by
  obtain ⟨⟨p, l, e, R, s, m, args, below, meth, c⟩, ⟨D, A, cA, μ⟩, ⟨n', Q, w', z⟩⟩ := K
  obtain ⟨hx, hb, hts, hown, hK, hD, hA, hml, hfr, hlo, hz, rfl, rfl, rfl⟩ := C
  intro H locs ls hP hS hl
  exact lv_dup_x1 hx hb d (by rw [ztr_cat]; exact hv) (by rw [ztr_cat]; exact hu) (k H locs ls hP hS hl)
theorem V_iconst (C : zC K cc own n fr lo w) {j : Int} {v : Int32} (d : decode cc pc = .ok (.iconst j, 1)) (hv : Int32.ofInt j = v) (k : V K (pc + 1) L (.int v :: st) S) : V K pc L (st) S := by
  obtain ⟨⟨p, l, e, R, s, m, args, below, meth, c⟩, ⟨D, A, cA, μ⟩, ⟨n', Q, w', z⟩⟩ := K
  obtain ⟨hx, hb, hts, hown, hK, hD, hA, hml, hfr, hlo, hz, rfl, rfl, rfl⟩ := C
  intro H locs ls hP hS hl
  exact lv_iconst hx hb d hv (k H locs ls hP hS hl)
theorem V_bipush (C : zC K cc own n fr lo w) {j : Int} {v : Int32} (d : decode cc pc = .ok (.bipush j, 2)) (hv : (Int8.ofInt j).toInt32 = v) (k : V K (pc + 2) L (.int v :: st) S) : V K pc L (st) S := by
  obtain ⟨⟨p, l, e, R, s, m, args, below, meth, c⟩, ⟨D, A, cA, μ⟩, ⟨n', Q, w', z⟩⟩ := K
  obtain ⟨hx, hb, hts, hown, hK, hD, hA, hml, hfr, hlo, hz, rfl, rfl, rfl⟩ := C
  intro H locs ls hP hS hl
  exact lv_bipush hx hb d hv (k H locs ls hP hS hl)
theorem V_sipush (C : zC K cc own n fr lo w) {j : Int} {v : Int32} (d : decode cc pc = .ok (.sipush j, 3)) (hv : (Int16.ofInt j).toInt32 = v) (k : V K (pc + 3) L (.int v :: st) S) : V K pc L (st) S := by
  obtain ⟨⟨p, l, e, R, s, m, args, below, meth, c⟩, ⟨D, A, cA, μ⟩, ⟨n', Q, w', z⟩⟩ := K
  obtain ⟨hx, hb, hts, hown, hK, hD, hA, hml, hfr, hlo, hz, rfl, rfl, rfl⟩ := C
  intro H locs ls hP hS hl
  exact lv_sipush hx hb d hv (k H locs ls hP hS hl)
theorem V_lconst (C : zC K cc own n fr lo w) {j : Fin 2} {v : Int64} (d : decode cc pc = .ok (.lconst j, 1)) (hv : Int64.ofNat (j : Nat) = v) (k : V K (pc + 1) L (.long v :: st) S) : V K pc L (st) S := by
  obtain ⟨⟨p, l, e, R, s, m, args, below, meth, c⟩, ⟨D, A, cA, μ⟩, ⟨n', Q, w', z⟩⟩ := K
  obtain ⟨hx, hb, hts, hown, hK, hD, hA, hml, hfr, hlo, hz, rfl, rfl, rfl⟩ := C
  intro H locs ls hP hS hl
  exact lv_lconst hx hb d hv (k H locs ls hP hS hl)
theorem V_ldc (C : zC K cc own n fr lo w) {i : Nat} {v : Int32} (d : decode cc pc = .ok (.ldc i, 2)) (h : Cond.constant own i v ∈ zT) (k : V K (pc + 2) L (.int v :: st) S) : V K pc L (st) S := by
  obtain ⟨⟨p, l, e, R, s, m, args, below, meth, c⟩, ⟨D, A, cA, μ⟩, ⟨n', Q, w', z⟩⟩ := K
  obtain ⟨hx, hb, hts, hown, hK, hD, hA, hml, hfr, hlo, hz, rfl, rfl, rfl⟩ := C
  intro H locs ls hP hS hl
  exact lv_ldc hx hb hown (hts _ h) d (k H locs ls hP hS hl)
theorem V_ldcw (C : zC K cc own n fr lo w) {i : Nat} {v : Int32} (d : decode cc pc = .ok (.ldc_w i, 3)) (h : Cond.constant own i v ∈ zT) (k : V K (pc + 3) L (.int v :: st) S) : V K pc L (st) S := by
  obtain ⟨⟨p, l, e, R, s, m, args, below, meth, c⟩, ⟨D, A, cA, μ⟩, ⟨n', Q, w', z⟩⟩ := K
  obtain ⟨hx, hb, hts, hown, hK, hD, hA, hml, hfr, hlo, hz, rfl, rfl, rfl⟩ := C
  intro H locs ls hP hS hl
  exact lv_ldcw hx hb hown (hts _ h) d (k H locs ls hP hS hl)
theorem V_ldc2 (C : zC K cc own n fr lo w) {i : Nat} {v : Int64} (d : decode cc pc = .ok (.ldc2_w i, 3)) (h : Cond.constantLong own i v ∈ zT) (k : V K (pc + 3) L (.long v :: st) S) : V K pc L (st) S := by
  obtain ⟨⟨p, l, e, R, s, m, args, below, meth, c⟩, ⟨D, A, cA, μ⟩, ⟨n', Q, w', z⟩⟩ := K
  obtain ⟨hx, hb, hts, hown, hK, hD, hA, hml, hfr, hlo, hz, rfl, rfl, rfl⟩ := C
  intro H locs ls hP hS hl
  exact lv_ldc2 hx hb hown (hts _ h) d (k H locs ls hP hS hl)
theorem V_iload_n (C : zC K cc own n fr lo w) {j : Fin 4} {i : Nat} {x : Int32} (d : decode cc pc = .ok (.iload_n j, 1)) (hi : (j : Nat) = i) (hL : L[i]? = some (some (.int x))) (k : V K (pc + 1) L (.int x :: st) S) : V K pc L (st) S := by
  obtain ⟨⟨p, l, e, R, s, m, args, below, meth, c⟩, ⟨D, A, cA, μ⟩, ⟨n', Q, w', z⟩⟩ := K
  obtain ⟨hx, hb, hts, hown, hK, hD, hA, hml, hfr, hlo, hz, rfl, rfl, rfl⟩ := C
  intro H locs ls hP hS hl
  exact lv_iload_n hx hb d hi (hl.2.2 _ _ hL) (k H locs ls hP hS hl)
theorem V_iload (C : zC K cc own n fr lo w) {i : Nat} {x : Int32} (d : decode cc pc = .ok (.iload i, 2)) (hL : L[i]? = some (some (.int x))) (k : V K (pc + 2) L (.int x :: st) S) : V K pc L (st) S := by
  obtain ⟨⟨p, l, e, R, s, m, args, below, meth, c⟩, ⟨D, A, cA, μ⟩, ⟨n', Q, w', z⟩⟩ := K
  obtain ⟨hx, hb, hts, hown, hK, hD, hA, hml, hfr, hlo, hz, rfl, rfl, rfl⟩ := C
  intro H locs ls hP hS hl
  exact lv_iload hx hb d (hl.2.2 _ _ hL) (k H locs ls hP hS hl)
theorem V_istore_n (C : zC K cc own n fr lo w) {j : Fin 4} {i : Nat} {x : Int32} {L' : zL} (d : decode cc pc = .ok (.istore_n j, 1)) (hi : (j : Nat) = i) (hin : i < n) (hL : zst1 L i (.int x) = L') (k : V K (pc + 1) L' st S) : V K pc L (.int x :: st) S := by
  obtain ⟨⟨p, l, e, R, s, m, args, below, meth, c⟩, ⟨D, A, cA, μ⟩, ⟨n', Q, w', z⟩⟩ := K
  obtain ⟨hx, hb, hts, hown, hK, hD, hA, hml, hfr, hlo, hz, rfl, rfl, rfl⟩ := C
  intro H locs ls hP hS hl
  exact lv_istore_n hx hb d hi (zlv_has hl) hin rfl (fun ls' hl' => k H locs ls' hP hS (hL ▸ zlv_s1 (v := .int x) hl'))
theorem V_istore (C : zC K cc own n fr lo w) {i : Nat} {x : Int32} {L' : zL} (d : decode cc pc = .ok (.istore i, 2)) (hin : i < n) (hL : zst1 L i (.int x) = L') (k : V K (pc + 2) L' st S) : V K pc L (.int x :: st) S := by
  obtain ⟨⟨p, l, e, R, s, m, args, below, meth, c⟩, ⟨D, A, cA, μ⟩, ⟨n', Q, w', z⟩⟩ := K
  obtain ⟨hx, hb, hts, hown, hK, hD, hA, hml, hfr, hlo, hz, rfl, rfl, rfl⟩ := C
  intro H locs ls hP hS hl
  exact lv_istore hx hb d (zlv_has hl) hin rfl (fun ls' hl' => k H locs ls' hP hS (hL ▸ zlv_s1 (v := .int x) hl'))
theorem V_lload_n (C : zC K cc own n fr lo w) {j : Fin 4} {i : Nat} {x : Int64} (d : decode cc pc = .ok (.lload_n j, 1)) (hi : (j : Nat) = i) (hL : L[i]? = some (some (.long x))) (k : V K (pc + 1) L (.long x :: st) S) : V K pc L (st) S := by
  obtain ⟨⟨p, l, e, R, s, m, args, below, meth, c⟩, ⟨D, A, cA, μ⟩, ⟨n', Q, w', z⟩⟩ := K
  obtain ⟨hx, hb, hts, hown, hK, hD, hA, hml, hfr, hlo, hz, rfl, rfl, rfl⟩ := C
  intro H locs ls hP hS hl
  exact lv_lload_n hx hb d hi (hl.2.2 _ _ hL) (k H locs ls hP hS hl)
theorem V_lload (C : zC K cc own n fr lo w) {i : Nat} {x : Int64} (d : decode cc pc = .ok (.lload i, 2)) (hL : L[i]? = some (some (.long x))) (k : V K (pc + 2) L (.long x :: st) S) : V K pc L (st) S := by
  obtain ⟨⟨p, l, e, R, s, m, args, below, meth, c⟩, ⟨D, A, cA, μ⟩, ⟨n', Q, w', z⟩⟩ := K
  obtain ⟨hx, hb, hts, hown, hK, hD, hA, hml, hfr, hlo, hz, rfl, rfl, rfl⟩ := C
  intro H locs ls hP hS hl
  exact lv_lload hx hb d (hl.2.2 _ _ hL) (k H locs ls hP hS hl)
theorem V_lstore_n (C : zC K cc own n fr lo w) {j : Fin 4} {i : Nat} {x : Int64} {L' : zL} (d : decode cc pc = .ok (.lstore_n j, 1)) (hi : (j : Nat) = i) (hin : i + 1 < n) (hL : zst2 L i (.long x) = L') (k : V K (pc + 1) L' st S) : V K pc L (.long x :: st) S := by
  obtain ⟨⟨p, l, e, R, s, m, args, below, meth, c⟩, ⟨D, A, cA, μ⟩, ⟨n', Q, w', z⟩⟩ := K
  obtain ⟨hx, hb, hts, hown, hK, hD, hA, hml, hfr, hlo, hz, rfl, rfl, rfl⟩ := C
  intro H locs ls hP hS hl
  exact lv_lstore_n hx hb d hi (zlv_has hl) hin rfl (fun ls' hl' => k H locs ls' hP hS (hL ▸ zlv_s2 (v := .long x) hl'))
theorem V_lstore (C : zC K cc own n fr lo w) {i : Nat} {x : Int64} {L' : zL} (d : decode cc pc = .ok (.lstore i, 2)) (hin : i + 1 < n) (hL : zst2 L i (.long x) = L') (k : V K (pc + 2) L' st S) : V K pc L (.long x :: st) S := by
  obtain ⟨⟨p, l, e, R, s, m, args, below, meth, c⟩, ⟨D, A, cA, μ⟩, ⟨n', Q, w', z⟩⟩ := K
  obtain ⟨hx, hb, hts, hown, hK, hD, hA, hml, hfr, hlo, hz, rfl, rfl, rfl⟩ := C
  intro H locs ls hP hS hl
  exact lv_lstore hx hb d (zlv_has hl) hin rfl (fun ls' hl' => k H locs ls' hP hS (hL ▸ zlv_s2 (v := .long x) hl'))
theorem V_aload_n (C : zC K cc own n fr lo w) {j : Fin 4} {i : Nat} {x : Nat} (d : decode cc pc = .ok (.aload_n j, 1)) (hi : (j : Nat) = i) (hL : L[i]? = some (some (.ref x))) (k : V K (pc + 1) L (.ref x :: st) S) : V K pc L (st) S := by
  obtain ⟨⟨p, l, e, R, s, m, args, below, meth, c⟩, ⟨D, A, cA, μ⟩, ⟨n', Q, w', z⟩⟩ := K
  obtain ⟨hx, hb, hts, hown, hK, hD, hA, hml, hfr, hlo, hz, rfl, rfl, rfl⟩ := C
  intro H locs ls hP hS hl
  exact lv_aload_n hx hb d hi (hl.2.2 _ _ hL) (k H locs ls hP hS hl)
theorem V_aload (C : zC K cc own n fr lo w) {i : Nat} {x : Nat} (d : decode cc pc = .ok (.aload i, 2)) (hL : L[i]? = some (some (.ref x))) (k : V K (pc + 2) L (.ref x :: st) S) : V K pc L (st) S := by
  obtain ⟨⟨p, l, e, R, s, m, args, below, meth, c⟩, ⟨D, A, cA, μ⟩, ⟨n', Q, w', z⟩⟩ := K
  obtain ⟨hx, hb, hts, hown, hK, hD, hA, hml, hfr, hlo, hz, rfl, rfl, rfl⟩ := C
  intro H locs ls hP hS hl
  exact lv_aload hx hb d (hl.2.2 _ _ hL) (k H locs ls hP hS hl)
theorem V_astore_n (C : zC K cc own n fr lo w) {j : Fin 4} {i : Nat} {x : Nat} {L' : zL} (d : decode cc pc = .ok (.astore_n j, 1)) (hi : (j : Nat) = i) (hin : i < n) (hL : zst1 L i (.ref x) = L') (k : V K (pc + 1) L' st S) : V K pc L (.ref x :: st) S := by
  obtain ⟨⟨p, l, e, R, s, m, args, below, meth, c⟩, ⟨D, A, cA, μ⟩, ⟨n', Q, w', z⟩⟩ := K
  obtain ⟨hx, hb, hts, hown, hK, hD, hA, hml, hfr, hlo, hz, rfl, rfl, rfl⟩ := C
  intro H locs ls hP hS hl
  exact lv_astore_n hx hb d hi (zlv_has hl) hin rfl (fun ls' hl' => k H locs ls' hP hS (hL ▸ zlv_s1 (v := .ref x) hl'))
theorem V_astore (C : zC K cc own n fr lo w) {i : Nat} {x : Nat} {L' : zL} (d : decode cc pc = .ok (.astore i, 2)) (hin : i < n) (hL : zst1 L i (.ref x) = L') (k : V K (pc + 2) L' st S) : V K pc L (.ref x :: st) S := by
  obtain ⟨⟨p, l, e, R, s, m, args, below, meth, c⟩, ⟨D, A, cA, μ⟩, ⟨n', Q, w', z⟩⟩ := K
  obtain ⟨hx, hb, hts, hown, hK, hD, hA, hml, hfr, hlo, hz, rfl, rfl, rfl⟩ := C
  intro H locs ls hP hS hl
  exact lv_astore hx hb d (zlv_has hl) hin rfl (fun ls' hl' => k H locs ls' hP hS (hL ▸ zlv_s1 (v := .ref x) hl'))
theorem V_iinc (C : zC K cc own n fr lo w) {i : Nat} {j : Int} {x v : Int32} {L' : zL} (d : decode cc pc = .ok (.iinc i j, 3)) (hL0 : L[i]? = some (some (.int x))) (hv : x + Int32.ofInt j = v) (hin : i < n) (hL : zst1 L i (.int v) = L') (k : V K (pc + 3) L' st S) : V K pc L st S := by
  obtain ⟨⟨p, l, e, R, s, m, args, below, meth, c⟩, ⟨D, A, cA, μ⟩, ⟨n', Q, w', z⟩⟩ := K
  obtain ⟨hx, hb, hts, hown, hK, hD, hA, hml, hfr, hlo, hz, rfl, rfl, rfl⟩ := C
  intro H locs ls hP hS hl
  obtain ⟨y, hy⟩ := List.getElem?_of_mem (zprs_in (μ := μ) hL0)
  exact lv_iinc hx hb d (zlv_has hl) (k := y) hy hv hin rfl (fun ls' hl' => k H locs ls' hP hS (hL ▸ zlv_s1 (v := .int v) hl'))
theorem V_if_eq (C : zC K cc own n fr lo w) {x : Int32} {off : Int} {tgt : Nat} (d : decode cc pc = .ok (.ifCond .eq off, 3)) (ht : (pc : Int) + off = (tgt : Int)) (kt : x = 0 → V K tgt L st S) (kf : ¬ x = 0 → V K (pc + 3) L st S) : V K pc L (.int x :: st) S := by
  obtain ⟨⟨p, l, e, R, s, m, args, below, meth, c⟩, ⟨D, A, cA, μ⟩, ⟨n', Q, w', z⟩⟩ := K
  obtain ⟨hx, hb, hts, hown, hK, hD, hA, hml, hfr, hlo, hz, rfl, rfl, rfl⟩ := C
  intro H locs ls hP hS hl
  exact lv_if_eq hx hb d ht (fun h => kt h H locs ls hP hS hl) (fun h => kf h H locs ls hP hS hl)
theorem V_icmp_eq (C : zC K cc own n fr lo w) {x y : Int32} {off : Int} {tgt : Nat} (d : decode cc pc = .ok (.if_icmp .eq off, 3)) (ht : (pc : Int) + off = (tgt : Int)) (kt : x = y → V K tgt L st S) (kf : ¬ x = y → V K (pc + 3) L st S) : V K pc L (.int y :: .int x :: st) S := by
  obtain ⟨⟨p, l, e, R, s, m, args, below, meth, c⟩, ⟨D, A, cA, μ⟩, ⟨n', Q, w', z⟩⟩ := K
  obtain ⟨hx, hb, hts, hown, hK, hD, hA, hml, hfr, hlo, hz, rfl, rfl, rfl⟩ := C
  intro H locs ls hP hS hl
  exact lv_icmp_eq hx hb d ht (fun h => kt h H locs ls hP hS hl) (fun h => kf h H locs ls hP hS hl)
theorem V_if_ne (C : zC K cc own n fr lo w) {x : Int32} {off : Int} {tgt : Nat} (d : decode cc pc = .ok (.ifCond .ne off, 3)) (ht : (pc : Int) + off = (tgt : Int)) (kt : ¬ x = 0 → V K tgt L st S) (kf : x = 0 → V K (pc + 3) L st S) : V K pc L (.int x :: st) S := by
  obtain ⟨⟨p, l, e, R, s, m, args, below, meth, c⟩, ⟨D, A, cA, μ⟩, ⟨n', Q, w', z⟩⟩ := K
  obtain ⟨hx, hb, hts, hown, hK, hD, hA, hml, hfr, hlo, hz, rfl, rfl, rfl⟩ := C
  intro H locs ls hP hS hl
  exact lv_if_ne hx hb d ht (fun h => kt h H locs ls hP hS hl) (fun h => kf h H locs ls hP hS hl)
theorem V_icmp_ne (C : zC K cc own n fr lo w) {x y : Int32} {off : Int} {tgt : Nat} (d : decode cc pc = .ok (.if_icmp .ne off, 3)) (ht : (pc : Int) + off = (tgt : Int)) (kt : ¬ x = y → V K tgt L st S) (kf : x = y → V K (pc + 3) L st S) : V K pc L (.int y :: .int x :: st) S := by
  obtain ⟨⟨p, l, e, R, s, m, args, below, meth, c⟩, ⟨D, A, cA, μ⟩, ⟨n', Q, w', z⟩⟩ := K
  obtain ⟨hx, hb, hts, hown, hK, hD, hA, hml, hfr, hlo, hz, rfl, rfl, rfl⟩ := C
  intro H locs ls hP hS hl
  exact lv_icmp_ne hx hb d ht (fun h => kt h H locs ls hP hS hl) (fun h => kf h H locs ls hP hS hl)
theorem V_if_lt (C : zC K cc own n fr lo w) {x : Int32} {off : Int} {tgt : Nat} (d : decode cc pc = .ok (.ifCond .lt off, 3)) (ht : (pc : Int) + off = (tgt : Int)) (kt : x < 0 → V K tgt L st S) (kf : ¬ x < 0 → V K (pc + 3) L st S) : V K pc L (.int x :: st) S := by
  obtain ⟨⟨p, l, e, R, s, m, args, below, meth, c⟩, ⟨D, A, cA, μ⟩, ⟨n', Q, w', z⟩⟩ := K
  obtain ⟨hx, hb, hts, hown, hK, hD, hA, hml, hfr, hlo, hz, rfl, rfl, rfl⟩ := C
  intro H locs ls hP hS hl
  exact lv_if_lt hx hb d ht (fun h => kt h H locs ls hP hS hl) (fun h => kf h H locs ls hP hS hl)
theorem V_icmp_lt (C : zC K cc own n fr lo w) {x y : Int32} {off : Int} {tgt : Nat} (d : decode cc pc = .ok (.if_icmp .lt off, 3)) (ht : (pc : Int) + off = (tgt : Int)) (kt : x < y → V K tgt L st S) (kf : ¬ x < y → V K (pc + 3) L st S) : V K pc L (.int y :: .int x :: st) S := by
  obtain ⟨⟨p, l, e, R, s, m, args, below, meth, c⟩, ⟨D, A, cA, μ⟩, ⟨n', Q, w', z⟩⟩ := K
  obtain ⟨hx, hb, hts, hown, hK, hD, hA, hml, hfr, hlo, hz, rfl, rfl, rfl⟩ := C
  intro H locs ls hP hS hl
  exact lv_icmp_lt hx hb d ht (fun h => kt h H locs ls hP hS hl) (fun h => kf h H locs ls hP hS hl)
theorem V_if_ge (C : zC K cc own n fr lo w) {x : Int32} {off : Int} {tgt : Nat} (d : decode cc pc = .ok (.ifCond .ge off, 3)) (ht : (pc : Int) + off = (tgt : Int)) (kt : 0 ≤ x → V K tgt L st S) (kf : ¬ 0 ≤ x → V K (pc + 3) L st S) : V K pc L (.int x :: st) S := by
  obtain ⟨⟨p, l, e, R, s, m, args, below, meth, c⟩, ⟨D, A, cA, μ⟩, ⟨n', Q, w', z⟩⟩ := K
  obtain ⟨hx, hb, hts, hown, hK, hD, hA, hml, hfr, hlo, hz, rfl, rfl, rfl⟩ := C
  intro H locs ls hP hS hl
  exact lv_if_ge hx hb d ht (fun h => kt h H locs ls hP hS hl) (fun h => kf h H locs ls hP hS hl)
theorem V_icmp_ge (C : zC K cc own n fr lo w) {x y : Int32} {off : Int} {tgt : Nat} (d : decode cc pc = .ok (.if_icmp .ge off, 3)) (ht : (pc : Int) + off = (tgt : Int)) (kt : y ≤ x → V K tgt L st S) (kf : ¬ y ≤ x → V K (pc + 3) L st S) : V K pc L (.int y :: .int x :: st) S := by
  obtain ⟨⟨p, l, e, R, s, m, args, below, meth, c⟩, ⟨D, A, cA, μ⟩, ⟨n', Q, w', z⟩⟩ := K
  obtain ⟨hx, hb, hts, hown, hK, hD, hA, hml, hfr, hlo, hz, rfl, rfl, rfl⟩ := C
  intro H locs ls hP hS hl
  exact lv_icmp_ge hx hb d ht (fun h => kt h H locs ls hP hS hl) (fun h => kf h H locs ls hP hS hl)
theorem V_if_gt (C : zC K cc own n fr lo w) {x : Int32} {off : Int} {tgt : Nat} (d : decode cc pc = .ok (.ifCond .gt off, 3)) (ht : (pc : Int) + off = (tgt : Int)) (kt : 0 < x → V K tgt L st S) (kf : ¬ 0 < x → V K (pc + 3) L st S) : V K pc L (.int x :: st) S := by
  obtain ⟨⟨p, l, e, R, s, m, args, below, meth, c⟩, ⟨D, A, cA, μ⟩, ⟨n', Q, w', z⟩⟩ := K
  obtain ⟨hx, hb, hts, hown, hK, hD, hA, hml, hfr, hlo, hz, rfl, rfl, rfl⟩ := C
  intro H locs ls hP hS hl
  exact lv_if_gt hx hb d ht (fun h => kt h H locs ls hP hS hl) (fun h => kf h H locs ls hP hS hl)
theorem V_icmp_gt (C : zC K cc own n fr lo w) {x y : Int32} {off : Int} {tgt : Nat} (d : decode cc pc = .ok (.if_icmp .gt off, 3)) (ht : (pc : Int) + off = (tgt : Int)) (kt : y < x → V K tgt L st S) (kf : ¬ y < x → V K (pc + 3) L st S) : V K pc L (.int y :: .int x :: st) S := by
  obtain ⟨⟨p, l, e, R, s, m, args, below, meth, c⟩, ⟨D, A, cA, μ⟩, ⟨n', Q, w', z⟩⟩ := K
  obtain ⟨hx, hb, hts, hown, hK, hD, hA, hml, hfr, hlo, hz, rfl, rfl, rfl⟩ := C
  intro H locs ls hP hS hl
  exact lv_icmp_gt hx hb d ht (fun h => kt h H locs ls hP hS hl) (fun h => kf h H locs ls hP hS hl)
theorem V_if_le (C : zC K cc own n fr lo w) {x : Int32} {off : Int} {tgt : Nat} (d : decode cc pc = .ok (.ifCond .le off, 3)) (ht : (pc : Int) + off = (tgt : Int)) (kt : x ≤ 0 → V K tgt L st S) (kf : ¬ x ≤ 0 → V K (pc + 3) L st S) : V K pc L (.int x :: st) S := by
  obtain ⟨⟨p, l, e, R, s, m, args, below, meth, c⟩, ⟨D, A, cA, μ⟩, ⟨n', Q, w', z⟩⟩ := K
  obtain ⟨hx, hb, hts, hown, hK, hD, hA, hml, hfr, hlo, hz, rfl, rfl, rfl⟩ := C
  intro H locs ls hP hS hl
  exact lv_if_le hx hb d ht (fun h => kt h H locs ls hP hS hl) (fun h => kf h H locs ls hP hS hl)
theorem V_icmp_le (C : zC K cc own n fr lo w) {x y : Int32} {off : Int} {tgt : Nat} (d : decode cc pc = .ok (.if_icmp .le off, 3)) (ht : (pc : Int) + off = (tgt : Int)) (kt : x ≤ y → V K tgt L st S) (kf : ¬ x ≤ y → V K (pc + 3) L st S) : V K pc L (.int y :: .int x :: st) S := by
  obtain ⟨⟨p, l, e, R, s, m, args, below, meth, c⟩, ⟨D, A, cA, μ⟩, ⟨n', Q, w', z⟩⟩ := K
  obtain ⟨hx, hb, hts, hown, hK, hD, hA, hml, hfr, hlo, hz, rfl, rfl, rfl⟩ := C
  intro H locs ls hP hS hl
  exact lv_icmp_le hx hb d ht (fun h => kt h H locs ls hP hS hl) (fun h => kf h H locs ls hP hS hl)
theorem zcm_eq {x y : Int64} : lg_cmp x y = 0 ↔ x = y := by
  unfold lg_cmp
  by_cases h1 : y < x
  · rw [if_pos h1]
    exact ⟨fun z => absurd z (by decide), fun z => absurd h1 (by rw [z]; exact Int64.lt_irrefl)⟩
  · rw [if_neg h1]
    by_cases h2 : x = y
    · rw [if_pos h2]; exact ⟨fun _ => h2, fun _ => rfl⟩
    · rw [if_neg h2]; exact ⟨fun z => absurd z (by decide), fun z => absurd z h2⟩
theorem zcm_gt {x y : Int64} : 0 < lg_cmp x y ↔ y < x := by
  unfold lg_cmp
  by_cases h1 : y < x
  · rw [if_pos h1]; exact ⟨fun _ => h1, fun _ => by decide⟩
  · rw [if_neg h1]
    by_cases h2 : x = y
    · rw [if_pos h2]; exact ⟨fun z => absurd z (by decide), fun z => absurd z h1⟩
    · rw [if_neg h2]; exact ⟨fun z => absurd z (by decide), fun z => absurd z h1⟩
theorem zcm_lt {x y : Int64} : lg_cmp x y < 0 ↔ x < y := by
  unfold lg_cmp
  by_cases h1 : y < x
  · rw [if_pos h1]
    exact ⟨fun z => absurd z (by decide), fun z => absurd z (Int64.lt_asymm h1)⟩
  · rw [if_neg h1]
    by_cases h2 : x = y
    · rw [if_pos h2]; exact ⟨fun z => absurd z (by decide), fun z => absurd z (by rw [h2]; exact Int64.lt_irrefl)⟩
    · rw [if_neg h2]
      exact ⟨fun _ => Int64.lt_of_le_of_ne (Int64.not_lt.mp h1) h2, fun _ => by decide⟩
theorem zcm_ge {x y : Int64} : 0 ≤ lg_cmp x y ↔ y ≤ x := by
  rw [← Int32.not_lt, ← Int64.not_lt, zcm_lt]
theorem zcm_le {x y : Int64} : lg_cmp x y ≤ 0 ↔ x ≤ y := by
  rw [← Int32.not_lt, ← Int64.not_lt, zcm_gt]
theorem V_lcmp_eq (C : zC K cc own n fr lo w) {x y : Int64} {off : Int} {tgt : Nat} (d : decode cc pc = .ok (.lcmp, 1)) (d2 : decode cc (pc + 1) = .ok (.ifCond .eq off, 3)) (ht : ((pc + 1 : Nat) : Int) + off = (tgt : Int)) (kt : x = y → V K tgt L st S) (kf : ¬ x = y → V K (pc + 4) L st S) : V K pc L (.long y :: .long x :: st) S := by
  obtain ⟨⟨p, l, e, R, s, m, args, below, meth, c⟩, ⟨D, A, cA, μ⟩, ⟨n', Q, w', z⟩⟩ := K
  obtain ⟨hx, hb, hts, hown, hK, hD, hA, hml, hfr, hlo, hz, rfl, rfl, rfl⟩ := C
  intro H locs ls hP hS hl
  exact W.lcmp hx hb d (lv_if_eq hx hb d2 ht (fun h => kt (zcm_eq.mp h) H locs ls hP hS hl) (fun h => kf (fun z => h (zcm_eq.mpr z)) H locs ls hP hS hl))
theorem V_lcmp_ne (C : zC K cc own n fr lo w) {x y : Int64} {off : Int} {tgt : Nat} (d : decode cc pc = .ok (.lcmp, 1)) (d2 : decode cc (pc + 1) = .ok (.ifCond .ne off, 3)) (ht : ((pc + 1 : Nat) : Int) + off = (tgt : Int)) (kt : ¬ x = y → V K tgt L st S) (kf : x = y → V K (pc + 4) L st S) : V K pc L (.long y :: .long x :: st) S := by
  obtain ⟨⟨p, l, e, R, s, m, args, below, meth, c⟩, ⟨D, A, cA, μ⟩, ⟨n', Q, w', z⟩⟩ := K
  obtain ⟨hx, hb, hts, hown, hK, hD, hA, hml, hfr, hlo, hz, rfl, rfl, rfl⟩ := C
  intro H locs ls hP hS hl
  exact W.lcmp hx hb d (lv_if_ne hx hb d2 ht (fun h => kt (fun z => h (zcm_eq.mpr z)) H locs ls hP hS hl) (fun h => kf (zcm_eq.mp h) H locs ls hP hS hl))
theorem V_lcmp_lt (C : zC K cc own n fr lo w) {x y : Int64} {off : Int} {tgt : Nat} (d : decode cc pc = .ok (.lcmp, 1)) (d2 : decode cc (pc + 1) = .ok (.ifCond .lt off, 3)) (ht : ((pc + 1 : Nat) : Int) + off = (tgt : Int)) (kt : x < y → V K tgt L st S) (kf : ¬ x < y → V K (pc + 4) L st S) : V K pc L (.long y :: .long x :: st) S := by
  obtain ⟨⟨p, l, e, R, s, m, args, below, meth, c⟩, ⟨D, A, cA, μ⟩, ⟨n', Q, w', z⟩⟩ := K
  obtain ⟨hx, hb, hts, hown, hK, hD, hA, hml, hfr, hlo, hz, rfl, rfl, rfl⟩ := C
  intro H locs ls hP hS hl
  exact W.lcmp hx hb d (lv_if_lt hx hb d2 ht (fun h => kt (zcm_lt.mp h) H locs ls hP hS hl) (fun h => kf (fun z => h (zcm_lt.mpr z)) H locs ls hP hS hl))
theorem V_lcmp_ge (C : zC K cc own n fr lo w) {x y : Int64} {off : Int} {tgt : Nat} (d : decode cc pc = .ok (.lcmp, 1)) (d2 : decode cc (pc + 1) = .ok (.ifCond .ge off, 3)) (ht : ((pc + 1 : Nat) : Int) + off = (tgt : Int)) (kt : y ≤ x → V K tgt L st S) (kf : ¬ y ≤ x → V K (pc + 4) L st S) : V K pc L (.long y :: .long x :: st) S := by
  obtain ⟨⟨p, l, e, R, s, m, args, below, meth, c⟩, ⟨D, A, cA, μ⟩, ⟨n', Q, w', z⟩⟩ := K
  obtain ⟨hx, hb, hts, hown, hK, hD, hA, hml, hfr, hlo, hz, rfl, rfl, rfl⟩ := C
  intro H locs ls hP hS hl
  exact W.lcmp hx hb d (lv_if_ge hx hb d2 ht (fun h => kt (zcm_ge.mp h) H locs ls hP hS hl) (fun h => kf (fun z => h (zcm_ge.mpr z)) H locs ls hP hS hl))
theorem V_lcmp_gt (C : zC K cc own n fr lo w) {x y : Int64} {off : Int} {tgt : Nat} (d : decode cc pc = .ok (.lcmp, 1)) (d2 : decode cc (pc + 1) = .ok (.ifCond .gt off, 3)) (ht : ((pc + 1 : Nat) : Int) + off = (tgt : Int)) (kt : y < x → V K tgt L st S) (kf : ¬ y < x → V K (pc + 4) L st S) : V K pc L (.long y :: .long x :: st) S := by
  obtain ⟨⟨p, l, e, R, s, m, args, below, meth, c⟩, ⟨D, A, cA, μ⟩, ⟨n', Q, w', z⟩⟩ := K
  obtain ⟨hx, hb, hts, hown, hK, hD, hA, hml, hfr, hlo, hz, rfl, rfl, rfl⟩ := C
  intro H locs ls hP hS hl
  exact W.lcmp hx hb d (lv_if_gt hx hb d2 ht (fun h => kt (zcm_gt.mp h) H locs ls hP hS hl) (fun h => kf (fun z => h (zcm_gt.mpr z)) H locs ls hP hS hl))
theorem V_lcmp_le (C : zC K cc own n fr lo w) {x y : Int64} {off : Int} {tgt : Nat} (d : decode cc pc = .ok (.lcmp, 1)) (d2 : decode cc (pc + 1) = .ok (.ifCond .le off, 3)) (ht : ((pc + 1 : Nat) : Int) + off = (tgt : Int)) (kt : x ≤ y → V K tgt L st S) (kf : ¬ x ≤ y → V K (pc + 4) L st S) : V K pc L (.long y :: .long x :: st) S := by
  obtain ⟨⟨p, l, e, R, s, m, args, below, meth, c⟩, ⟨D, A, cA, μ⟩, ⟨n', Q, w', z⟩⟩ := K
  obtain ⟨hx, hb, hts, hown, hK, hD, hA, hml, hfr, hlo, hz, rfl, rfl, rfl⟩ := C
  intro H locs ls hP hS hl
  exact W.lcmp hx hb d (lv_if_le hx hb d2 ht (fun h => kt (zcm_le.mp h) H locs ls hP hS hl) (fun h => kf (fun z => h (zcm_le.mpr z)) H locs ls hP hS hl))
theorem V_goto (C : zC K cc own n fr lo w) {off : Int} {tgt : Nat} (d : decode cc pc = .ok (.goto off, 3)) (ht : (pc : Int) + off = (tgt : Int)) (k : V K tgt L st S) : V K pc L st S := by
  obtain ⟨⟨p, l, e, R, s, m, args, below, meth, c⟩, ⟨D, A, cA, μ⟩, ⟨n', Q, w', z⟩⟩ := K
  obtain ⟨hx, hb, hts, hown, hK, hD, hA, hml, hfr, hlo, hz, rfl, rfl, rfl⟩ := C
  intro H locs ls hP hS hl
  exact lv_goto hx hb d ht (k H locs ls hP hS hl)
theorem V_case (C : zC K cc own n fr lo w) {dflt lo1 hi1 : Int} {offs : Array Int} {len : Nat} {x v : Int32} {off : Int} {tgt : Nat} (d : decode cc pc = .ok (.tableswitch dflt lo1 hi1 offs, len)) (hv : x = v) (h : ¬ v.toInt < lo1 ∧ ¬ hi1 < v.toInt ∧ offs[(v.toInt - lo1).toNat]? = some off) (ht : (pc : Int) + off = (tgt : Int)) (k : V K tgt L st S) : V K pc L (.int x :: st) S := by
  obtain ⟨⟨p, l, e, R, s, m, args, below, meth, c⟩, ⟨D, A, cA, μ⟩, ⟨n', Q, w', z⟩⟩ := K
  obtain ⟨hx, hb, hts, hown, hK, hD, hA, hml, hfr, hlo, hz, rfl, rfl, rfl⟩ := C
  intro H locs ls hP hS hl
  subst hv
  exact lv_tableIn hx hb d h.1 h.2.1 h.2.2 ht (k H locs ls hP hS hl)
theorem zdef {x : Int32} {lo1 : Int} {m : Nat} (h : ∀ i : Nat, i < m → x ≠ Int32.ofInt (lo1 + i)) : x.toInt < lo1 ∨ lo1 + (m : Int) - 1 < x.toInt := by
  rcases Int.lt_or_le x.toInt lo1 with h1 | h1
  · exact Or.inl h1
  · rcases Int.lt_or_le (lo1 + (m : Int) - 1) x.toInt with h2 | h2
    · exact Or.inr h2
    · exfalso
      refine h (x.toInt - lo1).toNat (by omega) ?_
      rw [show lo1 + ((x.toInt - lo1).toNat : Int) = x.toInt by omega]
      exact (Int32.ofInt_toInt x).symm
theorem V_dflt (C : zC K cc own n fr lo w) {dflt lo1 hi1 : Int} {offs : Array Int} {len m : Nat} {x : Int32} {tgt : Nat} (d : decode cc pc = .ok (.tableswitch dflt lo1 hi1 offs, len)) (hm : hi1 = lo1 + (m : Int) - 1) (h : ∀ i : Nat, i < m → x ≠ Int32.ofInt (lo1 + i)) (ht : (pc : Int) + dflt = (tgt : Int)) (k : V K tgt L st S) : V K pc L (.int x :: st) S := by
  obtain ⟨⟨p, l, e, R, s, m, args, below, meth, c⟩, ⟨D, A, cA, μ⟩, ⟨n', Q, w', z⟩⟩ := K
  obtain ⟨hx, hb, hts, hown, hK, hD, hA, hml, hfr, hlo, hz, rfl, rfl, rfl⟩ := C
  intro H locs ls hP hS hl
  subst hm
  exact lv_tableOut hx hb d (zdef h) ht (k H locs ls hP hS hl)
theorem zat_o {w : zWd} {μ : Nat → Nat} {cA : Nat → ClassId} {S : zM} {ci q : Nat} (h : zob w ci q) : (zws w μ cA S)[q]? = some (μ q, .inr (ci, zfs μ S q ci (w.2 q).2.2.2)) := by
  rw [zws_at h.1, zen_o h.2.1 h.2.2]
theorem zat_i {w : zWd} {μ : Nat → Nat} {cA : Nat → ClassId} {S : zM} {t len q : Nat} (h : zar w 1 t len q) : (zws w μ cA S)[q]? = some (μ q, .inl (cA t, (len, .inl (gI S q)))) := by
  rw [zws_at h.1]
  obtain ⟨-, h1, h2, h3⟩ := h
  unfold zen
  rw [h1, h2, h3]
  rfl
theorem zat_l {w : zWd} {μ : Nat → Nat} {cA : Nat → ClassId} {S : zM} {t len q : Nat} (h : zar w 2 t len q) : (zws w μ cA S)[q]? = some (μ q, .inl (cA t, (len, .inr (.inl (gL S q))))) := by
  rw [zws_at h.1]
  obtain ⟨-, h1, h2, h3⟩ := h
  unfold zen
  rw [h1, h2, h3]
  rfl
theorem zat_r {w : zWd} {μ : Nat → Nat} {cA : Nat → ClassId} {S : zM} {t len q : Nat} (h : zar w 3 t len q) : (zws w μ cA S)[q]? = some (μ q, .inl (cA t, (len, .inr (.inr (.inr (.inr (fun j => ((w.2 q).2.2.2[j]?).map μ))))))) := by
  rw [zws_at h.1]
  obtain ⟨-, h1, h2, h3⟩ := h
  unfold zen
  rw [h1, h2, h3]
  rfl
theorem zfv_i {μ : Nat → Nat} {S : zM} {q j kd : Nat} {l : List Nat} (h : kd < 2) : zfv μ S q l kd j = .int (gI S q j) := by
  unfold zfv
  rw [if_neg (by omega), if_neg (by omega), if_neg (by omega)]
theorem V_getI (C : zC K cc own n fr lo w) {q ci k1 kd i : Nat} (hq : zob w ci q) (hF : zFL own i ci k1 kd) (hkd : kd < 2) (d : decode cc pc = .ok (.getfield i, 3)) (k : V K (pc + 3) L (.int (gI S q k1) :: st) S) : V K pc L (.ref q :: st) S := by
  obtain ⟨⟨p, l, e, R, s, m, args, below, meth, c⟩, ⟨D, A, cA, μ⟩, ⟨n', Q, w', z⟩⟩ := K
  obtain ⟨hx, hb, hts, hown, hK, hD, hA, hml, hfr, hlo, hz, rfl, rfl, rfl⟩ := C
  intro H locs ls hP hS hl
  obtain ⟨cn, T, N, h1, h2, h3, h4, h5⟩ := hF
  have hv := zfs_at (μ := μ) (S := S) (q := q) (l := (w'.2 q).2.2.2) h5
  rw [zfv_i hkd] at hv
  exact va_get hx hb hts h2 hown hK hP q (zat_o hq) h1 k1 h3 (hts _ h4) (fun _ h => h) hv d (k H locs ls hP hS hl)
theorem V_getL (C : zC K cc own n fr lo w) {q ci k1 kd i : Nat} (hq : zob w ci q) (hF : zFL own i ci k1 kd) (hkd : kd = 2) (d : decode cc pc = .ok (.getfield i, 3)) (k : V K (pc + 3) L (.long (gL S q k1) :: st) S) : V K pc L (.ref q :: st) S := by
  obtain ⟨⟨p, l, e, R, s, m, args, below, meth, c⟩, ⟨D, A, cA, μ⟩, ⟨n', Q, w', z⟩⟩ := K
  obtain ⟨hx, hb, hts, hown, hK, hD, hA, hml, hfr, hlo, hz, rfl, rfl, rfl⟩ := C
  intro H locs ls hP hS hl
  obtain ⟨cn, T, N, h1, h2, h3, h4, h5⟩ := hF
  have hv := zfs_at (μ := μ) (S := S) (q := q) (l := (w'.2 q).2.2.2) h5
  rw [show zfv μ S q (w'.2 q).2.2.2 kd k1 = .long (gL S q k1) by subst hkd; rfl] at hv
  exact va_get hx hb hts h2 hown hK hP q (zat_o hq) h1 k1 h3 (hts _ h4) (fun _ h => h) hv d (k H locs ls hP hS hl)
theorem V_getR (C : zC K cc own n fr lo w) {q ci k1 kd i : Nat} (hq : zob w ci q) (hF : zFL own i ci k1 kd) (hkd : kd = 3) (d : decode cc pc = .ok (.getfield i, 3)) (k : V K (pc + 3) L (.ref (gR S q k1) :: st) S) : V K pc L (.ref q :: st) S := by
  obtain ⟨⟨p, l, e, R, s, m, args, below, meth, c⟩, ⟨D, A, cA, μ⟩, ⟨n', Q, w', z⟩⟩ := K
  obtain ⟨hx, hb, hts, hown, hK, hD, hA, hml, hfr, hlo, hz, rfl, rfl, rfl⟩ := C
  intro H locs ls hP hS hl
  obtain ⟨cn, T, N, h1, h2, h3, h4, h5⟩ := hF
  have hv := zfs_at (μ := μ) (S := S) (q := q) (l := (w'.2 q).2.2.2) h5
  rw [show zfv μ S q (w'.2 q).2.2.2 kd k1 = .ref (μ (gR S q k1)) by subst hkd; rfl] at hv
  exact va_get hx hb hts h2 hown hK hP q (zat_o hq) h1 k1 h3 (hts _ h4) (fun _ h => h) hv d (k H locs ls hP hS hl)
theorem V_getF (C : zC K cc own n fr lo w) {q ci k1 kd i p1 : Nat} (hq : zob w ci q) (hF : zFL own i ci k1 kd) (hkd : kd = 4) (hp : zto w q k1 p1) (d : decode cc pc = .ok (.getfield i, 3)) (k : V K (pc + 3) L (.ref p1 :: st) S) : V K pc L (.ref q :: st) S := by
  obtain ⟨⟨p, l, e, R, s, m, args, below, meth, c⟩, ⟨D, A, cA, μ⟩, ⟨n', Q, w', z⟩⟩ := K
  obtain ⟨hx, hb, hts, hown, hK, hD, hA, hml, hfr, hlo, hz, rfl, rfl, rfl⟩ := C
  intro H locs ls hP hS hl
  obtain ⟨cn, T, N, h1, h2, h3, h4, h5⟩ := hF
  have hv := zfs_at (μ := μ) (S := S) (q := q) (l := (w'.2 q).2.2.2) h5
  rw [show zfv μ S q (w'.2 q).2.2.2 kd k1 = .ref (μ p1) by subst hkd; rw [← hp]; rfl] at hv
  exact va_get hx hb hts h2 hown hK hP q (zat_o hq) h1 k1 h3 (hts _ h4) (fun _ h => h) hv d (k H locs ls hP hS hl)
theorem V_putI (C : zC K cc own n fr lo w) {q ci k1 kd i : Nat} {ty : FieldType} {x : Int32} (hq : zob w ci q) (hF : zFP own i ci k1 kd ty) (hkd : kd = 0) (hty : ty = .int) (d : decode cc pc = .ok (.putfield i, 3)) (k : V K (pc + 3) L st (pI S q k1 x)) : V K pc L (.int x :: .ref q :: st) S := by
  obtain ⟨⟨p, l, e, R, s, m, args, below, meth, c⟩, ⟨D, A, cA, μ⟩, ⟨n', Q, w', z⟩⟩ := K
  obtain ⟨hx, hb, hts, hown, hK, hD, hA, hml, hfr, hlo, hz, rfl, rfl, rfl⟩ := C
  intro H locs ls hP hS hl
  obtain ⟨cn, T, N, tf, h1, h2, h3, h4, h5, h6, h7, h8, h9⟩ := hF
  refine va_put hx hb hts h2 tf h6 h7 hown hK hP (hD S) hS q (zat_o hq) h1 k1 h3 (hts _ h4) (fun _ h => h) h8 (ty := tf k1) (v := .int x) (h6 k1 h3) (by rw [h9]; exact by rw [hty]; rfl) (by rw [h9]; exact by rw [hty]; rfl) (by rw [zfs_len]; exact (List.getElem?_eq_some_iff.mp h5).1) d (fun H1 locs1 hP1 hD1 hS1 => ?_)
  have e : (zws w' μ cA S).set q (μ q, .inr (ci, (zfs μ S q ci (w'.2 q).2.2.2).set k1 (.int x))) = zws w' μ cA (pI S q k1 x) := zws_set (by rw [zen_o hq.2.1 hq.2.2]; congr 2; exact zfs_set h5 (by subst hkd; show Value.int x = .int (gI (pI S q k1 x) q k1); rw [gI_pI, if_pos ⟨rfl, rfl⟩]) (fun k' kd' hk' => by simp only [zfv, gI_pI, hk', and_false, if_false]; rfl)) (fun q' hq' => zen_pI hq')
  rw [e] at hP1
  exact k H1 locs1 ls hP1 hS1 hl
theorem V_putZ (C : zC K cc own n fr lo w) {q ci k1 kd i : Nat} {ty : FieldType} {x : Int32} (hq : zob w ci q) (hF : zFP own i ci k1 kd ty) (hkd : kd = 1) (hty : ty = .boolean) (hx1 : x = 0 ∨ x = 1) (d : decode cc pc = .ok (.putfield i, 3)) (k : V K (pc + 3) L st (pI S q k1 x)) : V K pc L (.int x :: .ref q :: st) S := by
  obtain ⟨⟨p, l, e, R, s, m, args, below, meth, c⟩, ⟨D, A, cA, μ⟩, ⟨n', Q, w', z⟩⟩ := K
  obtain ⟨hx, hb, hts, hown, hK, hD, hA, hml, hfr, hlo, hz, rfl, rfl, rfl⟩ := C
  intro H locs ls hP hS hl
  obtain ⟨cn, T, N, tf, h1, h2, h3, h4, h5, h6, h7, h8, h9⟩ := hF
  refine va_put hx hb hts h2 tf h6 h7 hown hK hP (hD S) hS q (zat_o hq) h1 k1 h3 (hts _ h4) (fun _ h => h) h8 (ty := tf k1) (v := .int x) (h6 k1 h3) (by rw [h9]; exact by rw [hty]; rcases hx1 with rfl | rfl <;> rfl) (by rw [h9]; exact by rw [hty]; rcases hx1 with rfl | rfl <;> rfl) (by rw [zfs_len]; exact (List.getElem?_eq_some_iff.mp h5).1) d (fun H1 locs1 hP1 hD1 hS1 => ?_)
  have e : (zws w' μ cA S).set q (μ q, .inr (ci, (zfs μ S q ci (w'.2 q).2.2.2).set k1 (.int x))) = zws w' μ cA (pI S q k1 x) := zws_set (by rw [zen_o hq.2.1 hq.2.2]; congr 2; exact zfs_set h5 (by subst hkd; show Value.int x = .int (gI (pI S q k1 x) q k1); rw [gI_pI, if_pos ⟨rfl, rfl⟩]) (fun k' kd' hk' => by simp only [zfv, gI_pI, hk', and_false, if_false]; rfl)) (fun q' hq' => zen_pI hq')
  rw [e] at hP1
  exact k H1 locs1 ls hP1 hS1 hl
theorem V_putL (C : zC K cc own n fr lo w) {q ci k1 kd i : Nat} {ty : FieldType} {x : Int64} (hq : zob w ci q) (hF : zFP own i ci k1 kd ty) (hkd : kd = 2) (hty : ty = .long) (d : decode cc pc = .ok (.putfield i, 3)) (k : V K (pc + 3) L st (pL S q k1 x)) : V K pc L (.long x :: .ref q :: st) S := by
  obtain ⟨⟨p, l, e, R, s, m, args, below, meth, c⟩, ⟨D, A, cA, μ⟩, ⟨n', Q, w', z⟩⟩ := K
  obtain ⟨hx, hb, hts, hown, hK, hD, hA, hml, hfr, hlo, hz, rfl, rfl, rfl⟩ := C
  intro H locs ls hP hS hl
  obtain ⟨cn, T, N, tf, h1, h2, h3, h4, h5, h6, h7, h8, h9⟩ := hF
  refine va_put hx hb hts h2 tf h6 h7 hown hK hP (hD S) hS q (zat_o hq) h1 k1 h3 (hts _ h4) (fun _ h => h) h8 (ty := tf k1) (v := .long x) (h6 k1 h3) (by rw [h9]; exact by rw [hty]; rfl) (by rw [h9]; exact by rw [hty]; rfl) (by rw [zfs_len]; exact (List.getElem?_eq_some_iff.mp h5).1) d (fun H1 locs1 hP1 hD1 hS1 => ?_)
  have e : (zws w' μ cA S).set q (μ q, .inr (ci, (zfs μ S q ci (w'.2 q).2.2.2).set k1 (.long x))) = zws w' μ cA (pL S q k1 x) := zws_set (by rw [zen_o hq.2.1 hq.2.2]; congr 2; exact zfs_set h5 (by subst hkd; show Value.long x = .long (gL (pL S q k1 x) q k1); rw [gL_pL, if_pos ⟨rfl, rfl⟩]) (fun k' kd' hk' => by simp only [zfv, gL_pL, hk', and_false, if_false]; rfl)) (fun q' hq' => zen_pL hq')
  rw [e] at hP1
  exact k H1 locs1 ls hP1 hS1 hl
theorem V_putR (C : zC K cc own n fr lo w) {q ci k1 kd i : Nat} {ty : FieldType} {x : Nat} (hq : zob w ci q) (hF : zFP own i ci k1 kd ty) (hkd : kd = 3) {cn1 : String} (hty : ty = .object cn1) (d : decode cc pc = .ok (.putfield i, 3)) (k : V K (pc + 3) L st (pR S q k1 x)) : V K pc L (.ref x :: .ref q :: st) S := by
  obtain ⟨⟨p, l, e, R, s, m, args, below, meth, c⟩, ⟨D, A, cA, μ⟩, ⟨n', Q, w', z⟩⟩ := K
  obtain ⟨hx, hb, hts, hown, hK, hD, hA, hml, hfr, hlo, hz, rfl, rfl, rfl⟩ := C
  intro H locs ls hP hS hl
  obtain ⟨cn, T, N, tf, h1, h2, h3, h4, h5, h6, h7, h8, h9⟩ := hF
  refine va_put hx hb hts h2 tf h6 h7 hown hK hP (hD S) hS q (zat_o hq) h1 k1 h3 (hts _ h4) (fun _ h => h) h8 (ty := tf k1) (v := .ref (μ x)) (h6 k1 h3) (by rw [h9]; exact by rw [hty]; rfl) (by rw [h9]; exact by rw [hty]; rfl) (by rw [zfs_len]; exact (List.getElem?_eq_some_iff.mp h5).1) d (fun H1 locs1 hP1 hD1 hS1 => ?_)
  have e : (zws w' μ cA S).set q (μ q, .inr (ci, (zfs μ S q ci (w'.2 q).2.2.2).set k1 (.ref (μ x)))) = zws w' μ cA (pR S q k1 x) := zws_set (by rw [zen_o hq.2.1 hq.2.2]; congr 2; exact zfs_set h5 (by subst hkd; show Value.ref (μ x) = .ref (μ (gR (pR S q k1 x) q k1)); rw [gR_pR, if_pos ⟨rfl, rfl⟩]) (fun k' kd' hk' => by simp only [zfv, gR_pR, hk', and_false, if_false]; rfl)) (fun q' hq' => zen_pR hq')
  rw [e] at hP1
  exact k H1 locs1 ls hP1 hS1 hl
theorem V_iald (C : zC K cc own n fr lo w) {q len : Nat} {i : Int32} (hq : zar w 1 0 len q) (hi : ixb i len = true) (d : decode cc pc = .ok (.iaload, 1)) (k : V K (pc + 1) L (.int (gI S q (ix i)) :: st) S) : V K pc L (.int i :: .ref q :: st) S := by
  obtain ⟨⟨p, l, e, R, s, m, args, below, meth, c⟩, ⟨D, A, cA, μ⟩, ⟨n', Q, w', z⟩⟩ := K
  obtain ⟨hx, hb, hts, hown, hK, hD, hA, hml, hfr, hlo, hz, rfl, rfl, rfl⟩ := C
  intro H locs ls hP hS hl
  exact va_iald hx hb hK hP q 0 (zat_i hq) rfl (ixb_in hi) d (k H locs ls hP hS hl)
theorem V_bald (C : zC K cc own n fr lo w) {q len : Nat} {i : Int32} (hq : zar w 1 1 len q) (hi : ixb i len = true) (d : decode cc pc = .ok (.baload, 1)) (k : V K (pc + 1) L (.int (gI S q (ix i)) :: st) S) : V K pc L (.int i :: .ref q :: st) S := by
  obtain ⟨⟨p, l, e, R, s, m, args, below, meth, c⟩, ⟨D, A, cA, μ⟩, ⟨n', Q, w', z⟩⟩ := K
  obtain ⟨hx, hb, hts, hown, hK, hD, hA, hml, hfr, hlo, hz, rfl, rfl, rfl⟩ := C
  intro H locs ls hP hS hl
  exact va_bald hx hb hK hP q 1 (zat_i hq) rfl (ixb_in hi) d (k H locs ls hP hS hl)
theorem V_zald (C : zC K cc own n fr lo w) {q len : Nat} {i : Int32} (hq : zar w 1 2 len q) (hi : ixb i len = true) (d : decode cc pc = .ok (.baload, 1)) (k : V K (pc + 1) L (.int (gI S q (ix i)) :: st) S) : V K pc L (.int i :: .ref q :: st) S := by
  obtain ⟨⟨p, l, e, R, s, m, args, below, meth, c⟩, ⟨D, A, cA, μ⟩, ⟨n', Q, w', z⟩⟩ := K
  obtain ⟨hx, hb, hts, hown, hK, hD, hA, hml, hfr, hlo, hz, rfl, rfl, rfl⟩ := C
  intro H locs ls hP hS hl
  exact va_zald hx hb hK hP q 2 (zat_i hq) rfl (ixb_in hi) d (k H locs ls hP hS hl)
theorem V_lald (C : zC K cc own n fr lo w) {q len : Nat} {i : Int32} (hq : zar w 2 3 len q) (hi : ixb i len = true) (d : decode cc pc = .ok (.laload, 1)) (k : V K (pc + 1) L (.long (gL S q (ix i)) :: st) S) : V K pc L (.int i :: .ref q :: st) S := by
  obtain ⟨⟨p, l, e, R, s, m, args, below, meth, c⟩, ⟨D, A, cA, μ⟩, ⟨n', Q, w', z⟩⟩ := K
  obtain ⟨hx, hb, hts, hown, hK, hD, hA, hml, hfr, hlo, hz, rfl, rfl, rfl⟩ := C
  intro H locs ls hP hS hl
  exact va_lald hx hb hK hP q 3 (zat_l hq) rfl (ixb_in hi) d (k H locs ls hP hS hl)
theorem V_aald (C : zC K cc own n fr lo w) {q len t p1 : Nat} {cn : String} {i : Int32} (hq : zar w 3 t len q) (ht : ∀ cA, (ztys cA)[t]? = some (cA t, .object cn)) (hi : ixb i len = true) (hp : (w.2 q).2.2.2[ix i]? = some p1) (d : decode cc pc = .ok (.aaload, 1)) (k : V K (pc + 1) L (.ref p1 :: st) S) : V K pc L (.int i :: .ref q :: st) S := by
  obtain ⟨⟨p, l, e, R, s, m, args, below, meth, c⟩, ⟨D, A, cA, μ⟩, ⟨n', Q, w', z⟩⟩ := K
  obtain ⟨hx, hb, hts, hown, hK, hD, hA, hml, hfr, hlo, hz, rfl, rfl, rfl⟩ := C
  intro H locs ls hP hS hl
  refine va_aldq hx hb hK hP q t (zat_r hq) (ht cA) (ixb_in hi) d ?_
  show W p l e R s m args below meth c H locs 0 0 Q (F0 m (pc + 1) ls (va_rf (((w'.2 q).2.2.2[ix i]?).map μ) :: st.map (ztr μ)))
  rw [hp]
  exact k H locs ls hP hS hl
theorem V_iast (C : zC K cc own n fr lo w) {q len : Nat} {i : Int32} {x : Int32} (hq : zar w 1 0 len q) (hi : ixb i len = true) (d : decode cc pc = .ok (.iastore, 1)) (k : V K (pc + 1) L st (pI S q (ix i) x)) : V K pc L (.int x :: .int i :: .ref q :: st) S := by
  obtain ⟨⟨p, l, e, R, s, m, args, below, meth, c⟩, ⟨D, A, cA, μ⟩, ⟨n', Q, w', z⟩⟩ := K
  obtain ⟨hx, hb, hts, hown, hK, hD, hA, hml, hfr, hlo, hz, rfl, rfl, rfl⟩ := C
  intro H locs ls hP hS hl
  refine va_iast hx hb hK hP (hD S) hS q 0 (zat_i hq) rfl (ixb_in hi) d (fun H1 locs1 hP1 hD1 hS1 => ?_)
  have e : (zws w' μ cA S).set q (μ q, .inl (cA 0, (len, .inl (upd (gI S q) i.toNatClampNeg x)))) = zws w' μ cA (pI S q (ix i) x) := zws_set (by
    have hq2 := zws_at (μ := μ) (cA := cA) (S := pI S q (ix i) x) hq.1
    rw [zat_i hq] at hq2
    have h3 := (Prod.mk.inj (Option.some.inj hq2)).2
    rw [← h3, gI_pI_s]
    rfl) (fun q' hq' => zen_pI hq')
  rw [e] at hP1
  exact k H1 locs1 ls hP1 hS1 hl
theorem V_bast (C : zC K cc own n fr lo w) {q len : Nat} {i : Int32} {x : Int32} (hq : zar w 1 1 len q) (hi : ixb i len = true) (d : decode cc pc = .ok (.bastore, 1)) (k : V K (pc + 1) L st (pI S q (ix i) (vp_nar .byte x))) : V K pc L (.int x :: .int i :: .ref q :: st) S := by
  obtain ⟨⟨p, l, e, R, s, m, args, below, meth, c⟩, ⟨D, A, cA, μ⟩, ⟨n', Q, w', z⟩⟩ := K
  obtain ⟨hx, hb, hts, hown, hK, hD, hA, hml, hfr, hlo, hz, rfl, rfl, rfl⟩ := C
  intro H locs ls hP hS hl
  refine va_bast hx hb hK hP (hD S) hS q 1 (zat_i hq) rfl (ixb_in hi) d (fun H1 locs1 hP1 hD1 hS1 => ?_)
  have e : (zws w' μ cA S).set q (μ q, .inl (cA 1, (len, .inl (upd (gI S q) i.toNatClampNeg (vp_nar .byte x))))) = zws w' μ cA (pI S q (ix i) (vp_nar .byte x)) := zws_set (by
    have hq2 := zws_at (μ := μ) (cA := cA) (S := pI S q (ix i) (vp_nar .byte x)) hq.1
    rw [zat_i hq] at hq2
    have h3 := (Prod.mk.inj (Option.some.inj hq2)).2
    rw [← h3, gI_pI_s]
    rfl) (fun q' hq' => zen_pI hq')
  rw [e] at hP1
  exact k H1 locs1 ls hP1 hS1 hl
theorem V_zast (C : zC K cc own n fr lo w) {q len : Nat} {i : Int32} {x : Int32} (hq : zar w 1 2 len q) (hi : ixb i len = true) (d : decode cc pc = .ok (.bastore, 1)) (k : V K (pc + 1) L st (pI S q (ix i) (vp_nar .boolean x))) : V K pc L (.int x :: .int i :: .ref q :: st) S := by
  obtain ⟨⟨p, l, e, R, s, m, args, below, meth, c⟩, ⟨D, A, cA, μ⟩, ⟨n', Q, w', z⟩⟩ := K
  obtain ⟨hx, hb, hts, hown, hK, hD, hA, hml, hfr, hlo, hz, rfl, rfl, rfl⟩ := C
  intro H locs ls hP hS hl
  refine va_zast hx hb hK hP (hD S) hS q 2 (zat_i hq) rfl (ixb_in hi) d (fun H1 locs1 hP1 hD1 hS1 => ?_)
  have e : (zws w' μ cA S).set q (μ q, .inl (cA 2, (len, .inl (upd (gI S q) i.toNatClampNeg (vp_nar .boolean x))))) = zws w' μ cA (pI S q (ix i) (vp_nar .boolean x)) := zws_set (by
    have hq2 := zws_at (μ := μ) (cA := cA) (S := pI S q (ix i) (vp_nar .boolean x)) hq.1
    rw [zat_i hq] at hq2
    have h3 := (Prod.mk.inj (Option.some.inj hq2)).2
    rw [← h3, gI_pI_s]
    rfl) (fun q' hq' => zen_pI hq')
  rw [e] at hP1
  exact k H1 locs1 ls hP1 hS1 hl
theorem V_last (C : zC K cc own n fr lo w) {q len : Nat} {i : Int32} {x : Int64} (hq : zar w 2 3 len q) (hi : ixb i len = true) (d : decode cc pc = .ok (.lastore, 1)) (k : V K (pc + 1) L st (pL S q (ix i) x)) : V K pc L (.long x :: .int i :: .ref q :: st) S := by
  obtain ⟨⟨p, l, e, R, s, m, args, below, meth, c⟩, ⟨D, A, cA, μ⟩, ⟨n', Q, w', z⟩⟩ := K
  obtain ⟨hx, hb, hts, hown, hK, hD, hA, hml, hfr, hlo, hz, rfl, rfl, rfl⟩ := C
  intro H locs ls hP hS hl
  refine va_last hx hb hK hP (hD S) hS q 3 (zat_l hq) rfl (ixb_in hi) d (fun H1 locs1 hP1 hD1 hS1 => ?_)
  have e : (zws w' μ cA S).set q (μ q, .inl (cA 3, (len, .inr (.inl (vp_updL (gL S q) i.toNatClampNeg x))))) = zws w' μ cA (pL S q (ix i) x) := zws_set (by
    have hq2 := zws_at (μ := μ) (cA := cA) (S := pL S q (ix i) x) hq.1
    rw [zat_l hq] at hq2
    have h3 := (Prod.mk.inj (Option.some.inj hq2)).2
    rw [← h3, gL_pL_s]
    rfl) (fun q' hq' => zen_pL hq')
  rw [e] at hP1
  exact k H1 locs1 ls hP1 hS1 hl
theorem V_alen (C : zC K cc own n fr lo w) {q len t : Nat} {ty : FieldType} {v : Int32} {tg : Nat} (hq : zar w tg t len q) (htg : tg = 1 ∨ tg = 2 ∨ tg = 3) (ht : ∀ cA, (ztys cA)[t]? = some (cA t, ty)) (hv : Int32.ofNat len = v) (d : decode cc pc = .ok (.arraylength, 1)) (k : V K (pc + 1) L (.int v :: st) S) : V K pc L (.ref q :: st) S := by
  obtain ⟨⟨p, l, e, R, s, m, args, below, meth, c⟩, ⟨D, A, cA, μ⟩, ⟨n', Q, w', z⟩⟩ := K
  obtain ⟨hx, hb, hts, hown, hK, hD, hA, hml, hfr, hlo, hz, rfl, rfl, rfl⟩ := C
  intro H locs ls hP hS hl
  rcases htg with rfl | rfl | rfl
  · exact va_alen hx hb hK hP q t (zat_i hq) (ht cA) hv d (k H locs ls hP hS hl)
  · exact va_alen hx hb hK hP q t (zat_l hq) (ht cA) hv d (k H locs ls hP hS hl)
  · exact va_alen hx hb hK hP q t (zat_r hq) (ht cA) hv d (k H locs ls hP hS hl)
theorem V_nmI {e x : Int32} (h : e = x) (k : V K pc L (.int x :: st) S) : V K pc L (.int e :: st) S := h ▸ k
theorem V_nmJ {e x : Int64} (h : e = x) (k : V K pc L (.long x :: st) S) : V K pc L (.long e :: st) S := h ▸ k
theorem V_nmS {S S1 : zM} (h : S = S1) (k : V K pc L st S1) : V K pc L st S := h ▸ k
theorem V_pop (C : zC K cc own n fr lo w) {v : Value} (d : decode cc pc = .ok (.pop, 1)) (hv : v.category = 1) (k : V K (pc + 1) L st S) : V K pc L (v :: st) S := by
  obtain ⟨⟨p, l, e, R, s, m, args, below, meth, c⟩, ⟨D, A, cA, μ⟩, ⟨n', Q, w', z⟩⟩ := K
  obtain ⟨hx, hb, hts, hown, hK, hD, hA, hml, hfr, hlo, hz, rfl, rfl, rfl⟩ := C
  intro H locs ls hP hS hl
  exact lv_pop hx hb d (by rw [ztr_cat]; exact hv) (k H locs ls hP hS hl)
end ZV
/-! calls and returns -/
def zPre (w : zWd) (z : zSt) (D : va_G) (cA : Nat → ClassId) (μ : Nat → Nat) (sz : Nat) (av : List Value) (S : zM) : Array Value → State → Prop :=
  va_Pc (av.map (ztr μ)) (fun U => U.heap.size = sz ∧ va_P D vwCl (zws w μ cA S) U.heap ∧ va_K D vwCl (ztys cA) U ∧ (∀ S', va_D (fun _ => True) (zws w μ cA S')) ∧ zOK z μ (va_A (zws w μ cA S) sz) U U.heap)
def zQ (w : zWd) (D : va_G) (cA : Nat → ClassId) (μ : Nat → Nat) (sz : Nat) (S S' : zM) (ro : Option Value) : Array Value → State → Outcome → State → Prop :=
  fun _ st oc t => oc = .returned (ro.map (ztr μ)) ∧ va_P D vwCl (zws w μ cA S') t.heap ∧ va_F (va_A (zws w μ cA S) sz) st t
/-- a method's contract: from these arguments and this memory it returns this and leaves that memory -/
def zMet (l : Launch) (w : zWd) (z : zSt) (y : MethodName) (cc : ByteArray) (n : Nat) (ret : Option FieldType) (fr lo : Nat) (av : List Value) (S : zM) (ro : Option Value) (S' : zM) : Prop :=
  ∀ (D : va_G) (cA : Nat → ClassId) (μ : Nat → Nat) (sz : Nat), Met l y (Cond.code y cc n ret :: zT) { frames := fr, cells := 0, slots := 0, locals := lo } (zPre w z D cA μ sz av S) (zQ w D cA μ sz S S' ro) 0 0 (va_A (zws w μ cA S) sz)
theorem zws_A {w : zWd} {cA : Nat → ClassId} {μ : Nat → Nat} {S S' : zM} {sz q : Nat} : va_A (zws w μ cA S) sz q ↔ va_A (zws w μ cA S') sz q := by
  have key : ∀ (S S' : zM), va_A (zws w μ cA S) sz q → va_A (zws w μ cA S') sz q := by
    intro S S' h
    rcases h with ⟨k, e, h⟩ | h
    · have hk : k < w.1 := by
        have := (List.getElem?_eq_some_iff.mp h).1
        simpa [zws] using this
      rw [zws_at hk] at h
      have h1 := (Prod.mk.inj (Option.some.inj h)).1
      exact Or.inl ⟨k, _, by rw [zws_at hk, h1]⟩
    · exact Or.inr h
  exact ⟨key S S', key S' S⟩
theorem zD_any {w : zWd} {cA : Nat → ClassId} {μ : Nat → Nat} {S S' : zM} {A : Nat → Prop} (h : va_D A (zws w μ cA S)) : va_D A (zws w μ cA S') := by
  have key : ∀ (k : Nat) (p : Nat × va_E), (zws w μ cA S')[k]? = some p → ∃ p', (zws w μ cA S)[k]? = some p' ∧ p'.1 = p.1 := by
    intro k p hp
    have hk : k < w.1 := by
      have := (List.getElem?_eq_some_iff.mp hp).1
      simpa [zws] using this
    rw [zws_at hk] at hp
    exact ⟨_, zws_at hk, (Prod.mk.inj (Option.some.inj hp)).1⟩
  refine ⟨fun i j p q hi hj e => ?_, fun k q hk => ?_⟩
  · obtain ⟨p', h1, e1⟩ := key i p hi
    obtain ⟨q', h2, e2⟩ := key j q hj
    exact h.1 i j p' q' h1 h2 (e1.trans (e.trans e2.symm))
  · obtain ⟨q', h1, e1⟩ := key k q hk
    rw [← e1]
    exact h.2 k q' h1
theorem zOK_call {z : zSt} {μ : Nat → Nat} {A A' : Nat → Prop} {s U : State} {H : Heap} {locs : List Loc} (h : zOK z μ A s s.heap) (hS : va_S A s.heap H locs) (hW : s.WarmedH U.vm) (hA : ∀ q, A' q → A q) : zOK z μ A' U H :=
  ⟨((h.1.kept hS.2.1).moved hW.alike).narrow hA, fun r hr => (h.2.1 r hr).warm hW, ((h.2.2.1.kept hS.2.1).moved hW.alike).narrow hA, by
    obtain ⟨v, h1, h2⟩ := h.2.2.2.1
    exact ⟨v, h1, ((h2.kept hS.2.1).moved hW.alike).narrow hA⟩, fun r hr => va_Nw.warmM hW (h.2.2.2.2 r hr)⟩
theorem zPre_blind {w : zWd} {z : zSt} {D : va_G} {cA : Nat → ClassId} {μ : Nat → Nat} {sz : Nat} {av : List Value} {S : zM} : FrameBlind (zPre w z D cA μ sz av S) := by
  intro a U g mk q
  obtain ⟨q0, q1, qP, qK, qD, qZ⟩ := q
  exact ⟨q0, q1, qP, va_K.moved (u := U) (U := U.calling g mk a) (Vm.Alike.refl U.vm) qK, qD, ⟨qZ.1.moved (u := U) (U := U.calling g mk a) (Vm.Alike.refl U.vm), fun r hr => (qZ.2.1 r hr).same (u := U) (U := U.calling g mk a) rfl, qZ.2.2.1.moved (u := U) (U := U.calling g mk a) (Vm.Alike.refl U.vm), by
    obtain ⟨v, h1, h2⟩ := qZ.2.2.2.1
    exact ⟨v, h1, h2.moved (u := U) (U := U.calling g mk a) (Vm.Alike.refl U.vm)⟩, fun r hr => va_Nw.same rfl (u := U) (U := U.calling g mk a) rfl (qZ.2.2.2.2 r hr)⟩⟩
/-- what a method needs of the tables -/
def zMth (y : MethodName) (cc : ByteArray) (n : Nat) (ret : Option FieldType) (k : Nat) : Prop := Cond.code y cc n ret ∈ zT ∧ Cond.initialized y.cls ∈ zT ∧ (y.cls ≠ "java/lang/invoke/MethodHandle" ∧ y.cls ≠ "java/lang/invoke/VarHandle" ∧ (parseMethodDescriptor y.desc).map (fun d => d.parameters.length) = some k)
def zInst (y : MethodName) : Prop := Cond.instanceMethod y ∈ zT ∧ Cond.selects y.cls y y ∈ zT
section ZCall
variable {K : zK} {cc : ByteArray} {own : String} {n fr lo pc : Nat} {w : zWd} {L : zL} {st : List Value} {S : zM}
theorem zrun {p : Program} {l : Launch} {e : Env} {R : Room} {s : State} {m : MethodId} {args : Array Value} {below : List Frame} {meth : Method} {c : Code} {H : Heap} {locs : List Loc} {Q : State → Prop} {pc : Nat} {ls : Array Slot} {st0 rest : List Value} {a : Array Value} {w : zWd} {D : va_G} {cA : Nat → ClassId} {μ : Nat → Nat} {S S' : zM} {ro : Option Value} {A : Nat → Prop}
    (hr : va_Run p l e R s m args below meth c H locs 0 0 0 0 (F0 m pc ls st0) rest (zQ w D cA μ H.size S S' ro a) (va_A (zws w μ cA S) H.size)) (hS : va_S A s.heap H locs) (hA : ∀ q, va_A (zws w μ cA S) H.size q → A q)
    (k : ∀ (H1 : Heap) (locs1 : List Loc), va_P D vwCl (zws w μ cA S') H1 → va_S A s.heap H1 locs1 → W p l e R s m args below meth c H1 locs1 0 0 Q (F0 m (pc + 3) ls ((ro.map (ztr μ)).toList ++ rest))) : W p l e R s m args below meth c H locs 0 0 Q (F0 m pc ls st0) := by
  intro T hT X
  obtain ⟨v, st₀, t, T', L, h0, X', hL, e1, e2, ⟨hv, hP, hz, hk⟩, hst⟩ := hr T hT X
  cases hv
  rw [h0] at hz hk
  obtain ⟨t2, a1, b1⟩ := k T'.heap (locs ++ L) (by rw [e1]; exact hP)
    ⟨Nat.le_trans hS.1 (by rw [e1]; exact hz), fun q h1 h2 => by rw [e1, hk q (Nat.lt_of_lt_of_le h1 hS.1) (fun z => h2 (hA q z))]; exact hS.2.1 q h1 h2, fun q hq => by
      rcases List.mem_append.mp hq with h | h
      · exact hS.2.2 q h
      · exact hA _ (hL q h)⟩ T' rfl X'
  exact ⟨t2, hst t2 a1, b1⟩
theorem V_callV (C : zC K cc own n fr lo w) {y : MethodName} {cc' : ByteArray} {n' k1 fr' lo' i ci q : Nat} {T : u_T} {N : Nat} {ret : Option FieldType} {As : List Value} {stk : List Value} {ro : Option Value} {S' : zM}
    (hM : zMet K.1.2.1 w zS0 y cc' n' ret fr' lo' (.ref q :: As) S ro S') (hm : zMth y cc' n' ret k1) (hi : zInst y) (hlink : Cond.methodLink own i y ∈ zT)
    (hq : zob w ci q) (hc : vwCl[ci]? = some (y.cls, T, N)) (hroom : fr' + 1 ≤ fr ∧ 8 + (n' + 11) + lo' ≤ lo) (hn : As.length = k1) (hstk : stk = As.reverse ++ .ref q :: st) (hst : (st.map fun v => v.category).sum ≤ 8) (d : decode cc pc = .ok (.invokevirtual i, 3))
    (k : V K (pc + 3) L (ro.toList ++ st) S') : V K pc L stk S := by
  obtain ⟨⟨p, l, e, R, s, m, args, below, meth, c⟩, ⟨D, A, cA, μ⟩, ⟨n0, Q, w', z'⟩⟩ := K
  obtain ⟨hx, hb, hts, hown, hK, hD, hA, hml, hfr, hlo, hzz, rfl, rfl, rfl⟩ := C
  subst hstk
  intro H locs ls hP hS hl
  have hAA : ∀ q, va_A (zws w' μ cA S) H.size q → A q := by
    intro q h
    rcases h with ⟨k, e, h⟩ | h
    · exact (hD S).2 k (q, e) h
    · exact hA q (Nat.le_trans hS.1 h)
  have hcw : CallW R s args own y.cls i y cc' n' ret (Cond.code y cc' n' ret :: zT) { frames := fr', cells := 0, slots := 0, locals := lo' } 0 0 k1 :=
    cwV k1 hts (zTgood (fun w hw => by
      rcases List.mem_append.mp hw with h | h
      · rcases List.mem_cons.mp h with rfl | h
        · exact hlink
        · rcases List.mem_cons.mp h with rfl | h
          · exact hi.1
          · rcases List.mem_cons.mp h with rfl | h
            · exact hi.2
            · rcases List.mem_cons.mp h with rfl | h
              · exact hm.2.1
              · cases h
      · rcases List.mem_cons.mp h with rfl | h
        · exact hm.1
        · exact h)) rfl rfl rfl ⟨rfl, hm.2.2⟩ ⟨by rw [hfr]; exact hroom.1, by rw [hlo]; exact hroom.2⟩
  refine zrun (ro := ro) (rest := st.map (ztr μ)) (a := (Value.ref (μ q) :: As.map (ztr μ)).toArray) (va_runV (As := As.map (ztr μ)) ⟨hx, hb, hml, hown, hts⟩ (hM D cA μ H.size) hcw
    ⟨zPre_blind, va_recv hK hP hc (zat_o hq), fun U hU hW => ⟨by simp [ztr], by rw [hU], by rw [hU]; exact hP, va_K.moved hW.alike hK, fun S' => (hD S').weaken (fun _ _ _ _ => trivial), by rw [hU]; exact zOK_call hzz hS hW hAA⟩⟩
    rfl (by rw [List.length_map]; exact hn) hl.1 (by simp [ztr]) (lv_room (by rw [ztr_cats]; exact hst)) d ⟨Nat.zero_le _, Nat.zero_le _⟩) hS hAA (fun H1 locs1 hP1 hS1 => ?_)
  have := k H1 locs1 ls hP1 hS1 hl
  rw [List.map_append] at this
  cases ro <;> exact this
theorem V_callS (C : zC K cc own n fr lo w) {y : MethodName} {cc' : ByteArray} {n' k1 fr' lo' i : Nat} {ret : Option FieldType} {As : List Value} {stk : List Value} {ro : Option Value} {S' : zM}
    (hM : zMet K.1.2.1 w zS0 y cc' n' ret fr' lo' As S ro S') (hm : zMth y cc' n' ret k1) (hi : Cond.static y ∈ zT) (hlink : Cond.methodLink own i y ∈ zT)
    (hroom : fr' + 1 ≤ fr ∧ 8 + (n' + 11) + lo' ≤ lo) (hn : As.length = k1) (hstk : stk = As.reverse ++ st) (hst : (st.map fun v => v.category).sum ≤ 8) (d : decode cc pc = .ok (.invokestatic i, 3))
    (k : V K (pc + 3) L (ro.toList ++ st) S') : V K pc L stk S := by
  obtain ⟨⟨p, l, e, R, s, m, args, below, meth, c⟩, ⟨D, A, cA, μ⟩, ⟨n0, Q, w', z'⟩⟩ := K
  obtain ⟨hx, hb, hts, hown, hK, hD, hA, hml, hfr, hlo, hzz, rfl, rfl, rfl⟩ := C
  subst hstk
  intro H locs ls hP hS hl
  have hAA : ∀ q, va_A (zws w' μ cA S) H.size q → A q := by
    intro q h
    rcases h with ⟨k, e, h⟩ | h
    · exact (hD S).2 k (q, e) h
    · exact hA q (Nat.le_trans hS.1 h)
  have hcw : CallB R s args own i y cc' n' ret (Cond.code y cc' n' ret :: zT) { frames := fr', cells := 0, slots := 0, locals := lo' } 0 0 k1 ∧ (Cond.static y).before args s = true :=
    ⟨callB_of k1 hts (zTgood (fun w hw => by
        rcases List.mem_cons.mp hw with rfl | h
        · exact hm.1
        · exact h)) rfl rfl rfl (hts _ hm.2.1) (hts _ hlink) hm.2.2 ⟨by rw [hfr]; exact hroom.1, by rw [hlo]; exact hroom.2⟩, hts _ hi⟩
  refine zrun (ro := ro) (rest := st.map (ztr μ)) (a := (As.map (ztr μ)).toArray) (va_runS (As := As.map (ztr μ)) ⟨hx, hb, hml, hown, hts⟩ (hM D cA μ H.size) hcw
    ⟨zPre_blind, fun U hU hW => ⟨rfl, by rw [hU], by rw [hU]; exact hP, va_K.moved hW.alike hK, fun S' => (hD S').weaken (fun _ _ _ _ => trivial), by rw [hU]; exact zOK_call hzz hS hW hAA⟩⟩
    rfl (by rw [List.length_map]; exact hn) hl.1 (by simp) (lv_room (by rw [ztr_cats]; exact hst)) d ⟨Nat.zero_le _, Nat.zero_le _⟩) hS hAA (fun H1 locs1 hP1 hS1 => ?_)
  have := k H1 locs1 ls hP1 hS1 hl
  rw [List.map_append] at this
  cases ro <;> exact this
theorem V_callSN (C : zC K cc own n fr lo w) {y : MethodName} {cc' : ByteArray} {n' k1 fr' lo' i : Nat} {host : String} {ret : Option FieldType} {As : List Value} {stk : List Value} {ro : Option Value} {S' : zM}
    (hM : zMet K.1.2.1 w zS0 y cc' n' ret fr' lo' As S ro S') (hm : zMth y cc' n' ret k1) (hi : Cond.static y ∈ zT) (hlink : (own, i, y, host) ∈ zNw)
    (hroom : fr' + 1 ≤ fr ∧ 8 + (n' + 11) + lo' ≤ lo) (hn : As.length = k1) (hstk : stk = As.reverse ++ st) (hst : (st.map fun v => v.category).sum ≤ 8) (d : decode cc pc = .ok (.invokestatic i, 3))
    (k : V K (pc + 3) L (ro.toList ++ st) S') : V K pc L stk S := by
  obtain ⟨⟨p, l, e, R, s, m, args, below, meth, c⟩, ⟨D, A, cA, μ⟩, ⟨n0, Q, w', z'⟩⟩ := K
  obtain ⟨hx, hb, hts, hown, hK, hD, hA, hml, hfr, hlo, hzz, rfl, rfl, rfl⟩ := C
  subst hstk
  intro H locs ls hP hS hl
  have hAA : ∀ q, va_A (zws w' μ cA S) H.size q → A q := by
    intro q h
    rcases h with ⟨k, e, h⟩ | h
    · exact (hD S).2 k (q, e) h
    · exact hA q (Nat.le_trans hS.1 h)
  have hcw : va_CN R s args own i y host cc' n' ret (Cond.code y cc' n' ret :: zT) { frames := fr', cells := 0, slots := 0, locals := lo' } 0 0 k1 ∧ (Cond.static y).before args s = true ∧ True :=
    ⟨va_cnB k1 hts (zTgood (fun w hw => by
        rcases List.mem_cons.mp hw with rfl | h
        · exact hm.1
        · exact h)) rfl rfl rfl (hzz.2.2.2.2 _ hlink) (hts _ hm.2.1) hm.2.2 ⟨by rw [hfr]; exact hroom.1, by rw [hlo]; exact hroom.2⟩, hts _ hi, trivial⟩
  refine zrun (ro := ro) (rest := st.map (ztr μ)) (a := (As.map (ztr μ)).toArray) (va_runSN (As := As.map (ztr μ)) ⟨hx, hb, hml, hown, hts⟩ (hM D cA μ H.size) hcw
    ⟨zPre_blind, fun U hU hW => ⟨rfl, by rw [hU], by rw [hU]; exact hP, va_K.moved hW.alike hK, fun S' => (hD S').weaken (fun _ _ _ _ => trivial), by rw [hU]; exact zOK_call hzz hS hW hAA⟩⟩
    rfl (by rw [List.length_map]; exact hn) hl.1 (by simp) (lv_room (by rw [ztr_cats]; exact hst)) d ⟨Nat.zero_le _, Nat.zero_le _⟩) hS hAA (fun H1 locs1 hP1 hS1 => ?_)
  have := k H1 locs1 ls hP1 hS1 hl
  rw [List.map_append] at this
  cases ro <;> exact this
/-- Math.max, min, abs of ints -/
theorem V_max (C : zC K cc own n fr lo w) {x y : Int32} {i : Nat} (hlink : Cond.methodLink own i Lib.Math.max.name ∈ zT) (h1 : Cond.static Lib.Math.max.name ∈ zT) (h2 : Cond.initialized "java/lang/Math" ∈ zT) (h3 : Cond.code Lib.Math.max.name Lib.Math.max.code 2 (some .int) ∈ zT) (hr : 1 ≤ fr ∧ (st.map fun v => v.category).sum + 13 ≤ lo) (d : decode cc pc = .ok (.invokestatic i, 3)) (k : V K (pc + 3) L (.int (jmax x y) :: st) S) : V K pc L (.int y :: .int x :: st) S := by
  obtain ⟨⟨p, l, e, R, s, m, args, below, meth, c⟩, ⟨D, A, cA, μ⟩, ⟨n', Q, w', z⟩⟩ := K
  obtain ⟨hx, hb, hts, hown, hK, hD, hA, hml, hfr, hlo, hz, rfl, rfl, rfl⟩ := C
  intro H locs ls hP hS hl
  exact va_mmax hx hb (hml.trans hl.1.symm) hown (hts _ hlink) (hts _ h1) (hts _ h2) (hts _ h3) (by rw [hfr]; exact hr.1) (by rw [ztr_cats, hlo]; exact hr.2) (Nat.zero_le _) (Nat.zero_le _) d (k H locs ls hP hS hl)
theorem V_min (C : zC K cc own n fr lo w) {x y : Int32} {i : Nat} (hlink : Cond.methodLink own i Lib.Math.min.name ∈ zT) (h1 : Cond.static Lib.Math.min.name ∈ zT) (h2 : Cond.initialized "java/lang/Math" ∈ zT) (h3 : Cond.code Lib.Math.min.name Lib.Math.min.code 2 (some .int) ∈ zT) (hr : 1 ≤ fr ∧ (st.map fun v => v.category).sum + 13 ≤ lo) (d : decode cc pc = .ok (.invokestatic i, 3)) (k : V K (pc + 3) L (.int (jmin x y) :: st) S) : V K pc L (.int y :: .int x :: st) S := by
  obtain ⟨⟨p, l, e, R, s, m, args, below, meth, c⟩, ⟨D, A, cA, μ⟩, ⟨n', Q, w', z⟩⟩ := K
  obtain ⟨hx, hb, hts, hown, hK, hD, hA, hml, hfr, hlo, hz, rfl, rfl, rfl⟩ := C
  intro H locs ls hP hS hl
  exact va_mmin hx hb (hml.trans hl.1.symm) hown (hts _ hlink) (hts _ h1) (hts _ h2) (hts _ h3) (by rw [hfr]; exact hr.1) (by rw [ztr_cats, hlo]; exact hr.2) (Nat.zero_le _) (Nat.zero_le _) d (k H locs ls hP hS hl)
theorem V_abs (C : zC K cc own n fr lo w) {x : Int32} {i : Nat} (hlink : Cond.methodLink own i Lib.Math.abs.name ∈ zT) (h1 : Cond.static Lib.Math.abs.name ∈ zT) (h2 : Cond.initialized "java/lang/Math" ∈ zT) (h3 : Cond.code Lib.Math.abs.name Lib.Math.abs.code 1 (some .int) ∈ zT) (hr : 1 ≤ fr ∧ (st.map fun v => v.category).sum + 13 ≤ lo) (d : decode cc pc = .ok (.invokestatic i, 3)) (k : V K (pc + 3) L (.int (jabs x) :: st) S) : V K pc L (.int x :: st) S := by
  obtain ⟨⟨p, l, e, R, s, m, args, below, meth, c⟩, ⟨D, A, cA, μ⟩, ⟨n', Q, w', z⟩⟩ := K
  obtain ⟨hx, hb, hts, hown, hK, hD, hA, hml, hfr, hlo, hz, rfl, rfl, rfl⟩ := C
  intro H locs ls hP hS hl
  exact va_mabs hx hb (hml.trans hl.1.symm) hown (hts _ hlink) (hts _ h1) (hts _ h2) (hts _ h3) (by rw [hfr]; exact hr.1) (by rw [ztr_cats, hlo]; exact hr.2) (Nat.zero_le _) (Nat.zero_le _) d (k H locs ls hP hS hl)
end ZCall
/-- the way back: what a return row must know -/
def zR (K : zK) (cc : ByteArray) (ret : Option FieldType) (S' : zM) (ro : Option Value) : Prop := match ro with
  | none => ∀ (pc : Nat) (L : zL), ret = none → decode cc pc = .ok (.return_, 1) → V K pc L [] S'
  | some (.int v) => ∀ (pc : Nat) (L : zL), (∃ ty, ret = some ty ∧ narrow ty (.int v) = .int v) → decode cc pc = .ok (.ireturn, 1) → V K pc L [.int v] S'
  | some (.long v) => ∀ (pc : Nat) (L : zL), ret = some .long → decode cc pc = .ok (.lreturn, 1) → V K pc L [.long v] S'
  | some (.ref v) => ∀ (pc : Nat) (L : zL), (∃ cn, ret = some (.object cn)) → decode cc pc = .ok (.areturn, 1) → V K pc L [.ref v] S'
  | _ => True
def zent (n : Nat) (av : List Value) : zL := (List.range n).map (fun i => (lg_sl av)[i]?.bind (fun s => match s with
  | .val v => some v
  | _ => none))
theorem zofW {l : Launch} {y : MethodName} {ws ws' : List Cond} {rm : Room} {Pc : Array Value → State → Prop} {Qc : Array Value → State → Outcome → State → Prop} {mc ms : Nat} {free : Addr → Prop} {cc : ByteArray} {maxL : Nat} {ret : Option FieldType}
    (hy : plainFor y = true) (hw : ws = Cond.code y cc maxL ret :: ws')
    (body : ∀ p e s m args below meth c s₁, BodyLoose p l y (headSpec ws rm) cc maxL ret e s m args below meth c s₁ → c.maxLocals = maxL → Pc args s →
      W p l e (headSpec ws rm).room s m args below meth c s.heap [] 0 0 (MQ below Qc args s mc ms free) (entryFrame m args maxL)) : Met l y ws rm Pc Qc mc ms free := by
  refine MetFree.of_bodySF (code := cc) (maxLocals := maxL) (ret := ret) hy ?_ ?_
  · intro args s m h hn
    obtain ⟨meth, c, h1, h2, h3, h4, h5, h6, -, -⟩ := Cond.code_spec hn (atoms_spec (ws := ws) h _ (by rw [hw]; exact List.mem_cons_self))
    exact ⟨meth, c, h1, h2, h3, h4, h5, h6⟩
  · intro p e s m args below meth c s₁ B hml hP _
    have hh0 : s₁.heap = s.heap := by rw [B.state]; rfl
    obtain ⟨t, a1, o, b1, b2, b3⟩ := body p e s m args below meth c s₁ B hml hP s₁ hh0 (Stand.of_body B)
    exact ⟨t, o, a1, b1, b2, ⟨b3.1, b3.2⟩⟩
theorem zmeth {l : Launch} {w : zWd} {y : MethodName} {cc : ByteArray} {n fr lo : Nat} {ret : Option FieldType} {av : List Value} {S S' : zM} {ro : Option Value} (hy : plainFor y = true) (hlen : Nat.ble (lg_sl av).length n = true)
    (body : ∀ K : zK, K.1.2.1 = l → zC K cc y.cls n fr lo w → zR K cc ret S' ro → V K 0 (zent n av) [] S) : zMet l w zS0 y cc n ret fr lo av S ro S' := by
  intro D cA μ sz
  refine zofW (cc := cc) (maxL := n) (ret := ret) hy rfl ?_
  intro p e s m args below meth c s₁ B hml hv
  obtain ⟨rfl, hsz, hP, hK, hD0, hZ⟩ := hv
  subst hsz
  have hts := atoms_spec (ws := Cond.code y cc n ret :: zT) B.pre
  have hown : s.vm.findClass y.cls = some m.cls := findClass_of_methodNamed B.named
  have hD : ∀ S1, va_D (va_A (zws w μ cA S) s.heap.size) (zws w μ cA S1) := fun S1 => zD_any (hD0 S).self
  let K : zK := ((p, l, e, { frames := fr, cells := 0, slots := 0, locals := lo }, s, m, (av.map (ztr μ)).toArray, below, meth, c), (D, va_A (zws w μ cA S) s.heap.size, cA, μ), (n, MQ below (zQ w D cA μ s.heap.size S S' ro) (av.map (ztr μ)).toArray s 0 0 (va_A (zws w μ cA S) s.heap.size), w, zS0))
  have C : zC K cc y.cls n fr lo w := ⟨B.exec, B.bytes, fun w hw => hts w (List.mem_cons_of_mem _ hw), hown, hK, hD, fun q h => Or.inr h, hml, rfl, rfl, hZ, rfl, rfl, rfl⟩
  have hr : meth.sig.returnType = ret := B.returns
  have hlk := B.notSynchronized
  have hR : zR K cc ret S' ro := by
    have hq : ∀ (H : Heap) (locs : List Loc), va_P D vwCl (zws w μ cA S') H → va_S (va_A (zws w μ cA S) s.heap.size) s.heap H locs → ∀ t : State, t.heap = H → s.WarmedH t.vm → zQ w D cA μ s.heap.size S S' ro (av.map (ztr μ)).toArray s (.returned (ro.map (ztr μ))) t := fun H locs hP hS t ht hW => ⟨rfl, by rw [ht]; exact hP, hS.F ht⟩
    unfold zR
    split
    · intro pc L h1 d H locs ls hP hS hl
      exact W.vret B.exec B.bytes (hr.trans h1) (hq H locs hP hS) hS.2.2 d hlk
    · intro pc L h1 d H locs ls hP hS hl
      obtain ⟨ty, h1, h2⟩ := h1
      exact W.zret B.exec B.bytes (hr.trans h1) h2 (hq H locs hP hS) hS.2.2 d hlk
    · intro pc L h1 d H locs ls hP hS hl
      exact W.lret B.exec B.bytes (hr.trans h1) (hq H locs hP hS) hS.2.2 d hlk
    · intro pc L h1 d H locs ls hP hS hl
      obtain ⟨cn, h1⟩ := h1
      exact W.aret B.exec B.bytes (hr.trans h1) (Or.inl ⟨cn, rfl⟩) (Or.inr ⟨_, rfl⟩) (hq H locs hP hS) hS.2.2 d hlk
    · trivial
  have hb := body K rfl C hR
  have hlg : (lg_sl (av.map (ztr μ))).length = (lg_sl av).length ∧ ∀ (i : Nat) (v : Value), (lg_sl av)[i]? = some (.val v) → (lg_sl (av.map (ztr μ)))[i]? = some (.val (ztr μ v)) := by
    have e : lg_sl (av.map (ztr μ)) = (lg_sl av).map (fun s => match s with
      | .val v => .val (ztr μ v)
      | s => s) := by
      unfold lg_sl
      rw [List.flatMap_map, List.map_flatMap]
      congr 1
      funext v
      rw [ztr_cat]
      by_cases h : v.category = 2 <;> simp [h]
    rw [e]
    refine ⟨List.length_map _, fun i v h => ?_⟩
    rw [List.getElem?_map, h]
    rfl
  have hl := lv_entry (av.map (ztr μ)) (n := n) (by rw [hlg.1]; exact Nat.le_of_ble_eq_true hlen)
  rw [lg_entry_eq]
  refine hb s.heap [] _ hP va_S.rf ⟨hl.1, hl.2.1, fun i v hi => ?_⟩
  unfold zent at hi
  rw [List.getElem?_map] at hi
  have hin : i < n := by
    rcases Nat.lt_or_ge i n with h | h
    · exact h
    · rw [List.getElem?_eq_none (by simpa using h)] at hi
      cases hi
  rw [List.getElem?_range hin] at hi
  simp only [Option.map_some, Option.some.injEq] at hi
  obtain ⟨sl, h1, h2⟩ := Option.bind_eq_some_iff.mp hi
  have h3 : sl = .val v := by
    cases sl with
    | val u => simp only [Option.some.injEq] at h2; rw [h2]
    | _ => cases h2
  rw [h3] at h1
  have h4 := hlg.2 i v h1
  have h5 := (List.getElem?_eq_some_iff.mp h4).1
  rw [List.getElem?_toArray, List.getElem?_append_left h5]
  exact h4
