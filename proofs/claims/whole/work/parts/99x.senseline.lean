/-! A sense's line as a whole, by both. -/
def fld (C M : zM) (q a e : Nat) (lo hi : Int) : Prop := ∃ v : Int, (lo ≤ v ∧ v ≤ hi) ∧ gI C q a = J v ∧ gI M 4 e = J v
def yQ (C M : zM) (q p : Nat) : Prop := fld C M q 2 (126 + p) (-50) 50 ∧ fld C M q 3 (132 + p) (-50) 50 ∧ fld C M q 4 (138 + p) 0 99 ∧ fld C M q 5 (144 + p) 0 99 ∧ fld C M q 6 (150 + p) 0 1 ∧ (∃ w : Nat, w ≤ 6 ∧ gI C q 7 = J w ∧ gI M 4 (156 + p) = J w ∧ (∀ j : Nat, j < w → fld C M (q + 1) j (162 + 6 * p + j) 0 999) ∧ ∀ j : Nat, w ≤ j → j < 6 → gI M 4 (162 + 6 * p + j) = J 0) ∧ gI C q 8 = J 0 ∧ gI C q 9 = J 0
def yP (C M : zM) (q p ns : Nat) : Prop := fld C M q 1 (120 + p) 0 ((ns : Int) - 1) ∧ yQ C M q p
def lP (C M : zM) (q l : Nat) : Prop := ∃ w a e d t : Int, (0 ≤ w ∧ w ≤ 2) ∧ (1 ≤ a ∧ a ≤ e ∧ e ≤ 400) ∧ (1 ≤ d ∧ d ≤ 400) ∧ (1 ≤ t ∧ t ≤ 20) ∧ ((e - a) / d + 1) * t ≤ 200 ∧ (gI C q 0 = J w ∧ gI C q 1 = J a ∧ gI C q 2 = J e ∧ gI C q 3 = J d ∧ gI C q 4 = J t) ∧ (gI M 4 (198 + l) = J w ∧ gI M 4 (202 + l) = J a ∧ gI M 4 (206 + l) = J e ∧ gI M 4 (210 + l) = J d ∧ gI M 4 (214 + l) = J t)
def aP (C M : zM) (q y : Nat) : Prop := fld C M q 0 (218 + y) (-99) 99 ∧ fld C M q 1 (222 + y) (-99) 99 ∧ fld C M q 2 (226 + y) (-99) 99 ∧ fld C M q 3 (230 + y) (-99) 99 ∧ fld C M q 4 (234 + y) 0 100
def kYm (p k : Nat) : Prop := k = 120 + p ∨ k = 126 + p ∨ k = 132 + p ∨ k = 138 + p ∨ k = 144 + p ∨ k = 150 + p ∨ k = 156 + p ∨ (162 + 6 * p ≤ k ∧ k < 168 + 6 * p)
def kLm (l k : Nat) : Prop := k = 198 + l ∨ k = 202 + l ∨ k = 206 + l ∨ k = 210 + l ∨ k = 214 + l
def kAm (y k : Nat) : Prop := k = 218 + y ∨ k = 222 + y ∨ k = 226 + y ∨ k = 230 + y ∨ k = 234 + y
/-- what has been read -/
def bIt (C M : zM) (G ns np nl ny : Nat) : Prop := (∀ s, s < ns → ∃ m w, 1 ≤ m ∧ sP C M (G + 7 + 31 * s) s m ∧ wP C M (G + 7 + 31 * s) s w) ∧ (∀ p, p < np → yP C M (G + 193 + 2 * p) p ns) ∧ (∀ l, l < nl → lP C M (G + 205 + 1 * l) l) ∧ ∀ y, y < ny → aP C M (G + 209 + 1 * y) y
def bZe (M : zM) (ns np : Nat) : Prop := (∀ s, ns ≤ s → s < 6 → gI M 4 s = J 0 ∧ ∀ j, j < 6 → gI M 4 (84 + 6 * s + j) = J 0) ∧ ∀ p, np ≤ p → p < 6 → gI M 4 (126 + p) = J 0 ∧ gI M 4 (132 + p) = J 0 ∧ gI M 4 (138 + p) = J 0 ∧ gI M 4 (144 + p) = J 0 ∧ gI M 4 (150 + p) = J 0 ∧ gI M 4 (156 + p) = J 0 ∧ ∀ j, j < 6 → gI M 4 (162 + 6 * p + j) = J 0
def bCt (C M : zM) (G ns np nl ny : Nat) : Prop := (ns ≤ 6 ∧ np ≤ 6 ∧ nl ≤ 4 ∧ ny ≤ 4) ∧ (gI C G 6 = J ns ∧ gI C G 7 = J np ∧ gI C G 8 = J nl ∧ gI C G 9 = J ny) ∧ gI M 4 238 = J ns ∧ gI M 4 239 = J np ∧ gI M 4 240 = J nl ∧ gI M 4 241 = J ny
def bld (C M : zM) (G ns np nl ny : Nat) : Prop := bCt C M G ns np nl ny ∧ bIt C M G ns np nl ny ∧ bZe M ns np ∧ bN C M G (ns + np + nl + ny) ns
section
variable {C C' M M' : zM} {G ns np nl ny : Nat}
theorem fld_c {q a e : Nat} {lo hi : Int} (h : fld C M q a e lo hi) (c : gI C' q a = gI C q a) (m : gI M' 4 e = gI M 4 e) : fld C' M' q a e lo hi := by
  obtain ⟨v, h1, h2, h3⟩ := h
  exact ⟨v, h1, c.trans h2, m.trans h3⟩
theorem yQ_c {q p : Nat} (h : yQ C M q p) (c : ∀ a j, q ≤ a → a ≤ q + 1 → gI C' a j = gI C a j) (m : ∀ k, kYm p k → gI M' 4 k = gI M 4 k) : yQ C' M' q p := by
  obtain ⟨h2, h3, h4, h5, h6, ⟨w, h7, h8, h9, h10, hz⟩, h11, h12⟩ := h
  have cq : ∀ j, gI C' q j = gI C q j := fun j => c q j (by omega) (by omega)
  exact ⟨fld_c h2 (cq 2) (m _ (by unfold kYm; omega)), fld_c h3 (cq 3) (m _ (by unfold kYm; omega)), fld_c h4 (cq 4) (m _ (by unfold kYm; omega)), fld_c h5 (cq 5) (m _ (by unfold kYm; omega)), fld_c h6 (cq 6) (m _ (by unfold kYm; omega)), ⟨w, h7, (cq 7).trans h8, (m _ (by unfold kYm; omega)).trans h9, fun j hj => fld_c (h10 j hj) (c _ j (by omega) (by omega)) (m _ (by unfold kYm; omega)), fun j h1 h2 => (m _ (by unfold kYm; omega)).trans (hz j h1 h2)⟩, (cq 8).trans h11, (cq 9).trans h12⟩
theorem bIt_c (h : bIt C M G ns np nl ny) (c : ∀ q j, ((∃ s, s < ns ∧ G + 7 + 31 * s ≤ q ∧ q ≤ G + 11 + 31 * s) ∨ (∃ p, p < np ∧ G + 193 + 2 * p ≤ q ∧ q ≤ G + 194 + 2 * p) ∨ (∃ l, l < nl ∧ q = G + 205 + 1 * l) ∨ ∃ y, y < ny ∧ q = G + 209 + 1 * y) → gI C' q j = gI C q j) (m : ∀ k, ((∃ s, s < ns ∧ (kMt s k ∨ kWm s k)) ∨ (∃ p, p < np ∧ kYm p k) ∨ (∃ l, l < nl ∧ kLm l k) ∨ ∃ y, y < ny ∧ kAm y k) → gI M' 4 k = gI M 4 k) : bIt C' M' G ns np nl ny := by
  obtain ⟨h1, h2, h3, h4⟩ := h
  refine ⟨fun s hs => ?_, fun p hp => ?_, fun l hl => ?_, fun y hy => ?_⟩
  · obtain ⟨e, w, g1, g2, g3⟩ := h1 s hs
    exact ⟨e, w, g1, sP_c g2 (c _ 6 (Or.inl ⟨s, hs, by omega, by omega⟩)) (fun a j a1 a2 => c a j (Or.inl ⟨s, hs, by omega, by omega⟩)) (fun k z => m k (Or.inl ⟨s, hs, Or.inl z⟩)), wP_c g3 (c _ 7 (Or.inl ⟨s, hs, by omega, by omega⟩)) (fun j => c _ j (Or.inl ⟨s, hs, by omega, by omega⟩)) (fun k z => m k (Or.inl ⟨s, hs, Or.inr z⟩))⟩
  · obtain ⟨g1, g2⟩ := h2 p hp
    exact ⟨fld_c g1 (c _ 1 (Or.inr (Or.inl ⟨p, hp, by omega, by omega⟩))) (m _ (Or.inr (Or.inl ⟨p, hp, Or.inl rfl⟩))), yQ_c g2 (fun a j a1 a2 => c a j (Or.inr (Or.inl ⟨p, hp, by omega, by omega⟩))) (fun k z => m k (Or.inr (Or.inl ⟨p, hp, z⟩)))⟩
  · obtain ⟨w, a, e, d, t, g1, g2, g3, g4, g5, ⟨g6, g7, g8, g9, g10⟩, g11, g12, g13, g14, g15⟩ := h3 l hl
    have cl : ∀ j, gI C' (G + 205 + 1 * l) j = gI C (G + 205 + 1 * l) j := fun j => c _ j (Or.inr (Or.inr (Or.inl ⟨l, hl, rfl⟩)))
    have ml : ∀ k, kLm l k → gI M' 4 k = gI M 4 k := fun k z => m k (Or.inr (Or.inr (Or.inl ⟨l, hl, z⟩)))
    exact ⟨w, a, e, d, t, g1, g2, g3, g4, g5, ⟨(cl 0).trans g6, (cl 1).trans g7, (cl 2).trans g8, (cl 3).trans g9, (cl 4).trans g10⟩, (ml _ (by unfold kLm; omega)).trans g11, (ml _ (by unfold kLm; omega)).trans g12, (ml _ (by unfold kLm; omega)).trans g13, (ml _ (by unfold kLm; omega)).trans g14, (ml _ (by unfold kLm; omega)).trans g15⟩
  · obtain ⟨g1, g2, g3, g4, g5⟩ := h4 y hy
    have cl : ∀ j, gI C' (G + 209 + 1 * y) j = gI C (G + 209 + 1 * y) j := fun j => c _ j (Or.inr (Or.inr (Or.inr ⟨y, hy, rfl⟩)))
    have ml : ∀ k, kAm y k → gI M' 4 k = gI M 4 k := fun k z => m k (Or.inr (Or.inr (Or.inr ⟨y, hy, z⟩)))
    exact ⟨fld_c g1 (cl 0) (ml _ (by unfold kAm; omega)), fld_c g2 (cl 1) (ml _ (by unfold kAm; omega)), fld_c g3 (cl 2) (ml _ (by unfold kAm; omega)), fld_c g4 (cl 3) (ml _ (by unfold kAm; omega)), fld_c g5 (cl 4) (ml _ (by unfold kAm; omega))⟩
end
section
variable {b : Nat → Int} {n T k : Nat} {C M : zM} {G ns np nl ny : Nat}
def fWn (s q k : Nat) : Prop := fWm s q k ∨ (q = 4 ∧ k = 238)
def tlN (M : zM) (s : Nat) : Option zM := b2 (gX12_number M (J 1) (J 9)) fun r S => lm (gX12_senseLine_L95 (J s) FU (pI (pI S 4 (84 + 6 * s) r) 4 (78 + s) (J 1))) fun S38 => some (pI S38 4 238 (gI S38 4 238 + J 1))
theorem rd_noise {q s : Nat} (h : rdS b n T C M k) (hq : 6 ≤ q) (hs : s < 6) (h7 : gI C q 7 = J 0) (hz : ∀ j, j < 6 → gI M 4 (84 + 6 * s + j) = J 0) {z : Int} (h238 : gI M 4 238 = J z) : two b n T k (fWc q) (fWn s) C M (gX7_readNoise C q) (tlN M s) (fun C' M' => (∃ w, wP C' M' q s w) ∧ gI M' 4 238 = J (z + 1)) := by
  have hT := h.2.1.1
  obtain ⟨r, v, C1, M1, a1, a2, a3, a4, a5⟩ := rd_number h (lo := 1) (hi := 9) (by decide) (by decide)
  unfold gX7_readNoise tlN
  simp only [J_0, J_1, J_2, J_3, J_4, J_5, J_6, J_7, J_8, J_9, J_10, J_11, J_12, J_14, J_15, J_16, J_19, J_20, J_21, J_22, J_23, J_24, J_25, J_28, J_30, J_31, J_32, J_40, J_44, J_47, J_48, J_49, J_50, J_53, J_54, J_57, J_59, J_74, J_75, J_78, J_84, J_97, J_99, J_100, J_120, J_122, J_126, J_132, J_138, J_144, J_150, J_156, J_162, J_198, J_200, J_202, J_206, J_210, J_214, J_218, J_222, J_226, J_230, J_234, J_238, J_239, J_240, J_241, J_242, J_243, J_255, J_263, J_283, J_303, J_399, J_400, J_401, J_463, J_700, J_701, J_999, J_1000, J_2048, J_4095, J_4096, J_6000, J_9999, J_10000, J_65536, J_65537, J_2147483647, J_neg]
  rw [a1, b2s, a2, b2s]
  have fA : fr (fWn s) M1 (pI (pI M1 4 (84 + 6 * s) (J v)) 4 (78 + s) (J 1)) := fr_t (fr_pI (Or.inl (Or.inr (by unfold kWm; omega)))) (fr_pI (Or.inl (Or.inr (by unfold kWm; omega))))
  have fA4 : fr (fun q _ => q = 4) M1 (pI (pI M1 4 (84 + 6 * s) (J v)) 4 (78 + s) (J 1)) := fr_t (fr_pI rfl) (fr_pI rfl)
  have w2 : ∀ {A B : zM}, fr fC2 A B → fr (fWc q) A B := fun f => fr_w f (fun _ _ z => Or.inl z)
  have v2 : ∀ {A B : zM}, fr fM2 A B → fr (fWn s) A B := fun f => fr_w f (fun _ _ z => Or.inl (Or.inl z))
  have v3 : ∀ {A B : zM}, fr (fWm s) A B → fr (fWn s) A B := fun f => fr_w f (fun _ _ z => Or.inl z)
  have f238 : ∀ (A : zM) (x : Int32), fr (fWn s) A (pI A 4 238 x) := fun A x => fr_pI (Or.inr ⟨rfl, rfl⟩)
  rcases a5 with ⟨u, ⟨k1, u0, u2⟩, u3, u4, u5⟩ | ⟨u, u2⟩
  · subst u
    have c7 : gI C1 q 7 = J ((0 : Nat) : Int) := by rw [a3.1 q 7 (by unfold fC2; omega), h7]; rfl
    have fC6 : fr (fun q _ => 6 ≤ q) C1 (pI (pI C1 (q + 4) 0 (J v)) q 7 (J ((0 + 1 : Nat) : Int))) := fr_t (fr_pI (by omega)) (fr_pI (by omega))
    have fCw : fr (fWc q) C1 (pI (pI C1 (q + 4) 0 (J v)) q 7 (J ((0 + 1 : Nat) : Int))) := fr_t (fr_pI (Or.inr (Or.inr rfl))) (fr_pI (Or.inr (Or.inl ⟨rfl, rfl⟩)))
    have hP1 : wP (pI (pI C1 (q + 4) 0 (J v)) q 7 (J ((0 + 1 : Nat) : Int))) (pI (pI M1 4 (84 + 6 * s) (J v)) 4 (78 + s) (J 1)) q s 1 := by
      refine ⟨by omega, by rw [rII, if_pos ⟨rfl, rfl⟩], by rw [rII, if_pos ⟨rfl, rfl⟩]; rfl, fun j hj => ?_, fun j h1 h2 => by rw [rII, if_neg (by omega), rII, if_neg (by omega), a4.1 4 _ (by unfold fM2; omega), hz j h2]⟩
      have : j = 0 := by omega
      subst this
      exact ⟨v, by omega, fun _ => u4, by rw [rII, if_neg (by omega), rII, if_pos ⟨rfl, rfl⟩], by rw [rII, if_neg (by omega), rII, if_pos ⟨rfl, rfl⟩]⟩
    obtain ⟨r', C2, M2, d1, d2, d3, d4⟩ := rd_noise_L hq hs FU 0 k1 1 _ _ (by have := FUs (n := 800) (by omega); omega) (by omega) (rdS_c6 (rdS_4 u2 fA4) fC6) hP1
    rw [if_neg (by decide), u3, c_addWhole c7 (by omega), b1s, show J 0 = J ((0 : Nat) : Int) from rfl, d1]
    have FC := fr_t (w2 a3) (fr_t fCw d2)
    have FM := fr_t (v2 a4) (fr_t fA (v3 d3))
    have m238 : gI M2 4 238 = J z := by rw [d3.1 4 238 (by unfold fWm fM2 kWm; omega), rII, if_neg (by omega), rII, if_neg (by omega), a4.1 4 238 (by unfold fM2; omega), h238]
    rcases d4 with ⟨t1, ⟨k', t0, t2⟩, ⟨w, t3⟩, t4⟩ | ⟨t1, t2, t3⟩
    · subst t1
      rw [t4, lmr, m238, J_add]
      exact ⟨1, _, _, rfl, rfl, FC, fr_t FM (f238 _ _), Or.inl ⟨rfl, ⟨k', by omega, rdS_4 t2 (fr_pI rfl)⟩, ⟨w, wP_c t3 rfl (fun _ => rfl) (fun e he => by rw [rII, if_neg (by unfold kWm at he; omega)])⟩, by rw [rII, if_pos ⟨rfl, rfl⟩]⟩⟩
    · subst t1
      rcases t3 with t3 | t3
      · rw [t3, lmr]
        exact ⟨0, _, _, rfl, rfl, FC, fr_t FM (f238 _ _), Or.inr ⟨rfl, bad_w t2 rfl rfl (fun e => by rw [rII, if_neg (by omega)])⟩⟩
      · rw [t3, lml]
        exact ⟨0, _, _, rfl, rfl, FC, FM, Or.inr ⟨rfl, t2⟩⟩
  · subst u
    have bb : bad C1 (pI (pI M1 4 (84 + 6 * s) (J v)) 4 (78 + s) (J 1)) := bad_w u2 rfl rfl (fun e => fA4.1 0 e (by omega))
    have lb : gX12_senseLine_L95 (J s) FU (pI (pI M1 4 (84 + 6 * s) (J v)) 4 (78 + s) (J 1)) = some (.inr (pI (pI M1 4 (84 + 6 * s) (J v)) 4 (78 + s) (J 1))) := by
      have hf := FUs (n := 2) (by omega)
      obtain ⟨f', hf'⟩ : ∃ f', FU = f' + 1 := ⟨FU - 1, by omega⟩
      rw [hf']
      unfold gX12_senseLine_L95
      simp only [J_0, J_1, J_2, J_3, J_4, J_5, J_6, J_7, J_8, J_9, J_10, J_11, J_12, J_14, J_15, J_16, J_19, J_20, J_21, J_22, J_23, J_24, J_25, J_28, J_30, J_31, J_32, J_40, J_44, J_47, J_48, J_49, J_50, J_53, J_54, J_57, J_59, J_74, J_75, J_78, J_84, J_97, J_99, J_100, J_120, J_122, J_126, J_132, J_138, J_144, J_150, J_156, J_162, J_198, J_200, J_202, J_206, J_210, J_214, J_218, J_222, J_226, J_230, J_234, J_238, J_239, J_240, J_241, J_242, J_243, J_255, J_263, J_283, J_303, J_399, J_400, J_401, J_463, J_700, J_701, J_999, J_1000, J_2048, J_4095, J_4096, J_6000, J_9999, J_10000, J_65536, J_65537, J_2147483647, J_neg]
      rw [bb.1, if_neg (by decide)]
    rw [if_pos rfl, lb, lmr]
    exact ⟨0, _, _, rfl, rfl, w2 a3, fr_t (v2 a4) (fr_t fA (f238 _ _)), Or.inr ⟨rfl, bad_w bb rfl rfl (fun e => by rw [rII, if_neg (by omega)])⟩⟩
/-- the places of a sense's line -/
def fSL (G s q k : Nat) : Prop := fC2 q k ∨ (G + 7 + 31 * s ≤ q ∧ q ≤ G + 11 + 31 * s)
def fSM (s q k : Nat) : Prop := fM2 q k ∨ (q = 4 ∧ (k = 238 ∨ kMt s k ∨ kWm s k))
def tlS (M : zM) (s : Nat) : Option zM := b1 (gX12_stepOf M (J s)) fun S5 => b1 (gX12_senseLine_L28 (J s) FU S5) fun S10 => b1 (gX12_must S10 10005) fun S12 => if gI S12 0 13 = J 0 then tlN S12 s else some S12
def clS (C : zM) (q : Nat) : Option (Int32 × zM) := b2 (gX7_readSteps C q) fun r13 S14 => if r13 = J 0 then some (J 0, S14) else b2 (gX7_takeWord S14 10005) fun r15 S16 => if r15 = J 0 then some (J 0, S16) else b2 (gX7_readNoise S16 q) fun r17 S18 => if r17 = J 0 then some (J 0, S18) else some (J 1, S18)
theorem rd_steps {s : Nat} (h : rdS b n T C M k) (hG : 6 ≤ G) (hs : s < 6) (hP : sP C M (G + 7 + 31 * s) s 0) (h7 : gI C (G + 7 + 31 * s) 7 = J 0) (hz : ∀ j, j < 6 → gI M 4 (84 + 6 * s + j) = J 0) {z : Int} (h238 : gI M 4 238 = J z) : two b n T k (fSL G s) (fSM s) C M (clS C (G + 7 + 31 * s)) (tlS M s) (fun C' M' => (∃ m w, 1 ≤ m ∧ sP C' M' (G + 7 + 31 * s) s m ∧ wP C' M' (G + 7 + 31 * s) s w) ∧ gI M' 4 238 = J (z + 1)) := by
  have hf := FUs (n := 800) (by omega)
  have hT := h.2.1.1
  have w2 : ∀ {A B : zM}, fr fC2 A B → fr (fSL G s) A B := fun f => fr_w f (fun _ _ z => Or.inl z)
  have w3 : ∀ {A B : zM}, fr (fSt (G + 7 + 31 * s)) A B → fr (fSL G s) A B := fun f => fr_w f (fun q k z => by unfold fSt at z; unfold fSL; rcases z with z | z; exact Or.inl z; exact Or.inr (by omega))
  have w4 : ∀ {A B : zM}, fr (fWc (G + 7 + 31 * s)) A B → fr (fSL G s) A B := fun f => fr_w f (fun q k z => by unfold fWc at z; unfold fSL; rcases z with z | z; exact Or.inl z; exact Or.inr (by omega))
  have v2 : ∀ {A B : zM}, fr fM2 A B → fr (fSM s) A B := fun f => fr_w f (fun _ _ z => Or.inl z)
  have v3 : ∀ {A B : zM}, fr (fMt s) A B → fr (fSM s) A B := fun f => fr_w f (fun q k z => by unfold fMt at z; unfold fSM; rcases z with z | z; exact Or.inl z; exact Or.inr ⟨z.1, Or.inr (Or.inl z.2)⟩)
  have v4 : ∀ {A B : zM}, fr (fWn s) A B → fr (fSM s) A B := fun f => fr_w f (fun q k z => by unfold fWn fWm at z; unfold fSM; rcases z with (z | z) | z; exact Or.inl z; exact Or.inr ⟨z.1, Or.inr (Or.inr z.2)⟩; exact Or.inr ⟨z.1, Or.inl z.2⟩)
  unfold clS tlS gX7_readSteps
  simp only [J_0, J_1, J_2, J_3, J_4, J_5, J_6, J_7, J_8, J_9, J_10, J_11, J_12, J_14, J_15, J_16, J_19, J_20, J_21, J_22, J_23, J_24, J_25, J_28, J_30, J_31, J_32, J_40, J_44, J_47, J_48, J_49, J_50, J_53, J_54, J_57, J_59, J_74, J_75, J_78, J_84, J_97, J_99, J_100, J_120, J_122, J_126, J_132, J_138, J_144, J_150, J_156, J_162, J_198, J_200, J_202, J_206, J_210, J_214, J_218, J_222, J_226, J_230, J_234, J_238, J_239, J_240, J_241, J_242, J_243, J_255, J_263, J_283, J_303, J_399, J_400, J_401, J_463, J_700, J_701, J_999, J_1000, J_2048, J_4095, J_4096, J_6000, J_9999, J_10000, J_65536, J_65537, J_2147483647, J_neg]
  obtain ⟨f', hf'⟩ : ∃ f', FU = f' + 1 := ⟨FU - 1, by omega⟩
  obtain ⟨r, C1, M1, a1, a2, a3, a4, a5⟩ := rd_readStep h hP (by omega) hs
  rw [a1, b2s, a2, b1s]
  have bd : ∀ {A : zM}, gI A 0 13 = J 1 → gX12_senseLine_L28 (J s) FU A = some A := fun {A} hA => by rw [hf']; exact m_L28_b hA
  rcases a5 with ⟨u, ⟨k1, u0, u2⟩, u3, u4⟩ | ⟨u, u2⟩
  · subst u
    obtain ⟨r2, C2, M2, d1, d2, d3, d4, d5⟩ := rd_steps_L (q := G + 7 + 31 * s) (s := s) (by omega) hs FU 0 k1 1 C1 M1 (by omega) (by omega) (by omega) u2 u4
    rw [show J 0 = J ((0 : Nat) : Int) from rfl, d1, b2s, d2, b1s, show J ((0 : Nat) : Int) = J 0 from rfl]
    have FC := fr_t (w3 a3) (w3 d3)
    have FM := fr_t (v3 a4) (v3 d4)
    rcases d5 with ⟨y, ⟨k2, y0, y2⟩, m', y3, y4⟩ | ⟨y, y2⟩
    · subst y
      obtain ⟨r3, C3, M3, e1, e2, e3, e4, e5⟩ := rd_must y2 (w := 5) (by decide)
      rw [show (10000 + 5 : Nat) = 10005 from rfl] at e1 e2
      rw [if_neg (by decide), e1, b2s, e2, b1s]
      rcases e5 with ⟨x, ⟨k3, x0, x2⟩, -⟩ | ⟨x, x2⟩
      · subst x
        have s7 : gI C3 (G + 7 + 31 * s) 7 = J 0 := by rw [e3.1 _ 7 (by unfold fC2; omega), d3.1 _ 7 (by unfold fSt fC2; omega), a3.1 _ 7 (by unfold fSt fC2; omega), h7]
        have m238 : gI M3 4 238 = J z := by rw [e4.1 4 238 (by unfold fM2; omega), d4.1 4 238 (by unfold fMt fM2 kMt; omega), a4.1 4 238 (by unfold fMt fM2 kMt; omega), h238]
        obtain ⟨r4, C4, M4, g1, g2, g3, g4, g5⟩ := rd_noise x2 (q := G + 7 + 31 * s) (s := s) (by omega) hs s7 (fun j hj => by rw [e4.1 4 _ (by unfold fM2; omega), d4.1 4 _ (by unfold fMt fM2 kMt; omega), a4.1 4 _ (by unfold fMt fM2 kMt; omega), hz j hj]) m238
        rw [if_neg (by decide), g1, b2s, x2.2.2.2.2.2.2, if_pos rfl, g2]
        have FC4 := fr_t FC (fr_t (w2 e3) (w4 g3))
        have FM4 := fr_t FM (fr_t (v2 e4) (v4 g4))
        rcases g5 with ⟨t, ⟨k4, t0, t2⟩, ⟨w, t3⟩, t4⟩ | ⟨t, t2⟩
        · subst t
          rw [if_neg (by decide)]
          refine ⟨1, _, _, rfl, rfl, FC4, FM4, Or.inl ⟨rfl, ⟨k4, by omega, t2⟩, ⟨m', w, y3, sP_c y4 ?_ (fun a j a1 a2 => ?_) (fun e he => ?_), t3⟩, t4⟩⟩
          · rw [g3.1 _ 6 (by unfold fWc fC2; omega), e3.1 _ 6 (by unfold fC2; omega)]
          · rw [g3.1 a j (by unfold fWc fC2; omega), e3.1 a j (by unfold fC2; omega)]
          · rw [g4.1 4 e (by unfold fWn fWm fM2 kWm; unfold kMt at he; omega), e4.1 4 e (by unfold fM2; omega)]
        · subst t
          rw [if_pos rfl]
          exact ⟨0, _, _, rfl, rfl, FC4, FM4, Or.inr ⟨rfl, t2⟩⟩
      · subst x
        rw [if_pos rfl, x2.1, if_neg (by decide)]
        exact ⟨0, _, _, rfl, rfl, fr_t FC (w2 e3), fr_t FM (v2 e4), Or.inr ⟨rfl, x2⟩⟩
    · subst y
      rw [if_pos rfl, b_must y2.1, b1s, y2.1, if_neg (by decide)]
      exact ⟨0, _, _, rfl, rfl, FC, FM, Or.inr ⟨rfl, y2⟩⟩
  · subst u
    rw [hf', c_L8_0, b2s, if_pos rfl, ← hf', bd u2.1, b1s, b_must u2.1, b1s, u2.1, if_neg (by decide)]
    exact ⟨0, _, _, rfl, rfl, w3 a3, v3 a4, Or.inr ⟨rfl, u2⟩⟩
end
