/-! A new room, settled. -/
theorem oF_e {w w' : Nat → Int} {k : Nat} (h : ∀ i, i < k → w i = w' i) : oF w k = oF w' k := by
  funext i
  unfold oF
  by_cases x : 5 ≤ i
  · rw [if_pos x, if_pos x]
    by_cases y : i < 5 + k
    · rw [if_pos y, if_pos y, h _ (by omega)]
    · rw [if_neg y, if_neg y]
  · rw [if_neg x, if_neg x]
    by_cases y : 5 < i + k
    · rw [if_pos y, if_pos y, h _ (by omega)]
    · rw [if_neg y, if_neg y]
section
variable {C M SC SM : zM} {G s p : Nat}
/-- a sense's line, as the model lays it -/
theorem new_sense {q m w : Nat} {S : zM} (hs : s < 6) (h1 : sP C M q s m) (h2 : wP C M q s w) (hm : ∀ e, e < 463 → gI SM 3 e = gI M 4 e) : (gI SM 3 s = J m) ∧ mLw SM s m (fun j => iI C (q + 1) j) (fun j => iI C (q + 2) j) (fun j => iI C (q + 3) j) ∧ (iI SM 3 (78 + s) = w ∧ gI SM 3 (78 + s) = J w) ∧ (∀ j, j < 6 → 0 ≤ iI SM 3 (84 + 6 * s + j) ∧ iI SM 3 (84 + 6 * s + j) ≤ 9) ∧ 1 ≤ iI SM 3 (84 + 6 * s) ∧ ∀ j, j < w → iI SM 3 (84 + 6 * s + j) = wsC C q j := by
  obtain ⟨a1, a2, a3, a4⟩ := h1
  obtain ⟨b1', b2', b3', b4', b5'⟩ := h2
  have e78 : gI SM 3 (78 + s) = J w := (hm _ (by omega)).trans b3'
  have e84 : ∀ j, j < w → (0 ≤ iI SM 3 (84 + 6 * s + j) ∧ iI SM 3 (84 + 6 * s + j) ≤ 9) ∧ (j = 0 → 1 ≤ iI SM 3 (84 + 6 * s + j)) ∧ iI SM 3 (84 + 6 * s + j) = wsC C q j := fun j hj => by
    obtain ⟨v, g1, g2, g3, g4⟩ := b4' j hj
    have e : iI SM 3 (84 + 6 * s + j) = v := iI_of ((hm _ (by omega)).trans g4) (by omega) (by omega)
    have e' : wsC C q j = v := iI_of g3 (by omega) (by omega)
    rw [e, e']
    exact ⟨g1, g2, rfl⟩
  refine ⟨(hm _ (by omega)).trans a3, ⟨(hm _ (by omega)).trans a3, fun j hj => ?_⟩, ⟨iI_of e78 (by omega) (by omega), e78⟩, fun j hj => ?_, (e84 0 (by omega)).2.1 rfl, fun j hj => (e84 j hj).2.2⟩
  · obtain ⟨g1, g2, g3, g4⟩ := sSt_i (a4 j hj)
    exact ⟨g1, (hm _ (by omega)).trans g2, (hm _ (by omega)).trans g3, fun z => (hm _ (by omega)).trans (g4 z)⟩
  · by_cases z : j < w
    · exact (e84 j z).1
    · have e : iI SM 3 (84 + 6 * s + j) = 0 := iI_of ((hm _ (by omega)).trans (b5' j (by omega) hj)) (by decide) (by decide)
      rw [e]
      decide
theorem fld_v {q a e : Nat} {lo hi : Int} (h : fld C M q a e lo hi) (hl : -2147483648 ≤ lo) (hh : hi ≤ 2147483647) (he : e < 463) (hm : ∀ e, e < 463 → gI SM 3 e = gI M 4 e) (hc : gI SC q a = gI C q a) : (lo ≤ iI SM 3 e ∧ iI SM 3 e ≤ hi) ∧ gI SC q a = gI SM 3 e := by
  obtain ⟨v, h1, h2, h3⟩ := h
  have e3 := (hm e he).trans h3
  rw [iI_of e3 (by omega) (by omega)]
  exact ⟨h1, by rw [hc, h2, e3]⟩
theorem new_sayer {ns : Nat} (hns : ns ≤ 6) (hp : p < 6) (h : yP C M (G + 193 + 2 * p) p ns) (hm : ∀ e, e < 463 → gI SM 3 e = gI M 4 e) (hc : ∀ q j, G + 193 ≤ q → q ≤ G + 212 → gI SC q j = gI C q j) (hn : cnt SM 0 = ns) (h6 : gI SM 6 p = J 0) (h7 : gI SM 7 p = J 0) : rSayer SC SM G p := by
  obtain ⟨y1, y2, y3, y4, y5, y6, ⟨w, w1, w2, w3, w4, w5⟩, y8, y9⟩ := h
  have cq : ∀ j, gI SC (G + 193 + 2 * p) j = gI C (G + 193 + 2 * p) j := fun j => hc _ j (by omega) (by omega)
  have v1 := fld_v (SC := SC) y1 (by omega) (by omega) (by omega) hm (cq 1)
  have v2 := fld_v (SC := SC) y2 (by omega) (by omega) (by omega) hm (cq 2)
  have v3 := fld_v (SC := SC) y3 (by omega) (by omega) (by omega) hm (cq 3)
  have v4 := fld_v (SC := SC) y4 (by omega) (by omega) (by omega) hm (cq 4)
  have v5 := fld_v (SC := SC) y5 (by omega) (by omega) (by omega) hm (cq 5)
  have v6 := fld_v (SC := SC) y6 (by omega) (by omega) (by omega) hm (cq 6)
  have e156 := (hm (156 + p) (by omega)).trans w3
  have i156 : iI SM 3 (156 + p) = w := iI_of e156 (by omega) (by omega)
  refine ⟨⟨by rw [hn]; omega, v2.1, v3.1, v4.1, v5.1, by omega, by omega, fun j hj => ?_⟩, v1.2, v2.2, v3.2, v4.2, v5.2, v6.2, by rw [cq 7, w2, e156], fun j hj => ?_, by rw [cq 8, y8, h6], by rw [cq 9, y9, h7]⟩
  · by_cases z : j < w
    · exact (fld_v (SC := SC) (w4 j z) (by omega) (by omega) (by omega) hm (hc _ j (by omega) (by omega))).1
    · have e : iI SM 3 (162 + 6 * p + j) = 0 := iI_of ((hm _ (by omega)).trans (w5 j (by omega) hj)) (by decide) (by decide)
      rw [e]
      decide
  · exact (fld_v (SC := SC) (w4 j (by omega)) (by omega) (by omega) (by omega) hm (hc _ j (by omega) (by omega))).2
theorem new_plan {l : Nat} (hl : l < 4) (h : lP C M (G + 205 + 1 * l) l) (hm : ∀ e, e < 463 → gI SM 3 e = gI M 4 e) (hc : ∀ q j, G + 193 ≤ q → q ≤ G + 212 → gI SC q j = gI C q j) : rPlan SC SM G l := by
  obtain ⟨w, a, e, d, t, g1, g2, g3, g4, g5, ⟨c0, c1, c2, c3, c4⟩, m0, m1, m2, m3, m4⟩ := h
  have cq : ∀ j, gI SC (G + 205 + 1 * l) j = gI C (G + 205 + 1 * l) j := fun j => hc _ j (by omega) (by omega)
  have e0 := (hm _ (by omega)).trans m0
  have e1 := (hm _ (by omega)).trans m1
  have e2 := (hm _ (by omega)).trans m2
  have e3 := (hm _ (by omega)).trans m3
  have e4 := (hm _ (by omega)).trans m4
  refine ⟨?_, by rw [cq 0, c0, e0], by rw [cq 1, c1, e1], by rw [cq 2, c2, e2], by rw [cq 3, c3, e3], by rw [cq 4, c4, e4]⟩
  rw [iI_of e0 (by omega) (by omega), iI_of e1 (by omega) (by omega), iI_of e2 (by omega) (by omega), iI_of e3 (by omega) (by omega), iI_of e4 (by omega) (by omega)]
  exact ⟨g1, g2, g3, g4, g5⟩
theorem new_pay {l : Nat} (hl : l < 4) (h : aP C M (G + 209 + 1 * l) l) (hm : ∀ e, e < 463 → gI SM 3 e = gI M 4 e) (hc : ∀ q j, G + 193 ≤ q → q ≤ G + 212 → gI SC q j = gI C q j) : rPay SC SM G l := by
  obtain ⟨y0, y1, y2, y3, y4⟩ := h
  have cq : ∀ j, gI SC (G + 209 + 1 * l) j = gI C (G + 209 + 1 * l) j := fun j => hc _ j (by omega) (by omega)
  have v0 := fld_v (SC := SC) y0 (by omega) (by omega) (by omega) hm (cq 0)
  have v1 := fld_v (SC := SC) y1 (by omega) (by omega) (by omega) hm (cq 1)
  have v2 := fld_v (SC := SC) y2 (by omega) (by omega) (by omega) hm (cq 2)
  have v3 := fld_v (SC := SC) y3 (by omega) (by omega) (by omega) hm (cq 3)
  have v4 := fld_v (SC := SC) y4 (by omega) (by omega) (by omega) hm (cq 4)
  exact ⟨⟨v0.1, v1.1, v2.1, v3.1, v4.1⟩, v0.2, v1.2, v2.2, v3.2, v4.2⟩
/-- both settle what they have read -/
theorem rd_settle {H ns np nl ny : Nat} (hG : G = 6 ∨ G = 243) (hH : H = 249 - G) (hR8 : gR C 0 8 = H) (hR6 : gR C 2 6 = G) (hB : bld C M G ns np nl ny) : ∃ S1 SM', gX3_settle (pR (pR C 0 8 G) 2 6 H) G = some S1 ∧ mFin M = some (J ns, SM') ∧ fr (fun q k => fLv G q ∨ (q = 0 ∧ k = 8) ∨ (q = 2 ∧ k = 6)) C S1 ∧ fr (fun q k => q = 3 ∨ q = 5 ∨ q = 6 ∨ q = 7 ∨ (q = 0 ∧ (k = 14 ∨ k = 20 ∨ k = 21))) M SM' ∧ (∀ p, p < 6 → gI SM' 6 p = J 0 ∧ gI SM' 7 p = J 0) ∧ gI SM' 0 14 = J 1 ∧ gI SM' 0 20 = J 0 ∧ gI SM' 0 21 = J 0 ∧ rHall S1 SM' G := by
  have hf := FUs (n := 2000) (by omega)
  obtain ⟨⟨⟨n1, n2, n3, n4⟩, ⟨c6, c7, c8, c9⟩, m238, m239, m240, m241⟩, hI, -, -⟩ := hB
  generalize hC7 : pR (pR C 0 8 G) 2 6 H = C7
  have i7 : ∀ q k, gI C7 q k = gI C q k := fun q k => by rw [← hC7, rIR, rIR]
  have f7 : fr (fun q k => (q = 0 ∧ k = 8) ∨ (q = 2 ∧ k = 6)) C C7 := by rw [← hC7]; exact fr_t (fr_pR (by omega)) (fr_pR (by omega))
  obtain ⟨o1, o2, o3, o4⟩ := bIt_c hI (C' := C7) (M' := M) (fun q j _ => i7 q j) (fun _ _ => rfl)
  obtain ⟨S1, s1, s2, s3⟩ := c_settleA (C := C7) (M := M) (H := G) n1 ((i7 G 6).trans c6) (fun s hs => by
    obtain ⟨m, w, -, g2, g3⟩ := o1 s hs
    exact ⟨m, w, g2, g3⟩)
  obtain ⟨M6, l1, l2, l3⟩ := m_L170 (M := M) FU 0 M (by omega) (by omega) fr_r (fun x hx => absurd hx (by omega))
  obtain ⟨M7, k1, k2, k3⟩ := m_L212 (M := pI (pI (pI M6 0 14 (J 1)) 0 20 (J 0)) 0 21 (J 0)) FU 0 _ (by omega) (by omega) fr_r (fun x hx => absurd hx (by omega))
  have m7 : ∀ e, e < 463 → gI M7 3 e = gI M 4 e := fun e he => by rw [k2.1 3 e (by omega), rII, if_neg (by omega), rII, if_neg (by omega), rII, if_neg (by omega), l3 e he]
  have law : ∀ s, s < ns → ∃ m w, sP C7 M (G + 7 + 31 * s) s m ∧ wP C7 M (G + 7 + 31 * s) s w ∧ stl C7 S1 (G + 7 + 31 * s) m w ∧ (iI C7 (G + 7 + 31 * s) 6).toNat = m := fun s hs => by
    obtain ⟨m, w, g1, g2, g3⟩ := s3 s hs
    have : iI C7 (G + 7 + 31 * s) 6 = m := iI_of g1.2.1 (by have := g1.1; omega) (by have := g1.1; omega)
    exact ⟨m, w, g1, g2, g3, by omega⟩
  obtain ⟨SM', d1, d2, d3⟩ := m_L240 (M := M7) (ns := ns) (L := fun s x => lvC C7 (G + 7 + 31 * s) (iI C7 (G + 7 + 31 * s) 6).toNat x) n1 ((m7 238 (by omega)).trans m238) (fun s hs S fS x hx => by
    obtain ⟨m, w, g1, g2, g3, g4⟩ := law s hs
    have := new_sense (SM := M7) (S := S) (by omega) g1 g2 m7
    obtain ⟨h1, h2⟩ := this.2.1
    show gX12_reckoned S (J s) (J x) = some (J (lvC C7 (G + 7 + 31 * s) (iI C7 (G + 7 + 31 * s) 6).toNat x))
    rw [g4]
    exact m_reckoned (by omega) g1.1 ⟨(fS.1 3 s (by omega)).trans h1, fun j hj => by
      obtain ⟨e1, e2, e3, e4⟩ := h2 j hj
      exact ⟨e1, (fS.1 3 _ (by omega)).trans e2, (fS.1 3 _ (by omega)).trans e3, fun z => (fS.1 3 _ (by omega)).trans (e4 z)⟩⟩ (by omega)) FU 0 M7 (by omega) (by omega) fr_r (fun s hs => absurd hs (by omega))
  rw [show J ((0 : Nat) : Int) = J 0 from rfl] at l1 k1 d1
  have FM : fr (fun q k => q = 3 ∨ q = 5 ∨ q = 6 ∨ q = 7 ∨ (q = 0 ∧ (k = 14 ∨ k = 20 ∨ k = 21))) M SM' := fr_t (fr_w l2 (fun q k z => by omega)) (fr_t (fr_t (fr_t (fr_pI (by omega)) (fr_pI (by omega))) (fr_pI (by omega))) (fr_t (fr_w k2 (fun q k z => by omega)) (fr_w d2 (fun q k z => by omega))))
  have mm : ∀ e, e < 463 → gI SM' 3 e = gI M 4 e := fun e he => (d2.1 3 e (by omega)).trans (m7 e he)
  have z67 : ∀ p, p < 6 → gI SM' 6 p = J 0 ∧ gI SM' 7 p = J 0 := fun p hp => ⟨(d2.1 6 p (by omega)).trans (k3 p hp).1, (d2.1 7 p (by omega)).trans (k3 p hp).2⟩
  have e14 : gI SM' 0 14 = J 1 := by rw [d2.1 0 14 (by omega), k2.1 0 14 (by omega), rII, if_neg (by omega), rII, if_neg (by omega), rII, if_pos ⟨rfl, rfl⟩]
  have e20 : gI SM' 0 20 = J 0 := by rw [d2.1 0 20 (by omega), k2.1 0 20 (by omega), rII, if_neg (by omega), rII, if_pos ⟨rfl, rfl⟩]
  have e21 : gI SM' 0 21 = J 0 := by rw [d2.1 0 21 (by omega), k2.1 0 21 (by omega), rII, if_pos ⟨rfl, rfl⟩]
  have cn : ∀ i v : Nat, v ≤ 6 → i < 4 → gI M 4 (238 + i) = J v → cnt SM' i = v := fun i v hv hi e => by
    unfold cnt
    rw [if_neg (by rw [e14]; decide)]
    exact iI_of ((mm _ (by omega)).trans e) (by omega) (by omega)
  have cn0 := cn 0 ns n1 (by omega) m238
  have cn1 := cn 1 np n2 (by omega) m239
  have cn2 := cn 2 nl (by omega) (by omega) m240
  have cn3 := cn 3 ny (by omega) (by omega) m241
  have cs : ∀ q j, ¬ fLv G q → gI S1 q j = gI C7 q j := fun q j z => s2.1 q j z
  refine ⟨S1, SM', s1, ?_, fr_t (fr_w f7 (fun q k z => Or.inr z)) (fr_w s2 (fun q k z => Or.inl z)), FM, z67, e14, e20, e21, ⟨hG, ?_, ?_⟩, ⟨by rw [cn0]; omega, by rw [cn1]; omega, by rw [cn2]; omega, by rw [cn3]; omega⟩, ⟨?_, ?_, ?_, ?_⟩, fun s hs => ?_, fun p hp => ?_, fun l hl => ?_, fun l hl => ?_⟩
  · unfold mFin
    rw [l1, b1s, k1, b1s, d1]
  · rw [s2.2.2 0 8 (by unfold fLv; omega), ← hC7, rRR, if_neg (by omega), rRR, if_pos ⟨rfl, rfl⟩]
  · rw [s2.2.2 2 6 (by unfold fLv; omega), ← hC7, rRR, if_pos ⟨rfl, rfl⟩, hH]
  · rw [cs G 6 (by unfold fLv; omega), i7, c6, cn0]
  · rw [cs G 7 (by unfold fLv; omega), i7, c7, cn1]
  · rw [cs G 8 (by unfold fLv; omega), i7, c8, cn2]
  · rw [cs G 9 (by unfold fLv; omega), i7, c9, cn3]
  · have hs' : s < ns := by omega
    obtain ⟨m, w, g1, g2, ⟨g3, g3'⟩, g4⟩ := law s hs'
    obtain ⟨t1, t2, ⟨t3, t3'⟩, t4, t5, t6⟩ := new_sense (SM := SM') (S := SM') (by omega) g1 g2 mm
    have lv : ∀ x : Nat, x < 401 → gI SM' 5 (401 * s + x) = J (lvC C7 (G + 7 + 31 * s) m x) := fun x hx => by
      have := d3 s hs' x hx
      rw [← g4]
      exact this
    have lb : ∀ x : Nat, x < 401 → 0 ≤ lvC C7 (G + 7 + 31 * s) m x ∧ lvC C7 (G + 7 + 31 * s) m x ≤ 9999 := fun x hx => lvF_b (m := m) (fun j hj => (sSt_i (g1.2.2.2 j hj)).1) (by omega) m (Nat.le_refl m)
    refine ⟨⟨by rw [t3]; have := g2.1; omega, t5, t4, fun x hx => ?_⟩, ?_, fun x hx => ?_, fun j hj => ?_⟩
    · rw [iI_of (lv x hx) (by have := lb x hx; omega) (by have := lb x hx; omega)]
      exact lb x hx
    · rw [cs _ 7 (by unfold fLv; omega), g2.2.1, t3']
    · rw [g3 x hx, lv x hx]
    · rw [t3] at hj
      have := g3' j (by omega)
      have e : mN SM' s (j + 1) = oF (wsC C7 (G + 7 + 31 * s)) (j + 1) := by
        have e1 : mN SM' s (j + 1) = oF (fun i => iI SM' 3 (84 + 6 * s + i)) (j + 1) := rfl
        rw [e1]
        exact oF_e (fun i hi => t6 i (by omega))
      rw [e]
      exact this
  · exact new_sayer n1 (by omega) (o2 p (by omega)) mm (fun q j h1 h2 => cs q j (by unfold fLv; omega)) cn0 (z67 p (by omega)).1 (z67 p (by omega)).2
  · exact new_plan (by omega) (o3 l (by omega)) mm (fun q j h1 h2 => cs q j (by unfold fLv; omega))
  · exact new_pay (by omega) (o4 l (by omega)) mm (fun q j h1 h2 => cs q j (by unfold fLv; omega))
end
