/-! The model lays its cells: all rows. -/
def flN (fl N : Int) : Int := if fl = 0 then 0 else if 40 < N then 0 else 1
section
variable {B S : zM} {i m d : Nat} {p fl : Int}
theorem m_cntN (h : rLq B S p i m (i + 1)) (hd : d < m) (hk : lkey S d B i) (h8 : iI B 8 i = p) (h9 : iI B 9 i ≤ 1) {a : Nat} (h13 : iI B 13 i = a) (ha : a < 3) : gI (cntS S d a) 23 d = J (nK B (i + 1) p (iI B 9 i) (iI B 10 i) (iI B 11 i)) := by
  obtain ⟨q1, q2⟩ := m_cnt h hd hk h8 h9 h13 ha
  rw [(q1.2.2.2.2.2 d hd).1, iI_c q2.1, iI_c q2.2.1, iI_c q2.2.2]
theorem m_J200 (h : rLq B S p i m (i + 1)) (hi : i < 1000) (hd : d < m) (hd2 : d < 1000) (hk : lkey S d B i) (h8 : iI B 8 i = p) (h9 : iI B 9 i ≤ 1) {a : Nat} (h13 : iI B 13 i = a) (ha : a < 3) (hf : fl = 0 ∨ fl = 1) (e13 : gI S 13 i = gI B 13 i) : gX12_lays_J200 S (J p) (J fl) (J i) (J d) = some (.inr (J (flN fl (nK B (i + 1) p (iI B 9 i) (iI B 10 i) (iI B 11 i))), J ((i + 1 : Nat) : Int), cntS S d a)) := by
  have x1 : ixb (J (i : Int)) 1000 = true := ixb_J (by omega) (by omega) (by decide)
  have y1 : ix (J (i : Int)) = i := by rw [ix_J (by omega) (by omega)]; omega
  have x2 : ixb (J (d : Int)) 1000 = true := ixb_J (by omega) (by omega) (by decide)
  have y2 : ix (J (d : Int)) = d := by rw [ix_J (by omega) (by omega)]; omega
  have x3 : ixb (J (3 * (d : Int) + a)) 3000 = true := ixb_J (by omega) (by omega) (by decide)
  have y3 : ix (J (3 * (d : Int) + a)) = 3 * d + a := by rw [ix_J (by omega) (by omega)]; omega
  have w13 : ∀ v, gI (pI S 23 d v) 13 i = J a := fun v => by rw [rII, if_neg (fun w => absurd w.1 (by decide)), e13, gI_J, h13]
  have w24 : ∀ v, gI (pI S 23 d v) 24 (3 * d + a) = gI S 24 (3 * d + a) := fun v => by rw [rII, if_neg (fun w => absurd w.1 (by decide))]
  have hN := m_cntN h hd hk h8 h9 h13 ha
  have bN := nK_bd (S := B) (n := i + 1) (p := p) (k := iI B 9 i) (a := iI B 10 i) (b := iI B 11 i)
  unfold gX12_lays_J200
  simp only [J_0, J_1, J_2, J_3, J_4, J_5, J_6, J_7, J_8, J_9, J_10, J_11, J_12, J_14, J_15, J_16, J_19, J_20, J_21, J_22, J_23, J_24, J_25, J_28, J_30, J_31, J_32, J_40, J_44, J_47, J_48, J_49, J_50, J_53, J_54, J_57, J_59, J_74, J_75, J_78, J_84, J_97, J_99, J_100, J_120, J_122, J_126, J_132, J_138, J_144, J_150, J_156, J_162, J_198, J_200, J_202, J_206, J_210, J_214, J_218, J_222, J_226, J_230, J_234, J_238, J_239, J_240, J_241, J_242, J_243, J_255, J_263, J_283, J_303, J_399, J_400, J_401, J_463, J_700, J_701, J_999, J_1000, J_2048, J_4095, J_4096, J_6000, J_9999, J_10000, J_65536, J_65537, J_2147483647, J_neg, x1, y1, x2, y2, w13, J_neg, J_add, J_sub, J_mul, x3, y3, w24, ckt, b1s, b2s, lts, un2s, un3s, un4s, un5s, lmr, lml, lgr, lgl]
  rw [show pI (pI S 23 d (gI S 23 d + J 1)) 24 (3 * d + a) (gI S 24 (3 * d + a) + J 1) = cntS S d a from rfl, hN, show (i : Int) + 1 = ((i + 1 : Nat) : Int) by omega, iEQ (by omega) (by omega) (by decide) (by decide), iLT (by decide) (by decide) (by omega) (by omega)]
  unfold flN
  by_cases z : fl = 0
  · rw [if_pos z, if_pos z]
  · rw [if_neg z, if_neg z]
    by_cases y : 40 < nK B (i + 1) p (iI B 9 i) (iI B 10 i) (iI B 11 i)
    · rw [if_pos y, if_pos y]
    · rw [if_neg y, if_neg y]
theorem fr_cnt2 {a : Nat} : fr fLy S (cntS S d a) := fr_t (fr_pI (Or.inr ⟨by decide, by decide⟩)) (fr_pI (Or.inr ⟨by decide, by decide⟩))
theorem m_lays_L (hb : bkn B ≤ 1000) (h21 : gI B 0 21 = J (bkn B)) (hrow : ∀ i, i < bkn B → mRow B i) (hp : 0 ≤ p ∧ p < 6) : ∀ (n i m : Nat) (S : zM) (fl : Int), i ≤ bkn B → bkn B < n + i → fr fLy B S → rLq B S p i m i → flP B p i fl → ∃ (r : Int) (S' : zM) (m' : Nat), gX12_lays_L9 (J p) n S (J fl) (J i) = some (J r, S') ∧ fr fLy B S' ∧ rLq B S' p (bkn B) m' (bkn B) ∧ flP B p (bkn B) r := by
  intro n
  induction n with
  | zero => intro i m S fl g1 g2; omega
  | succ n ih =>
    intro i m S fl g1 g2 f h hfl
    have c : ∀ q k, 1 ≤ q → q ≤ 13 → gI S q k = gI B q k := fun q k q1 q2 => f.1 q k (by unfold fLy; omega)
    unfold gX12_lays_L9
    simp only [J_0, J_1, J_2, J_3, J_4, J_5, J_6, J_7, J_8, J_9, J_10, J_11, J_12, J_14, J_15, J_16, J_19, J_20, J_21, J_22, J_23, J_24, J_25, J_28, J_30, J_31, J_32, J_40, J_44, J_47, J_48, J_49, J_50, J_53, J_54, J_57, J_59, J_74, J_75, J_78, J_84, J_97, J_99, J_100, J_120, J_122, J_126, J_132, J_138, J_144, J_150, J_156, J_162, J_198, J_200, J_202, J_206, J_210, J_214, J_218, J_222, J_226, J_230, J_234, J_238, J_239, J_240, J_241, J_242, J_243, J_255, J_263, J_283, J_303, J_399, J_400, J_401, J_463, J_700, J_701, J_999, J_1000, J_2048, J_4095, J_4096, J_6000, J_9999, J_10000, J_65536, J_65537, J_2147483647, J_neg]
    rw [f.1 0 21 (by unfold fLy; omega), h21, iLE (by omega) (by omega) (by omega) (by omega)]
    by_cases e : i = bkn B
    · subst e
      rw [if_pos (by omega), show isB (J fl) = true by rcases hfl.1 with z | z <;> rw [z] <;> decide, ckt]
      exact ⟨fl, S, m, rfl, f, h, hfl⟩
    · have x1 : ixb (J (i : Int)) 1000 = true := ixb_J (by omega) (by omega) (by decide)
      have y1 : ix (J (i : Int)) = i := by rw [ix_J (by omega) (by omega)]; omega
      have ro := hrow i (by omega)
      obtain ⟨m8, m9, m10, m11, m12, m13, m13', -⟩ := ro
      rw [if_neg (by omega), x1, ckt, y1, c 8 i (by decide) (by decide), c 9 i (by decide) (by decide), gI_J B 8, gI_J B 9, iEQ (by omega) (by omega) (by omega) (by omega), iLE (by omega) (by omega) (by decide) (by decide), J_add, show (i : Int) + 1 = ((i + 1 : Nat) : Int) by omega]
      have skip : ¬ (iI B 8 i = p ∧ iI B 9 i ≤ 1) → ∃ (r : Int) (S' : zM) (m' : Nat), gX12_lays_L9 (J p) n S (J fl) (J ((i + 1 : Nat) : Int)) = some (J r, S') ∧ fr fLy B S' ∧ rLq B S' p (bkn B) m' (bkn B) ∧ flP B p (bkn B) r := fun no => ih (i + 1) m S fl (by omega) (by omega) f (m_skip h no) (fl_skip hfl no)
      by_cases z : iI B 8 i = p
      · rw [if_pos z, ckt]
        by_cases w : iI B 9 i ≤ 1
        · rw [if_pos w]
          obtain ⟨h1, h2, -⟩ := id h
          obtain ⟨a, ha⟩ : ∃ a : Nat, iI B 13 i = a := ⟨(iI B 13 i).toNat, by omega⟩
          have ha3 : a < 3 := by have := m13' w; omega
          obtain ⟨d, -, d2, d3, d4, d5⟩ := m_find_L (S := S) (v1 := J p) (v2 := J fl) (i := i) h1 (by omega) (by omega) FU 0 (Nat.zero_le m) (by have := FUs (n := 1002) (by omega); omega)
          rw [show J ((0 : Nat) : Int) = J 0 from rfl] at d3
          have lk : ∀ e, lkey S e S i ↔ lkey S e B i := fun e => by
            unfold lkey
            rw [c 9 i (by decide) (by decide), c 10 i (by decide) (by decide), c 11 i (by decide) (by decide)]
          have x2 : d < 1000 → ixb (J (d : Int)) 1000 = true := fun _ => ixb_J (by omega) (by omega) (by decide)
          have y2 : ix (J (d : Int)) = d := by rw [ix_J (by omega) (by omega)]; omega
          have go : ∀ S1 m1, fr fLy B S1 → rLq B S1 p i m1 (i + 1) → d < m1 → lkey S1 d B i → ∃ (r : Int) (S' : zM) (m' : Nat), gX12_lays_L9 (J p) n (cntS S1 d a) (J (flN fl (nK B (i + 1) p (iI B 9 i) (iI B 10 i) (iI B 11 i)))) (J ((i + 1 : Nat) : Int)) = some (J r, S') ∧ fr fLy B S' ∧ rLq B S' p (bkn B) m' (bkn B) ∧ flP B p (bkn B) r := fun S1 m1 f1 h1 hd hk => ih (i + 1) m1 (cntS S1 d a) _ (by omega) (by omega) (fr_t f1 fr_cnt2) (m_cnt h1 hd hk z w ha ha3).1 (fl_cnt hfl z w)
          rw [d3, b1s, h1, iEQ (by omega) (by omega) (by omega) (by omega), x2 (by omega), ckt]
          by_cases y : d = m
          · subst y
            have c2 : ∀ v, gI (pI S 20 d v) 10 i = gI B 10 i := fun v => by rw [rII, if_neg (fun w => absurd w.1 (by decide)), c 10 i (by decide) (by decide)]
            have c3 : ∀ v v', gI (pI (pI S 20 d v) 21 d v') 11 i = gI B 11 i := fun v v' => by rw [rII, if_neg (fun w => absurd w.1 (by decide)), rII, if_neg (fun w => absurd w.1 (by decide)), c 11 i (by decide) (by decide)]
            rw [if_pos rfl]
            simp only [y2, c2, ckt, b1s, b2s, lts, un2s, un3s, un4s, un5s, lmr, lml, lgr, lgl, c3, c 9 i (by decide) (by decide)]
            have k20 : ∀ q e, gI (pI (pI (pI (pI S 20 d (J (iI B 9 i))) 21 d (gI B 10 i)) 22 d (gI B 11 i)) 23 d (J 0)) q e = if e = d ∧ 20 ≤ q ∧ q ≤ 23 then (if q = 20 then J (iI B 9 i) else if q = 21 then gI B 10 i else if q = 22 then gI B 11 i else J 0) else gI S q e := fun q e => by
              rw [rII, rII, rII, rII]
              by_cases q1 : e = d
              · by_cases q2 : 20 ≤ q ∧ q ≤ 23
                · rw [if_pos (show e = d ∧ 20 ≤ q ∧ q ≤ 23 from ⟨q1, q2⟩)]
                  have : q = 20 ∨ q = 21 ∨ q = 22 ∨ q = 23 := by omega
                  rcases this with z | z | z | z <;> subst z <;> simp [q1]
                · rw [if_neg (show ¬ (e = d ∧ 20 ≤ q ∧ q ≤ 23) from fun w => q2 w.2), if_neg (show ¬ (q = 23 ∧ e = d) by omega), if_neg (show ¬ (q = 22 ∧ e = d) by omega), if_neg (show ¬ (q = 21 ∧ e = d) by omega), if_neg (show ¬ (q = 20 ∧ e = d) by omega)]
              · rw [if_neg (show ¬ (e = d ∧ 20 ≤ q ∧ q ≤ 23) from fun w => q1 w.1), if_neg (show ¬ (q = 23 ∧ e = d) by omega), if_neg (show ¬ (q = 22 ∧ e = d) by omega), if_neg (show ¬ (q = 21 ∧ e = d) by omega), if_neg (show ¬ (q = 20 ∧ e = d) by omega)]
            obtain ⟨S1, s1, s2, s3⟩ := m_lay0_L (v1 := J p) (v2 := J fl) (v3 := J (i : Int)) (d := d) (by omega) FU 0 (pI (pI (pI (pI S 20 d (J (iI B 9 i))) 21 d (gI B 10 i)) 22 d (gI B 11 i)) 23 d (J 0)) _ (by omega) (by have := FUs (n := 10) (by omega); omega) fr_r (fun j hj => by omega)
            rw [show J ((0 : Nat) : Int) = J 0 from rfl] at s1
            rw [s1, b1s]
            have o1 : gI S1 0 34 = J d := by rw [s2.1 0 34 (by omega), k20, if_neg (by omega), h1]
            have f0 : fr fLy S (pI (pI (pI (pI S 20 d (J (iI B 9 i))) 21 d (gI B 10 i)) 22 d (gI B 11 i)) 23 d (J 0)) := fr_t (fr_t (fr_t (fr_pI (Or.inr ⟨by decide, by decide⟩)) (fr_pI (Or.inr ⟨by decide, by decide⟩))) (fr_pI (Or.inr ⟨by decide, by decide⟩))) (fr_pI (Or.inr ⟨by decide, by decide⟩))
            have o : ∀ q e, ¬ q = 0 → gI (pI S1 0 34 (J (d : Int) + J 1)) q e = gI S1 q e := fun q e hq => by rw [rII, if_neg (fun w => hq w.1)]
            have kk : ∀ q e, ¬ q = 0 → ¬ q = 24 → gI (pI S1 0 34 (J (d : Int) + J 1)) q e = if e = d ∧ 20 ≤ q ∧ q ≤ 23 then (if q = 20 then J (iI B 9 i) else if q = 21 then gI B 10 i else if q = 22 then gI B 11 i else J 0) else gI S q e := fun q e h0 h24 => by rw [o q e h0, s2.1 q e (by omega), k20]
            have f2 : fr fLy B (pI S1 0 34 (J (d : Int) + J 1)) := fr_t (fr_t (fr_t f f0) (fr_w s2 (fun q k v => Or.inr (by omega)))) (fr_pI (Or.inl ⟨rfl, rfl⟩))
            have lkn : lkey (pI S1 0 34 (J (d : Int) + J 1)) d B i := by
              refine ⟨?_, ?_, ?_⟩
              · rw [kk 20 d (by decide) (by decide), if_pos ⟨rfl, by decide, by decide⟩, if_pos rfl, ← gI_J]
              · rw [kk 21 d (by decide) (by decide), if_pos ⟨rfl, by decide, by decide⟩, if_neg (by decide), if_pos rfl]
              · rw [kk 22 d (by decide) (by decide), if_pos ⟨rfl, by decide, by decide⟩, if_neg (by decide), if_neg (by decide), if_pos rfl]
            have hn : rLq B (pI S1 0 34 (J (d : Int) + J 1)) p i (d + 1) (i + 1) := by
              refine m_newc h (fun k hk v => d5 k (Nat.zero_le k) hk ((lk k).mpr v)) z w (by rw [rII, if_pos ⟨rfl, rfl⟩, J_add]; congr 1) lkn (fun e he => ⟨?_, ?_, ?_, ?_, fun b hb => ?_⟩) ?_ (fun b hb => ?_)
              · rw [kk 20 e (by decide) (by decide), if_neg (by omega)]
              · rw [kk 21 e (by decide) (by decide), if_neg (by omega)]
              · rw [kk 22 e (by decide) (by decide), if_neg (by omega)]
              · rw [kk 23 e (by decide) (by decide), if_neg (by omega)]
              · rw [o 24 _ (by decide), s2.1 24 _ (by omega), k20, if_neg (by omega)]
              · rw [kk 23 d (by decide) (by decide), if_pos ⟨rfl, by decide, by decide⟩, if_neg (by decide), if_neg (by decide), if_neg (by decide)]
              · rw [o 24 _ (by decide), s3 b hb]
            rw [o1, m_J200 hn (by omega) (by omega) (by omega) lkn z w ha ha3 hfl.1 (by rw [kk 13 i (by decide) (by decide), if_neg (by omega), c 13 i (by decide) (by decide)]), lmr, un3s]
            exact go _ (d + 1) f2 hn (by omega) lkn
          · have hd : d < m := by omega
            have hk := (lk d).mp (d4 hd)
            have hq : rLq B S p i m (i + 1) := by
              obtain ⟨a1, a2, a3, a4⟩ := h
              exact ⟨a1, by omega, fun d hd => (a3 d hd).elim fun j q => ⟨j, by omega, q.2⟩, a4⟩
            have x3 : ixb (J (3 * (d : Int) + a)) 3000 = true := ixb_J (by omega) (by omega) (by decide)
            have y3 : ix (J (3 * (d : Int) + a)) = 3 * d + a := by rw [ix_J (by omega) (by omega)]; omega
            have w13 : ∀ v, gI (pI S 23 d v) 13 i = J a := fun v => by rw [rII, if_neg (fun w => absurd w.1 (by decide)), c 13 i (by decide) (by decide), gI_J, ha]
            have w24 : ∀ v, gI (pI S 23 d v) 24 (3 * d + a) = gI S 24 (3 * d + a) := fun v => by rw [rII, if_neg (fun w => absurd w.1 (by decide))]
            have hN := m_cntN hq hd hk z w ha ha3
            have bN := nK_bd (S := B) (n := i + 1) (p := p) (k := iI B 9 i) (a := iI B 10 i) (b := iI B 11 i)
            rw [if_neg (by omega)]
            simp only [y2, w13, J_mul, J_add, x3, y3, w24, ckt, b1s, b2s, lts, un2s, un3s, un4s, un5s, lmr, lml, lgr, lgl]
            rw [show pI (pI S 23 d (gI S 23 d + J 1)) 24 (3 * d + a) (gI S 24 (3 * d + a) + J 1) = cntS S d a from rfl, hN, iEQ (by have := hfl.1; omega) (by have := hfl.1; omega) (by decide) (by decide), iLT (by decide) (by decide) (by omega) (by omega)]
            have g := go S m f hq hd hk
            unfold flN at g
            by_cases v : fl = 0
            · rw [if_pos v] at g ⊢
              exact g
            · rw [if_neg v] at g ⊢
              by_cases y : 40 < nK B (i + 1) p (iI B 9 i) (iI B 10 i) (iI B 11 i)
              · rw [if_pos y] at g ⊢
                exact g
              · rw [if_neg y] at g ⊢
                exact g
        · rw [if_neg w]
          exact skip (fun v => w v.2)
      · rw [if_neg z]
        exact skip (fun v => z v.1)
end
