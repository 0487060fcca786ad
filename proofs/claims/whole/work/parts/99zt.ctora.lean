/-! places in lists of cells -/
theorem zws_len {w : zWd} {μ : Nat → Nat} {cA : Nat → ClassId} {S : zM} : (zws w μ cA S).length = w.1 := by simp [zws]
theorem zlen_a {A B : va_W} {n m k : Nat} (h : A.length = n) (h2 : B.length = m) (h3 : n + m = k) : (A ++ B).length = k := by
  rw [List.length_append, h, h2, h3]
theorem zlook {A T : va_W} {w : zWd} {μ : Nat → Nat} {cA : Nat → ClassId} {S : zM} {n : Nat} {x : va_E} (e : T = A ++ zws w μ cA S) (h : A.length = n) (h0 : 0 < w.1) (hx : zen μ cA S 0 (w.2 0) = x) : T[n]? = some (μ 0, x) := by
  rw [e, List.getElem?_append_right (by omega), h, Nat.sub_self, zws_at h0, hx]
theorem zass {F T T' B : va_W} (h : T' = T ++ B) : (F ++ T) ++ B = F ++ T' := by rw [h, List.append_assoc]
theorem zfront {F T : va_W} {n m : Nat} {x : Option (Nat × va_E)} (hm : F.length + n = m) (h : T[n]? = x) : (F ++ T)[m]? = x := by
  rw [← hm, List.getElem?_append_right (by omega), Nat.add_sub_cancel_left, h]
theorem zsum_s {n i : Nat} {f : Nat → Nat} {t : List (Nat × (Nat → Nat))} : zsum ((n, f) :: t) (i + 1) = n + zsum t i := rfl
theorem zsum_0 {a : Nat × (Nat → Nat)} {t : List (Nat × (Nat → Nat))} : zsum (a :: t) 0 = 0 := rfl
