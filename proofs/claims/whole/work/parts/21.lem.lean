section ARL
variable {fi : am_I} {fl : am_L} {own : Nat → Nat} {g : am_G} {q w k : Nat} {x y : Int32}
theorem up2_ap {α : Type} (f : Nat → Nat → α) (a k q j : Nat) (x : α) : up2 f a k x q j = if q = a ∧ j = k then x else f q j := rfl
theorem RK.put (h : RK fi) (hw : w < 4) (hx : 0 ≤ x.toInt ∧ x.toInt ≤ 99) (hx2 : w < 3 → x.toInt ≤ 9) : RK (up2 (up2 fi 3 w x) 38 w x) := by
  intro j hj
  have := h j hj
  by_cases e : j = w
  · subst e
    simp [up2_ap]
    exact ⟨hx, hx2⟩
  · simpa [up2_ap, e] using this
theorem RX.put (h : RX fi) (hw : (w : Int) = (fi 31 11).toInt) (hx : 0 ≤ x.toInt ∧ x.toInt ≤ 127) {y : Int32} (hy : y.toInt = (w : Int) + 1) {fi2 : am_I} (e0 : fi2 31 11 = y) (e1 : ∀ j, fi2 18 j = if j = w then x else fi 18 j) (e2 : ∀ j, fi2 39 j = if j = w then x else fi 39 j) : RX fi2 := by
  intro j hj
  rw [e0, hy] at hj
  rw [e1, e2]
  by_cases e : j = w
  · simp [e, hx]
  · simp only [e, if_false]
    exact h j (by omega)
theorem RV.seen (h : RV fi) {n a b c y : Int32} (hb : 0 ≤ b.toInt ∧ b.toInt < (fi 31 0).toInt) (hn : 0 ≤ n.toInt ∧ n.toInt ≤ 30) (hw : (w : Int) = (fi 31 40).toInt) (hy : y.toInt = (w : Int) + 1) {fi2 : am_I} (e0 : fi2 31 40 = y) (e01 : fi2 31 0 = fi 31 0) (e02 : fi2 31 44 = fi 31 44) (e1 : ∀ j, fi2 4 j = if j = w then b else fi 4 j) (e2 : ∀ j, fi2 5 j = if j = w then n else fi 5 j) (e3 : ∀ j, fi2 6 j = if j = w then c else fi 6 j) (e4 : ∀ j, fi2 50 j = if j = w then b else fi 50 j) (e5 : ∀ j, fi2 51 j = if j = w then n else fi 51 j) (e6 : ∀ j, fi2 52 j = if j = w then c else fi 52 j) (e7 : fi2 7 = fi 7) (e8 : fi2 8 = fi 8) (e9 : fi2 53 = fi 53) (e10 : fi2 54 = fi 54) : RV fi2 := by
  obtain ⟨h1, h2, h3⟩ := h
  refine ⟨fun j hj => ?_, ?_, ?_⟩
  · rw [e0, hy] at hj
    rw [e1, e2, e3, e4, e5, e6, e01]
    by_cases e : j = w
    · simp [e, hb, hn]
    · simp only [e, if_false]
      exact h1 j (by omega)
  · rw [e02, e7, e8, e9, e10, e01]
    exact h2
  · rw [e8, e10]
    exact h3
theorem RV.book (h : RV fi) {b t y : Int32} (hb : 0 ≤ b.toInt ∧ b.toInt < (fi 31 0).toInt) (ht : am_bit t = true) (hw : (w : Int) = (fi 31 44).toInt) (hy : y.toInt = (w : Int) + 1) {fi2 : am_I} (e0 : fi2 31 44 = y) (e01 : fi2 31 0 = fi 31 0) (e02 : fi2 31 40 = fi 31 40) (e1 : ∀ j, fi2 7 j = if j = w then b else fi 7 j) (e2 : ∀ j, fi2 8 j = if j = w then t else fi 8 j) (e4 : ∀ j, fi2 53 j = if j = w then b else fi 53 j) (e5 : ∀ j, fi2 54 j = if j = w then t else fi 54 j) (e7 : fi2 4 = fi 4) (e8 : fi2 5 = fi 5) (e9 : fi2 6 = fi 6) (e10 : fi2 50 = fi 50) (e11 : fi2 51 = fi 51) (e12 : fi2 52 = fi 52) : RV fi2 := by
  obtain ⟨h1, h2, h3⟩ := h
  refine ⟨?_, fun j hj => ?_, fun j hj => ?_⟩
  · rw [e02, e7, e8, e9, e10, e11, e12, e01]
    exact h1
  · rw [e0, hy] at hj
    rw [e1, e2, e4, e5, e01]
    by_cases e : j = w
    · simp [e, hb]
    · simp only [e, if_false]
      exact h2 j (by omega)
  · rw [e2, e5]
    by_cases e : j = w
    · simp [e, ht]
    · simp only [e, if_false]
      exact h3 j hj
theorem up2_if {α : Type} {f : Nat → Nat → α} {a w : Nat} {x : α} (j : Nat) : up2 f a w x a j = if j = w then x else f a j := by
  unfold up2
  by_cases e : j = w <;> simp [e]
end ARL
theorem i_b8 {x : Int32} {X : Int} (hx : x.toInt = X) (h : -128 ≤ X ∧ X ≤ 127) : x.toInt8.toInt32 = x := by
  apply Int32.toInt.inj
  rw [Int8.toInt_toInt32, Int32.toInt_toInt8, hx]
  exact Int.bmod_eq_of_le (by omega) (by omega)
