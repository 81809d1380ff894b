section ARL
variable {fi : am_I} {fl : am_L} {own : Nat → Nat} {g : am_G} {q w k : Nat} {x y : Int32}
theorem up2_ap {α : Type} (f : Nat → Nat → α) (a k q j : Nat) (x : α) : up2 f a k x q j = if q = a ∧ j = k then x else f q j := rfl
theorem RK.put (h : RK fi) (hw : w < 4) (hx : 0 ≤ x.toInt ∧ x.toInt ≤ 99) (hx2 : w < 3 → x.toInt ≤ 9) : RK (up2 (up2 fi 3 w x) 38 w x) := by
  intro j hj
  have := h j hj
  by_cases e : j = w
  · subst e
    simp [up2_ap]
    exact ⟨hx.1, hx.2, hx2⟩
  · simpa [up2_ap, e] using this
theorem RX.put (h : RX fi) (hw : (w : Int) = (fi 31 11).toInt) (hx : 0 ≤ x.toInt ∧ x.toInt ≤ 127) {y : Int32} (hy : y.toInt = (w : Int) + 1) {fi2 : am_I} (e47 : fi2 47 = fi 47) (e0 : fi2 31 11 = y) (e1 : ∀ j, fi2 18 j = if j = w then x else fi 18 j) (e2 : ∀ j, fi2 39 j = if j = w then x else fi 39 j) : RX fi2 := by
  refine ⟨fun j hj => ?_, fun j hj => by rw [e47]; exact h.2 j hj⟩
  rw [e0, hy] at hj
  rw [e1, e2]
  by_cases e : j = w
  · simp [e, hx]
  · simp only [e, if_false]
    exact h.1 j (by omega)
theorem RV.seen (h : RV fi) {n b c y : Int32} (hb : 0 ≤ b.toInt ∧ b.toInt < (fi 31 0).toInt) (hn : 0 ≤ n.toInt ∧ n.toInt ≤ 30) (hw : (w : Int) = (fi 31 40).toInt) (hy : y.toInt = (w : Int) + 1) {fi2 : am_I} (e0 : fi2 31 40 = y) (e01 : fi2 31 0 = fi 31 0) (e02 : fi2 31 44 = fi 31 44) (e1 : ∀ j, fi2 4 j = if j = w then b else fi 4 j) (e2 : ∀ j, fi2 5 j = if j = w then n else fi 5 j) (e3 : ∀ j, fi2 6 j = if j = w then c else fi 6 j) (e4 : ∀ j, fi2 50 j = if j = w then b else fi 50 j) (e5 : ∀ j, fi2 51 j = if j = w then n else fi 51 j) (e6 : ∀ j, fi2 52 j = if j = w then c else fi 52 j) (e7 : fi2 7 = fi 7) (e8 : fi2 8 = fi 8) (e9 : fi2 53 = fi 53) (e10 : fi2 54 = fi 54) : RV fi2 := by
  obtain ⟨h1, h2, h3⟩ := h
  refine ⟨fun j hj => ?_, ?_, ?_⟩
  · rw [e0, hy] at hj
    rw [e1, e2, e3, e4, e5, e6, e01]
    by_cases e : j = w
    · simp [e, hb, hn]
    · simp only [e, if_false]
      exact h1 j (by omega)
  · rw [e02, e7, e8, e9, e10, e01]
    exact h2
  · rw [e8, e10]
    exact h3
theorem RV.book (h : RV fi) {b t y : Int32} (hb : 0 ≤ b.toInt ∧ b.toInt < (fi 31 0).toInt) (ht : am_bit t = true) (hw : (w : Int) = (fi 31 44).toInt) (hy : y.toInt = (w : Int) + 1) {fi2 : am_I} (e0 : fi2 31 44 = y) (e01 : fi2 31 0 = fi 31 0) (e02 : fi2 31 40 = fi 31 40) (e1 : ∀ j, fi2 7 j = if j = w then b else fi 7 j) (e2 : ∀ j, fi2 8 j = if j = w then t else fi 8 j) (e4 : ∀ j, fi2 53 j = if j = w then b else fi 53 j) (e5 : ∀ j, fi2 54 j = if j = w then t else fi 54 j) (e7 : fi2 4 = fi 4) (e8 : fi2 5 = fi 5) (e9 : fi2 6 = fi 6) (e10 : fi2 50 = fi 50) (e11 : fi2 51 = fi 51) (e12 : fi2 52 = fi 52) : RV fi2 := by
  obtain ⟨h1, h2, h3⟩ := h
  refine ⟨?_, fun j hj => ?_, fun j hj => ?_⟩
  · rw [e02, e7, e8, e9, e10, e11, e12, e01]
    exact h1
  · rw [e0, hy] at hj
    rw [e1, e2, e4, e5, e01]
    by_cases e : j = w
    · simp [e, hb]
    · simp only [e, if_false]
      exact h2 j (by omega)
  · rw [e2, e5]
    by_cases e : j = w
    · simp [e, ht]
    · simp only [e, if_false]
      exact h3 j hj
theorem up2_if {α : Type} {f : Nat → Nat → α} {a w : Nat} {x : α} (j : Nat) : up2 f a w x a j = if j = w then x else f a j := by
  unfold up2
  by_cases e : j = w <;> simp [e]
end ARL
theorem i_b8 {x : Int32} {X : Int} (hx : x.toInt = X) (h : -128 ≤ X ∧ X ≤ 127) : x.toInt8.toInt32 = x := by
  apply Int32.toInt.inj
  rw [Int8.toInt_toInt32, Int32.toInt_toInt8, hx]
  exact Int.bmod_eq_of_le (by omega) (by omega)
/-! What stays of Rel where other cells change. -/
def rl_fr (G : Nat → Prop) (own own2 : Nat → Nat) (g g2 : am_G) (fi fi2 : am_I) : Prop := am_nx g ≤ am_nx g2 ∧ ∀ q, 72 ≤ q → q < am_nx g → G (own q) → g2.1 q = g.1 q ∧ g2.2.1 q = g.2.1 q ∧ g2.2.2.1 q = g.2.2.1 q ∧ own2 q = own q ∧ fi2 q = fi q
section AFR
variable {G : Nat → Prop} {own own2 : Nat → Nat} {g g2 : am_G} {fi fi2 : am_I} {q o : Nat}
theorem am_frL (hd : ∀ q, 72 ≤ q → fi2 q = fi q) : rl_fr (fun _ => True) own own g g fi fi2 := ⟨Nat.le_refl _, fun q h _ _ => ⟨rfl, rfl, rfl, rfl, hd q h⟩⟩
theorem dy_fr (h : am_dy own g q o) (hf : rl_fr G own own2 g g2 fi fi2) (hG : G o) : am_dy own2 g2 q o ∧ g2.1 q = g.1 q ∧ g2.2.1 q = g.2.1 q ∧ g2.2.2.1 q = g.2.2.1 q ∧ fi2 q = fi q := by
  obtain ⟨h1, h2, h3⟩ := h
  obtain ⟨k1, k2, k3, k4, k5⟩ := hf.2 q h1 h2 (h3 ▸ hG)
  exact ⟨⟨h1, Nat.lt_of_lt_of_le h2 hf.1, k4.trans h3⟩, k1, k2, k3, k5⟩
theorem RM.fr {b : Nat} (h : RM fi b) (e2 : fi2 32 = fi 32) (e3 : fi2 33 = fi 33) (e4 : fi2 34 = fi 34) (e5 : fi2 35 = fi 35) (e6 : fi2 36 = fi 36) (e7 : fi2 37 = fi 37) : RM fi2 b := by
  unfold RM
  rw [e2, e3, e4, e5, e6, e7]
  exact h
theorem RO.fr {b p r : Nat} (h : RO own g fi b p r) (hb : b < 5) (hf : rl_fr G own own2 g g2 fi fi2) (hG : ∀ o, o < 30 → G o) (er : g2.2.2.1 2 b = g.2.2.1 2 b) (e2 : fi2 32 b = fi 32 b) (e3 : fi2 33 b = fi 33 b) (e4 : fi2 34 b = fi 34 b) (e5 : fi2 35 b = fi 35 b) (e6 : fi2 36 b = fi 36 b) (e7 : ∀ j, j < 4 → fi2 37 (4 * b + j) = fi 37 (4 * b + j)) : RO own2 g2 fi2 b p r := by
  obtain ⟨o0, o1, o2, o3, o4, o5, o6, o7, o8, o9⟩ := h
  obtain ⟨d1, d2, d3, d4, d5⟩ := dy_fr o1 hf (hG _ (by omega))
  unfold RO
  rw [er, d2, d4, d5, e2, e3, e4, e5, e6]
  refine ⟨o0, d1, o2, o3, o4, o5, o6, o7, o8, fun hk => ?_⟩
  obtain ⟨r0, r1, r2, r3, r4⟩ := o9 hk
  obtain ⟨c1, c2, c3, c4, c5⟩ := dy_fr r1 hf (hG _ (by omega))
  rw [c2, c3, c5]
  exact ⟨r0, c1, r2, r3, fun j hj => (r4 j hj).trans (e7 j hj).symm⟩
theorem RB.fr (h : RB own g fi) (h5 : (fi 31 0).toInt ≤ 5) (hf : rl_fr G own own2 g g2 fi fi2) (hG : ∀ o, o < 30 → G o) (e0 : fi2 31 0 = fi 31 0) (er : g2.2.2.1 2 = g.2.2.1 2) (e2 : fi2 32 = fi 32) (e3 : fi2 33 = fi 33) (e4 : fi2 34 = fi 34) (e5 : fi2 35 = fi 35) (e6 : fi2 36 = fi 36) (e7 : fi2 37 = fi 37) : RB own2 g2 fi2 := by
  intro b hb
  rw [e0] at hb
  obtain ⟨hM, p, r, hO⟩ := h b hb
  exact ⟨hM.fr e2 e3 e4 e5 e6 e7, p, r, hO.fr (by omega) hf hG (congrFun er b) (congrFun e2 b) (congrFun e3 b) (congrFun e4 b) (congrFun e5 b) (congrFun e6 b) (fun j _ => congrFun e7 _)⟩
theorem SQp.fr {q a0 a1 a2 a4 a5 a6 : Nat} (h : SQp g q a0 a1 a2 a4 a5 a6) (er : g2.2.2.1 q = g.2.2.1 q) (et : g2.1 q = g.1 q) (h0 : g2.1 a0 = g.1 a0 ∧ g2.2.1 a0 = g.2.1 a0) (h1 : g2.1 a1 = g.1 a1 ∧ g2.2.1 a1 = g.2.1 a1) (h2 : g2.1 a2 = g.1 a2 ∧ g2.2.1 a2 = g.2.1 a2) (h4 : g2.1 a4 = g.1 a4 ∧ g2.2.1 a4 = g.2.1 a4) (h5 : g2.1 a5 = g.1 a5 ∧ g2.2.1 a5 = g.2.1 a5) (h6 : g2.1 a6 = g.1 a6 ∧ g2.2.1 a6 = g.2.1 a6) : SQp g2 q a0 a1 a2 a4 a5 a6 := by
  unfold SQp
  rw [er, et, h0.1, h0.2, h1.1, h1.2, h2.1, h2.2, h4.1, h4.2, h5.1, h5.2, h6.1, h6.2]
  exact h
theorem SQc.fr {q a0 a1 a2 a4 a5 a6 : Nat} {Q : sq_T} (h : SQc fi q a0 a1 a2 a4 a5 a6 Q) (eq : fi2 q = fi q) (e0 : fi2 a0 = fi a0) (e1 : fi2 a1 = fi a1) (e2 : fi2 a2 = fi a2) (e4 : fi2 a4 = fi a4) (e5 : fi2 a5 = fi a5) (e6 : fi2 a6 = fi a6) : SQc fi2 q a0 a1 a2 a4 a5 a6 Q := by
  unfold SQc
  rw [eq, e0, e1, e2, e4, e5, e6]
  exact h
theorem SQm.fr {s : Nat} {Q : sq_T} (h : SQm fi s Q) (e0 : fi2 40 = fi 40) (e1 : fi2 41 = fi 41) (e2 : fi2 42 = fi 42) (e3 : fi2 43 = fi 43) (e4 : fi2 44 = fi 44) (e5 : fi2 45 = fi 45) : SQm fi2 s Q := by
  unfold SQm
  rw [e0, e1, e2, e3, e4, e5]
  exact h
theorem RS.fr (h : RS own g fi) (hf : rl_fr G own own2 g g2 fi fi2) (hG : G 30) (e9 : fi2 31 9 = fi 31 9) (er : g2.2.2.1 19 = g.2.2.1 19) (e0 : fi2 40 = fi 40) (e1 : fi2 41 = fi 41) (e2 : fi2 42 = fi 42) (e3 : fi2 43 = fi 43) (e4 : fi2 44 = fi 44) (e5 : fi2 45 = fi 45) : RS own2 g2 fi2 := by
  intro s hs
  rw [e9] at hs
  obtain ⟨q, a0, a1, a2, a4, a5, a6, Q, hq, ⟨d, d0, d1, d2, d4, d5, d6⟩, hp, hc, hm, hv⟩ := h s hs
  obtain ⟨f, ft, fl, fr, fe⟩ := dy_fr d hf hG
  obtain ⟨f0, t0, l0, -, x0⟩ := dy_fr d0 hf hG
  obtain ⟨f1, t1, l1, -, x1⟩ := dy_fr d1 hf hG
  obtain ⟨f2, t2, l2, -, x2⟩ := dy_fr d2 hf hG
  obtain ⟨f4, t4, l4, -, x4⟩ := dy_fr d4 hf hG
  obtain ⟨f5, t5, l5, -, x5⟩ := dy_fr d5 hf hG
  obtain ⟨f6, t6, l6, -, x6⟩ := dy_fr d6 hf hG
  exact ⟨q, a0, a1, a2, a4, a5, a6, Q, (congrFun er s).trans hq, ⟨f, f0, f1, f2, f4, f5, f6⟩, hp.fr fr ft ⟨t0, l0⟩ ⟨t1, l1⟩ ⟨t2, l2⟩ ⟨t4, l4⟩ ⟨t5, l5⟩ ⟨t6, l6⟩, hc.fr fe x0 x1 x2 x4 x5 x6, hm.fr e0 e1 e2 e3 e4 e5, hv⟩
theorem RZ.fr (h : RZ own g) (hf : rl_fr G own own2 g g2 fi fi2) (hG : ∀ o, 40 ≤ o → o < 50 → G o) (er : g2.2.2.1 0 6 = g.2.2.1 0 6) : RZ own2 g2 := by
  rcases h with h | ⟨q, a0, a1, a2, a4, a5, a6, hq, ⟨d, d0, d1, d2, d4, d5, d6⟩, hp⟩
  · exact Or.inl (er.trans h)
  · obtain ⟨f, ft, fl, fr, fe⟩ := dy_fr d hf (hG _ (by decide) (by decide))
    obtain ⟨f0, t0, l0, -, x0⟩ := dy_fr d0 hf (hG _ (by decide) (by decide))
    obtain ⟨f1, t1, l1, -, x1⟩ := dy_fr d1 hf (hG _ (by decide) (by decide))
    obtain ⟨f2, t2, l2, -, x2⟩ := dy_fr d2 hf (hG _ (by decide) (by decide))
    obtain ⟨f4, t4, l4, -, x4⟩ := dy_fr d4 hf (hG _ (by decide) (by decide))
    obtain ⟨f5, t5, l5, -, x5⟩ := dy_fr d5 hf (hG _ (by decide) (by decide))
    obtain ⟨f6, t6, l6, -, x6⟩ := dy_fr d6 hf (hG _ (by decide) (by decide))
    exact Or.inr ⟨q, a0, a1, a2, a4, a5, a6, er.trans hq, ⟨f, f0, f1, f2, f4, f5, f6⟩, hp.fr fr ft ⟨t0, l0⟩ ⟨t1, l1⟩ ⟨t2, l2⟩ ⟨t4, l4⟩ ⟨t5, l5⟩ ⟨t6, l6⟩⟩
theorem RN.fr (h : RN g q) (er : ∀ i, i < 5 → g2.2.2.1 q i = g.2.2.1 q i) (hx : am_nx g ≤ am_nx g2) (ht : ∀ p, p < am_nx g → g2.1 p = g.1 p) : RN g2 q := by
  intro i hi
  rcases h i hi with h | ⟨p, h1, h2, h3⟩
  · exact Or.inl ((er i hi).trans h)
  · exact Or.inr ⟨p, (er i hi).trans h1, by rw [ht p h3]; exact h2, by omega⟩
theorem RI.fr (h : RI own g fi) (h5b : (fi 31 0).toInt ≤ 5) (hf : rl_fr G own own2 g g2 fi fi2) (hG : ∀ o, 50 ≤ o → o < 70 → G o) (ht : ∀ p, p < am_nx g → g2.1 p = g.1 p) (er : g2.2.2.1 0 1 = g.2.2.1 0 1) (er2 : ∀ b : Nat, (b : Int) < (fi 31 0).toInt → g2.2.2.1 2 b = g.2.2.1 2 b) (e0 : (fi 31 0).toInt ≤ (fi2 31 0).toInt) (e9 : (fi 31 9).toInt ≤ (fi2 31 9).toInt) (e47 : fi2 31 47 = fi 31 47) (e48 : fi2 31 48 = fi 31 48) (e49 : fi2 31 49 = fi 31 49) (e50 : fi2 31 50 = fi 31 50) (e51 : fi2 31 51 = fi 31 51) (e52 : fi2 31 52 = fi 31 52) (e32 : ∀ b : Nat, (b : Int) < (fi 31 0).toInt → fi2 32 b = fi 32 b) (e33 : ∀ b : Nat, (b : Int) < (fi 31 0).toInt → fi2 33 b = fi 33 b) (e55 : fi2 55 = fi 55) (e56 : fi2 56 = fi 56) (e57 : fi2 57 = fi 57) (e58 : fi2 58 = fi 58) (e59 : fi2 59 = fi 59) (e60 : fi2 60 = fi 60) (e61 : fi2 61 = fi 61) (e62 : fi2 62 = fi 62) (e63 : fi2 63 = fi 63) (e64 : fi2 64 = fi 64) (e65 : fi2 65 = fi 65) (e66 : fi2 66 = fi 66) : RI own2 g2 fi2 := by
  rcases h with ⟨h1, h2⟩ | ⟨h1, q, a0, a2, a5, a6, a7, a9, a10, a12, ik, hq, hp, hv⟩
  · exact Or.inl ⟨er.trans h1, e47.trans h2⟩
  obtain ⟨p0, ⟨r0, r2, r5, r6, r7, r9, r10, r12⟩, ⟨d, d0, d2, d5, d6, d7, d9, d10, d12⟩, ⟨t0, t2, t5, t6, t7, t9, t10, t12⟩, ⟨l0, l2, l5, l6, l7, l9, l10, l12⟩, hik⟩ := hp
  obtain ⟨f, ft, fl, fr, fe⟩ := dy_fr d hf (hG _ (by decide) (by decide))
  obtain ⟨f0, ft0, fl0, fr0, fe0⟩ := dy_fr d0 hf (hG _ (by decide) (by decide))
  obtain ⟨f2, ft2, fl2, -, fe2⟩ := dy_fr d2 hf (hG _ (by decide) (by decide))
  obtain ⟨f5, ft5, fl5, -, fe5⟩ := dy_fr d5 hf (hG _ (by decide) (by decide))
  obtain ⟨f6, ft6, fl6, -, fe6⟩ := dy_fr d6 hf (hG _ (by decide) (by decide))
  obtain ⟨f7, ft7, fl7, -, fe7⟩ := dy_fr d7 hf (hG _ (by decide) (by decide))
  obtain ⟨f9, ft9, fl9, -, fe9⟩ := dy_fr d9 hf (hG _ (by decide) (by decide))
  obtain ⟨f10, ft10, fl10, -, fe10⟩ := dy_fr d10 hf (hG _ (by decide) (by decide))
  obtain ⟨f12, ft12, fl12, fr12, -⟩ := dy_fr d12 hf (hG _ (by decide) (by decide))
  obtain ⟨⟨v1, v1a, v1b⟩, v3, ⟨v4, v4a, v4b⟩, v8, v11, vn, vb, vs, vk, vz, vB⟩ := hv
  have hk5 : ∀ i, i < 5 → (am_dy own2 g2 (ik i) (60 + i) ∧ g2.1 (ik i) = g.1 (ik i) ∧ g2.2.1 (ik i) = g.2.1 (ik i) ∧ g2.2.2.1 (ik i) = g.2.2.1 (ik i) ∧ fi2 (ik i) = fi (ik i)) := fun i hi => dy_fr (hik i hi).2.1 hf (hG _ (by omega) (by omega))
  refine Or.inr ⟨e47.trans h1, q, a0, a2, a5, a6, a7, a9, a10, a12, ik, er.trans hq, ⟨ft.trans p0, ?_, ⟨f, f0, f2, f5, f6, f7, f9, f10, f12⟩, ⟨ft0.trans t0, ft2.trans t2, ft5.trans t5, ft6.trans t6, ft7.trans t7, ft9.trans t9, ft10.trans t10, ft12.trans t12⟩, ⟨fl0.trans l0, fl2.trans l2, fl5.trans l5, fl6.trans l6, fl7.trans l7, fl9.trans l9, fl10.trans l10, fl12.trans l12⟩, fun i hi => ?_⟩, ?_⟩
  · rw [fr]
    exact ⟨r0, r2, r5, r6, r7, r9, r10, r12⟩
  · obtain ⟨c1, c2, c3, c4, c5⟩ := hk5 i hi
    obtain ⟨b1, b2, b3, b4⟩ := hik i hi
    exact ⟨(congrFun fr12 i).trans b1, c1, c2.trans b3, c3.trans b4⟩
  · unfold RIv
    rw [fe, fe2, fe5, fe6, fe7, fe9, fe10, e48, e49, e50, e51, e52, e55, e56, e57, e58, e59, e60, e61, e62, e63, e64, e65, e66]
    refine ⟨⟨v1, v1a, by omega⟩, v3, ⟨v4, v4a, by omega⟩, v8, v11, vn.fr (fun i _ => congrFun fr0 i) hf.1 ht, vb, vs, vk, vz, fun b hb => ?_⟩
    have hb0 : (b : Int) < (fi 31 0).toInt := by omega
    obtain ⟨x1, x2, x3, x4, x5, x6, x7⟩ := vB b hb
    rw [fr0, er2 b hb0, e32 b hb0, e33 b hb0]
    by_cases h5 : b < 5
    · rw [(hk5 b h5).2.2.2.2]
      exact ⟨x1, x2, x3, x4, x5, x6, x7⟩
    · exact absurd hb0 (by omega)
end AFR
theorem i_c16 {x : Int32} {X : Int} (hx : x.toInt = X) (h : 0 ≤ X ∧ X ≤ 65535) : (x.toUInt32 % 65536).toInt32 = x := by
  apply Int32.toBitVec_inj.mp
  have h1 : x.toBitVec.toInt = X := hx
  have h2 : x.toBitVec.toNat < 65536 := by
    have := BitVec.toInt_eq_toNat_cond x.toBitVec
    have h3 := x.toBitVec.isLt
    split at this <;> omega
  apply BitVec.eq_of_toNat_eq
  show (x.toUInt32 % 65536).toBitVec.toNat = _
  rw [UInt32.toBitVec_mod, BitVec.toNat_umod]
  exact Nat.mod_eq_of_lt h2
