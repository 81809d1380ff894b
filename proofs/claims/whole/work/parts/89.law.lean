theorem rel0 {L : Nat} {xs : Nat → Int32} {g g2 : am_G} {fi fi2 : am_I} {fl2 : am_L} (hA : CA L xs g fi) (hB : CB g g2 fi fi2) : Rel L xs (fun _ => 0) g2 fi2 fl2 := by
  obtain ⟨a1, a2, a3, a4, a5, a6, a7, ⟨n1, n6, n2⟩, ⟨v1, v2, v3, v4, v5, v6, v7, v8⟩, ⟨k0, k1, k2, k3⟩, z8, t22⟩ := hA
  obtain ⟨b1, b2, b3, b4, b5, b6, ⟨m0, m1, m9, m10, m11, m40, m44, m65, m35, m36, m47⟩, ⟨q0, q1, q2, q3⟩, hL, z54, t68⟩ := hB
  have hw : ∀ q, q < 31 → fi2 q = fi q := fun q h => (b3 q (Or.inl h)).2.2.2
  have z0 : (0 : Int32).toInt = 0 := rfl
  have zm : (-1 : Int32).toInt = -1 := by decide
  have h2 : g2.2.2.1 2 = g.2.2.1 2 := (b3 2 (Or.inl (by decide))).2.2.1
  have h0 : g2.2.2.1 0 = g.2.2.1 0 := (b3 0 (Or.inl (by decide))).2.2.1
  refine ⟨⟨fun q hq => ?_, fun q hq => ?_, fun e he => ?_, (b3 am_SC (Or.inr rfl)).2.1.trans a6, by omega⟩, fun j => (congrFun (b3 am_SC (Or.inr rfl)).2.2.2 j).trans (a7 j), ?_, ?_, ⟨?_, hL⟩, ⟨?_, ?_, ?_⟩, ?_, ?_, ?_, ?_, ?_, ?_, ?_⟩
  · rcases Nat.lt_or_ge q 31 with h | h
    · exact (b3 q (Or.inl h)).1.trans (a3 q h)
    · have := b4 (q - 31) (by omega)
      rw [Nat.add_sub_cancel' h] at this
      exact this
  · rcases Nat.lt_or_ge q 31 with h | h
    · exact (b3 q (Or.inl h)).2.1.trans (a4 q h)
    · have := b5 (q - 31) (by omega)
      rw [Nat.add_sub_cancel' h] at this
      exact this
  · rcases Nat.lt_or_ge e.1 31 with h | h
    · exact (congrFun (b3 e.1 (Or.inl h)).2.2.1 _).trans (a5 e he h)
    · exact b6 e he h
  · unfold RC
    rw [hw 1 (by decide), hw 0 (by decide), hw 17 (by decide), hw 21 (by decide), v1, v2, v3, v4, v5, v6, v7, v8, m0, m1, m9, m10, m11, m40, m44, m65, m35, m36]
    decide
  · unfold RK
    rw [hw 3 (by decide)]
    intro j hj
    match j, hj with
    | 0, _ => rw [k0, q0]; decide
    | 1, _ => rw [k1, q1]; decide
    | 2, _ => rw [k2, q2]; decide
    | 3, _ => rw [k3, q3]; decide
    | j + 4, h => exact absurd h (by omega)
  · intro j hj
    rw [m11, z0] at hj
    exact absurd hj (by omega)
  · intro j hj
    rw [m40, z0] at hj
    exact absurd hj (by omega)
  · intro j hj
    rw [m44, z0] at hj
    exact absurd hj (by omega)
  · intro j _
    rw [hw 8 (by decide), z8, z54]
    exact ⟨rfl, rfl⟩
  · intro j _ hj
    rw [m65, z0] at hj
    exact absurd hj (by omega)
  · intro t ht
    rw [hw 22 (by decide), hw 23 (by decide), (t22 t ht).1, (t22 t ht).2, (t68 t ht).1, (t68 t ht).2, z0, zm]
    exact ⟨rfl, rfl, by decide, by decide, fun _ => rfl, fun k hk => absurd hk (by omega)⟩
  · intro b hb
    rw [m0, z0] at hb
    exact absurd hb (by omega)
  · intro i hi
    exact Or.inl ((congrFun h2 i).trans (n2 i hi))
  · intro s hs
    rw [m9, z0] at hs
    exact absurd hs (by omega)
  · exact Or.inl ((congrFun h0 6).trans n6)
  · exact Or.inl ⟨(congrFun h0 1).trans n1, m47⟩
theorem am_law (L : Nat) (xs : Nat → Int32) (hL : L ≤ 3072) : ∃ n g' fi' fl', am_run n 2048 211 0 (am_ent [.retAddr 0] 4) [] (am_g0 L) (am_fi0 xs) am_fl0 = some (some (.int 1), g', fi', fl') ∧ am_nx g' - am_nx (am_g0 L) ≤ 600000 ∧ am_sl g' - am_sl (am_g0 L) ≤ 7302250 := by
  have h : WP (1988 + 60) 211 0 [some (.retAddr 0), none, none, none] [] (am_g0 L) (am_fi0 xs) am_fl0 (fun v g2 _ _ => v = some (.int 1) ∧ am_nx g2 ≤ 600000 ∧ am_sl g2 ≤ 7302250) := by
    refine ct_A (fun g fi fl hA => ct_B hA (fun g2 fi2 fl2 hB => ?_))
    refine vl_law (S := 7000) hL (fun g3 fi3 fl3 h1 h2 => ⟨rfl, Nat.le_trans h1 (by decide), Nat.le_trans h2 (by decide)⟩) 513 0 (fun _ => 0) g2 fi2 fl2 0 rfl (ki_0.trans rfl) (Nat.zero_le _) (rel0 hA hB) ?_ ?_
    · have := hB.1
      omega
    · have h1 := hA.2.1
      have h2 := hB.2.1
      omega
  obtain ⟨n, v, g', fi', fl', hr, hv, h1, h2⟩ := h
  subst hv
  exact ⟨n, g', fi', fl', hr, Nat.le_trans (Nat.sub_le _ _) h1, Nat.le_trans (Nat.sub_le _ _) h2⟩
