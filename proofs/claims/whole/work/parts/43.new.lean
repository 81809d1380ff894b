/-! New cells by name. -/
def mkF (g g1 : am_G) (p t len size : Nat) : Prop := am_nx g = p ∧ am_nx g1 = p + 1 ∧ am_sl g1 = am_sl g + size ∧ g1.1 p = t ∧ g1.2.1 p = len ∧ (∀ j, g1.2.2.1 p j = none) ∧ ∀ q, q ≠ p → g1.1 q = g.1 q ∧ g1.2.1 q = g.2.1 q ∧ g1.2.2.1 q = g.2.2.1 q
def clF {α : Type} (f f1 : Nat → Nat → α) (p : Nat) (z : α) : Prop := (∀ j, f1 p j = z) ∧ ∀ q, q ≠ p → f1 q = f q
theorem mkF.of {g : am_G} {t len size : Nat} : mkF g (am_mk g t len size) (am_nx g) t len size := by
  have e0 : g.2.2.2.1 = am_nx g := rfl
  refine ⟨rfl, rfl, rfl, ?_, ?_, fun j => ?_, fun q hq => ⟨?_, ?_, ?_⟩⟩
  · exact if_pos (by omega)
  · exact if_pos (by omega)
  · exact if_pos (by omega)
  · exact if_neg (by omega)
  · exact if_neg (by omega)
  · funext j
    exact if_neg (by omega)
theorem clF.of {α : Type} {f : Nat → Nat → α} {p : Nat} {z : α} : clF f (cl2 f p 1 z) p z := by
  refine ⟨fun j => if_pos (by omega), fun q hq => ?_⟩
  funext j
  exact if_neg (by omega)
/-- a row of n rows, each of k -/
def mk2F (g g1 : am_G) (p t0 t1 n k : Nat) : Prop := am_nx g = p ∧ am_nx g1 = p + 1 + n ∧ am_sl g1 = am_sl g + (n + n * k) ∧ (g1.1 p = t0 ∧ g1.2.1 p = n ∧ ∀ j, j < n → g1.2.2.1 p j = some (p + 1 + j)) ∧ (∀ j, j < n → g1.1 (p + 1 + j) = t1 ∧ g1.2.1 (p + 1 + j) = k) ∧ ∀ q, (q < p ∨ p + n < q) → g1.1 q = g.1 q ∧ g1.2.1 q = g.2.1 q ∧ g1.2.2.1 q = g.2.2.1 q
def cl2F {α : Type} (f f1 : Nat → Nat → α) (p n : Nat) (z : α) : Prop := (∀ q j, p ≤ q → q ≤ p + n → f1 q j = z) ∧ ∀ q, (q < p ∨ p + n < q) → f1 q = f q
theorem mk2F.of {g : am_G} {t0 t1 n k : Nat} : mk2F g (am_mk2 g t0 t1 n k) (am_nx g) t0 t1 n k := by
  have e0 : g.2.2.2.1 = am_nx g := rfl
  refine ⟨rfl, rfl, rfl, ⟨?_, ?_, fun j hj => ?_⟩, fun j hj => ⟨?_, ?_⟩, fun q hq => ⟨?_, ?_, ?_⟩⟩
  · exact (if_neg (by omega)).trans (if_pos (by omega))
  · exact (if_neg (by omega)).trans (if_pos (by omega))
  · exact (if_pos rfl).trans (if_pos hj)
  · exact if_pos (by omega)
  · exact if_pos (by omega)
  · exact (if_neg (by omega)).trans (if_neg (by omega))
  · exact (if_neg (by omega)).trans (if_neg (by omega))
  · funext j
    exact (if_neg (by omega)).trans (if_neg (by omega))
theorem cl2F.of {α : Type} {f : Nat → Nat → α} {p n : Nat} {z : α} : cl2F f (cl2 f p (n + 1) z) p n z := by
  refine ⟨fun q j h1 h2 => if_pos (by omega), fun q hq => ?_⟩
  funext j
  exact if_neg (by omega)
section ANW
variable {d m pc n a b c p j j2 : Nat} {ls : List (Option Value)} {st r : List Value} {g : am_G} {fi : am_I} {fl : am_L} {P : Option Value → am_G → am_I → am_L → Prop}
theorem wi_newF {i : Nat} (hc : am_CT m pc = some (.new i, n, a, b, c)) (hp : am_nx g = p) (h : p < 900000) (k : ∀ g1 fi1 fl1, mkF g g1 p a 0 (am_nf a) → clF fi fi1 p 0 → clF fl fl1 p 0 → WP d m n ls (.ref p :: st) g1 fi1 fl1 P) : WP d m pc ls st g fi fl P := by
  subst hp
  exact wi_new hc h (k _ _ _ mkF.of clF.of clF.of)
theorem wi_newaF {i : _} {x : Int32} (hc : am_CT m pc = some (.newarray i, n, a, b, c)) (hd : am_dim x = true) (hj : x.toNatClampNeg = j) (hp : am_nx g = p) (h : p < 900000) (k : ∀ g1 fi1 fl1, mkF g g1 p a j j → clF fi fi1 p 0 → clF fl fl1 p 0 → WP d m n ls (.ref p :: r) g1 fi1 fl1 P) : WP d m pc ls (.int x :: r) g fi fl P := by
  subst hp
  exact wi_newarray hc hd h hj (k _ _ _ mkF.of clF.of clF.of)
theorem wi_anewaF {i : Nat} {x : Int32} (hc : am_CT m pc = some (.anewarray i, n, a, b, c)) (hd : am_dim x = true) (hj : x.toNatClampNeg = j) (hp : am_nx g = p) (h : p < 900000) (k : ∀ g1 fi1 fl1, mkF g g1 p a j j → clF fi fi1 p 0 → clF fl fl1 p 0 → WP d m n ls (.ref p :: r) g1 fi1 fl1 P) : WP d m pc ls (.int x :: r) g fi fl P := by
  subst hp
  exact wi_anewarray hc hd h hj (k _ _ _ mkF.of clF.of clF.of)
theorem wi_multiF {i i2 : Nat} {x x2 : Int32} (hc : am_CT m pc = some (.multianewarray i i2, n, a, b, c)) (hd : am_dim x = true) (hd2 : am_dim x2 = true) (hj : x.toNatClampNeg = j) (hj2 : x2.toNatClampNeg = j2) (hp : am_nx g = p) (h : p + j2 < 900000) (k : ∀ g1 fi1 fl1, mk2F g g1 p a b j2 j → cl2F fi fi1 p j2 0 → cl2F fl fl1 p j2 0 → WP d m n ls (.ref p :: r) g1 fi1 fl1 P) : WP d m pc ls (.int x :: .int x2 :: r) g fi fl P := by
  subst hp
  exact wi_multi hc hd hd2 hj hj2 h (k _ _ _ mk2F.of cl2F.of cl2F.of)
end ANW
theorem SF.mkF {L : Nat} {g g1 : am_G} {p t len size : Nat} (h : SF L g) (k : mkF g g1 p t len size) (hp : p < 900000) : SF L g1 := by
  obtain ⟨k1, k2, k3, k4, k5, k6, k7⟩ := k
  obtain ⟨h1, h2, h3, h4, h5⟩ := h
  rw [k1] at h5
  have h9 : am_SC = 1000000 := rfl
  refine ⟨fun q hq => (k7 q (by omega)).1.trans (h1 q hq), fun q hq => (k7 q (by omega)).2.1.trans (h2 q hq), fun e he => ?_, (k7 am_SC (by omega)).2.1.trans h4, by omega⟩
  have := am_tRlt e he
  exact (congrFun (k7 e.1 (by omega)).2.2 _).trans (h3 e he)
theorem SF.mk2F {L : Nat} {g g1 : am_G} {p t0 t1 n k : Nat} (h : SF L g) (k : mk2F g g1 p t0 t1 n k) (hp : p + n < 900000) : SF L g1 := by
  obtain ⟨k1, k2, k3, k4, k5, k7⟩ := k
  obtain ⟨h1, h2, h3, h4, h5⟩ := h
  rw [k1] at h5
  have h9 : am_SC = 1000000 := rfl
  refine ⟨fun q hq => (k7 q (by omega)).1.trans (h1 q hq), fun q hq => (k7 q (by omega)).2.1.trans (h2 q hq), fun e he => ?_, (k7 am_SC (by omega)).2.1.trans h4, by omega⟩
  have := am_tRlt e he
  exact (congrFun (k7 e.1 (by omega)).2.2 _).trans (h3 e he)
/-- one more of the blowers -/
theorem Rel.one {L : Nat} {xs : Nat → Int32} {own own2 : Nat → Nat} {g g2 : am_G} {fi fi2 : am_I} {fl fl2 : am_L} (hR : Rel L xs own g fi fl) {B : Nat} (hBn : (fi 31 0).toInt = (B : Int)) (hB5 : B < 5) (hS2 : SF L g2) (hf : rl_fr (fun _ => True) own own2 g g2 fi fi2) (ht : ∀ q, q < am_nx g → g2.1 q = g.1 q) (hr : ∀ q j, q < 72 → (q ≠ 2 ∨ j ≠ B) → g2.2.2.1 q j = g.2.2.1 q j) (hsc2 : fi2 am_SC = fi am_SC) (hw : ∀ q, q < 72 → ¬ (q = 1 ∨ 31 ≤ q ∧ q ≤ 37) → fi2 q = fi q) (h1 : ∀ j, j ≠ 1 → fi2 1 j = fi 1 j) (m : ∀ j, j ≠ 0 → fi2 31 j = fi 31 j) (hc : fi2 1 1 = fi2 31 0 ∧ (fi2 31 0).toInt = (B : Int) + 1) (e : ∀ q b, 32 ≤ q → q ≤ 36 → b ≠ B → fi2 q b = fi q b) (e7 : ∀ b j, b ≠ B → j < 4 → fi2 37 (4 * b + j) = fi 37 (4 * b + j)) (hl : ∀ q, q < 72 → fl2 q = fl q) (hM : RM fi2 B) (hO : ∃ p r, RO own2 g2 fi2 B p r ∧ am_sub (g2.1 p) 0 = true) : Rel L xs own2 g2 fi2 fl2 := by
  obtain ⟨hS, hsc, hC, hK, hX, hV, hT, hP, hB, hN, hQ, hZ, hI⟩ := hR
  have w := hw
  refine ⟨hS2, fun j => (congrFun hsc2 j).trans (hsc j), ?_, ?_, ?_, ?_, ?_, ?_, ?_, ?_, ?_, ?_, ?_⟩
  · unfold RC
    rw [h1 3 (by decide), h1 4 (by decide), h1 8 (by decide), h1 11 (by decide), w 0 (by decide) (by decide), w 17 (by decide) (by decide), w 21 (by decide) (by decide), m 1 (by decide), m 10 (by decide), m 9 (by decide), m 11 (by decide), m 40 (by decide), m 44 (by decide), m 65 (by decide), m 35 (by decide), m 36 (by decide)]
    exact ⟨⟨hc.1, by omega, by omega⟩, hC.2⟩
  · unfold RK
    rw [w 3 (by decide) (by decide), w 38 (by decide) (by decide)]
    exact hK
  · unfold RX RL
    rw [w 18 (by decide) (by decide), w 39 (by decide) (by decide), w 47 (by decide) (by decide), m 11 (by decide)]
    exact hX
  · unfold RV
    rw [w 4 (by decide) (by decide), w 5 (by decide) (by decide), w 6 (by decide) (by decide), w 7 (by decide) (by decide), w 8 (by decide) (by decide), w 50 (by decide) (by decide), w 51 (by decide) (by decide), w 52 (by decide) (by decide), w 53 (by decide) (by decide), w 54 (by decide) (by decide), m 40 (by decide), m 44 (by decide)]
    obtain ⟨v1, v2, v3⟩ := hV
    refine ⟨fun j hj => ?_, fun j hj => ?_, v3⟩
    · obtain ⟨x1, x2, x3, x4, x5⟩ := v1 j hj
      exact ⟨x1, x2, x3, by omega, x5⟩
    · obtain ⟨x1, x2, x3⟩ := v2 j hj
      exact ⟨x1, x2, by omega⟩
  · unfold RT
    rw [w 21 (by decide) (by decide), w 67 (by decide) (by decide), m 65 (by decide)]
    exact hT
  · intro t ht6
    rw [w 22 (by decide) (by decide), w 23 (by decide) (by decide), w 68 (by decide) (by decide), w 69 (by decide) (by decide)]
    rw [hl (25 + t) (by omega), hl 70 (by decide)]
    exact hP t ht6
  · intro b hb
    rw [hc.2] at hb
    rcases Decidable.em (b = B) with k | k
    · rw [k]
      obtain ⟨p, r, h, -⟩ := hO
      exact ⟨hM, p, r, h⟩
    · obtain ⟨hMb, p, r, hOb⟩ := hB b (by omega)
      have k2 := fun q h3 h4 => e q b h3 h4 k
      exact ⟨hMb.fr2 (k2 32 (by decide) (by decide)) (k2 33 (by decide) (by decide)) (k2 34 (by decide) (by decide)) (k2 35 (by decide) (by decide)) (k2 36 (by decide) (by decide)) (fun j hj => e7 b j k hj), p, r, hOb.fr2 hf trivial trivial (hr 2 b (by decide) (Or.inr k)) (k2 32 (by decide) (by decide)) (k2 33 (by decide) (by decide)) (k2 34 (by decide) (by decide)) (k2 35 (by decide) (by decide)) (k2 36 (by decide) (by decide)) (fun j hj => e7 b j k hj)⟩
  · intro i hi
    rcases Decidable.em (i = B) with k | k
    · obtain ⟨p, r, h, hs⟩ := hO
      rw [k]
      exact Or.inr ⟨p, h.1, hs, h.2.1.2.1⟩
    · rcases hN i hi with h | ⟨p, h2, h3, h4⟩
      · exact Or.inl ((hr 2 i (by decide) (Or.inr k)).trans h)
      · exact Or.inr ⟨p, (hr 2 i (by decide) (Or.inr k)).trans h2, by rw [ht p h4]; exact h3, Nat.lt_of_lt_of_le h4 hf.1⟩
  · exact hQ.fr hf trivial (m 9 (by decide)) (funext fun j => hr 19 j (by decide) (Or.inl (by decide))) (w 40 (by decide) (by decide)) (w 41 (by decide) (by decide)) (w 42 (by decide) (by decide)) (w 43 (by decide) (by decide)) (w 44 (by decide) (by decide)) (w 45 (by decide) (by decide))
  · exact hZ.fr hf (fun _ _ _ => trivial) (hr 0 6 (by decide) (Or.inl (by decide)))
  · exact hI.fr hC.1.2.2 hf (fun _ _ _ => trivial) ht (hr 0 1 (by decide) (Or.inl (by decide))) (fun b hb => hr 2 b (by decide) (Or.inr (by omega))) (by omega) (Int.le_of_eq (by rw [m 9 (by decide)])) (m 47 (by decide)) (m 48 (by decide)) (m 49 (by decide)) (m 50 (by decide)) (m 51 (by decide)) (m 52 (by decide)) (fun b hb => e 32 b (by decide) (by decide) (by omega)) (fun b hb => e 33 b (by decide) (by decide) (by omega)) (w 55 (by decide) (by decide)) (w 56 (by decide) (by decide)) (w 57 (by decide) (by decide)) (w 58 (by decide) (by decide)) (w 59 (by decide) (by decide)) (w 60 (by decide) (by decide)) (w 61 (by decide) (by decide)) (w 62 (by decide) (by decide)) (w 63 (by decide) (by decide)) (w 64 (by decide) (by decide)) (w 65 (by decide) (by decide)) (w 66 (by decide) (by decide))
