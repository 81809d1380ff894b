/-! The text read, by itself: X its signs, n how many. -/
abbrev tk_T : Type := Nat × Nat × Nat
abbrev rd_T : Type := Bool × Nat × List tk_T
def pk (X : Nat → Int) (n p : Nat) : Int := if p < n then X p else -1
def lt6 (c : Int) : Int := if c = 98 then 0 else if c = 107 then 1 else if c = 118 then 2 else if c = 109 then 3 else if c = 115 then 4 else if c = 102 then 5 else -1
def dgt (c : Int) : Prop := 48 ≤ c ∧ c ≤ 57
/-- one or two digits, or -1; the place behind -/
def rNum (X : Nat → Int) (n p : Nat) : Int × Nat := if 48 ≤ pk X n p ∧ pk X n p ≤ 57 then (if 48 ≤ pk X n (p + 1) ∧ pk X n (p + 1) ≤ 57 then (10 * (pk X n p - 48) + (pk X n (p + 1) - 48), p + 2) else (pk X n p - 48, p + 1)) else (-1, p)
def rT (X : Nat → Int) (n p : Nat) : rd_T :=
  if lt6 (pk X n p) < 0 then (false, p, []) else if ¬ (60 ≤ pk X n (p + 1) ∧ pk X n (p + 1) ≤ 62) then (false, p + 1, []) else if (rNum X n (p + 2)).1 < 0 then (false, p + 2, []) else (true, (rNum X n (p + 2)).2, [((lt6 (pk X n p)).toNat, (pk X n (p + 1) - 60).toNat, (rNum X n (p + 2)).1.toNat)])
def rLp (X : Nat → Int) (n : Nat) (f : Nat → rd_T) (c : Int) (t : tk_T) : Nat → Nat → List tk_T → rd_T
  | 0, p, ts => (true, p, ts)
  | k + 1, p, ts => if pk X n p = c then (if (f (p + 1)).1 = true then rLp X n f c t k (f (p + 1)).2.1 (ts ++ (f (p + 1)).2.2 ++ [t]) else (false, (f (p + 1)).2.1, [])) else (true, p, ts)
def rSq (X : Nat → Int) (n : Nat) (f : Nat → rd_T) (c : Int) (t : tk_T) (p : Nat) : rd_T := if (f p).1 = true then rLp X n f c t 100 (f p).2.1 (f p).2.2 else (false, (f p).2.1, [])
def tkA : tk_T := (7, 0, 0)
def tkO : tk_T := (8, 0, 0)
def tkN : tk_T := (6, 0, 0)
def rP (X : Nat → Int) (n : Nat) : Nat → Nat → rd_T
  | 0, p => if pk X n p = 33 ∨ pk X n p = 40 then (false, p, []) else rT X n p
  | m + 1, p =>
    if pk X n p = 40 then (if (rSq X n (rSq X n (rP X n m) 38 tkA) 124 tkO (p + 1)).1 = true then (if pk X n (rSq X n (rSq X n (rP X n m) 38 tkA) 124 tkO (p + 1)).2.1 = 41 then (true, (rSq X n (rSq X n (rP X n m) 38 tkA) 124 tkO (p + 1)).2.1 + 1, (rSq X n (rSq X n (rP X n m) 38 tkA) 124 tkO (p + 1)).2.2) else (false, (rSq X n (rSq X n (rP X n m) 38 tkA) 124 tkO (p + 1)).2.1, [])) else (false, (rSq X n (rSq X n (rP X n m) 38 tkA) 124 tkO (p + 1)).2.1, []))
    else if pk X n p = 33 then (if (rP X n m (p + 1)).1 = true then (true, (rP X n m (p + 1)).2.1, (rP X n m (p + 1)).2.2 ++ [tkN]) else (false, (rP X n m (p + 1)).2.1, []))
    else rT X n p
def rB (X : Nat → Int) (n m : Nat) : Nat → rd_T := rSq X n (rP X n m) 38 tkA
def rE (X : Nat → Int) (n m : Nat) : Nat → rd_T := rSq X n (rB X n m) 124 tkO
/-! heights -/
def okL : List tk_T → Nat → Nat → Prop
  | [], h, h2 => h = h2
  | t :: ts, h, h2 => (t.1 < 6 ∧ t.2.1 < 3 ∧ t.2.2 < 100 ∧ h < 20 ∧ okL ts (h + 1) h2) ∨ (t.1 = 6 ∧ 1 ≤ h ∧ h ≤ 20 ∧ okL ts h h2) ∨ ((t.1 = 7 ∨ t.1 = 8) ∧ 2 ≤ h ∧ h ≤ 20 ∧ okL ts (h - 1) h2)
theorem okL_app : ∀ (ts us : List tk_T) (h h1 h2 : Nat), okL ts h h1 → okL us h1 h2 → okL (ts ++ us) h h2 := by
  intro ts
  induction ts with
  | nil =>
    intro us h h1 h2 a b
    cases (show h = h1 from a)
    exact b
  | cons t ts ih =>
    intro us h h1 h2 a b
    rcases a with ⟨a1, a2, a3, a4, a5⟩ | ⟨a1, a2, a3, a5⟩ | ⟨a1, a2, a3, a5⟩
    · exact Or.inl ⟨a1, a2, a3, a4, ih us _ _ _ a5 b⟩
    · exact Or.inr (Or.inl ⟨a1, a2, a3, ih us _ _ _ a5 b⟩)
    · exact Or.inr (Or.inr ⟨a1, a2, a3, ih us _ _ _ a5 b⟩)
/-- tokens that leave one more, within w above -/
def okW (w : Nat) (ts : List tk_T) : Prop := ∀ h, h + w ≤ 20 → okL ts h (h + 1)
theorem okW_op {w : Nat} {ts us : List tk_T} {t : tk_T} (hw : 1 ≤ w) (ht : t = tkA ∨ t = tkO) (a : okW (w + 1) ts) (b : okW w us) : okW (w + 1) (ts ++ us ++ [t]) := by
  intro h hh
  refine okL_app _ _ _ (h + 2) _ (okL_app _ _ _ (h + 1) _ (a h hh) (b (h + 1) (by omega))) ?_
  refine Or.inr (Or.inr ⟨?_, by omega, by omega, ?_⟩)
  · rcases ht with e | e <;> rw [e]
    · exact Or.inl rfl
    · exact Or.inr rfl
  · show h + 2 - 1 = h + 1
    omega
theorem okW_mono {w w2 : Nat} {ts : List tk_T} (a : okW w ts) (h : w ≤ w2) : okW w2 ts := fun k hk => a k (by omega)
/-- places, how many tokens, their heights -/
def gd (n w : Nat) (p : Nat) (r : rd_T) : Prop := p ≤ r.2.1 ∧ r.2.1 ≤ n ∧ (r.1 = true → p < r.2.1 ∧ r.2.2.length + p ≤ r.2.1 ∧ okW w r.2.2)
theorem pk_n {X : Nat → Int} {n p : Nat} {c : Int} (hc : 0 ≤ c) (h : pk X n p = c) : p < n := by
  unfold pk at h
  split at h
  · assumption
  · omega
theorem pk_ge {X : Nat → Int} {n p : Nat} (h : n ≤ p) : pk X n p = -1 := if_neg (by omega)
theorem rNum_bd (X : Nat → Int) (n p : Nat) : p ≤ (rNum X n p).2 ∧ (p ≤ n → (rNum X n p).2 ≤ n) ∧ (rNum X n p).1 < 100 ∧ (0 ≤ (rNum X n p).1 → p < (rNum X n p).2) ∧ ((rNum X n p).1 < 0 → (rNum X n p).2 = p ∧ (rNum X n p).1 = -1) := by
  unfold rNum
  have h1 : ∀ p, 48 ≤ pk X n p → p < n := fun p h => by
    unfold pk at h
    split at h
    · assumption
    · omega
  split
  · rename_i h
    have a := h1 p h.1
    split
    · rename_i h2
      have b := h1 (p + 1) h2.1
      refine ⟨by dsimp only; omega, fun _ => by dsimp only; omega, by dsimp only; omega, fun _ => by dsimp only; omega, fun h => by dsimp only at h ⊢; omega⟩
    · refine ⟨by dsimp only; omega, fun _ => by dsimp only; omega, by dsimp only; omega, fun _ => by dsimp only; omega, fun h => by dsimp only at h ⊢; omega⟩
  · exact ⟨Nat.le_refl _, fun h => h, show (-1 : Int) < 100 by decide, fun h => absurd h (show ¬ (0 : Int) ≤ -1 by decide), fun _ => ⟨rfl, rfl⟩⟩
theorem lt6_bd (c : Int) : -1 ≤ lt6 c ∧ lt6 c ≤ 5 ∧ (0 ≤ lt6 c → 0 ≤ c) := by
  unfold lt6
  repeat' split
  all_goals omega
theorem rT_gd (X : Nat → Int) (n p : Nat) (hp : p ≤ n) : gd n 1 p (rT X n p) := by
  have b6 := lt6_bd (pk X n p)
  have bn := rNum_bd X n (p + 2)
  have hpn : 0 ≤ pk X n p → p < n := fun h => by
    unfold pk at h
    split at h
    · assumption
    · omega
  have hpn1 : 0 ≤ pk X n (p + 1) → p + 1 < n := fun h => by
    unfold pk at h
    split at h
    · assumption
    · omega
  unfold rT
  split
  · exact ⟨Nat.le_refl _, hp, fun h => by cases h⟩
  · rename_i h1
    have a := hpn (by omega)
    split
    · exact ⟨by dsimp only; omega, by dsimp only; omega, fun h => by cases h⟩
    · rename_i h2
      have b := hpn1 (by omega)
      split
      · exact ⟨by dsimp only; omega, by dsimp only; omega, fun h => by cases h⟩
      · rename_i h3
        refine ⟨by dsimp only; omega, bn.2.1 (by omega), fun _ => ⟨by dsimp only; omega, by dsimp only [List.length_cons, List.length_nil]; omega, fun h hh => ?_⟩⟩
        refine Or.inl ⟨?_, ?_, ?_, by omega, rfl⟩
        · dsimp only; omega
        · dsimp only; omega
        · dsimp only; omega
theorem rLp_gd {X : Nat → Int} {n w : Nat} {f : Nat → rd_T} {c : Int} {t : tk_T} (hw : 1 ≤ w) (hc : 0 ≤ c) (ht : t = tkA ∨ t = tkO) (hf : ∀ p, p ≤ n → gd n w p (f p)) : ∀ k p p0 ts, p0 < p → p ≤ n → ts.length + p0 ≤ p → okW (w + 1) ts → gd n (w + 1) p0 (rLp X n f c t k p ts) := by
  intro k
  induction k with
  | zero =>
    intro p p0 ts h1 h2 h3 h4
    exact ⟨by show p0 ≤ p; omega, h2, fun _ => ⟨h1, h3, h4⟩⟩
  | succ k ih =>
    intro p p0 ts h1 h2 h3 h4
    unfold rLp
    split
    · rename_i h
      have hn := pk_n hc h
      obtain ⟨g1, g2, g3⟩ := hf (p + 1) (by omega)
      split
      · rename_i e
        obtain ⟨g4, g5, g6⟩ := g3 e
        refine ih _ p0 _ (by omega) g2 ?_ (okW_op hw ht h4 g6)
        simp only [List.length_append, List.length_cons, List.length_nil]
        omega
      · exact ⟨by dsimp only; omega, g2, fun h => by cases h⟩
    · exact ⟨by dsimp only; omega, h2, fun _ => ⟨h1, h3, h4⟩⟩
theorem rSq_gd {X : Nat → Int} {n w : Nat} {f : Nat → rd_T} {c : Int} {t : tk_T} (hw : 1 ≤ w) (hc : 0 ≤ c) (ht : t = tkA ∨ t = tkO) (hf : ∀ p, p ≤ n → gd n w p (f p)) (p : Nat) (hp : p ≤ n) : gd n (w + 1) p (rSq X n f c t p) := by
  obtain ⟨g1, g2, g3⟩ := hf p hp
  unfold rSq
  split
  · rename_i e
    obtain ⟨g4, g5, g6⟩ := g3 e
    exact rLp_gd hw hc ht hf 100 _ p _ g4 g2 g5 (okW_mono g6 (by omega))
  · exact ⟨g1, g2, fun h => by cases h⟩
theorem rP_gd (X : Nat → Int) (n : Nat) : ∀ m p, p ≤ n → gd n (2 * m + 1) p (rP X n m p) := by
  intro m
  induction m with
  | zero =>
    intro p hp
    unfold rP
    split
    · exact ⟨Nat.le_refl _, hp, fun h => by cases h⟩
    · exact rT_gd X n p hp
  | succ m ih =>
    intro p hp
    unfold rP
    split
    · rename_i h
      have hn := pk_n (by decide) h
      obtain ⟨g1, g2, g3⟩ := rSq_gd (X := X) (c := 124) (t := tkO) (by omega) (by decide) (Or.inr rfl) (fun q hq => rSq_gd (X := X) (c := 38) (t := tkA) (by omega) (by decide) (Or.inl rfl) ih q hq) (p + 1) (by omega)
      split
      · rename_i e
        obtain ⟨g4, g5, g6⟩ := g3 e
        split
        · rename_i e2
          have := pk_n (by decide) e2
          exact ⟨by dsimp only; omega, by dsimp only; omega, fun _ => ⟨by dsimp only; omega, by dsimp only; omega, okW_mono g6 (by omega)⟩⟩
        · exact ⟨by dsimp only; omega, g2, fun h => by cases h⟩
      · exact ⟨by dsimp only; omega, g2, fun h => by cases h⟩
    · split
      · rename_i h
        have hn := pk_n (by decide) h
        obtain ⟨g1, g2, g3⟩ := ih (p + 1) (by omega)
        split
        · rename_i e
          obtain ⟨g4, g5, g6⟩ := g3 e
          refine ⟨by dsimp only; omega, g2, fun _ => ⟨by dsimp only; omega, by simp only [List.length_append, List.length_cons, List.length_nil]; omega, fun h hh => ?_⟩⟩
          refine okL_app _ _ _ (h + 1) _ (g6 h (by omega)) ?_
          exact Or.inr (Or.inl ⟨rfl, by omega, by omega, rfl⟩)
        · exact ⟨by dsimp only; omega, g2, fun h => by cases h⟩
      · obtain ⟨g1, g2, g3⟩ := rT_gd X n p hp
        exact ⟨g1, g2, fun e => ⟨(g3 e).1, (g3 e).2.1, okW_mono (g3 e).2.2 (by omega)⟩⟩
theorem rB_gd (X : Nat → Int) (n m p : Nat) (hp : p ≤ n) : gd n (2 * m + 2) p (rB X n m p) := rSq_gd (by omega) (by decide) (Or.inl rfl) (rP_gd X n m) p hp
theorem rE_gd (X : Nat → Int) (n m p : Nat) (hp : p ≤ n) : gd n (2 * m + 3) p (rE X n m p) := rSq_gd (by omega) (by decide) (Or.inr rfl) (rB_gd X n m) p hp
theorem rP_s1 {X : Nat → Int} {n m p : Nat} (h : pk X n p = 40) : rP X n (m + 1) p = if (rE X n m (p + 1)).1 = true then (if pk X n (rE X n m (p + 1)).2.1 = 41 then (true, (rE X n m (p + 1)).2.1 + 1, (rE X n m (p + 1)).2.2) else (false, (rE X n m (p + 1)).2.1, [])) else (false, (rE X n m (p + 1)).2.1, []) := if_pos h
theorem rP_s2 {X : Nat → Int} {n m p : Nat} (h : pk X n p = 33) : rP X n (m + 1) p = if (rP X n m (p + 1)).1 = true then (true, (rP X n m (p + 1)).2.1, (rP X n m (p + 1)).2.2 ++ [tkN]) else (false, (rP X n m (p + 1)).2.1, []) := (if_neg (by omega)).trans (if_pos h)
theorem rP_t {X : Nat → Int} {n m p : Nat} (h : pk X n p ≠ 33 ∧ pk X n p ≠ 40) : rP X n m p = rT X n p := by
  cases m with
  | zero => exact if_neg (by omega)
  | succ m => exact (if_neg h.2).trans (if_neg h.1)
theorem rP_0 {X : Nat → Int} {n p : Nat} (h : pk X n p = 33 ∨ pk X n p = 40) : rP X n 0 p = (false, p, []) := if_pos h
theorem rLp_c {X : Nat → Int} {n : Nat} {f : Nat → rd_T} {c : Int} {t : tk_T} {k p : Nat} {ts : List tk_T} (h : pk X n p = c) : rLp X n f c t (k + 1) p ts = if (f (p + 1)).1 = true then rLp X n f c t k (f (p + 1)).2.1 (ts ++ (f (p + 1)).2.2 ++ [t]) else (false, (f (p + 1)).2.1, []) := if_pos h
theorem rLp_n {X : Nat → Int} {n : Nat} {f : Nat → rd_T} {c : Int} {t : tk_T} {k p : Nat} {ts : List tk_T} (h : pk X n p ≠ c) : rLp X n f c t k p ts = (true, p, ts) := by
  cases k with
  | zero => rfl
  | succ k => exact if_neg h
