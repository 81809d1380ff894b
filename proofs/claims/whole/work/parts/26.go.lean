/-! A go by itself: lk what one looks for (word, without, minute, size, film). -/
abbrev lk_T : Type := Nat → Int → Int → Int → Int → Int
def mkLk (sq : Option sq_T) (b k v : Int) : lk_T := fun w wo clk sz fm => lkV sq (FL b k v clk sz fm) w wo
def lkB (lk : lk_T) : Prop := ∀ w wo clk sz fm, 0 ≤ wo → wo ≤ 1 → 0 ≤ lk w wo clk sz fm ∧ lk w wo clk sz fm ≤ 990
theorem mkLk_bd {sq : Option sq_T} {b k v : Int} (h : ∀ Q, sq = some Q → SQv Q) : lkB (mkLk sq b k v) := fun _ _ _ _ _ h1 h2 => lkV_bd h ⟨h1, h2⟩
theorem SQs_v {fi : am_I} {sq : Option sq_T} (h : SQs fi sq) : ∀ Q, sq = some Q → SQv Q := by
  intro Q e
  subst e
  obtain ⟨s0, -, -, -, hv⟩ := h
  exact hv
theorem SQk_v {g : am_G} {fi : am_I} {sq : Option sq_T} (h : SQk g fi sq) : ∀ Q, sq = some Q → SQv Q := by
  intro Q e
  subst e
  obtain ⟨q, a0, a1, a2, a4, a5, a6, -, -, -, -, hv⟩ := h
  exact hv
def paceV (kd sz : Int) : Int := if kd = 3 ∨ kd = 6 then 1 else if kd = 4 then (if sz < 20 then 3 else 2) else 2
theorem paceV_bd (kd sz : Int) : 1 ≤ paceV kd sz ∧ paceV kd sz ≤ 3 := by
  unfold paceV
  repeat' split
  all_goals omega
def shutB (kd v aim : Int) (row : Nat → Int) (sz fm wd clk : Int) : Bool := decide ((kd = 0 ∧ aim ≤ sz) ∨ (kd = 1 ∧ aim + v ≤ sz) ∨ (kd = 2 ∧ (aim ≤ sz ∨ fm ≤ sz + v)) ∨ (kd = 3 ∧ aim ≤ sz) ∨ (kd = 4 ∧ wd ≤ 5 ∧ aim + v ≤ sz) ∨ (kd = 5 ∧ (aim ≤ sz ∨ fm ≤ sz + v ∨ (wd = 0 ∧ 10 ≤ sz))) ∨ (kd = 6 ∧ aim + row (clk % 4).toNat ≤ sz))
theorem shutB_t {kd v aim sz fm wd clk : Int} {row : Nat → Int} : shutB kd v aim row sz fm wd clk = true ↔ ((kd = 0 ∧ aim ≤ sz) ∨ (kd = 1 ∧ aim + v ≤ sz) ∨ (kd = 2 ∧ (aim ≤ sz ∨ fm ≤ sz + v)) ∨ (kd = 3 ∧ aim ≤ sz) ∨ (kd = 4 ∧ wd ≤ 5 ∧ aim + v ≤ sz) ∨ (kd = 5 ∧ (aim ≤ sz ∨ fm ≤ sz + v ∨ (wd = 0 ∧ 10 ≤ sz))) ∨ (kd = 6 ∧ aim + row (clk % 4).toNat ≤ sz)) := decide_eq_true_iff
theorem shutB_f {kd v aim sz fm wd clk : Int} {row : Nat → Int} : shutB kd v aim row sz fm wd clk = false ↔ ¬ ((kd = 0 ∧ aim ≤ sz) ∨ (kd = 1 ∧ aim + v ≤ sz) ∨ (kd = 2 ∧ (aim ≤ sz ∨ fm ≤ sz + v)) ∨ (kd = 3 ∧ aim ≤ sz) ∨ (kd = 4 ∧ wd ≤ 5 ∧ aim + v ≤ sz) ∨ (kd = 5 ∧ (aim ≤ sz ∨ fm ≤ sz + v ∨ (wd = 0 ∧ 10 ≤ sz))) ∨ (kd = 6 ∧ aim + row (clk % 4).toNat ≤ sz)) := decide_eq_false_iff_not
/-- how it went: free, minute, size, film, minutes -/
abbrev go_T : Type := Bool × Int × Int × Int × Nat
def windV (lk : lk_T) (gust : Int) (calm : Bool) (k : Nat) (clk sz fm : Int) : Int := if calm = true then 0 else lk 0 0 clk sz fm + (if k = 0 then gust else 0)
def goL (lk : lk_T) (kd v aim : Int) (row : Nat → Int) (gust : Int) (calm : Bool) : Nat → Nat → Int → Int → Int → go_T
  | 0, k, clk, sz, fm => (false, clk, sz, fm, k)
  | n + 1, k, clk, sz, fm =>
    if fm - (paceV kd sz + windV lk gust calm k clk sz fm) < (sz + paceV kd sz) / 2 then (false, clk + 1, sz + paceV kd sz, fm - (paceV kd sz + windV lk gust calm k clk sz fm), k + 1)
    else if shutB kd v aim row (sz + paceV kd sz) (fm - (paceV kd sz + windV lk gust calm k clk sz fm)) (windV lk gust calm k clk sz fm) (clk + 1) = true then (true, clk + 1, sz + paceV kd sz, fm - (paceV kd sz + windV lk gust calm k clk sz fm), k + 1)
    else goL lk kd v aim row gust calm n (k + 1) (clk + 1) (sz + paceV kd sz) (fm - (paceV kd sz + windV lk gust calm k clk sz fm))
theorem goL_1 {lk : lk_T} {kd v aim gust clk sz fm pc wd : Int} {row : Nat → Int} {calm : Bool} {n k : Nat} (hp : paceV kd sz = pc) (hw : windV lk gust calm k clk sz fm = wd) (h : fm - (pc + wd) < (sz + pc) / 2) : goL lk kd v aim row gust calm (n + 1) k clk sz fm = (false, clk + 1, sz + pc, fm - (pc + wd), k + 1) := by
  subst hp; subst hw
  exact if_pos h
theorem goL_2 {lk : lk_T} {kd v aim gust clk sz fm pc wd : Int} {row : Nat → Int} {calm : Bool} {n k : Nat} (hp : paceV kd sz = pc) (hw : windV lk gust calm k clk sz fm = wd) (h : (sz + pc) / 2 ≤ fm - (pc + wd)) (hs : shutB kd v aim row (sz + pc) (fm - (pc + wd)) wd (clk + 1) = true) : goL lk kd v aim row gust calm (n + 1) k clk sz fm = (true, clk + 1, sz + pc, fm - (pc + wd), k + 1) := by
  subst hp; subst hw
  exact (if_neg (by omega)).trans (if_pos hs)
theorem goL_3 {lk : lk_T} {kd v aim gust clk sz fm pc wd : Int} {row : Nat → Int} {calm : Bool} {n k : Nat} (hp : paceV kd sz = pc) (hw : windV lk gust calm k clk sz fm = wd) (h : (sz + pc) / 2 ≤ fm - (pc + wd)) (hs : shutB kd v aim row (sz + pc) (fm - (pc + wd)) wd (clk + 1) = false) : goL lk kd v aim row gust calm (n + 1) k clk sz fm = goL lk kd v aim row gust calm n (k + 1) (clk + 1) (sz + pc) (fm - (pc + wd)) := by
  subst hp; subst hw
  exact (if_neg (by omega)).trans (if_neg (by rw [hs]; decide))
def gSz (R : go_T) : Int := if R.1 = true then R.2.2.1 else 0
def gLf (lk : lk_T) (R : go_T) : Int := if R.1 = true then 10 * R.2.2.2.1 / (R.2.2.1 + 1) / (lk 1 1 R.2.1 R.2.2.1 R.2.2.2.1 + 1) else 0
def gBr (lk : lk_T) (R : go_T) : Int := if R.1 = true then min (R.2.2.1 * gLf lk R * lk 2 1 R.2.1 R.2.2.1 R.2.2.2.1) 99999 else 0
def gMn (R : go_T) : Int := R.2.2.2.2
def goodV (soap sugar guar : Int) : Int := max (30 - 4 * max (soap - 5) (5 - soap) - 2 * max (sugar - 3) (3 - sugar) + guar) 0
/-- bounds of how it went -/
theorem goL_bd {lk : lk_T} {kd v aim gust : Int} {row : Nat → Int} {calm : Bool} (hl : lkB lk) (hg : 0 ≤ gust) : ∀ n k clk sz fm R, goL lk kd v aim row gust calm n k clk sz fm = R → 0 ≤ sz → sz ≤ 3 * k → fm ≤ 351 → R.2.2.2.2 ≤ k + n ∧ R.2.1 = clk + (R.2.2.2.2 - k) ∧ k ≤ R.2.2.2.2 ∧ 0 ≤ R.2.2.1 ∧ R.2.2.1 ≤ 3 * R.2.2.2.2 ∧ R.2.2.2.1 ≤ 351 ∧ (R.1 = true → R.2.2.1 / 2 ≤ R.2.2.2.1 ∧ 1 ≤ R.2.2.1) := by
  intro n
  induction n with
  | zero =>
    intro k clk sz fm R e h1 h2 h3
    subst e
    simp only [goL]
    refine ⟨by omega, by omega, by omega, h1, by omega, h3, fun h => by cases h⟩
  | succ n ih =>
    intro k clk sz fm R e h1 h2 h3
    have hp := paceV_bd kd sz
    have hw : 0 ≤ windV lk gust calm k clk sz fm := by
      unfold windV
      have := (hl 0 0 clk sz fm (by decide) (by decide)).1
      repeat' split
      all_goals omega
    rcases Decidable.em (fm - (paceV kd sz + windV lk gust calm k clk sz fm) < (sz + paceV kd sz) / 2) with h | h
    · rw [goL_1 rfl rfl h] at e
      subst e
      dsimp only
      refine ⟨by omega, by omega, by omega, by omega, by omega, by omega, fun h => by cases h⟩
    · cases hs : shutB kd v aim row (sz + paceV kd sz) (fm - (paceV kd sz + windV lk gust calm k clk sz fm)) (windV lk gust calm k clk sz fm) (clk + 1) with
      | true =>
        rw [goL_2 rfl rfl (by omega) hs] at e
        subst e
        dsimp only
        refine ⟨by omega, by omega, by omega, by omega, by omega, by omega, fun _ => ⟨by omega, by omega⟩⟩
      | false =>
        rw [goL_3 rfl rfl (by omega) hs] at e
        obtain ⟨a1, a2, a3, a4, a5, a6, a7⟩ := ih (k + 1) _ _ _ R e (by omega) (by omega) (by omega)
        exact ⟨by omega, by omega, by omega, a4, a5, a6, a7⟩
theorem gLf_bd {lk : lk_T} (hl : lkB lk) {R : go_T} (h1 : R.1 = true → R.2.2.1 / 2 ≤ R.2.2.2.1 ∧ 1 ≤ R.2.2.1) (h2 : R.2.2.2.1 ≤ 351) : 0 ≤ gLf lk R ∧ gLf lk R ≤ 3510 ∧ (R.1 = true → R.2.2.1 * gLf lk R ≤ 3510 ∧ 0 ≤ R.2.2.1 * gLf lk R) := by
  unfold gLf
  split
  · rename_i h
    obtain ⟨h3, h4⟩ := h1 h
    have hk := hl 1 1 R.2.1 R.2.2.1 R.2.2.2.1 (by decide) (by decide)
    generalize lk 1 1 R.2.1 R.2.2.1 R.2.2.2.1 = D at hk
    generalize R.2.2.1 = s at *
    generalize R.2.2.2.1 = f at *
    have h0 : 0 ≤ 10 * f := by omega
    have a0 : 0 ≤ 10 * f / (s + 1) := Int.ediv_nonneg h0 (by omega)
    have a1 : 10 * f / (s + 1) / (D + 1) ≤ 10 * f / (s + 1) := Int.ediv_le_self _ a0
    have a2 : 10 * f / (s + 1) ≤ 10 * f := Int.ediv_le_self _ h0
    have a3 : 0 ≤ 10 * f / (s + 1) / (D + 1) := Int.ediv_nonneg a0 (by omega)
    have a4 : (s + 1) * (10 * f / (s + 1)) ≤ 10 * f := Int.mul_ediv_self_le (by omega)
    generalize 10 * f / (s + 1) / (D + 1) = l at *
    generalize 10 * f / (s + 1) = y at *
    have a5 : s * l ≤ s * y := Int.mul_le_mul_of_nonneg_left a1 (by omega)
    have a6 : s * y ≤ (s + 1) * y := Int.mul_le_mul_of_nonneg_right (by omega) a0
    have a7 : 0 ≤ s * l := Int.mul_nonneg (by omega) a3
    exact ⟨a3, by omega, fun _ => ⟨by omega, a7⟩⟩
  · rename_i h
    exact ⟨by omega, by omega, fun k => absurd k h⟩
theorem gBr_bd {lk : lk_T} (hl : lkB lk) {R : go_T} (h1 : R.1 = true → R.2.2.1 / 2 ≤ R.2.2.2.1 ∧ 1 ≤ R.2.2.1) (h2 : R.2.2.2.1 ≤ 351) : 0 ≤ gBr lk R ∧ gBr lk R ≤ 99999 := by
  unfold gBr
  split
  · rename_i h
    have h3 := (gLf_bd hl h1 h2).2.2 h
    have hk := hl 2 1 R.2.1 R.2.2.1 R.2.2.2.1 (by decide) (by decide)
    have := Int.mul_nonneg h3.2 hk.1
    omega
  · omega
/-! virtual calls of a blower of any kind -/
def vtk (a : Nat) (kd : Int) : Nat := (am_vt a (am_kt kd)).getD 0
theorem kt_mem (kd : Int) : am_kt kd = 0 ∨ am_kt kd = 1 ∨ am_kt kd = 2 ∨ am_kt kd = 5 ∨ am_kt kd = 4 ∨ am_kt kd = 10 ∨ am_kt kd = 9 := by
  unfold am_kt
  repeat' split
  all_goals simp
theorem vtk_s {a : Nat} (ha : a < 8) (kd : Int) : am_vt a (am_kt kd) = some (vtk a kd) := by
  have h : ∀ a, a < 8 → (am_vt a 0).isSome = true ∧ (am_vt a 1).isSome = true ∧ (am_vt a 2).isSome = true ∧ (am_vt a 5).isSome = true ∧ (am_vt a 4).isSome = true ∧ (am_vt a 10).isSome = true ∧ (am_vt a 9).isSome = true := by decide
  obtain ⟨h0, h1, h2, h5, h4, h10, h9⟩ := h a ha
  have : (am_vt a (am_kt kd)).isSome = true := by
    rcases kt_mem kd with e | e | e | e | e | e | e <;> rw [e] <;> assumption
  unfold vtk
  obtain ⟨y, hy⟩ := Option.isSome_iff_exists.mp this
  rw [hy]
  rfl
theorem vtk_M2 {a : Nat} (ha : a < 5) (kd : Int) : am_ML (vtk a kd) = 2 := by
  have h : ∀ a, a < 5 → am_ML ((am_vt a 0).getD 0) = 2 ∧ am_ML ((am_vt a 1).getD 0) = 2 ∧ am_ML ((am_vt a 2).getD 0) = 2 ∧ am_ML ((am_vt a 5).getD 0) = 2 ∧ am_ML ((am_vt a 4).getD 0) = 2 ∧ am_ML ((am_vt a 10).getD 0) = 2 ∧ am_ML ((am_vt a 9).getD 0) = 2 := by decide
  obtain ⟨h0, h1, h2, h5, h4, h10, h9⟩ := h a ha
  unfold vtk
  rcases kt_mem kd with e | e | e | e | e | e | e <;> rw [e] <;> assumption
theorem wi_cvK1 {d m pc n a i q : Nat} {ls : List (Option Value)} {r : List Value} {g : am_G} {fi : am_I} {fl : am_L} {P : Option Value → am_G → am_I → am_L → Prop} {v0 : Value} {kd : Int} (hc : am_CT m pc = some (.invokevirtual i, n, a, 1, 0)) (hd : am_cats r ≤ 8) (ht : g.1 q = am_kt kd) (ha : a < 5) (hv : v0.category = 1) (k : WP d (vtk a kd) 0 [some (.ref q), some v0] [] g fi fl (am_K (d + 1) m n ls r P)) : WP (d + 1) m pc ls (v0 :: .ref q :: r) g fi fl P := by
  have hf : am_flat [.ref q, v0] = [some (.ref q), some v0] := by
    show some (Value.ref q) :: (if v0.category = 2 then some v0 :: none :: am_flat [] else some v0 :: am_flat []) = _
    rw [if_neg (by rw [hv]; decide)]
    rfl
  refine wi_cv1 (y := vtk a kd) (t := am_kt kd) (ls' := [some (.ref q), some v0]) hc hd (by decide) ht (am_ktb kd) (fun h => absurd h (by omega)) (vtk_s (by omega) kd) ?_ ?_ k
  · rw [vtk_M2 ha]
    unfold am_ent
    rw [hf]
    rfl
  · rw [vtk_M2 ha, hf]
    exact Nat.le_refl _
