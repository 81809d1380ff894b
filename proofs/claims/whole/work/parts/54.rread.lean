/-! The reference's reading: its stack of waiting signs. -/
def TKR (fi : am_I) (F : Nat) (ts : List tk_T) : Prop := ∀ k, k < ts.length → (fi 45 (F + k)).toInt = am_enc (ts.getD k (0, 0, 0))
def WT (fi : am_I) : List Int → Prop
  | [] => True
  | s :: σ => (fi 46 σ.length).toInt = s ∧ WT fi σ
def opn : List Int → Nat
  | [] => 0
  | s :: σ => if s = 33 ∨ s = 40 then opn σ + 1 else opn σ
def strp : List Int → List Int
  | [] => []
  | s :: σ => if s = 33 then strp σ else s :: σ
def nots : List Int → List tk_T
  | [] => []
  | s :: σ => if s = 33 then tkN :: nots σ else []
def stl1 (c : Int) : List Int → List Int
  | [] => []
  | s :: σ => if s = 38 ∨ (s = 124 ∧ c ≠ 38) then stl1 c σ else s :: σ
def stl2 (c : Int) : List Int → List tk_T
  | [] => []
  | s :: σ => if s = 38 ∨ (s = 124 ∧ c ≠ 38) then (if s = 38 then tkA else tkO) :: stl2 c σ else []
def RPF (fi fi2 : am_I) (p : Nat) : Prop := (fi2 31 12).toInt = (p : Int) ∧ (∀ x, x ≠ 31 → fi2 x = fi x) ∧ ∀ j, j ≠ 12 → j ≠ 13 → fi2 31 j = fi 31 j
def RFr (F c : Nat) (fi0 fi : am_I) : Prop := (∀ x, x ≠ 31 → x ≠ 44 → x ≠ 45 → x ≠ 46 → fi x = fi0 x) ∧ (∀ j, j ≠ 12 → j ≠ 13 → j ≠ 22 → j ≠ 23 → j ≠ 24 → fi 31 j = fi0 31 j) ∧ (∀ j, j ≠ c → fi 44 j = fi0 44 j) ∧ ∀ j, j < F ∨ F + 100 ≤ j → fi 45 j = fi0 45 j
def RSt (n F c : Nat) (fi0 fi : am_I) (p : Nat) (ts : List tk_T) (σ : List Int) : Prop := (fi 31 12).toInt = (p : Int) ∧ (fi 31 22).toInt = (F : Int) + ts.length ∧ (fi 31 23).toInt = (σ.length : Int) ∧ (fi 31 24).toInt = (opn σ : Int) ∧ TKR fi F ts ∧ WT fi σ ∧ RFr F c fi0 fi ∧ ts.length + σ.length ≤ p ∧ p ≤ n
def RTX (L : Nat) (g : am_G) (fi0 : am_I) (X : Nat → Int) (n : Nat) : Prop := SF L g ∧ (fi0 31 11).toInt = (n : Int) ∧ (∀ j, j < n → (fi0 39 j).toInt = X j) ∧ n ≤ 100 ∧ ∀ j, j < n → 0 ≤ X j ∧ X j ≤ 127
section ARS
variable {L n F c p p2 : Nat} {g : am_G} {fi0 fi fi2 fi3 : am_I} {X : Nat → Int} {ts : List tk_T} {σ : List Int} {s : Int}
theorem WT.fr (e : fi2 46 = fi 46) : ∀ σ, WT fi σ → WT fi2 σ := by
  intro σ
  induction σ with
  | nil => intro _; trivial
  | cons s σ ih =>
    intro h
    exact ⟨by rw [e]; exact h.1, ih h.2⟩
theorem WT.frn : ∀ σ (k : Nat), σ.length ≤ k → (∀ j, j ≠ k → fi2 46 j = fi 46 j) → WT fi σ → WT fi2 σ := by
  intro σ
  induction σ with
  | nil => intro _ _ _ _; trivial
  | cons s σ ih =>
    intro k hk e h
    have hk2 : σ.length + 1 ≤ k := hk
    exact ⟨by rw [e _ (by omega)]; exact h.1, ih k (by omega) e h.2⟩
theorem WT.push (h : WT fi σ) (e : ∀ j, j ≠ σ.length → fi2 46 j = fi 46 j) (v : (fi2 46 σ.length).toInt = s) : WT fi2 (s :: σ) := ⟨v, WT.frn σ _ (Nat.le_refl _) e h⟩
theorem TKR.fr (h : TKR fi F ts) (e : fi2 45 = fi 45) : TKR fi2 F ts := by
  unfold TKR
  rw [e]
  exact h
theorem TKR.add {t : tk_T} (h : TKR fi F ts) (e : ∀ j, j ≠ F + ts.length → fi2 45 j = fi 45 j) (v : (fi2 45 (F + ts.length)).toInt = am_enc t) : TKR fi2 F (ts ++ [t]) := by
  intro k hk
  rcases Decidable.em (k = ts.length) with h1 | h1
  · rw [h1, getD_app]
    exact v
  · have hl : k < ts.length := by
      simp only [List.length_append, List.length_cons, List.length_nil] at hk
      omega
    rw [getD_apl hl, e _ (by omega)]
    exact h k hl
theorem RPF.rfl (h : (fi 31 12).toInt = (p : Int)) : RPF fi fi p := ⟨h, fun _ _ => Eq.refl _, fun _ _ _ => Eq.refl _⟩
theorem RPF.trans (h : RPF fi fi2 p) (k : RPF fi2 fi3 p2) : RPF fi fi3 p2 := ⟨k.1, fun x e => (k.2.1 x e).trans (h.2.1 x e), fun j e e2 => (k.2.2 j e e2).trans (h.2.2 j e e2)⟩
theorem RPF.hl (k : RPF fi fi2 p) (h : (fi 31 11).toInt = (n : Int)) : (fi2 31 11).toInt = (n : Int) := by
  rw [k.2.2 11 (by decide) (by decide)]
  exact h
theorem RPF.hx (k : RPF fi fi2 p) (h : ∀ j, j < n → (fi 39 j).toInt = X j) : ∀ j, j < n → (fi2 39 j).toInt = X j := by
  rw [k.2.1 39 (by decide)]
  exact h
theorem RPF.fr (k : RPF fi fi2 p) (h : RFr F c fi0 fi) : RFr F c fi0 fi2 := by
  refine ⟨fun x e1 e2 e3 e4 => (k.2.1 x e1).trans (h.1 x e1 e2 e3 e4), fun j e1 e2 e3 e4 e5 => (k.2.2 j e1 e2).trans (h.2.1 j e1 e2 e3 e4 e5), fun j e => ?_, fun j e => ?_⟩
  · rw [k.2.1 44 (by decide)]
    exact h.2.2.1 j e
  · rw [k.2.1 45 (by decide)]
    exact h.2.2.2 j e
theorem RSt.pf (h : RSt n F c fi0 fi p ts σ) (k : RPF fi fi2 p2) (hp : ts.length + σ.length ≤ p2) (hn : p2 ≤ n) : RSt n F c fi0 fi2 p2 ts σ := by
  obtain ⟨h1, h2, h3, h4, h5, h6, h7, h8, h9⟩ := h
  refine ⟨k.1, ?_, ?_, ?_, TKR.fr h5 (k.2.1 45 (by decide)), WT.fr (k.2.1 46 (by decide)) _ h6, k.fr h7, hp, hn⟩
  · rw [k.2.2 22 (by decide) (by decide)]
    exact h2
  · rw [k.2.2 23 (by decide) (by decide)]
    exact h3
  · rw [k.2.2 24 (by decide) (by decide)]
    exact h4
theorem RSt.tl (hT : RTX L g fi0 X n) (h : RSt n F c fi0 fi p ts σ) : (fi 31 11).toInt = (n : Int) := by
  obtain ⟨-, -, -, -, -, -, h7, -⟩ := h
  rw [h7.2.1 11 (by decide) (by decide) (by decide) (by decide) (by decide)]
  exact hT.2.1
theorem RSt.tx (hT : RTX L g fi0 X n) (h : RSt n F c fi0 fi p ts σ) : ∀ j, j < n → (fi 39 j).toInt = X j := by
  obtain ⟨-, -, -, -, -, -, h7, -⟩ := h
  rw [h7.1 39 (by decide) (by decide) (by decide) (by decide)]
  exact hT.2.2.1
theorem opn_le : ∀ σ : List Int, opn σ ≤ σ.length := by
  intro σ
  induction σ with
  | nil => exact Nat.le_refl _
  | cons s σ ih =>
    unfold opn
    rw [List.length_cons]
    split <;> omega
theorem strp_ln : ∀ σ : List Int, (nots σ).length + (strp σ).length = σ.length := by
  intro σ
  induction σ with
  | nil => rfl
  | cons s σ ih =>
    unfold nots strp
    split
    · simp only [List.length_cons]
      omega
    · simp only [List.length_nil, Nat.zero_add]
theorem enc_t {a b c : Nat} (h : a < 6) : am_enc (a, b, c) = 1000 * (a : Int) + 100 * (b : Int) + (c : Int) := if_pos h
end ARS
theorem r_peek {L n p : Nat} {d : Nat} {g : am_G} {fi : am_I} {fl : am_L} {P : Option Value → am_G → am_I → am_L → Prop} {X : Nat → Int} (hS : SF L g) (hp : (fi 31 12).toInt = (p : Int)) (hl : (fi 31 11).toInt = (n : Int)) (hx : ∀ j, j < n → (fi 39 j).toInt = X j) (hn : n ≤ 100) (hxb : ∀ j, j < n → 0 ≤ X j ∧ X j ≤ 127) (kk : ∀ z : Int32, z.toInt = pk X n p → P (some (.int z)) g fi fl) : WP d 127 0 [some (.ref 31)] [] g fi fl P := by
  refine wi_aload_0 ct_127_0 ?_
  refine wi_gf (x := fi 31 12) ct_127_1 (sT_31 hS) rfl rfl rfl ?_
  refine wi_aload_0 ct_127_4 ?_
  refine wi_gf (x := fi 31 11) ct_127_5 (sT_31 hS) rfl rfl rfl ?_
  refine wi_icge ct_127_8 hp hl (fun h1 => ?_) (fun h1 => ?_)
  · skip
    refine wi_ic ct_127_23 kc_m1 ?_
    refine wi_iret ct_127_24 rfl ?_
    exact kk _ (ki_m1.trans (pk_ge (by omega)).symm)
  · skip
    refine wi_aload_0 ct_127_11 ?_
    refine wi_gfr ct_127_12 (sT_31 hS) rfl (sR_31_14 hS) ?_
    refine wi_aload_0 ct_127_15 ?_
    refine wi_gf (x := fi 31 12) ct_127_16 (sT_31 hS) rfl rfl rfl ?_
    refine wi_iald (x := fi 39 p) ct_127_19 (sT_39 hS) (sL_39 hS) (i_in hp (by omega)) (i_cl (k := p) hp (by omega)) rfl ?_
    refine wi_goto ct_127_20 ?_
    refine wi_iret ct_127_24 rfl ?_
    exact kk _ ((hx p (by omega)).trans (if_pos (by omega) : pk X n p = X p).symm)
theorem r_pass {L n p : Nat} {d : Nat} {g : am_G} {fi : am_I} {fl : am_L} {P : Option Value → am_G → am_I → am_L → Prop} {X : Nat → Int} {c : Int32} {C : Int} (hS : SF L g) (hp : (fi 31 12).toInt = (p : Int)) (hl : (fi 31 11).toInt = (n : Int)) (hx : ∀ j, j < n → (fi 39 j).toInt = X j) (hn : n ≤ 100) (hxb : ∀ j, j < n → 0 ≤ X j ∧ X j ≤ 127) (hp9 : p ≤ 1000) (hc : c.toInt = C) (k1 : pk X n p = C → ∀ fi2, RPF fi fi2 (p + 1) → P (some (.int 1)) g fi2 fl) (k2 : pk X n p ≠ C → P (some (.int 0)) g fi fl) : WP (d + 1) 128 0 [some (.ref 31), some (.int c)] [] g fi fl P := by
  refine wi_aload_0 ct_128_0 ?_
  refine wi_cv0 (ls' := [some _]) ct_128_1 (Nat.le_of_ble_eq_true rfl) (by decide) (sT_31 hS) rfl (by decide) rfl rfl (Nat.le_of_ble_eq_true rfl) ?_
  refine r_peek (p := p) hS hp hl hx hn hxb (fun z1 hz1 => wk_i ?_)
  have hbz1 := pk_bd hxb (p := p)
  refine wi_iload_1 ct_128_4 ?_
  refine wi_iceq ct_128_5 hz1 hc (fun h2 => ?_) (fun h2 => ?_)
  · skip
    refine wi_aload_0 ct_128_10 ?_
    refine wi_dup ct_128_11 rfl ?_
    refine wi_gf (x := fi 31 12) ct_128_12 (sT_31 hS) rfl rfl rfl ?_
    refine wi_ic ct_128_15 kc_1 ?_
    refine wi_iadd ct_128_16 rfl ?_
    refine wi_pf ct_128_17 (sT_31 hS) rfl ?_
    refine wi_ic ct_128_20 kc_1 ?_
    refine wi_iret ct_128_21 (by decide) ?_
    exact k1 (by omega) _ ⟨(congrArg Int32.toInt up2_eq).trans ((i_add hp ki_1 (by omega)).trans (by omega)), fun x e => (funext fun _ => up2_nq e), fun j e1 e2 => (up2_nj e1)⟩
  · skip
    refine wi_ic ct_128_8 kc_0 ?_
    refine wi_iret ct_128_9 (by decide) ?_
    exact k2 (by omega)
theorem r_num {L n p : Nat} {d : Nat} {g : am_G} {fi : am_I} {fl : am_L} {P : Option Value → am_G → am_I → am_L → Prop} {X : Nat → Int} (hS : SF L g) (hp : (fi 31 12).toInt = (p : Int)) (hl : (fi 31 11).toInt = (n : Int)) (hx : ∀ j, j < n → (fi 39 j).toInt = X j) (hn : n ≤ 100) (hxb : ∀ j, j < n → 0 ≤ X j ∧ X j ≤ 127) (hp9 : p ≤ 900) (k1 : 0 ≤ (rNum X n p).1 → ∀ fi2, RPF fi fi2 (rNum X n p).2 → (fi2 31 13).toInt = (rNum X n p).1 → P (some (.int 1)) g fi2 fl) (k2 : (rNum X n p).1 < 0 → P (some (.int 0)) g fi fl) : WP (d + 2) 131 0 [some (.ref 31), none] [] g fi fl P := by
  refine wi_aload_0 ct_131_0 ?_
  refine wi_cv0 (ls' := [some _]) ct_131_1 (Nat.le_of_ble_eq_true rfl) (by decide) (sT_31 hS) rfl (by decide) rfl rfl (Nat.le_of_ble_eq_true rfl) ?_
  refine wi_aload_0 ct_130_0 ?_
  refine wi_aload_0 ct_130_1 ?_
  refine wi_cv0 (ls' := [some _]) ct_130_2 (Nat.le_of_ble_eq_true rfl) (by decide) (sT_31 hS) rfl (by decide) rfl rfl (Nat.le_of_ble_eq_true rfl) ?_
  refine r_peek (p := p) hS hp hl hx hn hxb (fun z1 hz1 => wk_i ?_)
  have hbz1 := pk_bd hxb (p := p)
  refine wi_ic ct_130_5 kc_48 ?_
  refine wi_ic ct_130_7 kc_57 ?_
  refine wi_cv3 (ls' := [some _, some _, some _, some _]) ct_130_9 (Nat.le_of_ble_eq_true rfl) (by decide) (sT_31 hS) rfl (by decide) rfl rfl (Nat.le_of_ble_eq_true rfl) ?_
  refine wi_iload_1 ct_119_0 ?_
  refine wi_iload_2 ct_119_1 ?_
  refine wi_iclt ct_119_2 hz1 ki_48 (fun h2 => ?_) (fun h2 => ?_)
  · skip
    refine wi_ic ct_119_14 kc_0 ?_
    refine wi_iret ct_119_15 (by decide) (wk_i ?_)
    refine wi_iret ct_130_12 (by decide) (wk_i ?_)
    refine wi_ifne_f ct_131_4 ki_0 (by decide) ?_
    refine wi_ic ct_131_7 kc_0 ?_
    refine wi_iret ct_131_8 (by decide) ?_
    have hr : rNum X n p = (-1, p) := if_neg (by omega)
    exact k2 (by rw [hr]; exact (by decide : (-1 : Int) < 0))
  · skip
    refine wi_iload_1 ct_119_5 ?_
    refine wi_iload_3 ct_119_6 ?_
    refine wi_icgt ct_119_7 hz1 ki_57 (fun h3 => ?_) (fun h3 => ?_)
    · skip
      refine wi_ic ct_119_14 kc_0 ?_
      refine wi_iret ct_119_15 (by decide) (wk_i ?_)
      refine wi_iret ct_130_12 (by decide) (wk_i ?_)
      refine wi_ifne_f ct_131_4 ki_0 (by decide) ?_
      refine wi_ic ct_131_7 kc_0 ?_
      refine wi_iret ct_131_8 (by decide) ?_
      have hr : rNum X n p = (-1, p) := if_neg (by omega)
      exact k2 (by rw [hr]; exact (by decide : (-1 : Int) < 0))
    · skip
      refine wi_ic ct_119_10 kc_1 ?_
      refine wi_goto ct_119_11 ?_
      refine wi_iret ct_119_15 (by decide) (wk_i ?_)
      refine wi_iret ct_130_12 (by decide) (wk_i ?_)
      refine wi_ifne_t ct_131_4 ki_1 (by decide) ?_
      refine wi_aload_0 ct_131_9 ?_
      refine wi_ic ct_131_10 kc_0 ?_
      refine wi_pf ct_131_11 (sT_31 hS) rfl ?_
      refine wi_ic ct_131_14 kc_0 ?_
      refine wi_istore_1 rfl ct_131_15 ?_
      refine wi_iload_1 ct_131_16 ?_
      refine wi_ic ct_131_17 kc_2 ?_
      refine wi_icge_f ct_131_18 ki_0 ki_2 (by decide) ?_
      refine wi_aload_0 ct_131_21 ?_
      refine wi_cv0 (ls' := [some _]) ct_131_22 (Nat.le_of_ble_eq_true rfl) (by decide) (sT_31 hS) rfl (by decide) rfl rfl (Nat.le_of_ble_eq_true rfl) ?_
      refine wi_aload_0 ct_130_0 ?_
      refine wi_aload_0 ct_130_1 ?_
      refine wi_cv0 (ls' := [some _]) ct_130_2 (Nat.le_of_ble_eq_true rfl) (by decide) (sT_31 hS) rfl (by decide) rfl rfl (Nat.le_of_ble_eq_true rfl) ?_
      refine r_peek (p := p) hS ((congrArg Int32.toInt (up2_nj (by decide))).trans (hp.trans (by omega))) ((congrArg Int32.toInt (up2_nj (by decide))).trans hl) (fun j hj => (congrArg Int32.toInt (up2_nq (by decide))).trans (hx j hj)) hn hxb (fun z4 hz4 => wk_i ?_)
      have hbz4 := pk_bd hxb (p := p)
      refine wi_ic ct_130_5 kc_48 ?_
      refine wi_ic ct_130_7 kc_57 ?_
      refine wi_cv3 (ls' := [some _, some _, some _, some _]) ct_130_9 (Nat.le_of_ble_eq_true rfl) (by decide) (sT_31 hS) rfl (by decide) rfl rfl (Nat.le_of_ble_eq_true rfl) ?_
      refine wi_iload_1 ct_119_0 ?_
      refine wi_iload_2 ct_119_1 ?_
      refine wi_iclt_f ct_119_2 hz4 ki_48 (by omega) ?_
      refine wi_iload_1 ct_119_5 ?_
      refine wi_iload_3 ct_119_6 ?_
      refine wi_icgt_f ct_119_7 hz4 ki_57 (by omega) ?_
      refine wi_ic ct_119_10 kc_1 ?_
      refine wi_goto ct_119_11 ?_
      refine wi_iret ct_119_15 (by decide) (wk_i ?_)
      refine wi_iret ct_130_12 (by decide) (wk_i ?_)
      refine wi_ifeq_f ct_131_25 ki_1 (by decide) ?_
      refine wi_aload_0 ct_131_28 ?_
      refine wi_ic ct_131_29 kc_10 ?_
      refine wi_aload_0 ct_131_31 ?_
      refine wi_gf (x := 0) ct_131_32 (sT_31 hS) rfl rfl up2_eq ?_
      refine wi_imul (z := 0) ct_131_35 (by decide) ?_
      refine wi_aload_0 ct_131_36 ?_
      refine wi_cv0 (ls' := [some _]) ct_131_37 (Nat.le_of_ble_eq_true rfl) (by decide) (sT_31 hS) rfl (by decide) rfl rfl (Nat.le_of_ble_eq_true rfl) ?_
      refine r_peek (p := p) hS ((congrArg Int32.toInt (up2_nj (by decide))).trans (hp.trans (by omega))) ((congrArg Int32.toInt (up2_nj (by decide))).trans hl) (fun j hj => (congrArg Int32.toInt (up2_nq (by decide))).trans (hx j hj)) hn hxb (fun z5 hz5 => wk_i ?_)
      have hbz5 := pk_bd hxb (p := p)
      refine wi_iadd ct_131_40 rfl ?_
      refine wi_ic ct_131_41 kc_48 ?_
      refine wi_isub ct_131_43 rfl ?_
      refine wi_pf ct_131_44 (sT_31 hS) rfl ?_
      refine wi_aload_0 ct_131_47 ?_
      refine wi_dup ct_131_48 rfl ?_
      refine wi_gf (x := fi 31 12) ct_131_49 (sT_31 hS) rfl rfl (Eq.trans (up2_nj (by decide)) (up2_nj (by decide))) ?_
      refine wi_ic ct_131_52 kc_1 ?_
      refine wi_iadd ct_131_53 rfl ?_
      refine wi_pf ct_131_54 (sT_31 hS) rfl ?_
      refine wi_iinc_1 rfl (z := 1) ct_131_57 (by decide) ?_
      refine wi_goto ct_131_60 ?_
      refine wi_iload_1 ct_131_16 ?_
      refine wi_ic ct_131_17 kc_2 ?_
      refine wi_icge_f ct_131_18 ki_1 ki_2 (by decide) ?_
      refine wi_aload_0 ct_131_21 ?_
      refine wi_cv0 (ls' := [some _]) ct_131_22 (Nat.le_of_ble_eq_true rfl) (by decide) (sT_31 hS) rfl (by decide) rfl rfl (Nat.le_of_ble_eq_true rfl) ?_
      refine wi_aload_0 ct_130_0 ?_
      refine wi_aload_0 ct_130_1 ?_
      refine wi_cv0 (ls' := [some _]) ct_130_2 (Nat.le_of_ble_eq_true rfl) (by decide) (sT_31 hS) rfl (by decide) rfl rfl (Nat.le_of_ble_eq_true rfl) ?_
      refine r_peek (p := (p + 1)) hS ((congrArg Int32.toInt up2_eq).trans ((i_add hp ki_1 (by omega)).trans (by omega))) ((congrArg Int32.toInt (Eq.trans (up2_nj (by decide)) (Eq.trans (up2_nj (by decide)) (up2_nj (by decide))))).trans hl) (fun j hj => (congrArg Int32.toInt (Eq.trans (up2_nq (by decide)) (Eq.trans (up2_nq (by decide)) (up2_nq (by decide))))).trans (hx j hj)) hn hxb (fun z6 hz6 => wk_i ?_)
      have hbz6 := pk_bd hxb (p := (p + 1))
      refine wi_ic ct_130_5 kc_48 ?_
      refine wi_ic ct_130_7 kc_57 ?_
      refine wi_cv3 (ls' := [some _, some _, some _, some _]) ct_130_9 (Nat.le_of_ble_eq_true rfl) (by decide) (sT_31 hS) rfl (by decide) rfl rfl (Nat.le_of_ble_eq_true rfl) ?_
      refine wi_iload_1 ct_119_0 ?_
      refine wi_iload_2 ct_119_1 ?_
      refine wi_iclt ct_119_2 hz6 ki_48 (fun h7 => ?_) (fun h7 => ?_)
      · skip
        refine wi_ic ct_119_14 kc_0 ?_
        refine wi_iret ct_119_15 (by decide) (wk_i ?_)
        refine wi_iret ct_130_12 (by decide) (wk_i ?_)
        refine wi_ifeq_t ct_131_25 ki_0 (by decide) ?_
        refine wi_ic ct_131_63 kc_1 ?_
        refine wi_iret ct_131_64 (by decide) ?_
        have hr : rNum X n p = (pk X n p - 48, p + 1) := (if_pos (by omega)).trans (if_neg (by omega))
        rw [hr] at k1
        exact k1 (by dsimp only; omega) _ ⟨(congrArg Int32.toInt up2_eq).trans ((i_add hp ki_1 (by omega)).trans (by omega)), fun x e => (Eq.trans (funext fun _ => up2_nq e) (Eq.trans (funext fun _ => up2_nq e) (funext fun _ => up2_nq e))), fun j e1 e2 => (Eq.trans (up2_nj e1) (Eq.trans (up2_nj e2) (up2_nj e2)))⟩ ((congrArg Int32.toInt (Eq.trans (up2_nj (by decide)) up2_eq)).trans ((i_sub (i_add ki_0 hz5 (by omega)) ki_48 (by omega)).trans (by dsimp only; omega)))
      · skip
        refine wi_iload_1 ct_119_5 ?_
        refine wi_iload_3 ct_119_6 ?_
        refine wi_icgt ct_119_7 hz6 ki_57 (fun h8 => ?_) (fun h8 => ?_)
        · skip
          refine wi_ic ct_119_14 kc_0 ?_
          refine wi_iret ct_119_15 (by decide) (wk_i ?_)
          refine wi_iret ct_130_12 (by decide) (wk_i ?_)
          refine wi_ifeq_t ct_131_25 ki_0 (by decide) ?_
          refine wi_ic ct_131_63 kc_1 ?_
          refine wi_iret ct_131_64 (by decide) ?_
          have hr : rNum X n p = (pk X n p - 48, p + 1) := (if_pos (by omega)).trans (if_neg (by omega))
          rw [hr] at k1
          exact k1 (by dsimp only; omega) _ ⟨(congrArg Int32.toInt up2_eq).trans ((i_add hp ki_1 (by omega)).trans (by omega)), fun x e => (Eq.trans (funext fun _ => up2_nq e) (Eq.trans (funext fun _ => up2_nq e) (funext fun _ => up2_nq e))), fun j e1 e2 => (Eq.trans (up2_nj e1) (Eq.trans (up2_nj e2) (up2_nj e2)))⟩ ((congrArg Int32.toInt (Eq.trans (up2_nj (by decide)) up2_eq)).trans ((i_sub (i_add ki_0 hz5 (by omega)) ki_48 (by omega)).trans (by dsimp only; omega)))
        · skip
          refine wi_ic ct_119_10 kc_1 ?_
          refine wi_goto ct_119_11 ?_
          refine wi_iret ct_119_15 (by decide) (wk_i ?_)
          refine wi_iret ct_130_12 (by decide) (wk_i ?_)
          refine wi_ifeq_f ct_131_25 ki_1 (by decide) ?_
          refine wi_aload_0 ct_131_28 ?_
          refine wi_ic ct_131_29 kc_10 ?_
          refine wi_aload_0 ct_131_31 ?_
          refine wi_gf (x := ((0 + z5) - 48)) ct_131_32 (sT_31 hS) rfl rfl (Eq.trans (up2_nj (by decide)) up2_eq) ?_
          refine wi_imul ct_131_35 rfl ?_
          refine wi_aload_0 ct_131_36 ?_
          refine wi_cv0 (ls' := [some _]) ct_131_37 (Nat.le_of_ble_eq_true rfl) (by decide) (sT_31 hS) rfl (by decide) rfl rfl (Nat.le_of_ble_eq_true rfl) ?_
          refine r_peek (p := (p + 1)) hS ((congrArg Int32.toInt up2_eq).trans ((i_add hp ki_1 (by omega)).trans (by omega))) ((congrArg Int32.toInt (Eq.trans (up2_nj (by decide)) (Eq.trans (up2_nj (by decide)) (up2_nj (by decide))))).trans hl) (fun j hj => (congrArg Int32.toInt (Eq.trans (up2_nq (by decide)) (Eq.trans (up2_nq (by decide)) (up2_nq (by decide))))).trans (hx j hj)) hn hxb (fun z9 hz9 => wk_i ?_)
          have hbz9 := pk_bd hxb (p := (p + 1))
          refine wi_iadd ct_131_40 rfl ?_
          refine wi_ic ct_131_41 kc_48 ?_
          refine wi_isub ct_131_43 rfl ?_
          refine wi_pf ct_131_44 (sT_31 hS) rfl ?_
          refine wi_aload_0 ct_131_47 ?_
          refine wi_dup ct_131_48 rfl ?_
          refine wi_gf (x := (fi 31 12 + 1)) ct_131_49 (sT_31 hS) rfl rfl (Eq.trans (up2_nj (by decide)) up2_eq) ?_
          refine wi_ic ct_131_52 kc_1 ?_
          refine wi_iadd ct_131_53 rfl ?_
          refine wi_pf ct_131_54 (sT_31 hS) rfl ?_
          refine wi_iinc_1 rfl (z := 2) ct_131_57 (by decide) ?_
          refine wi_goto ct_131_60 ?_
          refine wi_iload_1 ct_131_16 ?_
          refine wi_ic ct_131_17 kc_2 ?_
          refine wi_icge_t ct_131_18 ki_2 ki_2 (by decide) ?_
          refine wi_ic ct_131_63 kc_1 ?_
          refine wi_iret ct_131_64 (by decide) ?_
          have hr : rNum X n p = (10 * (pk X n p - 48) + (pk X n (p + 1) - 48), p + 2) := (if_pos (by omega)).trans (if_pos (by omega))
          rw [hr] at k1
          exact k1 (by dsimp only; omega) _ ⟨(congrArg Int32.toInt up2_eq).trans ((i_add (i_add hp ki_1 (by omega)) ki_1 (by omega)).trans (by omega)), fun x e => (Eq.trans (funext fun _ => up2_nq e) (Eq.trans (funext fun _ => up2_nq e) (Eq.trans (funext fun _ => up2_nq e) (Eq.trans (funext fun _ => up2_nq e) (funext fun _ => up2_nq e))))), fun j e1 e2 => (Eq.trans (up2_nj e1) (Eq.trans (up2_nj e2) (Eq.trans (up2_nj e1) (Eq.trans (up2_nj e2) (up2_nj e2)))))⟩ ((congrArg Int32.toInt (Eq.trans (up2_nj (by decide)) up2_eq)).trans ((i_sub (i_add (i_mul ki_10 (i_sub (i_add ki_0 hz5 (by omega)) ki_48 (by omega)) (by omega)) hz9 (by omega)) ki_48 (by omega)).trans (by dsimp only; omega)))
theorem r_place {d : Nat} {g : am_G} {fi : am_I} {fl : am_L} {P : Option Value → am_G → am_I → am_L → Prop} {c : Int32} {C : Int} (hc : c.toInt = C) (kk : ∀ z : Int32, z.toInt = lt6 C → P (some (.int z)) g fi fl) : WP d 135 0 [some (.ref 31), some (.int c)] [] g fi fl P := by
  refine wi_iload_1 ct_135_0 ?_
  rcases Decidable.em ((c).toInt = 98) with h1 | h1
  · refine wi_lsw (X := 98) (t := 60) ct_135_1 (hc.trans (by omega)) (by decide) ?_
    refine wi_ic ct_135_60 kc_0 ?_
    refine wi_iret ct_135_61 rfl ?_
    have he : lt6 C = 0 := by
      unfold lt6
      repeat' split
      all_goals omega
    exact kk _ (ki_0.trans he.symm)
  rcases Decidable.em ((c).toInt = 102) with h2 | h2
  · refine wi_lsw (X := 102) (t := 70) ct_135_1 (hc.trans (by omega)) (by decide) ?_
    refine wi_ic ct_135_70 kc_5 ?_
    refine wi_iret ct_135_71 rfl ?_
    have he : lt6 C = 5 := by
      unfold lt6
      repeat' split
      all_goals omega
    exact kk _ (ki_5.trans he.symm)
  rcases Decidable.em ((c).toInt = 107) with h3 | h3
  · refine wi_lsw (X := 107) (t := 62) ct_135_1 (hc.trans (by omega)) (by decide) ?_
    refine wi_ic ct_135_62 kc_1 ?_
    refine wi_iret ct_135_63 rfl ?_
    have he : lt6 C = 1 := by
      unfold lt6
      repeat' split
      all_goals omega
    exact kk _ (ki_1.trans he.symm)
  rcases Decidable.em ((c).toInt = 109) with h4 | h4
  · refine wi_lsw (X := 109) (t := 66) ct_135_1 (hc.trans (by omega)) (by decide) ?_
    refine wi_ic ct_135_66 kc_3 ?_
    refine wi_iret ct_135_67 rfl ?_
    have he : lt6 C = 3 := by
      unfold lt6
      repeat' split
      all_goals omega
    exact kk _ (ki_3.trans he.symm)
  rcases Decidable.em ((c).toInt = 115) with h5 | h5
  · refine wi_lsw (X := 115) (t := 68) ct_135_1 (hc.trans (by omega)) (by decide) ?_
    refine wi_ic ct_135_68 kc_4 ?_
    refine wi_iret ct_135_69 rfl ?_
    have he : lt6 C = 4 := by
      unfold lt6
      repeat' split
      all_goals omega
    exact kk _ (ki_4.trans he.symm)
  rcases Decidable.em ((c).toInt = 118) with h6 | h6
  · refine wi_lsw (X := 118) (t := 64) ct_135_1 (hc.trans (by omega)) (by decide) ?_
    refine wi_ic ct_135_64 kc_2 ?_
    refine wi_iret ct_135_65 rfl ?_
    have he : lt6 C = 2 := by
      unfold lt6
      repeat' split
      all_goals omega
    exact kk _ (ki_2.trans he.symm)
  refine wi_lsw (t := 72) ct_135_1 hc (by have e98 : ¬ (98 : Int) = C := (by omega); have e102 : ¬ (102 : Int) = C := (by omega); have e107 : ¬ (107 : Int) = C := (by omega); have e109 : ¬ (109 : Int) = C := (by omega); have e115 : ¬ (115 : Int) = C := (by omega); have e118 : ¬ (118 : Int) = C := (by omega); simp [Op.lookupswitch.offset, e98, e102, e107, e109, e115, e118]) ?_
  refine wi_ic ct_135_72 kc_m1 ?_
  refine wi_iret ct_135_73 rfl ?_
  have he : lt6 C = -1 := by
    unfold lt6
    repeat' split
    all_goals omega
  exact kk _ (ki_m1.trans he.symm)
theorem r_word0 {L n p : Nat} {d : Nat} {g : am_G} {fi : am_I} {fl : am_L} {P : Option Value → am_G → am_I → am_L → Prop} {X : Nat → Int} (hS : SF L g) (hp : (fi 31 12).toInt = (p : Int)) (hl : (fi 31 11).toInt = (n : Int)) (hx : ∀ j, j < n → (fi 39 j).toInt = X j) (hn : n ≤ 100) (hxb : ∀ j, j < n → 0 ≤ X j ∧ X j ≤ 127) (hL : RL fi) (hp9 : p ≤ 900) (k1 : (rCs X n [119, 105, 110, 100] p).1 = true → pk X n (rCs X n [119, 105, 110, 100] p).2 = 32 → ∀ fi2, RPF fi fi2 ((rCs X n [119, 105, 110, 100] p).2 + 1) → P (some (.int 1)) g fi2 fl) (k2 : (rCs X n [119, 105, 110, 100] p).1 = true → pk X n (rCs X n [119, 105, 110, 100] p).2 ≠ 32 → ∀ fi2, RPF fi fi2 (rCs X n [119, 105, 110, 100] p).2 → P (some (.int 0)) g fi2 fl) (k3 : (rCs X n [119, 105, 110, 100] p).1 = false → ∀ fi2, RPF fi fi2 (rCs X n [119, 105, 110, 100] p).2 → P (some (.int 0)) g fi2 fl) : WP (d + 2) 129 0 [some (.ref 31), some (.int 0), some (.int 4), none] [] g fi fl P := by
  have hf0 := RPF.rfl hp
  refine wi_ic ct_129_0 kc_0 ?_
  refine wi_istore_3 rfl ct_129_1 ?_
  refine wi_iload_3 ct_129_2 ?_
  refine wi_iload_2 ct_129_3 ?_
  refine wi_icge_f ct_129_4 ki_0 ki_4 (by decide) ?_
  refine wi_aload_0 ct_129_7 ?_
  refine wi_aload_0 ct_129_8 ?_
  refine wi_gfr ct_129_9 (sT_31 hS) rfl (sR_31_25 hS) ?_
  refine wi_iload_1 ct_129_12 ?_
  refine wi_iload_3 ct_129_13 ?_
  refine wi_iadd (z := 0) ct_129_14 (by decide) ?_
  refine wi_iald (x := fi 47 0) ct_129_15 (sT_47 hS) (sL_47 hS) (by decide) kn_c0 rfl ?_
  refine wi_cv1 (ls' := [some _, some _]) ct_129_16 (Nat.le_of_ble_eq_true rfl) (by decide) (sT_31 hS) rfl (by decide) rfl rfl (Nat.le_of_ble_eq_true rfl) ?_
  refine r_pass (p := p) hS hf0.1 (hf0.hl hl) (hf0.hx hx) hn hxb (by omega) ((congrArg Int32.toInt (congrFun (hf0.2.1 47 (by decide)) _)).trans (hL 0 (by decide))) (fun hz1 fz1 hfz1 => wk_i ?_) (fun hz1 => wk_i ?_)
  · skip
    have hgz1 : RPF fi fz1 (p + 1) := RPF.trans hf0 hfz1
    refine wi_ifne_t ct_129_19 ki_1 (by decide) ?_
    refine wi_iinc_3 rfl (z := 1) ct_129_24 (by decide) ?_
    refine wi_goto ct_129_27 ?_
    refine wi_iload_3 ct_129_2 ?_
    refine wi_iload_2 ct_129_3 ?_
    refine wi_icge_f ct_129_4 ki_1 ki_4 (by decide) ?_
    refine wi_aload_0 ct_129_7 ?_
    refine wi_aload_0 ct_129_8 ?_
    refine wi_gfr ct_129_9 (sT_31 hS) rfl (sR_31_25 hS) ?_
    refine wi_iload_1 ct_129_12 ?_
    refine wi_iload_3 ct_129_13 ?_
    refine wi_iadd (z := 1) ct_129_14 (by decide) ?_
    refine wi_iald (x := fz1 47 1) ct_129_15 (sT_47 hS) (sL_47 hS) (by decide) kn_c1 rfl ?_
    refine wi_cv1 (ls' := [some _, some _]) ct_129_16 (Nat.le_of_ble_eq_true rfl) (by decide) (sT_31 hS) rfl (by decide) rfl rfl (Nat.le_of_ble_eq_true rfl) ?_
    refine r_pass (p := (p + 1)) hS hgz1.1 (hgz1.hl hl) (hgz1.hx hx) hn hxb (by omega) ((congrArg Int32.toInt (congrFun (hgz1.2.1 47 (by decide)) _)).trans (hL 1 (by decide))) (fun hz2 fz2 hfz2 => wk_i ?_) (fun hz2 => wk_i ?_)
    · skip
      have hgz2 : RPF fi fz2 (p + 2) := RPF.trans hgz1 hfz2
      refine wi_ifne_t ct_129_19 ki_1 (by decide) ?_
      refine wi_iinc_3 rfl (z := 2) ct_129_24 (by decide) ?_
      refine wi_goto ct_129_27 ?_
      refine wi_iload_3 ct_129_2 ?_
      refine wi_iload_2 ct_129_3 ?_
      refine wi_icge_f ct_129_4 ki_2 ki_4 (by decide) ?_
      refine wi_aload_0 ct_129_7 ?_
      refine wi_aload_0 ct_129_8 ?_
      refine wi_gfr ct_129_9 (sT_31 hS) rfl (sR_31_25 hS) ?_
      refine wi_iload_1 ct_129_12 ?_
      refine wi_iload_3 ct_129_13 ?_
      refine wi_iadd (z := 2) ct_129_14 (by decide) ?_
      refine wi_iald (x := fz2 47 2) ct_129_15 (sT_47 hS) (sL_47 hS) (by decide) kn_c2 rfl ?_
      refine wi_cv1 (ls' := [some _, some _]) ct_129_16 (Nat.le_of_ble_eq_true rfl) (by decide) (sT_31 hS) rfl (by decide) rfl rfl (Nat.le_of_ble_eq_true rfl) ?_
      refine r_pass (p := (p + 2)) hS hgz2.1 (hgz2.hl hl) (hgz2.hx hx) hn hxb (by omega) ((congrArg Int32.toInt (congrFun (hgz2.2.1 47 (by decide)) _)).trans (hL 2 (by decide))) (fun hz3 fz3 hfz3 => wk_i ?_) (fun hz3 => wk_i ?_)
      · skip
        have hgz3 : RPF fi fz3 (p + 3) := RPF.trans hgz2 hfz3
        refine wi_ifne_t ct_129_19 ki_1 (by decide) ?_
        refine wi_iinc_3 rfl (z := 3) ct_129_24 (by decide) ?_
        refine wi_goto ct_129_27 ?_
        refine wi_iload_3 ct_129_2 ?_
        refine wi_iload_2 ct_129_3 ?_
        refine wi_icge_f ct_129_4 ki_3 ki_4 (by decide) ?_
        refine wi_aload_0 ct_129_7 ?_
        refine wi_aload_0 ct_129_8 ?_
        refine wi_gfr ct_129_9 (sT_31 hS) rfl (sR_31_25 hS) ?_
        refine wi_iload_1 ct_129_12 ?_
        refine wi_iload_3 ct_129_13 ?_
        refine wi_iadd (z := 3) ct_129_14 (by decide) ?_
        refine wi_iald (x := fz3 47 3) ct_129_15 (sT_47 hS) (sL_47 hS) (by decide) kn_c3 rfl ?_
        refine wi_cv1 (ls' := [some _, some _]) ct_129_16 (Nat.le_of_ble_eq_true rfl) (by decide) (sT_31 hS) rfl (by decide) rfl rfl (Nat.le_of_ble_eq_true rfl) ?_
        refine r_pass (p := (p + 3)) hS hgz3.1 (hgz3.hl hl) (hgz3.hx hx) hn hxb (by omega) ((congrArg Int32.toInt (congrFun (hgz3.2.1 47 (by decide)) _)).trans (hL 3 (by decide))) (fun hz4 fz4 hfz4 => wk_i ?_) (fun hz4 => wk_i ?_)
        · skip
          have hgz4 : RPF fi fz4 (p + 4) := RPF.trans hgz3 hfz4
          refine wi_ifne_t ct_129_19 ki_1 (by decide) ?_
          refine wi_iinc_3 rfl (z := 4) ct_129_24 (by decide) ?_
          refine wi_goto ct_129_27 ?_
          refine wi_iload_3 ct_129_2 ?_
          refine wi_iload_2 ct_129_3 ?_
          refine wi_icge_t ct_129_4 ki_4 ki_4 (by decide) ?_
          refine wi_aload_0 ct_129_30 ?_
          refine wi_ic ct_129_31 kc_32 ?_
          refine wi_cv1 (ls' := [some _, some _]) ct_129_33 (Nat.le_of_ble_eq_true rfl) (by decide) (sT_31 hS) rfl (by decide) rfl rfl (Nat.le_of_ble_eq_true rfl) ?_
          refine r_pass (p := (p + 4)) hS hgz4.1 (hgz4.hl hl) (hgz4.hx hx) hn hxb (by omega) ki_32 (fun hz5 fz5 hfz5 => wk_i ?_) (fun hz5 => wk_i ?_)
          · skip
            have hgz5 : RPF fi fz5 (p + 5) := RPF.trans hgz4 hfz5
            refine wi_iret ct_129_36 (by decide) ?_
            have hr : rCs X n [119, 105, 110, 100] p = (true, p + 4) := ((rCs_t (c := 119) (p := p) hz1).trans ((rCs_t (c := 105) (p := p + 1) hz2).trans ((rCs_t (c := 110) (p := p + 2) hz3).trans ((rCs_t (c := 100) (p := p + 3) hz4).trans rfl))))
            rw [hr] at k1
            exact k1 rfl hz5 _ hgz5
          · skip
            refine wi_iret ct_129_36 (by decide) ?_
            have hr : rCs X n [119, 105, 110, 100] p = (true, p + 4) := ((rCs_t (c := 119) (p := p) hz1).trans ((rCs_t (c := 105) (p := p + 1) hz2).trans ((rCs_t (c := 110) (p := p + 2) hz3).trans ((rCs_t (c := 100) (p := p + 3) hz4).trans rfl))))
            rw [hr] at k2
            exact k2 rfl hz5 _ hgz4
        · skip
          refine wi_ifne_f ct_129_19 ki_0 (by decide) ?_
          refine wi_ic ct_129_22 kc_0 ?_
          refine wi_iret ct_129_23 (by decide) ?_
          have hr : rCs X n [119, 105, 110, 100] p = (false, p + 3) := ((rCs_t (c := 119) (p := p) hz1).trans ((rCs_t (c := 105) (p := p + 1) hz2).trans ((rCs_t (c := 110) (p := p + 2) hz3).trans (rCs_f (c := 100) (p := p + 3) hz4))))
          rw [hr] at k3
          exact k3 rfl _ hgz3
      · skip
        refine wi_ifne_f ct_129_19 ki_0 (by decide) ?_
        refine wi_ic ct_129_22 kc_0 ?_
        refine wi_iret ct_129_23 (by decide) ?_
        have hr : rCs X n [119, 105, 110, 100] p = (false, p + 2) := ((rCs_t (c := 119) (p := p) hz1).trans ((rCs_t (c := 105) (p := p + 1) hz2).trans (rCs_f (c := 110) (p := p + 2) hz3)))
        rw [hr] at k3
        exact k3 rfl _ hgz2
    · skip
      refine wi_ifne_f ct_129_19 ki_0 (by decide) ?_
      refine wi_ic ct_129_22 kc_0 ?_
      refine wi_iret ct_129_23 (by decide) ?_
      have hr : rCs X n [119, 105, 110, 100] p = (false, p + 1) := ((rCs_t (c := 119) (p := p) hz1).trans (rCs_f (c := 105) (p := p + 1) hz2))
      rw [hr] at k3
      exact k3 rfl _ hgz1
  · skip
    refine wi_ifne_f ct_129_19 ki_0 (by decide) ?_
    refine wi_ic ct_129_22 kc_0 ?_
    refine wi_iret ct_129_23 (by decide) ?_
    have hr : rCs X n [119, 105, 110, 100] p = (false, p) := (rCs_f (c := 119) (p := p) hz1)
    rw [hr] at k3
    exact k3 rfl _ hf0
theorem r_word4 {L n p : Nat} {d : Nat} {g : am_G} {fi : am_I} {fl : am_L} {P : Option Value → am_G → am_I → am_L → Prop} {X : Nat → Int} (hS : SF L g) (hp : (fi 31 12).toInt = (p : Int)) (hl : (fi 31 11).toInt = (n : Int)) (hx : ∀ j, j < n → (fi 39 j).toInt = X j) (hn : n ≤ 100) (hxb : ∀ j, j < n → 0 ≤ X j ∧ X j ≤ 127) (hL : RL fi) (hp9 : p ≤ 900) (k1 : (rCs X n [100, 114, 121] p).1 = true → pk X n (rCs X n [100, 114, 121] p).2 = 32 → ∀ fi2, RPF fi fi2 ((rCs X n [100, 114, 121] p).2 + 1) → P (some (.int 1)) g fi2 fl) (k2 : (rCs X n [100, 114, 121] p).1 = true → pk X n (rCs X n [100, 114, 121] p).2 ≠ 32 → ∀ fi2, RPF fi fi2 (rCs X n [100, 114, 121] p).2 → P (some (.int 0)) g fi2 fl) (k3 : (rCs X n [100, 114, 121] p).1 = false → ∀ fi2, RPF fi fi2 (rCs X n [100, 114, 121] p).2 → P (some (.int 0)) g fi2 fl) : WP (d + 2) 129 0 [some (.ref 31), some (.int 4), some (.int 3), none] [] g fi fl P := by
  have hf0 := RPF.rfl hp
  refine wi_ic ct_129_0 kc_0 ?_
  refine wi_istore_3 rfl ct_129_1 ?_
  refine wi_iload_3 ct_129_2 ?_
  refine wi_iload_2 ct_129_3 ?_
  refine wi_icge_f ct_129_4 ki_0 ki_3 (by decide) ?_
  refine wi_aload_0 ct_129_7 ?_
  refine wi_aload_0 ct_129_8 ?_
  refine wi_gfr ct_129_9 (sT_31 hS) rfl (sR_31_25 hS) ?_
  refine wi_iload_1 ct_129_12 ?_
  refine wi_iload_3 ct_129_13 ?_
  refine wi_iadd (z := 4) ct_129_14 (by decide) ?_
  refine wi_iald (x := fi 47 4) ct_129_15 (sT_47 hS) (sL_47 hS) (by decide) kn_c4 rfl ?_
  refine wi_cv1 (ls' := [some _, some _]) ct_129_16 (Nat.le_of_ble_eq_true rfl) (by decide) (sT_31 hS) rfl (by decide) rfl rfl (Nat.le_of_ble_eq_true rfl) ?_
  refine r_pass (p := p) hS hf0.1 (hf0.hl hl) (hf0.hx hx) hn hxb (by omega) ((congrArg Int32.toInt (congrFun (hf0.2.1 47 (by decide)) _)).trans (hL 4 (by decide))) (fun hz1 fz1 hfz1 => wk_i ?_) (fun hz1 => wk_i ?_)
  · skip
    have hgz1 : RPF fi fz1 (p + 1) := RPF.trans hf0 hfz1
    refine wi_ifne_t ct_129_19 ki_1 (by decide) ?_
    refine wi_iinc_3 rfl (z := 1) ct_129_24 (by decide) ?_
    refine wi_goto ct_129_27 ?_
    refine wi_iload_3 ct_129_2 ?_
    refine wi_iload_2 ct_129_3 ?_
    refine wi_icge_f ct_129_4 ki_1 ki_3 (by decide) ?_
    refine wi_aload_0 ct_129_7 ?_
    refine wi_aload_0 ct_129_8 ?_
    refine wi_gfr ct_129_9 (sT_31 hS) rfl (sR_31_25 hS) ?_
    refine wi_iload_1 ct_129_12 ?_
    refine wi_iload_3 ct_129_13 ?_
    refine wi_iadd (z := 5) ct_129_14 (by decide) ?_
    refine wi_iald (x := fz1 47 5) ct_129_15 (sT_47 hS) (sL_47 hS) (by decide) kn_c5 rfl ?_
    refine wi_cv1 (ls' := [some _, some _]) ct_129_16 (Nat.le_of_ble_eq_true rfl) (by decide) (sT_31 hS) rfl (by decide) rfl rfl (Nat.le_of_ble_eq_true rfl) ?_
    refine r_pass (p := (p + 1)) hS hgz1.1 (hgz1.hl hl) (hgz1.hx hx) hn hxb (by omega) ((congrArg Int32.toInt (congrFun (hgz1.2.1 47 (by decide)) _)).trans (hL 5 (by decide))) (fun hz2 fz2 hfz2 => wk_i ?_) (fun hz2 => wk_i ?_)
    · skip
      have hgz2 : RPF fi fz2 (p + 2) := RPF.trans hgz1 hfz2
      refine wi_ifne_t ct_129_19 ki_1 (by decide) ?_
      refine wi_iinc_3 rfl (z := 2) ct_129_24 (by decide) ?_
      refine wi_goto ct_129_27 ?_
      refine wi_iload_3 ct_129_2 ?_
      refine wi_iload_2 ct_129_3 ?_
      refine wi_icge_f ct_129_4 ki_2 ki_3 (by decide) ?_
      refine wi_aload_0 ct_129_7 ?_
      refine wi_aload_0 ct_129_8 ?_
      refine wi_gfr ct_129_9 (sT_31 hS) rfl (sR_31_25 hS) ?_
      refine wi_iload_1 ct_129_12 ?_
      refine wi_iload_3 ct_129_13 ?_
      refine wi_iadd (z := 6) ct_129_14 (by decide) ?_
      refine wi_iald (x := fz2 47 6) ct_129_15 (sT_47 hS) (sL_47 hS) (by decide) kn_c6 rfl ?_
      refine wi_cv1 (ls' := [some _, some _]) ct_129_16 (Nat.le_of_ble_eq_true rfl) (by decide) (sT_31 hS) rfl (by decide) rfl rfl (Nat.le_of_ble_eq_true rfl) ?_
      refine r_pass (p := (p + 2)) hS hgz2.1 (hgz2.hl hl) (hgz2.hx hx) hn hxb (by omega) ((congrArg Int32.toInt (congrFun (hgz2.2.1 47 (by decide)) _)).trans (hL 6 (by decide))) (fun hz3 fz3 hfz3 => wk_i ?_) (fun hz3 => wk_i ?_)
      · skip
        have hgz3 : RPF fi fz3 (p + 3) := RPF.trans hgz2 hfz3
        refine wi_ifne_t ct_129_19 ki_1 (by decide) ?_
        refine wi_iinc_3 rfl (z := 3) ct_129_24 (by decide) ?_
        refine wi_goto ct_129_27 ?_
        refine wi_iload_3 ct_129_2 ?_
        refine wi_iload_2 ct_129_3 ?_
        refine wi_icge_t ct_129_4 ki_3 ki_3 (by decide) ?_
        refine wi_aload_0 ct_129_30 ?_
        refine wi_ic ct_129_31 kc_32 ?_
        refine wi_cv1 (ls' := [some _, some _]) ct_129_33 (Nat.le_of_ble_eq_true rfl) (by decide) (sT_31 hS) rfl (by decide) rfl rfl (Nat.le_of_ble_eq_true rfl) ?_
        refine r_pass (p := (p + 3)) hS hgz3.1 (hgz3.hl hl) (hgz3.hx hx) hn hxb (by omega) ki_32 (fun hz4 fz4 hfz4 => wk_i ?_) (fun hz4 => wk_i ?_)
        · skip
          have hgz4 : RPF fi fz4 (p + 4) := RPF.trans hgz3 hfz4
          refine wi_iret ct_129_36 (by decide) ?_
          have hr : rCs X n [100, 114, 121] p = (true, p + 3) := ((rCs_t (c := 100) (p := p) hz1).trans ((rCs_t (c := 114) (p := p + 1) hz2).trans ((rCs_t (c := 121) (p := p + 2) hz3).trans rfl)))
          rw [hr] at k1
          exact k1 rfl hz4 _ hgz4
        · skip
          refine wi_iret ct_129_36 (by decide) ?_
          have hr : rCs X n [100, 114, 121] p = (true, p + 3) := ((rCs_t (c := 100) (p := p) hz1).trans ((rCs_t (c := 114) (p := p + 1) hz2).trans ((rCs_t (c := 121) (p := p + 2) hz3).trans rfl)))
          rw [hr] at k2
          exact k2 rfl hz4 _ hgz3
      · skip
        refine wi_ifne_f ct_129_19 ki_0 (by decide) ?_
        refine wi_ic ct_129_22 kc_0 ?_
        refine wi_iret ct_129_23 (by decide) ?_
        have hr : rCs X n [100, 114, 121] p = (false, p + 2) := ((rCs_t (c := 100) (p := p) hz1).trans ((rCs_t (c := 114) (p := p + 1) hz2).trans (rCs_f (c := 121) (p := p + 2) hz3)))
        rw [hr] at k3
        exact k3 rfl _ hgz2
    · skip
      refine wi_ifne_f ct_129_19 ki_0 (by decide) ?_
      refine wi_ic ct_129_22 kc_0 ?_
      refine wi_iret ct_129_23 (by decide) ?_
      have hr : rCs X n [100, 114, 121] p = (false, p + 1) := ((rCs_t (c := 100) (p := p) hz1).trans (rCs_f (c := 114) (p := p + 1) hz2))
      rw [hr] at k3
      exact k3 rfl _ hgz1
  · skip
    refine wi_ifne_f ct_129_19 ki_0 (by decide) ?_
    refine wi_ic ct_129_22 kc_0 ?_
    refine wi_iret ct_129_23 (by decide) ?_
    have hr : rCs X n [100, 114, 121] p = (false, p) := (rCs_f (c := 100) (p := p) hz1)
    rw [hr] at k3
    exact k3 rfl _ hf0
theorem r_word7 {L n p : Nat} {d : Nat} {g : am_G} {fi : am_I} {fl : am_L} {P : Option Value → am_G → am_I → am_L → Prop} {X : Nat → Int} (hS : SF L g) (hp : (fi 31 12).toInt = (p : Int)) (hl : (fi 31 11).toInt = (n : Int)) (hx : ∀ j, j < n → (fi 39 j).toInt = X j) (hn : n ≤ 100) (hxb : ∀ j, j < n → 0 ≤ X j ∧ X j ≤ 127) (hL : RL fi) (hp9 : p ≤ 900) (k1 : (rCs X n [99, 111, 105, 110] p).1 = true → pk X n (rCs X n [99, 111, 105, 110] p).2 = 32 → ∀ fi2, RPF fi fi2 ((rCs X n [99, 111, 105, 110] p).2 + 1) → P (some (.int 1)) g fi2 fl) (k2 : (rCs X n [99, 111, 105, 110] p).1 = true → pk X n (rCs X n [99, 111, 105, 110] p).2 ≠ 32 → ∀ fi2, RPF fi fi2 (rCs X n [99, 111, 105, 110] p).2 → P (some (.int 0)) g fi2 fl) (k3 : (rCs X n [99, 111, 105, 110] p).1 = false → ∀ fi2, RPF fi fi2 (rCs X n [99, 111, 105, 110] p).2 → P (some (.int 0)) g fi2 fl) : WP (d + 2) 129 0 [some (.ref 31), some (.int 7), some (.int 4), none] [] g fi fl P := by
  have hf0 := RPF.rfl hp
  refine wi_ic ct_129_0 kc_0 ?_
  refine wi_istore_3 rfl ct_129_1 ?_
  refine wi_iload_3 ct_129_2 ?_
  refine wi_iload_2 ct_129_3 ?_
  refine wi_icge_f ct_129_4 ki_0 ki_4 (by decide) ?_
  refine wi_aload_0 ct_129_7 ?_
  refine wi_aload_0 ct_129_8 ?_
  refine wi_gfr ct_129_9 (sT_31 hS) rfl (sR_31_25 hS) ?_
  refine wi_iload_1 ct_129_12 ?_
  refine wi_iload_3 ct_129_13 ?_
  refine wi_iadd (z := 7) ct_129_14 (by decide) ?_
  refine wi_iald (x := fi 47 7) ct_129_15 (sT_47 hS) (sL_47 hS) (by decide) kn_c7 rfl ?_
  refine wi_cv1 (ls' := [some _, some _]) ct_129_16 (Nat.le_of_ble_eq_true rfl) (by decide) (sT_31 hS) rfl (by decide) rfl rfl (Nat.le_of_ble_eq_true rfl) ?_
  refine r_pass (p := p) hS hf0.1 (hf0.hl hl) (hf0.hx hx) hn hxb (by omega) ((congrArg Int32.toInt (congrFun (hf0.2.1 47 (by decide)) _)).trans (hL 7 (by decide))) (fun hz1 fz1 hfz1 => wk_i ?_) (fun hz1 => wk_i ?_)
  · skip
    have hgz1 : RPF fi fz1 (p + 1) := RPF.trans hf0 hfz1
    refine wi_ifne_t ct_129_19 ki_1 (by decide) ?_
    refine wi_iinc_3 rfl (z := 1) ct_129_24 (by decide) ?_
    refine wi_goto ct_129_27 ?_
    refine wi_iload_3 ct_129_2 ?_
    refine wi_iload_2 ct_129_3 ?_
    refine wi_icge_f ct_129_4 ki_1 ki_4 (by decide) ?_
    refine wi_aload_0 ct_129_7 ?_
    refine wi_aload_0 ct_129_8 ?_
    refine wi_gfr ct_129_9 (sT_31 hS) rfl (sR_31_25 hS) ?_
    refine wi_iload_1 ct_129_12 ?_
    refine wi_iload_3 ct_129_13 ?_
    refine wi_iadd (z := 8) ct_129_14 (by decide) ?_
    refine wi_iald (x := fz1 47 8) ct_129_15 (sT_47 hS) (sL_47 hS) (by decide) kn_c8 rfl ?_
    refine wi_cv1 (ls' := [some _, some _]) ct_129_16 (Nat.le_of_ble_eq_true rfl) (by decide) (sT_31 hS) rfl (by decide) rfl rfl (Nat.le_of_ble_eq_true rfl) ?_
    refine r_pass (p := (p + 1)) hS hgz1.1 (hgz1.hl hl) (hgz1.hx hx) hn hxb (by omega) ((congrArg Int32.toInt (congrFun (hgz1.2.1 47 (by decide)) _)).trans (hL 8 (by decide))) (fun hz2 fz2 hfz2 => wk_i ?_) (fun hz2 => wk_i ?_)
    · skip
      have hgz2 : RPF fi fz2 (p + 2) := RPF.trans hgz1 hfz2
      refine wi_ifne_t ct_129_19 ki_1 (by decide) ?_
      refine wi_iinc_3 rfl (z := 2) ct_129_24 (by decide) ?_
      refine wi_goto ct_129_27 ?_
      refine wi_iload_3 ct_129_2 ?_
      refine wi_iload_2 ct_129_3 ?_
      refine wi_icge_f ct_129_4 ki_2 ki_4 (by decide) ?_
      refine wi_aload_0 ct_129_7 ?_
      refine wi_aload_0 ct_129_8 ?_
      refine wi_gfr ct_129_9 (sT_31 hS) rfl (sR_31_25 hS) ?_
      refine wi_iload_1 ct_129_12 ?_
      refine wi_iload_3 ct_129_13 ?_
      refine wi_iadd (z := 9) ct_129_14 (by decide) ?_
      refine wi_iald (x := fz2 47 9) ct_129_15 (sT_47 hS) (sL_47 hS) (by decide) kn_c9 rfl ?_
      refine wi_cv1 (ls' := [some _, some _]) ct_129_16 (Nat.le_of_ble_eq_true rfl) (by decide) (sT_31 hS) rfl (by decide) rfl rfl (Nat.le_of_ble_eq_true rfl) ?_
      refine r_pass (p := (p + 2)) hS hgz2.1 (hgz2.hl hl) (hgz2.hx hx) hn hxb (by omega) ((congrArg Int32.toInt (congrFun (hgz2.2.1 47 (by decide)) _)).trans (hL 9 (by decide))) (fun hz3 fz3 hfz3 => wk_i ?_) (fun hz3 => wk_i ?_)
      · skip
        have hgz3 : RPF fi fz3 (p + 3) := RPF.trans hgz2 hfz3
        refine wi_ifne_t ct_129_19 ki_1 (by decide) ?_
        refine wi_iinc_3 rfl (z := 3) ct_129_24 (by decide) ?_
        refine wi_goto ct_129_27 ?_
        refine wi_iload_3 ct_129_2 ?_
        refine wi_iload_2 ct_129_3 ?_
        refine wi_icge_f ct_129_4 ki_3 ki_4 (by decide) ?_
        refine wi_aload_0 ct_129_7 ?_
        refine wi_aload_0 ct_129_8 ?_
        refine wi_gfr ct_129_9 (sT_31 hS) rfl (sR_31_25 hS) ?_
        refine wi_iload_1 ct_129_12 ?_
        refine wi_iload_3 ct_129_13 ?_
        refine wi_iadd (z := 10) ct_129_14 (by decide) ?_
        refine wi_iald (x := fz3 47 10) ct_129_15 (sT_47 hS) (sL_47 hS) (by decide) kn_c10 rfl ?_
        refine wi_cv1 (ls' := [some _, some _]) ct_129_16 (Nat.le_of_ble_eq_true rfl) (by decide) (sT_31 hS) rfl (by decide) rfl rfl (Nat.le_of_ble_eq_true rfl) ?_
        refine r_pass (p := (p + 3)) hS hgz3.1 (hgz3.hl hl) (hgz3.hx hx) hn hxb (by omega) ((congrArg Int32.toInt (congrFun (hgz3.2.1 47 (by decide)) _)).trans (hL 10 (by decide))) (fun hz4 fz4 hfz4 => wk_i ?_) (fun hz4 => wk_i ?_)
        · skip
          have hgz4 : RPF fi fz4 (p + 4) := RPF.trans hgz3 hfz4
          refine wi_ifne_t ct_129_19 ki_1 (by decide) ?_
          refine wi_iinc_3 rfl (z := 4) ct_129_24 (by decide) ?_
          refine wi_goto ct_129_27 ?_
          refine wi_iload_3 ct_129_2 ?_
          refine wi_iload_2 ct_129_3 ?_
          refine wi_icge_t ct_129_4 ki_4 ki_4 (by decide) ?_
          refine wi_aload_0 ct_129_30 ?_
          refine wi_ic ct_129_31 kc_32 ?_
          refine wi_cv1 (ls' := [some _, some _]) ct_129_33 (Nat.le_of_ble_eq_true rfl) (by decide) (sT_31 hS) rfl (by decide) rfl rfl (Nat.le_of_ble_eq_true rfl) ?_
          refine r_pass (p := (p + 4)) hS hgz4.1 (hgz4.hl hl) (hgz4.hx hx) hn hxb (by omega) ki_32 (fun hz5 fz5 hfz5 => wk_i ?_) (fun hz5 => wk_i ?_)
          · skip
            have hgz5 : RPF fi fz5 (p + 5) := RPF.trans hgz4 hfz5
            refine wi_iret ct_129_36 (by decide) ?_
            have hr : rCs X n [99, 111, 105, 110] p = (true, p + 4) := ((rCs_t (c := 99) (p := p) hz1).trans ((rCs_t (c := 111) (p := p + 1) hz2).trans ((rCs_t (c := 105) (p := p + 2) hz3).trans ((rCs_t (c := 110) (p := p + 3) hz4).trans rfl))))
            rw [hr] at k1
            exact k1 rfl hz5 _ hgz5
          · skip
            refine wi_iret ct_129_36 (by decide) ?_
            have hr : rCs X n [99, 111, 105, 110] p = (true, p + 4) := ((rCs_t (c := 99) (p := p) hz1).trans ((rCs_t (c := 111) (p := p + 1) hz2).trans ((rCs_t (c := 105) (p := p + 2) hz3).trans ((rCs_t (c := 110) (p := p + 3) hz4).trans rfl))))
            rw [hr] at k2
            exact k2 rfl hz5 _ hgz4
        · skip
          refine wi_ifne_f ct_129_19 ki_0 (by decide) ?_
          refine wi_ic ct_129_22 kc_0 ?_
          refine wi_iret ct_129_23 (by decide) ?_
          have hr : rCs X n [99, 111, 105, 110] p = (false, p + 3) := ((rCs_t (c := 99) (p := p) hz1).trans ((rCs_t (c := 111) (p := p + 1) hz2).trans ((rCs_t (c := 105) (p := p + 2) hz3).trans (rCs_f (c := 110) (p := p + 3) hz4))))
          rw [hr] at k3
          exact k3 rfl _ hgz3
      · skip
        refine wi_ifne_f ct_129_19 ki_0 (by decide) ?_
        refine wi_ic ct_129_22 kc_0 ?_
        refine wi_iret ct_129_23 (by decide) ?_
        have hr : rCs X n [99, 111, 105, 110] p = (false, p + 2) := ((rCs_t (c := 99) (p := p) hz1).trans ((rCs_t (c := 111) (p := p + 1) hz2).trans (rCs_f (c := 105) (p := p + 2) hz3)))
        rw [hr] at k3
        exact k3 rfl _ hgz2
    · skip
      refine wi_ifne_f ct_129_19 ki_0 (by decide) ?_
      refine wi_ic ct_129_22 kc_0 ?_
      refine wi_iret ct_129_23 (by decide) ?_
      have hr : rCs X n [99, 111, 105, 110] p = (false, p + 1) := ((rCs_t (c := 99) (p := p) hz1).trans (rCs_f (c := 111) (p := p + 1) hz2))
      rw [hr] at k3
      exact k3 rfl _ hgz1
  · skip
    refine wi_ifne_f ct_129_19 ki_0 (by decide) ?_
    refine wi_ic ct_129_22 kc_0 ?_
    refine wi_iret ct_129_23 (by decide) ?_
    have hr : rCs X n [99, 111, 105, 110] p = (false, p) := (rCs_f (c := 99) (p := p) hz1)
    rw [hr] at k3
    exact k3 rfl _ hf0
theorem r_whole {L n F c : Nat} {g : am_G} {fl : am_L} {fi0 : am_I} {X : Nat → Int} {d : Nat} {P : Option Value → am_G → am_I → am_L → Prop} (hT : RTX L g fi0 X n) (hF : F ≤ 500) : ∀ (σ : List Int) (fi : am_I) (p : Nat) (ts : List tk_T) (hs : RSt n F c fi0 fi p ts σ) (kk : ∀ fi2, RSt n F c fi0 fi2 p (ts ++ nots σ) (strp σ) → P none g fi2 fl), WP (d + 1) 133 0 [some (.ref 31)] [] g fi fl P := by
  obtain ⟨hS, -, -, hn, -⟩ := hT
  intro σ
  induction σ with
  | nil =>
    intro fi p ts hs kk
    obtain ⟨h1, h2, h3, h4, h5, h6, h7, h8, h9⟩ := id hs
    replace h3 := h3.trans (show _ = (0 : Int) from rfl)
    refine wi_aload_0 ct_133_0 ?_
    refine wi_gf (x := fi 31 23) ct_133_1 (sT_31 hS) rfl rfl rfl ?_
    refine wi_ifle_t ct_133_4 h3 (by decide) ?_
    refine wi_ret ct_133_52 ?_
    exact kk _ (by rw [show ts ++ nots [] = ts from List.append_nil _]; exact hs)
  | cons S σ ih =>
    intro fi p ts hs kk
    obtain ⟨h1, h2, h3, h4, h5, h6, h7, h8, h9⟩ := id hs
    rw [List.length_cons] at h3 h8
    have ho := opn_le σ
    rcases Decidable.em (S = 33) with e33 | e33
    · skip
      have ho2 : opn (S :: σ) = opn σ + 1 := if_pos (Or.inl e33)
      rw [ho2] at h4
      have hn1 : nots (S :: σ) = tkN :: nots σ := if_pos e33
      have hn2 : strp (S :: σ) = strp σ := if_pos e33
      rw [hn1, hn2] at kk
      refine wi_aload_0 ct_133_0 ?_
      refine wi_gf (x := fi 31 23) ct_133_1 (sT_31 hS) rfl rfl rfl ?_
      refine wi_ifle_f ct_133_4 h3 (by omega) ?_
      refine wi_aload_0 ct_133_7 ?_
      refine wi_gfr ct_133_8 (sT_31 hS) rfl (sR_31_21 hS) ?_
      refine wi_aload_0 ct_133_11 ?_
      refine wi_gf (x := fi 31 23) ct_133_12 (sT_31 hS) rfl rfl rfl ?_
      refine wi_ic ct_133_15 kc_1 ?_
      refine wi_isub ct_133_16 rfl ?_
      refine wi_iald (x := fi 46 σ.length) ct_133_17 (sT_46 hS) (sL_46 hS) (i_in (i_sub h3 ki_1 (by omega)) (by omega)) (i_cl (k := σ.length) (i_sub h3 ki_1 (by omega)) (by omega)) rfl ?_
      refine wi_ic ct_133_18 kc_33 ?_
      refine wi_icne_f ct_133_20 h6.1 ki_33 (by omega) ?_
      refine wi_aload_0 ct_133_23 ?_
      refine wi_ic ct_133_24 kc_m33 ?_
      refine wi_cv1 (ls' := [some _, some _]) ct_133_26 (Nat.le_of_ble_eq_true rfl) (by decide) (sT_31 hS) rfl (by decide) rfl rfl (Nat.le_of_ble_eq_true rfl) ?_
      refine wi_aload_0 ct_132_0 ?_
      refine wi_gfr ct_132_1 (sT_31 hS) rfl (sR_31_20 hS) ?_
      refine wi_aload_0 ct_132_4 ?_
      refine wi_gf (x := fi 31 22) ct_132_5 (sT_31 hS) rfl rfl rfl ?_
      refine wi_iload_1 ct_132_8 ?_
      refine wi_iast ct_132_9 (sT_45 hS) (sL_45 hS) (i_in h2 (by omega)) (i_cl (k := (F + ts.length)) h2 (by omega)) ?_
      refine wi_aload_0 ct_132_10 ?_
      refine wi_dup ct_132_11 rfl ?_
      refine wi_gf (x := fi 31 22) ct_132_12 (sT_31 hS) rfl rfl (up2_nq (by decide)) ?_
      refine wi_ic ct_132_15 kc_1 ?_
      refine wi_iadd ct_132_16 rfl ?_
      refine wi_pf ct_132_17 (sT_31 hS) rfl ?_
      refine wi_ret ct_132_20 (wk_v ?_)
      refine wi_aload_0 ct_133_29 ?_
      refine wi_dup ct_133_30 rfl ?_
      refine wi_gf (x := fi 31 23) ct_133_31 (sT_31 hS) rfl rfl (Eq.trans (up2_nj (by decide)) (up2_nq (by decide))) ?_
      refine wi_ic ct_133_34 kc_1 ?_
      refine wi_isub ct_133_35 rfl ?_
      refine wi_pf ct_133_36 (sT_31 hS) rfl ?_
      refine wi_aload_0 ct_133_39 ?_
      refine wi_dup ct_133_40 rfl ?_
      refine wi_gf (x := fi 31 24) ct_133_41 (sT_31 hS) rfl rfl (Eq.trans (up2_nj (by decide)) (Eq.trans (up2_nj (by decide)) (up2_nq (by decide)))) ?_
      refine wi_ic ct_133_44 kc_1 ?_
      refine wi_isub ct_133_45 rfl ?_
      refine wi_pf ct_133_46 (sT_31 hS) rfl ?_
      refine wi_goto ct_133_49 ?_
      refine ih _ p (ts ++ [tkN]) ⟨((congrArg Int32.toInt (Eq.trans (up2_nj (by decide)) (Eq.trans (up2_nj (by decide)) (Eq.trans (up2_nj (by decide)) (up2_nq (by decide)))))).trans (h1.trans (by first | rfl | (simp only [List.length_append, List.length_cons, List.length_nil]; omega) | omega))), ((congrArg Int32.toInt (Eq.trans (up2_nj (by decide)) (Eq.trans (up2_nj (by decide)) up2_eq))).trans ((i_add h2 ki_1 (by omega)).trans (by first | rfl | (simp only [List.length_append, List.length_cons, List.length_nil]; omega) | omega))), ((congrArg Int32.toInt (Eq.trans (up2_nj (by decide)) up2_eq)).trans ((i_sub h3 ki_1 (by omega)).trans (by first | rfl | (simp only [List.length_append, List.length_cons, List.length_nil]; omega) | omega))), ((congrArg Int32.toInt up2_eq).trans ((i_sub h4 ki_1 (by omega)).trans (by first | rfl | (simp only [List.length_append, List.length_cons, List.length_nil]; omega) | omega))), (TKR.add h5 (fun j hj => (Eq.trans (up2_nq (by decide)) (Eq.trans (up2_nq (by decide)) (Eq.trans (up2_nq (by decide)) (up2_nj hj))))) ((congrArg Int32.toInt (Eq.trans (up2_nq (by decide)) (Eq.trans (up2_nq (by decide)) (Eq.trans (up2_nq (by decide)) up2_eq)))).trans (ki_m33.trans rfl))), (WT.fr (Eq.trans (funext fun _ => up2_nq (by decide)) (Eq.trans (funext fun _ => up2_nq (by decide)) (Eq.trans (funext fun _ => up2_nq (by decide)) (funext fun _ => up2_nq (by decide))))) _ h6.2), ⟨fun x e1 e2 e3 e4 => (Eq.trans (funext fun _ => up2_nq e1) (Eq.trans (funext fun _ => up2_nq e1) (Eq.trans (funext fun _ => up2_nq e1) (Eq.trans (funext fun _ => up2_nq e3) (h7.1 x e1 e2 e3 e4))))), fun j e1 e2 e3 e4 e5 => (Eq.trans (up2_nj e5) (Eq.trans (up2_nj e4) (Eq.trans (up2_nj e3) (Eq.trans (up2_nq (by decide)) (h7.2.1 j e1 e2 e3 e4 e5))))), fun j e => (Eq.trans (up2_nq (by decide)) (Eq.trans (up2_nq (by decide)) (Eq.trans (up2_nq (by decide)) (Eq.trans (up2_nq (by decide)) (h7.2.2.1 j e))))), fun j e => (Eq.trans (up2_nq (by decide)) (Eq.trans (up2_nq (by decide)) (Eq.trans (up2_nq (by decide)) (Eq.trans (up2_nj (by omega)) (h7.2.2.2 j e)))))⟩, (by simp only [List.length_append, List.length_cons, List.length_nil]; omega), h9⟩ (fun fi2 h => kk fi2 (by rw [show ts ++ tkN :: nots σ = ts ++ [tkN] ++ nots σ by simp only [List.append_assoc, List.cons_append, List.nil_append]]; exact h))
    · skip
      have hn1 : nots (S :: σ) = [] := if_neg e33
      have hn2 : strp (S :: σ) = S :: σ := if_neg e33
      rw [hn1, hn2] at kk
      refine wi_aload_0 ct_133_0 ?_
      refine wi_gf (x := fi 31 23) ct_133_1 (sT_31 hS) rfl rfl rfl ?_
      refine wi_ifle_f ct_133_4 h3 (by omega) ?_
      refine wi_aload_0 ct_133_7 ?_
      refine wi_gfr ct_133_8 (sT_31 hS) rfl (sR_31_21 hS) ?_
      refine wi_aload_0 ct_133_11 ?_
      refine wi_gf (x := fi 31 23) ct_133_12 (sT_31 hS) rfl rfl rfl ?_
      refine wi_ic ct_133_15 kc_1 ?_
      refine wi_isub ct_133_16 rfl ?_
      refine wi_iald (x := fi 46 σ.length) ct_133_17 (sT_46 hS) (sL_46 hS) (i_in (i_sub h3 ki_1 (by omega)) (by omega)) (i_cl (k := σ.length) (i_sub h3 ki_1 (by omega)) (by omega)) rfl ?_
      refine wi_ic ct_133_18 kc_33 ?_
      refine wi_icne_t ct_133_20 h6.1 ki_33 (by omega) ?_
      refine wi_ret ct_133_52 ?_
      exact kk _ (by rw [List.append_nil]; exact hs)
theorem r_settle {L n F c : Nat} {g : am_G} {fl : am_L} {fi0 : am_I} {X : Nat → Int} {d : Nat} {P : Option Value → am_G → am_I → am_L → Prop} {c2 : Int32} {C : Int} (hT : RTX L g fi0 X n) (hF : F ≤ 500) (hc : c2.toInt = C) : ∀ (σ : List Int) (fi : am_I) (p : Nat) (ts : List tk_T) (hs : RSt n F c fi0 fi p ts σ) (kk : ∀ fi2, RSt n F c fi0 fi2 p (ts ++ stl2 C σ) (stl1 C σ) → P none g fi2 fl), WP (d + 1) 134 0 [some (.ref 31), some (.int c2)] [] g fi fl P := by
  obtain ⟨hS, -, -, hn, -⟩ := hT
  intro σ
  induction σ with
  | nil =>
    intro fi p ts hs kk
    obtain ⟨h1, h2, h3, h4, h5, h6, h7, h8, h9⟩ := id hs
    replace h3 := h3.trans (show _ = (0 : Int) from rfl)
    refine wi_aload_0 ct_134_0 ?_
    refine wi_gf (x := fi 31 23) ct_134_1 (sT_31 hS) rfl rfl rfl ?_
    refine wi_ifle_t ct_134_4 h3 (by decide) ?_
    refine wi_ret ct_134_72 ?_
    exact kk _ (by rw [show ts ++ stl2 C [] = ts from List.append_nil _]; exact hs)
  | cons S σ ih =>
    intro fi p ts hs kk
    obtain ⟨h1, h2, h3, h4, h5, h6, h7, h8, h9⟩ := id hs
    rw [List.length_cons] at h3 h8
    have ho := opn_le σ
    rcases Decidable.em (S = 38) with e38 | e38
    · skip
      subst e38
      have ho2 : opn (38 :: σ) = opn σ := if_neg (by decide)
      rw [ho2] at h4
      have hn1 : stl2 C (38 :: σ) = tkA :: stl2 C σ := if_pos (Or.inl rfl)
      have hn2 : stl1 C (38 :: σ) = stl1 C σ := if_pos (Or.inl rfl)
      rw [hn1, hn2] at kk
      refine wi_aload_0 ct_134_0 ?_
      refine wi_gf (x := fi 31 23) ct_134_1 (sT_31 hS) rfl rfl rfl ?_
      refine wi_ifle_f ct_134_4 h3 (by omega) ?_
      refine wi_aload_0 ct_134_7 ?_
      refine wi_gfr ct_134_8 (sT_31 hS) rfl (sR_31_21 hS) ?_
      refine wi_aload_0 ct_134_11 ?_
      refine wi_gf (x := fi 31 23) ct_134_12 (sT_31 hS) rfl rfl rfl ?_
      refine wi_ic ct_134_15 kc_1 ?_
      refine wi_isub ct_134_16 rfl ?_
      refine wi_iald (x := fi 46 σ.length) ct_134_17 (sT_46 hS) (sL_46 hS) (i_in (i_sub h3 ki_1 (by omega)) (by omega)) (i_cl (k := σ.length) (i_sub h3 ki_1 (by omega)) (by omega)) rfl ?_
      refine wi_ic ct_134_18 kc_38 ?_
      refine wi_iceq_t ct_134_20 h6.1 ki_38 (by omega) ?_
      refine wi_aload_0 ct_134_45 ?_
      refine wi_dup ct_134_46 rfl ?_
      refine wi_gf (x := fi 31 23) ct_134_47 (sT_31 hS) rfl rfl rfl ?_
      refine wi_ic ct_134_50 kc_1 ?_
      refine wi_isub ct_134_51 rfl ?_
      refine wi_pf ct_134_52 (sT_31 hS) rfl ?_
      refine wi_aload_0 ct_134_55 ?_
      refine wi_aload_0 ct_134_56 ?_
      refine wi_gfr ct_134_57 (sT_31 hS) rfl (sR_31_21 hS) ?_
      refine wi_aload_0 ct_134_60 ?_
      refine wi_gf (x := (fi 31 23 - 1)) ct_134_61 (sT_31 hS) rfl rfl up2_eq ?_
      refine wi_iald (x := fi 46 σ.length) ct_134_64 (sT_46 hS) (sL_46 hS) (i_in (i_sub h3 ki_1 (by omega)) (by omega)) (i_cl (k := σ.length) (i_sub h3 ki_1 (by omega)) (by omega)) (up2_nq (by decide)) ?_
      refine wi_ineg ct_134_65 rfl ?_
      refine wi_cv1 (ls' := [some _, some _]) ct_134_66 (Nat.le_of_ble_eq_true rfl) (by decide) (sT_31 hS) rfl (by decide) rfl rfl (Nat.le_of_ble_eq_true rfl) ?_
      refine wi_aload_0 ct_132_0 ?_
      refine wi_gfr ct_132_1 (sT_31 hS) rfl (sR_31_20 hS) ?_
      refine wi_aload_0 ct_132_4 ?_
      refine wi_gf (x := fi 31 22) ct_132_5 (sT_31 hS) rfl rfl (up2_nj (by decide)) ?_
      refine wi_iload_1 ct_132_8 ?_
      refine wi_iast ct_132_9 (sT_45 hS) (sL_45 hS) (i_in h2 (by omega)) (i_cl (k := (F + ts.length)) h2 (by omega)) ?_
      refine wi_aload_0 ct_132_10 ?_
      refine wi_dup ct_132_11 rfl ?_
      refine wi_gf (x := fi 31 22) ct_132_12 (sT_31 hS) rfl rfl (Eq.trans (up2_nq (by decide)) (up2_nj (by decide))) ?_
      refine wi_ic ct_132_15 kc_1 ?_
      refine wi_iadd ct_132_16 rfl ?_
      refine wi_pf ct_132_17 (sT_31 hS) rfl ?_
      refine wi_ret ct_132_20 (wk_v ?_)
      refine wi_goto ct_134_69 ?_
      refine ih _ p (ts ++ [tkA]) ⟨((congrArg Int32.toInt (Eq.trans (up2_nj (by decide)) (Eq.trans (up2_nq (by decide)) (up2_nj (by decide))))).trans (h1.trans (by first | rfl | (simp only [List.length_append, List.length_cons, List.length_nil]; omega) | omega))), ((congrArg Int32.toInt up2_eq).trans ((i_add h2 ki_1 (by omega)).trans (by first | rfl | (simp only [List.length_append, List.length_cons, List.length_nil]; omega) | omega))), ((congrArg Int32.toInt (Eq.trans (up2_nj (by decide)) (Eq.trans (up2_nq (by decide)) up2_eq))).trans ((i_sub h3 ki_1 (by omega)).trans (by first | rfl | (simp only [List.length_append, List.length_cons, List.length_nil]; omega) | omega))), ((congrArg Int32.toInt (Eq.trans (up2_nj (by decide)) (Eq.trans (up2_nq (by decide)) (up2_nj (by decide))))).trans (h4.trans (by first | rfl | (simp only [List.length_append, List.length_cons, List.length_nil]; omega) | omega))), (TKR.add h5 (fun j hj => (Eq.trans (up2_nq (by decide)) (Eq.trans (up2_nj hj) (up2_nq (by decide))))) ((congrArg Int32.toInt (Eq.trans (up2_nq (by decide)) up2_eq)).trans ((i_neg h6.1 (by omega)).trans (show _ = (-38 : Int) by omega)))), (WT.fr (Eq.trans (funext fun _ => up2_nq (by decide)) (Eq.trans (funext fun _ => up2_nq (by decide)) (funext fun _ => up2_nq (by decide)))) _ h6.2), ⟨fun x e1 e2 e3 e4 => (Eq.trans (funext fun _ => up2_nq e1) (Eq.trans (funext fun _ => up2_nq e3) (Eq.trans (funext fun _ => up2_nq e1) (h7.1 x e1 e2 e3 e4)))), fun j e1 e2 e3 e4 e5 => (Eq.trans (up2_nj e3) (Eq.trans (up2_nq (by decide)) (Eq.trans (up2_nj e4) (h7.2.1 j e1 e2 e3 e4 e5)))), fun j e => (Eq.trans (up2_nq (by decide)) (Eq.trans (up2_nq (by decide)) (Eq.trans (up2_nq (by decide)) (h7.2.2.1 j e)))), fun j e => (Eq.trans (up2_nq (by decide)) (Eq.trans (up2_nj (by omega)) (Eq.trans (up2_nq (by decide)) (h7.2.2.2 j e))))⟩, (by simp only [List.length_append, List.length_cons, List.length_nil]; omega), h9⟩ (fun fi2 h => kk fi2 (by rw [show ts ++ tkA :: stl2 C σ = ts ++ [tkA] ++ stl2 C σ by simp only [List.append_assoc, List.cons_append, List.nil_append]]; exact h))
    · rcases Decidable.em (S = 124 ∧ C ≠ 38) with e1 | e1
      · skip
        obtain ⟨e124, eC⟩ := e1
        subst e124
        have ho2 : opn (124 :: σ) = opn σ := if_neg (by decide)
        rw [ho2] at h4
        have hn1 : stl2 C (124 :: σ) = tkO :: stl2 C σ := if_pos (Or.inr ⟨rfl, eC⟩)
        have hn2 : stl1 C (124 :: σ) = stl1 C σ := if_pos (Or.inr ⟨rfl, eC⟩)
        rw [hn1, hn2] at kk
        refine wi_aload_0 ct_134_0 ?_
        refine wi_gf (x := fi 31 23) ct_134_1 (sT_31 hS) rfl rfl rfl ?_
        refine wi_ifle_f ct_134_4 h3 (by omega) ?_
        refine wi_aload_0 ct_134_7 ?_
        refine wi_gfr ct_134_8 (sT_31 hS) rfl (sR_31_21 hS) ?_
        refine wi_aload_0 ct_134_11 ?_
        refine wi_gf (x := fi 31 23) ct_134_12 (sT_31 hS) rfl rfl rfl ?_
        refine wi_ic ct_134_15 kc_1 ?_
        refine wi_isub ct_134_16 rfl ?_
        refine wi_iald (x := fi 46 σ.length) ct_134_17 (sT_46 hS) (sL_46 hS) (i_in (i_sub h3 ki_1 (by omega)) (by omega)) (i_cl (k := σ.length) (i_sub h3 ki_1 (by omega)) (by omega)) rfl ?_
        refine wi_ic ct_134_18 kc_38 ?_
        refine wi_iceq_f ct_134_20 h6.1 ki_38 (by omega) ?_
        refine wi_aload_0 ct_134_23 ?_
        refine wi_gfr ct_134_24 (sT_31 hS) rfl (sR_31_21 hS) ?_
        refine wi_aload_0 ct_134_27 ?_
        refine wi_gf (x := fi 31 23) ct_134_28 (sT_31 hS) rfl rfl rfl ?_
        refine wi_ic ct_134_31 kc_1 ?_
        refine wi_isub ct_134_32 rfl ?_
        refine wi_iald (x := fi 46 σ.length) ct_134_33 (sT_46 hS) (sL_46 hS) (i_in (i_sub h3 ki_1 (by omega)) (by omega)) (i_cl (k := σ.length) (i_sub h3 ki_1 (by omega)) (by omega)) rfl ?_
        refine wi_ic ct_134_34 kc_124 ?_
        refine wi_icne_f ct_134_36 h6.1 ki_124 (by omega) ?_
        refine wi_iload_1 ct_134_39 ?_
        refine wi_ic ct_134_40 kc_38 ?_
        refine wi_iceq_f ct_134_42 hc ki_38 (by omega) ?_
        refine wi_aload_0 ct_134_45 ?_
        refine wi_dup ct_134_46 rfl ?_
        refine wi_gf (x := fi 31 23) ct_134_47 (sT_31 hS) rfl rfl rfl ?_
        refine wi_ic ct_134_50 kc_1 ?_
        refine wi_isub ct_134_51 rfl ?_
        refine wi_pf ct_134_52 (sT_31 hS) rfl ?_
        refine wi_aload_0 ct_134_55 ?_
        refine wi_aload_0 ct_134_56 ?_
        refine wi_gfr ct_134_57 (sT_31 hS) rfl (sR_31_21 hS) ?_
        refine wi_aload_0 ct_134_60 ?_
        refine wi_gf (x := (fi 31 23 - 1)) ct_134_61 (sT_31 hS) rfl rfl up2_eq ?_
        refine wi_iald (x := fi 46 σ.length) ct_134_64 (sT_46 hS) (sL_46 hS) (i_in (i_sub h3 ki_1 (by omega)) (by omega)) (i_cl (k := σ.length) (i_sub h3 ki_1 (by omega)) (by omega)) (up2_nq (by decide)) ?_
        refine wi_ineg ct_134_65 rfl ?_
        refine wi_cv1 (ls' := [some _, some _]) ct_134_66 (Nat.le_of_ble_eq_true rfl) (by decide) (sT_31 hS) rfl (by decide) rfl rfl (Nat.le_of_ble_eq_true rfl) ?_
        refine wi_aload_0 ct_132_0 ?_
        refine wi_gfr ct_132_1 (sT_31 hS) rfl (sR_31_20 hS) ?_
        refine wi_aload_0 ct_132_4 ?_
        refine wi_gf (x := fi 31 22) ct_132_5 (sT_31 hS) rfl rfl (up2_nj (by decide)) ?_
        refine wi_iload_1 ct_132_8 ?_
        refine wi_iast ct_132_9 (sT_45 hS) (sL_45 hS) (i_in h2 (by omega)) (i_cl (k := (F + ts.length)) h2 (by omega)) ?_
        refine wi_aload_0 ct_132_10 ?_
        refine wi_dup ct_132_11 rfl ?_
        refine wi_gf (x := fi 31 22) ct_132_12 (sT_31 hS) rfl rfl (Eq.trans (up2_nq (by decide)) (up2_nj (by decide))) ?_
        refine wi_ic ct_132_15 kc_1 ?_
        refine wi_iadd ct_132_16 rfl ?_
        refine wi_pf ct_132_17 (sT_31 hS) rfl ?_
        refine wi_ret ct_132_20 (wk_v ?_)
        refine wi_goto ct_134_69 ?_
        refine ih _ p (ts ++ [tkO]) ⟨((congrArg Int32.toInt (Eq.trans (up2_nj (by decide)) (Eq.trans (up2_nq (by decide)) (up2_nj (by decide))))).trans (h1.trans (by first | rfl | (simp only [List.length_append, List.length_cons, List.length_nil]; omega) | omega))), ((congrArg Int32.toInt up2_eq).trans ((i_add h2 ki_1 (by omega)).trans (by first | rfl | (simp only [List.length_append, List.length_cons, List.length_nil]; omega) | omega))), ((congrArg Int32.toInt (Eq.trans (up2_nj (by decide)) (Eq.trans (up2_nq (by decide)) up2_eq))).trans ((i_sub h3 ki_1 (by omega)).trans (by first | rfl | (simp only [List.length_append, List.length_cons, List.length_nil]; omega) | omega))), ((congrArg Int32.toInt (Eq.trans (up2_nj (by decide)) (Eq.trans (up2_nq (by decide)) (up2_nj (by decide))))).trans (h4.trans (by first | rfl | (simp only [List.length_append, List.length_cons, List.length_nil]; omega) | omega))), (TKR.add h5 (fun j hj => (Eq.trans (up2_nq (by decide)) (Eq.trans (up2_nj hj) (up2_nq (by decide))))) ((congrArg Int32.toInt (Eq.trans (up2_nq (by decide)) up2_eq)).trans ((i_neg h6.1 (by omega)).trans (show _ = (-124 : Int) by omega)))), (WT.fr (Eq.trans (funext fun _ => up2_nq (by decide)) (Eq.trans (funext fun _ => up2_nq (by decide)) (funext fun _ => up2_nq (by decide)))) _ h6.2), ⟨fun x e1 e2 e3 e4 => (Eq.trans (funext fun _ => up2_nq e1) (Eq.trans (funext fun _ => up2_nq e3) (Eq.trans (funext fun _ => up2_nq e1) (h7.1 x e1 e2 e3 e4)))), fun j e1 e2 e3 e4 e5 => (Eq.trans (up2_nj e3) (Eq.trans (up2_nq (by decide)) (Eq.trans (up2_nj e4) (h7.2.1 j e1 e2 e3 e4 e5)))), fun j e => (Eq.trans (up2_nq (by decide)) (Eq.trans (up2_nq (by decide)) (Eq.trans (up2_nq (by decide)) (h7.2.2.1 j e)))), fun j e => (Eq.trans (up2_nq (by decide)) (Eq.trans (up2_nj (by omega)) (Eq.trans (up2_nq (by decide)) (h7.2.2.2 j e))))⟩, (by simp only [List.length_append, List.length_cons, List.length_nil]; omega), h9⟩ (fun fi2 h => kk fi2 (by rw [show ts ++ tkO :: stl2 C σ = ts ++ [tkO] ++ stl2 C σ by simp only [List.append_assoc, List.cons_append, List.nil_append]]; exact h))
      · skip
        have hnn : ¬ (S = 38 ∨ (S = 124 ∧ C ≠ 38)) := fun h => h.elim e38 e1
        have hn1 : stl2 C (S :: σ) = [] := if_neg hnn
        have hn2 : stl1 C (S :: σ) = S :: σ := if_neg hnn
        rw [hn1, hn2] at kk
        have hnc : S = 124 → C = 38 := by omega
        refine wi_aload_0 ct_134_0 ?_
        refine wi_gf (x := fi 31 23) ct_134_1 (sT_31 hS) rfl rfl rfl ?_
        refine wi_ifle_f ct_134_4 h3 (by omega) ?_
        refine wi_aload_0 ct_134_7 ?_
        refine wi_gfr ct_134_8 (sT_31 hS) rfl (sR_31_21 hS) ?_
        refine wi_aload_0 ct_134_11 ?_
        refine wi_gf (x := fi 31 23) ct_134_12 (sT_31 hS) rfl rfl rfl ?_
        refine wi_ic ct_134_15 kc_1 ?_
        refine wi_isub ct_134_16 rfl ?_
        refine wi_iald (x := fi 46 σ.length) ct_134_17 (sT_46 hS) (sL_46 hS) (i_in (i_sub h3 ki_1 (by omega)) (by omega)) (i_cl (k := σ.length) (i_sub h3 ki_1 (by omega)) (by omega)) rfl ?_
        refine wi_ic ct_134_18 kc_38 ?_
        refine wi_iceq_f ct_134_20 h6.1 ki_38 (by omega) ?_
        refine wi_aload_0 ct_134_23 ?_
        refine wi_gfr ct_134_24 (sT_31 hS) rfl (sR_31_21 hS) ?_
        refine wi_aload_0 ct_134_27 ?_
        refine wi_gf (x := fi 31 23) ct_134_28 (sT_31 hS) rfl rfl rfl ?_
        refine wi_ic ct_134_31 kc_1 ?_
        refine wi_isub ct_134_32 rfl ?_
        refine wi_iald (x := fi 46 σ.length) ct_134_33 (sT_46 hS) (sL_46 hS) (i_in (i_sub h3 ki_1 (by omega)) (by omega)) (i_cl (k := σ.length) (i_sub h3 ki_1 (by omega)) (by omega)) rfl ?_
        refine wi_ic ct_134_34 kc_124 ?_
        refine wi_icne ct_134_36 h6.1 ki_124 (fun h1 => ?_) (fun h1 => ?_)
        · skip
          refine wi_ret ct_134_72 ?_
          exact kk _ (by rw [List.append_nil]; exact hs)
        · skip
          refine wi_iload_1 ct_134_39 ?_
          refine wi_ic ct_134_40 kc_38 ?_
          refine wi_iceq_t ct_134_42 hc ki_38 (by omega) ?_
          refine wi_ret ct_134_72 ?_
          exact kk _ (by rw [List.append_nil]; exact hs)
