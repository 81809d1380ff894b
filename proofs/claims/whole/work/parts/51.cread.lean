/-! The class's reading. -/
def PF (fi fi2 : am_I) (p : Nat) : Prop := (fi2 17 2).toInt = (p : Int) ∧ (∀ x, x ≠ 17 → fi2 x = fi x) ∧ ∀ j, j ≠ 2 → fi2 17 j = fi 17 j
def CFr (q a4 a5 a6 : Nat) (fi0 fi : am_I) : Prop := (∀ x, x ≠ 17 → x ≠ q → x ≠ a4 → x ≠ a5 → x ≠ a6 → fi x = fi0 x) ∧ (∀ j, j ≠ 2 → fi 17 j = fi0 17 j) ∧ ∀ j, j ≠ 7 → fi q j = fi0 q j
def TKS (fi : am_I) (a4 a5 a6 : Nat) (ts : List tk_T) : Prop := ∀ k, k < ts.length → (fi a4 k).toInt = ((ts.getD k (0, 0, 0)).1 : Int) ∧ (fi a5 k).toInt = ((ts.getD k (0, 0, 0)).2.1 : Int) ∧ (fi a6 k).toInt = ((ts.getD k (0, 0, 0)).2.2 : Int)
def CS (q a4 a5 a6 : Nat) (fi0 fi : am_I) (p : Nat) (ts : List tk_T) : Prop := (fi 17 2).toInt = (p : Int) ∧ (fi q 7).toInt = (ts.length : Int) ∧ TKS fi a4 a5 a6 ts ∧ CFr q a4 a5 a6 fi0 fi
def TXC (L : Nat) (g : am_G) (fi0 : am_I) (q a0 a1 a2 a4 a5 a6 : Nat) (X : Nat → Int) (n : Nat) : Prop := SF L g ∧ SQp g q a0 a1 a2 a4 a5 a6 ∧ (72 ≤ q ∧ 72 ≤ a4 ∧ 72 ≤ a5 ∧ 72 ≤ a6) ∧ (q ≠ a4 ∧ q ≠ a5 ∧ q ≠ a6 ∧ a4 ≠ a5 ∧ a4 ≠ a6 ∧ a5 ≠ a6) ∧ (fi0 17 1).toInt = (n : Int) ∧ (∀ j, j < n → (fi0 18 j).toInt = X j) ∧ n ≤ 100 ∧ ∀ j, j < n → 0 ≤ X j ∧ X j ≤ 127
theorem pk_bd {X : Nat → Int} {n p : Nat} (h : ∀ j, j < n → 0 ≤ X j ∧ X j ≤ 127) : -1 ≤ pk X n p ∧ pk X n p ≤ 127 := by
  unfold pk
  split
  · rename_i hp
    have := h p hp
    omega
  · omega
theorem PF.rfl {fi : am_I} {p : Nat} (h : (fi 17 2).toInt = (p : Int)) : PF fi fi p := ⟨h, fun _ _ => Eq.refl _, fun _ _ => Eq.refl _⟩
theorem PF.trans {fi fi2 fi3 : am_I} {p p2 : Nat} (h : PF fi fi2 p) (k : PF fi2 fi3 p2) : PF fi fi3 p2 := ⟨k.1, fun x e => (k.2.1 x e).trans (h.2.1 x e), fun j e => (k.2.2 j e).trans (h.2.2 j e)⟩
theorem PF.up {fi : am_I} {z : Int32} {p : Nat} (h : z.toInt = (p : Int)) : PF fi (up2 fi 17 2 z) p := ⟨(congrArg Int32.toInt up2_eq).trans h, fun x e => funext fun _ => up2_nq e, fun j e => up2_nj e⟩
section ACS
variable {L n p p2 q a0 a1 a2 a4 a5 a6 : Nat} {g : am_G} {fi0 fi fi2 : am_I} {X : Nat → Int} {ts : List tk_T}
theorem CFr.pf (h : CFr q a4 a5 a6 fi0 fi) (hq : q ≠ 17) (k : PF fi fi2 p) : CFr q a4 a5 a6 fi0 fi2 := ⟨fun x e1 e2 e3 e4 e5 => (k.2.1 x e1).trans (h.1 x e1 e2 e3 e4 e5), fun j e => (k.2.2 j e).trans (h.2.1 j e), fun j e => (congrFun (k.2.1 q hq) j).trans (h.2.2 j e)⟩
theorem CS.pf (h : CS q a4 a5 a6 fi0 fi p ts) (hd : 72 ≤ q ∧ 72 ≤ a4 ∧ 72 ≤ a5 ∧ 72 ≤ a6) (k : PF fi fi2 p2) : CS q a4 a5 a6 fi0 fi2 p2 ts := by
  obtain ⟨h1, h2, h3, h4⟩ := h
  refine ⟨k.1, by rw [k.2.1 q (by omega)]; exact h2, ?_, h4.pf (by omega) k⟩
  unfold TKS
  rw [k.2.1 a4 (by omega), k.2.1 a5 (by omega), k.2.1 a6 (by omega)]
  exact h3
theorem getD_app {α : Type} {ts : List α} {t d : α} : (ts ++ [t]).getD ts.length d = t := by
  simp
theorem getD_apl {α : Type} {ts us : List α} {d : α} {k : Nat} (h : k < ts.length) : (ts ++ us).getD k d = ts.getD k d := by
  simp only [List.getD_eq_getElem?_getD]
  rw [List.getElem?_append_left h]
theorem TKS.add {t : tk_T} (h : TKS fi a4 a5 a6 ts) (e4 : ∀ j, j ≠ ts.length → fi2 a4 j = fi a4 j) (e5 : ∀ j, j ≠ ts.length → fi2 a5 j = fi a5 j) (e6 : ∀ j, j ≠ ts.length → fi2 a6 j = fi a6 j) (n4 : (fi2 a4 ts.length).toInt = (t.1 : Int)) (n5 : (fi2 a5 ts.length).toInt = (t.2.1 : Int)) (n6 : (fi2 a6 ts.length).toInt = (t.2.2 : Int)) : TKS fi2 a4 a5 a6 (ts ++ [t]) := by
  intro k hk
  rcases Decidable.em (k = ts.length) with e | e
  · rw [e, getD_app]
    exact ⟨n4, n5, n6⟩
  · have hl : k < ts.length := by
      simp only [List.length_append, List.length_cons, List.length_nil] at hk
      omega
    rw [getD_apl hl, e4 k e, e5 k e, e6 k e]
    exact h k hl
end ACS
/-- what is so behind a reading -/
def CR (P : Option Value → am_G → am_I → am_L → Prop) (g : am_G) (fl : am_L) (q a4 a5 a6 : Nat) (fi0 : am_I) (ts : List tk_T) (r : rd_T) : Prop := (r.1 = true → ∀ fi2, CS q a4 a5 a6 fi0 fi2 r.2.1 (ts ++ r.2.2) → P (some (.int 1)) g fi2 fl) ∧ (r.1 = false → ∀ fi2, CFr q a4 a5 a6 fi0 fi2 → (fi2 17 2).toInt = (r.2.1 : Int) → P (some (.int 0)) g fi2 fl)
theorem CR.congr {P : Option Value → am_G → am_I → am_L → Prop} {g : am_G} {fl : am_L} {q a4 a5 a6 : Nat} {fi0 : am_I} {ts : List tk_T} {r r2 : rd_T} (h : CR P g fl q a4 a5 a6 fi0 ts r) (e : r = r2) : CR P g fl q a4 a5 a6 fi0 ts r2 := e ▸ h
def CM (D M : Nat) (g : am_G) (fl : am_L) (q a4 a5 a6 n : Nat) (fi0 : am_I) (ls : List (Option Value)) (f : Nat → rd_T) : Prop := ∀ (P : Option Value → am_G → am_I → am_L → Prop) (fi : am_I) (p : Nat) (ts : List tk_T), CS q a4 a5 a6 fi0 fi p ts → p ≤ n → ts.length ≤ p → CR P g fl q a4 a5 a6 fi0 ts (f p) → WP D M 0 ls [] g fi fl P
def rCs (X : Nat → Int) (n : Nat) : List Int → Nat → Bool × Nat
  | [], p => (true, p)
  | c :: cs, p => if pk X n p = c then rCs X n cs (p + 1) else (false, p)
theorem rCs_t {X : Nat → Int} {n p : Nat} {c : Int} {cs : List Int} (h : pk X n p = c) : rCs X n (c :: cs) p = rCs X n cs (p + 1) := if_pos h
theorem rCs_f {X : Nat → Int} {n p : Nat} {c : Int} {cs : List Int} (h : pk X n p ≠ c) : rCs X n (c :: cs) p = (false, p) := if_neg h
def rl3 (c : Int) : Int := if c = 60 then 0 else if c = 61 then 1 else if c = 62 then 2 else -1
theorem c_peek {L n p : Nat} {d : Nat} {g : am_G} {fi : am_I} {fl : am_L} {P : Option Value → am_G → am_I → am_L → Prop} {X : Nat → Int} (hS : SF L g) (hp : (fi 17 2).toInt = (p : Int)) (hl : (fi 17 1).toInt = (n : Int)) (hx : ∀ j, j < n → (fi 18 j).toInt = X j) (hn : n ≤ 100) (hxb : ∀ j, j < n → 0 ≤ X j ∧ X j ≤ 127) (kk : ∀ z : Int32, z.toInt = pk X n p → P (some (.int z)) g fi fl) : WP d 56 0 [some (.ref 17)] [] g fi fl P := by
  refine wi_aload_0 ct_56_0 ?_
  refine wi_gf (x := fi 17 2) ct_56_1 (sT_17 hS) rfl rfl rfl ?_
  refine wi_aload_0 ct_56_4 ?_
  refine wi_gf (x := fi 17 1) ct_56_5 (sT_17 hS) rfl rfl rfl ?_
  refine wi_icge ct_56_8 hp hl (fun h1 => ?_) (fun h1 => ?_)
  · skip
    refine wi_ic ct_56_23 kc_m1 ?_
    refine wi_iret ct_56_24 rfl ?_
    exact kk _ (ki_m1.trans (pk_ge (by omega)).symm)
  · skip
    refine wi_aload_0 ct_56_11 ?_
    refine wi_gfr ct_56_12 (sT_17 hS) rfl (sR_17_0 hS) ?_
    refine wi_aload_0 ct_56_15 ?_
    refine wi_gf (x := fi 17 2) ct_56_16 (sT_17 hS) rfl rfl rfl ?_
    refine wi_bald (x := fi 18 p) ct_56_19 (Or.inl (sT_18 hS)) (sL_18 hS) (i_in hp (by omega)) (i_cl (k := p) hp (by omega)) rfl ?_
    refine wi_goto ct_56_20 ?_
    refine wi_iret ct_56_24 rfl ?_
    exact kk _ ((hx p (by omega)).trans (if_pos (by omega) : pk X n p = X p).symm)
theorem c_pass {L n p : Nat} {d : Nat} {g : am_G} {fi : am_I} {fl : am_L} {P : Option Value → am_G → am_I → am_L → Prop} {X : Nat → Int} {c : Int32} {C : Int} (hS : SF L g) (hp : (fi 17 2).toInt = (p : Int)) (hl : (fi 17 1).toInt = (n : Int)) (hx : ∀ j, j < n → (fi 18 j).toInt = X j) (hn : n ≤ 100) (hxb : ∀ j, j < n → 0 ≤ X j ∧ X j ≤ 127) (hp9 : p ≤ 1000) (hc : c.toInt = C) (k1 : pk X n p = C → ∀ fi2, PF fi fi2 (p + 1) → P (some (.int 1)) g fi2 fl) (k2 : pk X n p ≠ C → P (some (.int 0)) g fi fl) : WP (d + 1) 55 0 [some (.ref 17), some (.int c)] [] g fi fl P := by
  refine wi_aload_0 ct_55_0 ?_
  refine wi_cv0 (ls' := [some _]) ct_55_1 (Nat.le_of_ble_eq_true rfl) (by decide) (sT_17 hS) rfl (by decide) rfl rfl (Nat.le_of_ble_eq_true rfl) ?_
  refine c_peek (p := p) hS hp hl hx hn hxb (fun z1 hz1 => wk_i ?_)
  have hbz1 := pk_bd hxb (p := p)
  refine wi_iload_1 ct_55_4 ?_
  refine wi_iceq ct_55_5 hz1 hc (fun h2 => ?_) (fun h2 => ?_)
  · skip
    refine wi_aload_0 ct_55_10 ?_
    refine wi_dup ct_55_11 rfl ?_
    refine wi_gf (x := fi 17 2) ct_55_12 (sT_17 hS) rfl rfl rfl ?_
    refine wi_ic ct_55_15 kc_1 ?_
    refine wi_iadd ct_55_16 rfl ?_
    refine wi_pf ct_55_17 (sT_17 hS) rfl ?_
    refine wi_ic ct_55_20 kc_1 ?_
    refine wi_iret ct_55_21 (by decide) ?_
    exact k1 (by omega) _ (PF.up (p := p + 1) ((i_add hp ki_1 (by omega)).trans (by omega)))
  · skip
    refine wi_ic ct_55_8 kc_0 ?_
    refine wi_iret ct_55_9 (by decide) ?_
    exact k2 (by omega)
theorem c_lt6 {L n p : Nat} {d : Nat} {g : am_G} {fi : am_I} {fl : am_L} {P : Option Value → am_G → am_I → am_L → Prop} {X : Nat → Int} (hS : SF L g) (hp : (fi 17 2).toInt = (p : Int)) (hl : (fi 17 1).toInt = (n : Int)) (hx : ∀ j, j < n → (fi 18 j).toInt = X j) (hn : n ≤ 100) (hxb : ∀ j, j < n → 0 ≤ X j ∧ X j ≤ 127) (hp9 : p ≤ 1000) (k1 : ∀ z fi2, z.toInt = lt6 (pk X n p) → 0 ≤ lt6 (pk X n p) → PF fi fi2 (p + 1) → P (some (.int z)) g fi2 fl) (k2 : lt6 (pk X n p) < 0 → P (some (.int (-1))) g fi fl) : WP (d + 6) 54 0 [some (.ref 17), some (.retAddr 4), none, none] [] g fi fl P := by
  refine wi_aload_0 ct_54_0 ?_
  refine wi_cv0 (ls' := [some _]) ct_54_1 (Nat.le_of_ble_eq_true rfl) (by decide) (sT_17 hS) rfl (by decide) rfl rfl (Nat.le_of_ble_eq_true rfl) ?_
  refine c_peek (p := p) hS hp hl hx hn hxb (fun z1 hz1 => wk_i ?_)
  have hbz1 := pk_bd hxb (p := p)
  refine wi_istore_2 rfl ct_54_4 ?_
  refine wi_ic ct_54_5 kc_0 ?_
  refine wi_istore_3 rfl ct_54_6 ?_
  refine wi_iload_3 ct_54_7 ?_
  refine wi_aloadT_1 ct_54_8 ?_
  refine wi_cvT0 (ls' := [some _]) ct_54_9 (Nat.le_of_ble_eq_true rfl) (by decide) (by decide) rfl rfl (Nat.le_of_ble_eq_true rfl) ?_
  refine wi_aloadT_0 ct_204_0 ?_
  refine wi_gfs0 ct_204_1 (by decide) ?_
  refine wi_lenS (z := 6) ct_204_4 (by decide) (by decide) ?_
  refine wi_aloadT_0 ct_204_5 ?_
  refine wi_cvT0 (ls' := [some _]) ct_204_6 (Nat.le_of_ble_eq_true rfl) (by decide) (by decide) rfl rfl (Nat.le_of_ble_eq_true rfl) ?_
  refine wi_gs0 ct_205_0 ?_
  refine wi_ifeq_f ct_205_3 ki_1 (by decide) ?_
  refine wi_aloadT_0 ct_205_6 ?_
  refine wi_gfs1 ct_205_7 (by decide) ?_
  refine wi_goto ct_205_10 ?_
  refine wi_iret ct_205_14 (by decide) (wk_i ?_)
  refine wi_ishr (z := 6) ct_204_9 (by decide) ?_
  refine wi_iret ct_204_10 rfl (wk_i ?_)
  refine wi_icge_f ct_54_12 ki_0 ki_6 (by decide) ?_
  refine wi_aloadT_1 ct_54_15 ?_
  refine wi_iload_3 ct_54_16 ?_
  refine wi_cvT1 (ls' := [some _, some _]) ct_54_17 (Nat.le_of_ble_eq_true rfl) (by decide) (by decide) rfl rfl (Nat.le_of_ble_eq_true rfl) ?_
  refine wi_aloadT_0 ct_206_0 ?_
  refine wi_cvT0 (ls' := [some _]) ct_206_1 (Nat.le_of_ble_eq_true rfl) (by decide) (by decide) rfl rfl (Nat.le_of_ble_eq_true rfl) ?_
  refine wi_gs0 ct_207_0 ?_
  refine wi_ifeq_f ct_207_3 ki_1 (by decide) ?_
  refine wi_aloadT_0 ct_207_6 ?_
  refine wi_gfs1 ct_207_7 (by decide) ?_
  refine wi_ifne_f ct_207_10 ki_0 (by decide) ?_
  refine wi_ic ct_207_13 kc_1 ?_
  refine wi_goto ct_207_14 ?_
  refine wi_iret ct_207_18 (by decide) (wk_i ?_)
  refine wi_ifeq_f ct_206_4 ki_1 (by decide) ?_
  refine wi_aloadT_0 ct_206_7 ?_
  refine wi_gfs0 ct_206_8 (by decide) ?_
  refine wi_iload_1 ct_206_11 ?_
  refine wi_cs2 (ls' := [some _, some _]) ct_206_12 (Nat.le_of_ble_eq_true rfl) rfl (Nat.le_of_ble_eq_true rfl) ?_
  refine wi_iload_1 ct_208_0 ?_
  refine wi_aloadT_0 ct_208_1 ?_
  refine wi_lenS (z := 6) ct_208_2 (by decide) (by decide) ?_
  refine wi_cs2 (ls' := [some _, some _]) ct_208_3 (Nat.le_of_ble_eq_true rfl) rfl (Nat.le_of_ble_eq_true rfl) ?_
  refine wi_iload_0 ct_209_0 ?_
  refine wi_iload_1 ct_209_1 ?_
  refine wi_gs1 ct_209_2 ?_
  refine wi_cs3 (ls' := [some _, some _, some _]) ct_209_5 (Nat.le_of_ble_eq_true rfl) rfl (Nat.le_of_ble_eq_true rfl) ?_
  refine wi_iload_0 ct_210_0 ?_
  refine wi_iflt_f ct_210_1 ki_0 (by decide) ?_
  refine wi_iload_0 ct_210_4 ?_
  refine wi_iload_1 ct_210_5 ?_
  refine wi_iclt_t ct_210_6 ki_0 ki_6 (by decide) ?_
  refine wi_iload_0 ct_210_16 ?_
  refine wi_iret ct_210_17 rfl (wk_i ?_)
  refine wi_pop ct_209_8 rfl ?_
  refine wi_ret ct_209_9 (wk_v ?_)
  refine wi_aloadT_0 ct_208_6 ?_
  refine wi_iload_1 ct_208_7 ?_
  refine wi_baldS (z := 98) ct_208_8 (by decide) (by decide) (by decide) ?_
  refine wi_ic ct_208_9 kc_255 ?_
  refine wi_iand (z := 98) ct_208_12 (by decide) ?_
  refine wi_i2c ct_208_13 (i_c16 (by decide : (98 : Int32).toInt = 98) (by omega)) ?_
  refine wi_iret ct_208_14 (by decide) (wk_i ?_)
  refine wi_iret ct_206_15 (by decide) (wk_i ?_)
  refine wi_iload_2 ct_54_20 ?_
  refine wi_icne ct_54_21 (by decide : (98 : Int32).toInt = 98) hz1 (fun h2 => ?_) (fun h2 => ?_)
  · skip
    refine wi_iinc_3 rfl (z := 1) ct_54_36 (by decide) ?_
    refine wi_goto ct_54_39 ?_
    refine wi_iload_3 ct_54_7 ?_
    refine wi_aloadT_1 ct_54_8 ?_
    refine wi_cvT0 (ls' := [some _]) ct_54_9 (Nat.le_of_ble_eq_true rfl) (by decide) (by decide) rfl rfl (Nat.le_of_ble_eq_true rfl) ?_
    refine wi_aloadT_0 ct_204_0 ?_
    refine wi_gfs0 ct_204_1 (by decide) ?_
    refine wi_lenS (z := 6) ct_204_4 (by decide) (by decide) ?_
    refine wi_aloadT_0 ct_204_5 ?_
    refine wi_cvT0 (ls' := [some _]) ct_204_6 (Nat.le_of_ble_eq_true rfl) (by decide) (by decide) rfl rfl (Nat.le_of_ble_eq_true rfl) ?_
    refine wi_gs0 ct_205_0 ?_
    refine wi_ifeq_f ct_205_3 ki_1 (by decide) ?_
    refine wi_aloadT_0 ct_205_6 ?_
    refine wi_gfs1 ct_205_7 (by decide) ?_
    refine wi_goto ct_205_10 ?_
    refine wi_iret ct_205_14 (by decide) (wk_i ?_)
    refine wi_ishr (z := 6) ct_204_9 (by decide) ?_
    refine wi_iret ct_204_10 rfl (wk_i ?_)
    refine wi_icge_f ct_54_12 ki_1 ki_6 (by decide) ?_
    refine wi_aloadT_1 ct_54_15 ?_
    refine wi_iload_3 ct_54_16 ?_
    refine wi_cvT1 (ls' := [some _, some _]) ct_54_17 (Nat.le_of_ble_eq_true rfl) (by decide) (by decide) rfl rfl (Nat.le_of_ble_eq_true rfl) ?_
    refine wi_aloadT_0 ct_206_0 ?_
    refine wi_cvT0 (ls' := [some _]) ct_206_1 (Nat.le_of_ble_eq_true rfl) (by decide) (by decide) rfl rfl (Nat.le_of_ble_eq_true rfl) ?_
    refine wi_gs0 ct_207_0 ?_
    refine wi_ifeq_f ct_207_3 ki_1 (by decide) ?_
    refine wi_aloadT_0 ct_207_6 ?_
    refine wi_gfs1 ct_207_7 (by decide) ?_
    refine wi_ifne_f ct_207_10 ki_0 (by decide) ?_
    refine wi_ic ct_207_13 kc_1 ?_
    refine wi_goto ct_207_14 ?_
    refine wi_iret ct_207_18 (by decide) (wk_i ?_)
    refine wi_ifeq_f ct_206_4 ki_1 (by decide) ?_
    refine wi_aloadT_0 ct_206_7 ?_
    refine wi_gfs0 ct_206_8 (by decide) ?_
    refine wi_iload_1 ct_206_11 ?_
    refine wi_cs2 (ls' := [some _, some _]) ct_206_12 (Nat.le_of_ble_eq_true rfl) rfl (Nat.le_of_ble_eq_true rfl) ?_
    refine wi_iload_1 ct_208_0 ?_
    refine wi_aloadT_0 ct_208_1 ?_
    refine wi_lenS (z := 6) ct_208_2 (by decide) (by decide) ?_
    refine wi_cs2 (ls' := [some _, some _]) ct_208_3 (Nat.le_of_ble_eq_true rfl) rfl (Nat.le_of_ble_eq_true rfl) ?_
    refine wi_iload_0 ct_209_0 ?_
    refine wi_iload_1 ct_209_1 ?_
    refine wi_gs1 ct_209_2 ?_
    refine wi_cs3 (ls' := [some _, some _, some _]) ct_209_5 (Nat.le_of_ble_eq_true rfl) rfl (Nat.le_of_ble_eq_true rfl) ?_
    refine wi_iload_0 ct_210_0 ?_
    refine wi_iflt_f ct_210_1 ki_1 (by decide) ?_
    refine wi_iload_0 ct_210_4 ?_
    refine wi_iload_1 ct_210_5 ?_
    refine wi_iclt_t ct_210_6 ki_1 ki_6 (by decide) ?_
    refine wi_iload_0 ct_210_16 ?_
    refine wi_iret ct_210_17 rfl (wk_i ?_)
    refine wi_pop ct_209_8 rfl ?_
    refine wi_ret ct_209_9 (wk_v ?_)
    refine wi_aloadT_0 ct_208_6 ?_
    refine wi_iload_1 ct_208_7 ?_
    refine wi_baldS (z := 107) ct_208_8 (by decide) (by decide) (by decide) ?_
    refine wi_ic ct_208_9 kc_255 ?_
    refine wi_iand (z := 107) ct_208_12 (by decide) ?_
    refine wi_i2c ct_208_13 (i_c16 (by decide : (107 : Int32).toInt = 107) (by omega)) ?_
    refine wi_iret ct_208_14 (by decide) (wk_i ?_)
    refine wi_iret ct_206_15 (by decide) (wk_i ?_)
    refine wi_iload_2 ct_54_20 ?_
    refine wi_icne ct_54_21 (by decide : (107 : Int32).toInt = 107) hz1 (fun h3 => ?_) (fun h3 => ?_)
    · skip
      refine wi_iinc_3 rfl (z := 2) ct_54_36 (by decide) ?_
      refine wi_goto ct_54_39 ?_
      refine wi_iload_3 ct_54_7 ?_
      refine wi_aloadT_1 ct_54_8 ?_
      refine wi_cvT0 (ls' := [some _]) ct_54_9 (Nat.le_of_ble_eq_true rfl) (by decide) (by decide) rfl rfl (Nat.le_of_ble_eq_true rfl) ?_
      refine wi_aloadT_0 ct_204_0 ?_
      refine wi_gfs0 ct_204_1 (by decide) ?_
      refine wi_lenS (z := 6) ct_204_4 (by decide) (by decide) ?_
      refine wi_aloadT_0 ct_204_5 ?_
      refine wi_cvT0 (ls' := [some _]) ct_204_6 (Nat.le_of_ble_eq_true rfl) (by decide) (by decide) rfl rfl (Nat.le_of_ble_eq_true rfl) ?_
      refine wi_gs0 ct_205_0 ?_
      refine wi_ifeq_f ct_205_3 ki_1 (by decide) ?_
      refine wi_aloadT_0 ct_205_6 ?_
      refine wi_gfs1 ct_205_7 (by decide) ?_
      refine wi_goto ct_205_10 ?_
      refine wi_iret ct_205_14 (by decide) (wk_i ?_)
      refine wi_ishr (z := 6) ct_204_9 (by decide) ?_
      refine wi_iret ct_204_10 rfl (wk_i ?_)
      refine wi_icge_f ct_54_12 ki_2 ki_6 (by decide) ?_
      refine wi_aloadT_1 ct_54_15 ?_
      refine wi_iload_3 ct_54_16 ?_
      refine wi_cvT1 (ls' := [some _, some _]) ct_54_17 (Nat.le_of_ble_eq_true rfl) (by decide) (by decide) rfl rfl (Nat.le_of_ble_eq_true rfl) ?_
      refine wi_aloadT_0 ct_206_0 ?_
      refine wi_cvT0 (ls' := [some _]) ct_206_1 (Nat.le_of_ble_eq_true rfl) (by decide) (by decide) rfl rfl (Nat.le_of_ble_eq_true rfl) ?_
      refine wi_gs0 ct_207_0 ?_
      refine wi_ifeq_f ct_207_3 ki_1 (by decide) ?_
      refine wi_aloadT_0 ct_207_6 ?_
      refine wi_gfs1 ct_207_7 (by decide) ?_
      refine wi_ifne_f ct_207_10 ki_0 (by decide) ?_
      refine wi_ic ct_207_13 kc_1 ?_
      refine wi_goto ct_207_14 ?_
      refine wi_iret ct_207_18 (by decide) (wk_i ?_)
      refine wi_ifeq_f ct_206_4 ki_1 (by decide) ?_
      refine wi_aloadT_0 ct_206_7 ?_
      refine wi_gfs0 ct_206_8 (by decide) ?_
      refine wi_iload_1 ct_206_11 ?_
      refine wi_cs2 (ls' := [some _, some _]) ct_206_12 (Nat.le_of_ble_eq_true rfl) rfl (Nat.le_of_ble_eq_true rfl) ?_
      refine wi_iload_1 ct_208_0 ?_
      refine wi_aloadT_0 ct_208_1 ?_
      refine wi_lenS (z := 6) ct_208_2 (by decide) (by decide) ?_
      refine wi_cs2 (ls' := [some _, some _]) ct_208_3 (Nat.le_of_ble_eq_true rfl) rfl (Nat.le_of_ble_eq_true rfl) ?_
      refine wi_iload_0 ct_209_0 ?_
      refine wi_iload_1 ct_209_1 ?_
      refine wi_gs1 ct_209_2 ?_
      refine wi_cs3 (ls' := [some _, some _, some _]) ct_209_5 (Nat.le_of_ble_eq_true rfl) rfl (Nat.le_of_ble_eq_true rfl) ?_
      refine wi_iload_0 ct_210_0 ?_
      refine wi_iflt_f ct_210_1 ki_2 (by decide) ?_
      refine wi_iload_0 ct_210_4 ?_
      refine wi_iload_1 ct_210_5 ?_
      refine wi_iclt_t ct_210_6 ki_2 ki_6 (by decide) ?_
      refine wi_iload_0 ct_210_16 ?_
      refine wi_iret ct_210_17 rfl (wk_i ?_)
      refine wi_pop ct_209_8 rfl ?_
      refine wi_ret ct_209_9 (wk_v ?_)
      refine wi_aloadT_0 ct_208_6 ?_
      refine wi_iload_1 ct_208_7 ?_
      refine wi_baldS (z := 118) ct_208_8 (by decide) (by decide) (by decide) ?_
      refine wi_ic ct_208_9 kc_255 ?_
      refine wi_iand (z := 118) ct_208_12 (by decide) ?_
      refine wi_i2c ct_208_13 (i_c16 (by decide : (118 : Int32).toInt = 118) (by omega)) ?_
      refine wi_iret ct_208_14 (by decide) (wk_i ?_)
      refine wi_iret ct_206_15 (by decide) (wk_i ?_)
      refine wi_iload_2 ct_54_20 ?_
      refine wi_icne ct_54_21 (by decide : (118 : Int32).toInt = 118) hz1 (fun h4 => ?_) (fun h4 => ?_)
      · skip
        refine wi_iinc_3 rfl (z := 3) ct_54_36 (by decide) ?_
        refine wi_goto ct_54_39 ?_
        refine wi_iload_3 ct_54_7 ?_
        refine wi_aloadT_1 ct_54_8 ?_
        refine wi_cvT0 (ls' := [some _]) ct_54_9 (Nat.le_of_ble_eq_true rfl) (by decide) (by decide) rfl rfl (Nat.le_of_ble_eq_true rfl) ?_
        refine wi_aloadT_0 ct_204_0 ?_
        refine wi_gfs0 ct_204_1 (by decide) ?_
        refine wi_lenS (z := 6) ct_204_4 (by decide) (by decide) ?_
        refine wi_aloadT_0 ct_204_5 ?_
        refine wi_cvT0 (ls' := [some _]) ct_204_6 (Nat.le_of_ble_eq_true rfl) (by decide) (by decide) rfl rfl (Nat.le_of_ble_eq_true rfl) ?_
        refine wi_gs0 ct_205_0 ?_
        refine wi_ifeq_f ct_205_3 ki_1 (by decide) ?_
        refine wi_aloadT_0 ct_205_6 ?_
        refine wi_gfs1 ct_205_7 (by decide) ?_
        refine wi_goto ct_205_10 ?_
        refine wi_iret ct_205_14 (by decide) (wk_i ?_)
        refine wi_ishr (z := 6) ct_204_9 (by decide) ?_
        refine wi_iret ct_204_10 rfl (wk_i ?_)
        refine wi_icge_f ct_54_12 ki_3 ki_6 (by decide) ?_
        refine wi_aloadT_1 ct_54_15 ?_
        refine wi_iload_3 ct_54_16 ?_
        refine wi_cvT1 (ls' := [some _, some _]) ct_54_17 (Nat.le_of_ble_eq_true rfl) (by decide) (by decide) rfl rfl (Nat.le_of_ble_eq_true rfl) ?_
        refine wi_aloadT_0 ct_206_0 ?_
        refine wi_cvT0 (ls' := [some _]) ct_206_1 (Nat.le_of_ble_eq_true rfl) (by decide) (by decide) rfl rfl (Nat.le_of_ble_eq_true rfl) ?_
        refine wi_gs0 ct_207_0 ?_
        refine wi_ifeq_f ct_207_3 ki_1 (by decide) ?_
        refine wi_aloadT_0 ct_207_6 ?_
        refine wi_gfs1 ct_207_7 (by decide) ?_
        refine wi_ifne_f ct_207_10 ki_0 (by decide) ?_
        refine wi_ic ct_207_13 kc_1 ?_
        refine wi_goto ct_207_14 ?_
        refine wi_iret ct_207_18 (by decide) (wk_i ?_)
        refine wi_ifeq_f ct_206_4 ki_1 (by decide) ?_
        refine wi_aloadT_0 ct_206_7 ?_
        refine wi_gfs0 ct_206_8 (by decide) ?_
        refine wi_iload_1 ct_206_11 ?_
        refine wi_cs2 (ls' := [some _, some _]) ct_206_12 (Nat.le_of_ble_eq_true rfl) rfl (Nat.le_of_ble_eq_true rfl) ?_
        refine wi_iload_1 ct_208_0 ?_
        refine wi_aloadT_0 ct_208_1 ?_
        refine wi_lenS (z := 6) ct_208_2 (by decide) (by decide) ?_
        refine wi_cs2 (ls' := [some _, some _]) ct_208_3 (Nat.le_of_ble_eq_true rfl) rfl (Nat.le_of_ble_eq_true rfl) ?_
        refine wi_iload_0 ct_209_0 ?_
        refine wi_iload_1 ct_209_1 ?_
        refine wi_gs1 ct_209_2 ?_
        refine wi_cs3 (ls' := [some _, some _, some _]) ct_209_5 (Nat.le_of_ble_eq_true rfl) rfl (Nat.le_of_ble_eq_true rfl) ?_
        refine wi_iload_0 ct_210_0 ?_
        refine wi_iflt_f ct_210_1 ki_3 (by decide) ?_
        refine wi_iload_0 ct_210_4 ?_
        refine wi_iload_1 ct_210_5 ?_
        refine wi_iclt_t ct_210_6 ki_3 ki_6 (by decide) ?_
        refine wi_iload_0 ct_210_16 ?_
        refine wi_iret ct_210_17 rfl (wk_i ?_)
        refine wi_pop ct_209_8 rfl ?_
        refine wi_ret ct_209_9 (wk_v ?_)
        refine wi_aloadT_0 ct_208_6 ?_
        refine wi_iload_1 ct_208_7 ?_
        refine wi_baldS (z := 109) ct_208_8 (by decide) (by decide) (by decide) ?_
        refine wi_ic ct_208_9 kc_255 ?_
        refine wi_iand (z := 109) ct_208_12 (by decide) ?_
        refine wi_i2c ct_208_13 (i_c16 (by decide : (109 : Int32).toInt = 109) (by omega)) ?_
        refine wi_iret ct_208_14 (by decide) (wk_i ?_)
        refine wi_iret ct_206_15 (by decide) (wk_i ?_)
        refine wi_iload_2 ct_54_20 ?_
        refine wi_icne ct_54_21 (by decide : (109 : Int32).toInt = 109) hz1 (fun h5 => ?_) (fun h5 => ?_)
        · skip
          refine wi_iinc_3 rfl (z := 4) ct_54_36 (by decide) ?_
          refine wi_goto ct_54_39 ?_
          refine wi_iload_3 ct_54_7 ?_
          refine wi_aloadT_1 ct_54_8 ?_
          refine wi_cvT0 (ls' := [some _]) ct_54_9 (Nat.le_of_ble_eq_true rfl) (by decide) (by decide) rfl rfl (Nat.le_of_ble_eq_true rfl) ?_
          refine wi_aloadT_0 ct_204_0 ?_
          refine wi_gfs0 ct_204_1 (by decide) ?_
          refine wi_lenS (z := 6) ct_204_4 (by decide) (by decide) ?_
          refine wi_aloadT_0 ct_204_5 ?_
          refine wi_cvT0 (ls' := [some _]) ct_204_6 (Nat.le_of_ble_eq_true rfl) (by decide) (by decide) rfl rfl (Nat.le_of_ble_eq_true rfl) ?_
          refine wi_gs0 ct_205_0 ?_
          refine wi_ifeq_f ct_205_3 ki_1 (by decide) ?_
          refine wi_aloadT_0 ct_205_6 ?_
          refine wi_gfs1 ct_205_7 (by decide) ?_
          refine wi_goto ct_205_10 ?_
          refine wi_iret ct_205_14 (by decide) (wk_i ?_)
          refine wi_ishr (z := 6) ct_204_9 (by decide) ?_
          refine wi_iret ct_204_10 rfl (wk_i ?_)
          refine wi_icge_f ct_54_12 ki_4 ki_6 (by decide) ?_
          refine wi_aloadT_1 ct_54_15 ?_
          refine wi_iload_3 ct_54_16 ?_
          refine wi_cvT1 (ls' := [some _, some _]) ct_54_17 (Nat.le_of_ble_eq_true rfl) (by decide) (by decide) rfl rfl (Nat.le_of_ble_eq_true rfl) ?_
          refine wi_aloadT_0 ct_206_0 ?_
          refine wi_cvT0 (ls' := [some _]) ct_206_1 (Nat.le_of_ble_eq_true rfl) (by decide) (by decide) rfl rfl (Nat.le_of_ble_eq_true rfl) ?_
          refine wi_gs0 ct_207_0 ?_
          refine wi_ifeq_f ct_207_3 ki_1 (by decide) ?_
          refine wi_aloadT_0 ct_207_6 ?_
          refine wi_gfs1 ct_207_7 (by decide) ?_
          refine wi_ifne_f ct_207_10 ki_0 (by decide) ?_
          refine wi_ic ct_207_13 kc_1 ?_
          refine wi_goto ct_207_14 ?_
          refine wi_iret ct_207_18 (by decide) (wk_i ?_)
          refine wi_ifeq_f ct_206_4 ki_1 (by decide) ?_
          refine wi_aloadT_0 ct_206_7 ?_
          refine wi_gfs0 ct_206_8 (by decide) ?_
          refine wi_iload_1 ct_206_11 ?_
          refine wi_cs2 (ls' := [some _, some _]) ct_206_12 (Nat.le_of_ble_eq_true rfl) rfl (Nat.le_of_ble_eq_true rfl) ?_
          refine wi_iload_1 ct_208_0 ?_
          refine wi_aloadT_0 ct_208_1 ?_
          refine wi_lenS (z := 6) ct_208_2 (by decide) (by decide) ?_
          refine wi_cs2 (ls' := [some _, some _]) ct_208_3 (Nat.le_of_ble_eq_true rfl) rfl (Nat.le_of_ble_eq_true rfl) ?_
          refine wi_iload_0 ct_209_0 ?_
          refine wi_iload_1 ct_209_1 ?_
          refine wi_gs1 ct_209_2 ?_
          refine wi_cs3 (ls' := [some _, some _, some _]) ct_209_5 (Nat.le_of_ble_eq_true rfl) rfl (Nat.le_of_ble_eq_true rfl) ?_
          refine wi_iload_0 ct_210_0 ?_
          refine wi_iflt_f ct_210_1 ki_4 (by decide) ?_
          refine wi_iload_0 ct_210_4 ?_
          refine wi_iload_1 ct_210_5 ?_
          refine wi_iclt_t ct_210_6 ki_4 ki_6 (by decide) ?_
          refine wi_iload_0 ct_210_16 ?_
          refine wi_iret ct_210_17 rfl (wk_i ?_)
          refine wi_pop ct_209_8 rfl ?_
          refine wi_ret ct_209_9 (wk_v ?_)
          refine wi_aloadT_0 ct_208_6 ?_
          refine wi_iload_1 ct_208_7 ?_
          refine wi_baldS (z := 115) ct_208_8 (by decide) (by decide) (by decide) ?_
          refine wi_ic ct_208_9 kc_255 ?_
          refine wi_iand (z := 115) ct_208_12 (by decide) ?_
          refine wi_i2c ct_208_13 (i_c16 (by decide : (115 : Int32).toInt = 115) (by omega)) ?_
          refine wi_iret ct_208_14 (by decide) (wk_i ?_)
          refine wi_iret ct_206_15 (by decide) (wk_i ?_)
          refine wi_iload_2 ct_54_20 ?_
          refine wi_icne ct_54_21 (by decide : (115 : Int32).toInt = 115) hz1 (fun h6 => ?_) (fun h6 => ?_)
          · skip
            refine wi_iinc_3 rfl (z := 5) ct_54_36 (by decide) ?_
            refine wi_goto ct_54_39 ?_
            refine wi_iload_3 ct_54_7 ?_
            refine wi_aloadT_1 ct_54_8 ?_
            refine wi_cvT0 (ls' := [some _]) ct_54_9 (Nat.le_of_ble_eq_true rfl) (by decide) (by decide) rfl rfl (Nat.le_of_ble_eq_true rfl) ?_
            refine wi_aloadT_0 ct_204_0 ?_
            refine wi_gfs0 ct_204_1 (by decide) ?_
            refine wi_lenS (z := 6) ct_204_4 (by decide) (by decide) ?_
            refine wi_aloadT_0 ct_204_5 ?_
            refine wi_cvT0 (ls' := [some _]) ct_204_6 (Nat.le_of_ble_eq_true rfl) (by decide) (by decide) rfl rfl (Nat.le_of_ble_eq_true rfl) ?_
            refine wi_gs0 ct_205_0 ?_
            refine wi_ifeq_f ct_205_3 ki_1 (by decide) ?_
            refine wi_aloadT_0 ct_205_6 ?_
            refine wi_gfs1 ct_205_7 (by decide) ?_
            refine wi_goto ct_205_10 ?_
            refine wi_iret ct_205_14 (by decide) (wk_i ?_)
            refine wi_ishr (z := 6) ct_204_9 (by decide) ?_
            refine wi_iret ct_204_10 rfl (wk_i ?_)
            refine wi_icge_f ct_54_12 ki_5 ki_6 (by decide) ?_
            refine wi_aloadT_1 ct_54_15 ?_
            refine wi_iload_3 ct_54_16 ?_
            refine wi_cvT1 (ls' := [some _, some _]) ct_54_17 (Nat.le_of_ble_eq_true rfl) (by decide) (by decide) rfl rfl (Nat.le_of_ble_eq_true rfl) ?_
            refine wi_aloadT_0 ct_206_0 ?_
            refine wi_cvT0 (ls' := [some _]) ct_206_1 (Nat.le_of_ble_eq_true rfl) (by decide) (by decide) rfl rfl (Nat.le_of_ble_eq_true rfl) ?_
            refine wi_gs0 ct_207_0 ?_
            refine wi_ifeq_f ct_207_3 ki_1 (by decide) ?_
            refine wi_aloadT_0 ct_207_6 ?_
            refine wi_gfs1 ct_207_7 (by decide) ?_
            refine wi_ifne_f ct_207_10 ki_0 (by decide) ?_
            refine wi_ic ct_207_13 kc_1 ?_
            refine wi_goto ct_207_14 ?_
            refine wi_iret ct_207_18 (by decide) (wk_i ?_)
            refine wi_ifeq_f ct_206_4 ki_1 (by decide) ?_
            refine wi_aloadT_0 ct_206_7 ?_
            refine wi_gfs0 ct_206_8 (by decide) ?_
            refine wi_iload_1 ct_206_11 ?_
            refine wi_cs2 (ls' := [some _, some _]) ct_206_12 (Nat.le_of_ble_eq_true rfl) rfl (Nat.le_of_ble_eq_true rfl) ?_
            refine wi_iload_1 ct_208_0 ?_
            refine wi_aloadT_0 ct_208_1 ?_
            refine wi_lenS (z := 6) ct_208_2 (by decide) (by decide) ?_
            refine wi_cs2 (ls' := [some _, some _]) ct_208_3 (Nat.le_of_ble_eq_true rfl) rfl (Nat.le_of_ble_eq_true rfl) ?_
            refine wi_iload_0 ct_209_0 ?_
            refine wi_iload_1 ct_209_1 ?_
            refine wi_gs1 ct_209_2 ?_
            refine wi_cs3 (ls' := [some _, some _, some _]) ct_209_5 (Nat.le_of_ble_eq_true rfl) rfl (Nat.le_of_ble_eq_true rfl) ?_
            refine wi_iload_0 ct_210_0 ?_
            refine wi_iflt_f ct_210_1 ki_5 (by decide) ?_
            refine wi_iload_0 ct_210_4 ?_
            refine wi_iload_1 ct_210_5 ?_
            refine wi_iclt_t ct_210_6 ki_5 ki_6 (by decide) ?_
            refine wi_iload_0 ct_210_16 ?_
            refine wi_iret ct_210_17 rfl (wk_i ?_)
            refine wi_pop ct_209_8 rfl ?_
            refine wi_ret ct_209_9 (wk_v ?_)
            refine wi_aloadT_0 ct_208_6 ?_
            refine wi_iload_1 ct_208_7 ?_
            refine wi_baldS (z := 102) ct_208_8 (by decide) (by decide) (by decide) ?_
            refine wi_ic ct_208_9 kc_255 ?_
            refine wi_iand (z := 102) ct_208_12 (by decide) ?_
            refine wi_i2c ct_208_13 (i_c16 (by decide : (102 : Int32).toInt = 102) (by omega)) ?_
            refine wi_iret ct_208_14 (by decide) (wk_i ?_)
            refine wi_iret ct_206_15 (by decide) (wk_i ?_)
            refine wi_iload_2 ct_54_20 ?_
            refine wi_icne ct_54_21 (by decide : (102 : Int32).toInt = 102) hz1 (fun h7 => ?_) (fun h7 => ?_)
            · skip
              refine wi_iinc_3 rfl (z := 6) ct_54_36 (by decide) ?_
              refine wi_goto ct_54_39 ?_
              refine wi_iload_3 ct_54_7 ?_
              refine wi_aloadT_1 ct_54_8 ?_
              refine wi_cvT0 (ls' := [some _]) ct_54_9 (Nat.le_of_ble_eq_true rfl) (by decide) (by decide) rfl rfl (Nat.le_of_ble_eq_true rfl) ?_
              refine wi_aloadT_0 ct_204_0 ?_
              refine wi_gfs0 ct_204_1 (by decide) ?_
              refine wi_lenS (z := 6) ct_204_4 (by decide) (by decide) ?_
              refine wi_aloadT_0 ct_204_5 ?_
              refine wi_cvT0 (ls' := [some _]) ct_204_6 (Nat.le_of_ble_eq_true rfl) (by decide) (by decide) rfl rfl (Nat.le_of_ble_eq_true rfl) ?_
              refine wi_gs0 ct_205_0 ?_
              refine wi_ifeq_f ct_205_3 ki_1 (by decide) ?_
              refine wi_aloadT_0 ct_205_6 ?_
              refine wi_gfs1 ct_205_7 (by decide) ?_
              refine wi_goto ct_205_10 ?_
              refine wi_iret ct_205_14 (by decide) (wk_i ?_)
              refine wi_ishr (z := 6) ct_204_9 (by decide) ?_
              refine wi_iret ct_204_10 rfl (wk_i ?_)
              refine wi_icge_t ct_54_12 ki_6 ki_6 (by decide) ?_
              refine wi_ic ct_54_42 kc_m1 ?_
              refine wi_iret ct_54_43 rfl ?_
              refine k2 ?_
              unfold lt6
              repeat' split
              all_goals omega
            · skip
              refine wi_aload_0 ct_54_24 ?_
              refine wi_dup ct_54_25 rfl ?_
              refine wi_gf (x := fi 17 2) ct_54_26 (sT_17 hS) rfl rfl rfl ?_
              refine wi_ic ct_54_29 kc_1 ?_
              refine wi_iadd ct_54_30 rfl ?_
              refine wi_pf ct_54_31 (sT_17 hS) rfl ?_
              refine wi_iload_3 ct_54_34 ?_
              refine wi_iret ct_54_35 rfl ?_
              have he8 : lt6 (pk X n p) = 5 := by
                unfold lt6
                repeat' split
                all_goals omega
              exact k1 _ _ (ki_5.trans he8.symm) (by omega) (PF.up (p := p + 1) ((i_add hp ki_1 (by omega)).trans (by omega)))
          · skip
            refine wi_aload_0 ct_54_24 ?_
            refine wi_dup ct_54_25 rfl ?_
            refine wi_gf (x := fi 17 2) ct_54_26 (sT_17 hS) rfl rfl rfl ?_
            refine wi_ic ct_54_29 kc_1 ?_
            refine wi_iadd ct_54_30 rfl ?_
            refine wi_pf ct_54_31 (sT_17 hS) rfl ?_
            refine wi_iload_3 ct_54_34 ?_
            refine wi_iret ct_54_35 rfl ?_
            have he9 : lt6 (pk X n p) = 4 := by
              unfold lt6
              repeat' split
              all_goals omega
            exact k1 _ _ (ki_4.trans he9.symm) (by omega) (PF.up (p := p + 1) ((i_add hp ki_1 (by omega)).trans (by omega)))
        · skip
          refine wi_aload_0 ct_54_24 ?_
          refine wi_dup ct_54_25 rfl ?_
          refine wi_gf (x := fi 17 2) ct_54_26 (sT_17 hS) rfl rfl rfl ?_
          refine wi_ic ct_54_29 kc_1 ?_
          refine wi_iadd ct_54_30 rfl ?_
          refine wi_pf ct_54_31 (sT_17 hS) rfl ?_
          refine wi_iload_3 ct_54_34 ?_
          refine wi_iret ct_54_35 rfl ?_
          have he10 : lt6 (pk X n p) = 3 := by
            unfold lt6
            repeat' split
            all_goals omega
          exact k1 _ _ (ki_3.trans he10.symm) (by omega) (PF.up (p := p + 1) ((i_add hp ki_1 (by omega)).trans (by omega)))
      · skip
        refine wi_aload_0 ct_54_24 ?_
        refine wi_dup ct_54_25 rfl ?_
        refine wi_gf (x := fi 17 2) ct_54_26 (sT_17 hS) rfl rfl rfl ?_
        refine wi_ic ct_54_29 kc_1 ?_
        refine wi_iadd ct_54_30 rfl ?_
        refine wi_pf ct_54_31 (sT_17 hS) rfl ?_
        refine wi_iload_3 ct_54_34 ?_
        refine wi_iret ct_54_35 rfl ?_
        have he11 : lt6 (pk X n p) = 2 := by
          unfold lt6
          repeat' split
          all_goals omega
        exact k1 _ _ (ki_2.trans he11.symm) (by omega) (PF.up (p := p + 1) ((i_add hp ki_1 (by omega)).trans (by omega)))
    · skip
      refine wi_aload_0 ct_54_24 ?_
      refine wi_dup ct_54_25 rfl ?_
      refine wi_gf (x := fi 17 2) ct_54_26 (sT_17 hS) rfl rfl rfl ?_
      refine wi_ic ct_54_29 kc_1 ?_
      refine wi_iadd ct_54_30 rfl ?_
      refine wi_pf ct_54_31 (sT_17 hS) rfl ?_
      refine wi_iload_3 ct_54_34 ?_
      refine wi_iret ct_54_35 rfl ?_
      have he12 : lt6 (pk X n p) = 1 := by
        unfold lt6
        repeat' split
        all_goals omega
      exact k1 _ _ (ki_1.trans he12.symm) (by omega) (PF.up (p := p + 1) ((i_add hp ki_1 (by omega)).trans (by omega)))
  · skip
    refine wi_aload_0 ct_54_24 ?_
    refine wi_dup ct_54_25 rfl ?_
    refine wi_gf (x := fi 17 2) ct_54_26 (sT_17 hS) rfl rfl rfl ?_
    refine wi_ic ct_54_29 kc_1 ?_
    refine wi_iadd ct_54_30 rfl ?_
    refine wi_pf ct_54_31 (sT_17 hS) rfl ?_
    refine wi_iload_3 ct_54_34 ?_
    refine wi_iret ct_54_35 rfl ?_
    have he13 : lt6 (pk X n p) = 0 := by
      unfold lt6
      repeat' split
      all_goals omega
    exact k1 _ _ (ki_0.trans he13.symm) (by omega) (PF.up (p := p + 1) ((i_add hp ki_1 (by omega)).trans (by omega)))
theorem c_rl3 {L n p : Nat} {d : Nat} {g : am_G} {fi : am_I} {fl : am_L} {P : Option Value → am_G → am_I → am_L → Prop} {X : Nat → Int} (hS : SF L g) (hp : (fi 17 2).toInt = (p : Int)) (hl : (fi 17 1).toInt = (n : Int)) (hx : ∀ j, j < n → (fi 18 j).toInt = X j) (hn : n ≤ 100) (hxb : ∀ j, j < n → 0 ≤ X j ∧ X j ≤ 127) (hp9 : p ≤ 1000) (k1 : ∀ z fi2, z.toInt = rl3 (pk X n p) → 0 ≤ rl3 (pk X n p) → PF fi fi2 (p + 1) → P (some (.int z)) g fi2 fl) (k2 : rl3 (pk X n p) < 0 → P (some (.int (-1))) g fi fl) : WP (d + 6) 54 0 [some (.ref 17), some (.retAddr 5), none, none] [] g fi fl P := by
  refine wi_aload_0 ct_54_0 ?_
  refine wi_cv0 (ls' := [some _]) ct_54_1 (Nat.le_of_ble_eq_true rfl) (by decide) (sT_17 hS) rfl (by decide) rfl rfl (Nat.le_of_ble_eq_true rfl) ?_
  refine c_peek (p := p) hS hp hl hx hn hxb (fun z1 hz1 => wk_i ?_)
  have hbz1 := pk_bd hxb (p := p)
  refine wi_istore_2 rfl ct_54_4 ?_
  refine wi_ic ct_54_5 kc_0 ?_
  refine wi_istore_3 rfl ct_54_6 ?_
  refine wi_iload_3 ct_54_7 ?_
  refine wi_aloadT_1 ct_54_8 ?_
  refine wi_cvT0 (ls' := [some _]) ct_54_9 (Nat.le_of_ble_eq_true rfl) (by decide) (by decide) rfl rfl (Nat.le_of_ble_eq_true rfl) ?_
  refine wi_aloadT_0 ct_204_0 ?_
  refine wi_gfs0 ct_204_1 (by decide) ?_
  refine wi_lenS (z := 3) ct_204_4 (by decide) (by decide) ?_
  refine wi_aloadT_0 ct_204_5 ?_
  refine wi_cvT0 (ls' := [some _]) ct_204_6 (Nat.le_of_ble_eq_true rfl) (by decide) (by decide) rfl rfl (Nat.le_of_ble_eq_true rfl) ?_
  refine wi_gs0 ct_205_0 ?_
  refine wi_ifeq_f ct_205_3 ki_1 (by decide) ?_
  refine wi_aloadT_0 ct_205_6 ?_
  refine wi_gfs1 ct_205_7 (by decide) ?_
  refine wi_goto ct_205_10 ?_
  refine wi_iret ct_205_14 (by decide) (wk_i ?_)
  refine wi_ishr (z := 3) ct_204_9 (by decide) ?_
  refine wi_iret ct_204_10 rfl (wk_i ?_)
  refine wi_icge_f ct_54_12 ki_0 ki_3 (by decide) ?_
  refine wi_aloadT_1 ct_54_15 ?_
  refine wi_iload_3 ct_54_16 ?_
  refine wi_cvT1 (ls' := [some _, some _]) ct_54_17 (Nat.le_of_ble_eq_true rfl) (by decide) (by decide) rfl rfl (Nat.le_of_ble_eq_true rfl) ?_
  refine wi_aloadT_0 ct_206_0 ?_
  refine wi_cvT0 (ls' := [some _]) ct_206_1 (Nat.le_of_ble_eq_true rfl) (by decide) (by decide) rfl rfl (Nat.le_of_ble_eq_true rfl) ?_
  refine wi_gs0 ct_207_0 ?_
  refine wi_ifeq_f ct_207_3 ki_1 (by decide) ?_
  refine wi_aloadT_0 ct_207_6 ?_
  refine wi_gfs1 ct_207_7 (by decide) ?_
  refine wi_ifne_f ct_207_10 ki_0 (by decide) ?_
  refine wi_ic ct_207_13 kc_1 ?_
  refine wi_goto ct_207_14 ?_
  refine wi_iret ct_207_18 (by decide) (wk_i ?_)
  refine wi_ifeq_f ct_206_4 ki_1 (by decide) ?_
  refine wi_aloadT_0 ct_206_7 ?_
  refine wi_gfs0 ct_206_8 (by decide) ?_
  refine wi_iload_1 ct_206_11 ?_
  refine wi_cs2 (ls' := [some _, some _]) ct_206_12 (Nat.le_of_ble_eq_true rfl) rfl (Nat.le_of_ble_eq_true rfl) ?_
  refine wi_iload_1 ct_208_0 ?_
  refine wi_aloadT_0 ct_208_1 ?_
  refine wi_lenS (z := 3) ct_208_2 (by decide) (by decide) ?_
  refine wi_cs2 (ls' := [some _, some _]) ct_208_3 (Nat.le_of_ble_eq_true rfl) rfl (Nat.le_of_ble_eq_true rfl) ?_
  refine wi_iload_0 ct_209_0 ?_
  refine wi_iload_1 ct_209_1 ?_
  refine wi_gs1 ct_209_2 ?_
  refine wi_cs3 (ls' := [some _, some _, some _]) ct_209_5 (Nat.le_of_ble_eq_true rfl) rfl (Nat.le_of_ble_eq_true rfl) ?_
  refine wi_iload_0 ct_210_0 ?_
  refine wi_iflt_f ct_210_1 ki_0 (by decide) ?_
  refine wi_iload_0 ct_210_4 ?_
  refine wi_iload_1 ct_210_5 ?_
  refine wi_iclt_t ct_210_6 ki_0 ki_3 (by decide) ?_
  refine wi_iload_0 ct_210_16 ?_
  refine wi_iret ct_210_17 rfl (wk_i ?_)
  refine wi_pop ct_209_8 rfl ?_
  refine wi_ret ct_209_9 (wk_v ?_)
  refine wi_aloadT_0 ct_208_6 ?_
  refine wi_iload_1 ct_208_7 ?_
  refine wi_baldS (z := 60) ct_208_8 (by decide) (by decide) (by decide) ?_
  refine wi_ic ct_208_9 kc_255 ?_
  refine wi_iand (z := 60) ct_208_12 (by decide) ?_
  refine wi_i2c ct_208_13 (i_c16 ki_60 (by omega)) ?_
  refine wi_iret ct_208_14 (by decide) (wk_i ?_)
  refine wi_iret ct_206_15 (by decide) (wk_i ?_)
  refine wi_iload_2 ct_54_20 ?_
  refine wi_icne ct_54_21 ki_60 hz1 (fun h2 => ?_) (fun h2 => ?_)
  · skip
    refine wi_iinc_3 rfl (z := 1) ct_54_36 (by decide) ?_
    refine wi_goto ct_54_39 ?_
    refine wi_iload_3 ct_54_7 ?_
    refine wi_aloadT_1 ct_54_8 ?_
    refine wi_cvT0 (ls' := [some _]) ct_54_9 (Nat.le_of_ble_eq_true rfl) (by decide) (by decide) rfl rfl (Nat.le_of_ble_eq_true rfl) ?_
    refine wi_aloadT_0 ct_204_0 ?_
    refine wi_gfs0 ct_204_1 (by decide) ?_
    refine wi_lenS (z := 3) ct_204_4 (by decide) (by decide) ?_
    refine wi_aloadT_0 ct_204_5 ?_
    refine wi_cvT0 (ls' := [some _]) ct_204_6 (Nat.le_of_ble_eq_true rfl) (by decide) (by decide) rfl rfl (Nat.le_of_ble_eq_true rfl) ?_
    refine wi_gs0 ct_205_0 ?_
    refine wi_ifeq_f ct_205_3 ki_1 (by decide) ?_
    refine wi_aloadT_0 ct_205_6 ?_
    refine wi_gfs1 ct_205_7 (by decide) ?_
    refine wi_goto ct_205_10 ?_
    refine wi_iret ct_205_14 (by decide) (wk_i ?_)
    refine wi_ishr (z := 3) ct_204_9 (by decide) ?_
    refine wi_iret ct_204_10 rfl (wk_i ?_)
    refine wi_icge_f ct_54_12 ki_1 ki_3 (by decide) ?_
    refine wi_aloadT_1 ct_54_15 ?_
    refine wi_iload_3 ct_54_16 ?_
    refine wi_cvT1 (ls' := [some _, some _]) ct_54_17 (Nat.le_of_ble_eq_true rfl) (by decide) (by decide) rfl rfl (Nat.le_of_ble_eq_true rfl) ?_
    refine wi_aloadT_0 ct_206_0 ?_
    refine wi_cvT0 (ls' := [some _]) ct_206_1 (Nat.le_of_ble_eq_true rfl) (by decide) (by decide) rfl rfl (Nat.le_of_ble_eq_true rfl) ?_
    refine wi_gs0 ct_207_0 ?_
    refine wi_ifeq_f ct_207_3 ki_1 (by decide) ?_
    refine wi_aloadT_0 ct_207_6 ?_
    refine wi_gfs1 ct_207_7 (by decide) ?_
    refine wi_ifne_f ct_207_10 ki_0 (by decide) ?_
    refine wi_ic ct_207_13 kc_1 ?_
    refine wi_goto ct_207_14 ?_
    refine wi_iret ct_207_18 (by decide) (wk_i ?_)
    refine wi_ifeq_f ct_206_4 ki_1 (by decide) ?_
    refine wi_aloadT_0 ct_206_7 ?_
    refine wi_gfs0 ct_206_8 (by decide) ?_
    refine wi_iload_1 ct_206_11 ?_
    refine wi_cs2 (ls' := [some _, some _]) ct_206_12 (Nat.le_of_ble_eq_true rfl) rfl (Nat.le_of_ble_eq_true rfl) ?_
    refine wi_iload_1 ct_208_0 ?_
    refine wi_aloadT_0 ct_208_1 ?_
    refine wi_lenS (z := 3) ct_208_2 (by decide) (by decide) ?_
    refine wi_cs2 (ls' := [some _, some _]) ct_208_3 (Nat.le_of_ble_eq_true rfl) rfl (Nat.le_of_ble_eq_true rfl) ?_
    refine wi_iload_0 ct_209_0 ?_
    refine wi_iload_1 ct_209_1 ?_
    refine wi_gs1 ct_209_2 ?_
    refine wi_cs3 (ls' := [some _, some _, some _]) ct_209_5 (Nat.le_of_ble_eq_true rfl) rfl (Nat.le_of_ble_eq_true rfl) ?_
    refine wi_iload_0 ct_210_0 ?_
    refine wi_iflt_f ct_210_1 ki_1 (by decide) ?_
    refine wi_iload_0 ct_210_4 ?_
    refine wi_iload_1 ct_210_5 ?_
    refine wi_iclt_t ct_210_6 ki_1 ki_3 (by decide) ?_
    refine wi_iload_0 ct_210_16 ?_
    refine wi_iret ct_210_17 rfl (wk_i ?_)
    refine wi_pop ct_209_8 rfl ?_
    refine wi_ret ct_209_9 (wk_v ?_)
    refine wi_aloadT_0 ct_208_6 ?_
    refine wi_iload_1 ct_208_7 ?_
    refine wi_baldS (z := 61) ct_208_8 (by decide) (by decide) (by decide) ?_
    refine wi_ic ct_208_9 kc_255 ?_
    refine wi_iand (z := 61) ct_208_12 (by decide) ?_
    refine wi_i2c ct_208_13 (i_c16 ki_61 (by omega)) ?_
    refine wi_iret ct_208_14 (by decide) (wk_i ?_)
    refine wi_iret ct_206_15 (by decide) (wk_i ?_)
    refine wi_iload_2 ct_54_20 ?_
    refine wi_icne ct_54_21 ki_61 hz1 (fun h3 => ?_) (fun h3 => ?_)
    · skip
      refine wi_iinc_3 rfl (z := 2) ct_54_36 (by decide) ?_
      refine wi_goto ct_54_39 ?_
      refine wi_iload_3 ct_54_7 ?_
      refine wi_aloadT_1 ct_54_8 ?_
      refine wi_cvT0 (ls' := [some _]) ct_54_9 (Nat.le_of_ble_eq_true rfl) (by decide) (by decide) rfl rfl (Nat.le_of_ble_eq_true rfl) ?_
      refine wi_aloadT_0 ct_204_0 ?_
      refine wi_gfs0 ct_204_1 (by decide) ?_
      refine wi_lenS (z := 3) ct_204_4 (by decide) (by decide) ?_
      refine wi_aloadT_0 ct_204_5 ?_
      refine wi_cvT0 (ls' := [some _]) ct_204_6 (Nat.le_of_ble_eq_true rfl) (by decide) (by decide) rfl rfl (Nat.le_of_ble_eq_true rfl) ?_
      refine wi_gs0 ct_205_0 ?_
      refine wi_ifeq_f ct_205_3 ki_1 (by decide) ?_
      refine wi_aloadT_0 ct_205_6 ?_
      refine wi_gfs1 ct_205_7 (by decide) ?_
      refine wi_goto ct_205_10 ?_
      refine wi_iret ct_205_14 (by decide) (wk_i ?_)
      refine wi_ishr (z := 3) ct_204_9 (by decide) ?_
      refine wi_iret ct_204_10 rfl (wk_i ?_)
      refine wi_icge_f ct_54_12 ki_2 ki_3 (by decide) ?_
      refine wi_aloadT_1 ct_54_15 ?_
      refine wi_iload_3 ct_54_16 ?_
      refine wi_cvT1 (ls' := [some _, some _]) ct_54_17 (Nat.le_of_ble_eq_true rfl) (by decide) (by decide) rfl rfl (Nat.le_of_ble_eq_true rfl) ?_
      refine wi_aloadT_0 ct_206_0 ?_
      refine wi_cvT0 (ls' := [some _]) ct_206_1 (Nat.le_of_ble_eq_true rfl) (by decide) (by decide) rfl rfl (Nat.le_of_ble_eq_true rfl) ?_
      refine wi_gs0 ct_207_0 ?_
      refine wi_ifeq_f ct_207_3 ki_1 (by decide) ?_
      refine wi_aloadT_0 ct_207_6 ?_
      refine wi_gfs1 ct_207_7 (by decide) ?_
      refine wi_ifne_f ct_207_10 ki_0 (by decide) ?_
      refine wi_ic ct_207_13 kc_1 ?_
      refine wi_goto ct_207_14 ?_
      refine wi_iret ct_207_18 (by decide) (wk_i ?_)
      refine wi_ifeq_f ct_206_4 ki_1 (by decide) ?_
      refine wi_aloadT_0 ct_206_7 ?_
      refine wi_gfs0 ct_206_8 (by decide) ?_
      refine wi_iload_1 ct_206_11 ?_
      refine wi_cs2 (ls' := [some _, some _]) ct_206_12 (Nat.le_of_ble_eq_true rfl) rfl (Nat.le_of_ble_eq_true rfl) ?_
      refine wi_iload_1 ct_208_0 ?_
      refine wi_aloadT_0 ct_208_1 ?_
      refine wi_lenS (z := 3) ct_208_2 (by decide) (by decide) ?_
      refine wi_cs2 (ls' := [some _, some _]) ct_208_3 (Nat.le_of_ble_eq_true rfl) rfl (Nat.le_of_ble_eq_true rfl) ?_
      refine wi_iload_0 ct_209_0 ?_
      refine wi_iload_1 ct_209_1 ?_
      refine wi_gs1 ct_209_2 ?_
      refine wi_cs3 (ls' := [some _, some _, some _]) ct_209_5 (Nat.le_of_ble_eq_true rfl) rfl (Nat.le_of_ble_eq_true rfl) ?_
      refine wi_iload_0 ct_210_0 ?_
      refine wi_iflt_f ct_210_1 ki_2 (by decide) ?_
      refine wi_iload_0 ct_210_4 ?_
      refine wi_iload_1 ct_210_5 ?_
      refine wi_iclt_t ct_210_6 ki_2 ki_3 (by decide) ?_
      refine wi_iload_0 ct_210_16 ?_
      refine wi_iret ct_210_17 rfl (wk_i ?_)
      refine wi_pop ct_209_8 rfl ?_
      refine wi_ret ct_209_9 (wk_v ?_)
      refine wi_aloadT_0 ct_208_6 ?_
      refine wi_iload_1 ct_208_7 ?_
      refine wi_baldS (z := 62) ct_208_8 (by decide) (by decide) (by decide) ?_
      refine wi_ic ct_208_9 kc_255 ?_
      refine wi_iand (z := 62) ct_208_12 (by decide) ?_
      refine wi_i2c ct_208_13 (i_c16 ki_62 (by omega)) ?_
      refine wi_iret ct_208_14 (by decide) (wk_i ?_)
      refine wi_iret ct_206_15 (by decide) (wk_i ?_)
      refine wi_iload_2 ct_54_20 ?_
      refine wi_icne ct_54_21 ki_62 hz1 (fun h4 => ?_) (fun h4 => ?_)
      · skip
        refine wi_iinc_3 rfl (z := 3) ct_54_36 (by decide) ?_
        refine wi_goto ct_54_39 ?_
        refine wi_iload_3 ct_54_7 ?_
        refine wi_aloadT_1 ct_54_8 ?_
        refine wi_cvT0 (ls' := [some _]) ct_54_9 (Nat.le_of_ble_eq_true rfl) (by decide) (by decide) rfl rfl (Nat.le_of_ble_eq_true rfl) ?_
        refine wi_aloadT_0 ct_204_0 ?_
        refine wi_gfs0 ct_204_1 (by decide) ?_
        refine wi_lenS (z := 3) ct_204_4 (by decide) (by decide) ?_
        refine wi_aloadT_0 ct_204_5 ?_
        refine wi_cvT0 (ls' := [some _]) ct_204_6 (Nat.le_of_ble_eq_true rfl) (by decide) (by decide) rfl rfl (Nat.le_of_ble_eq_true rfl) ?_
        refine wi_gs0 ct_205_0 ?_
        refine wi_ifeq_f ct_205_3 ki_1 (by decide) ?_
        refine wi_aloadT_0 ct_205_6 ?_
        refine wi_gfs1 ct_205_7 (by decide) ?_
        refine wi_goto ct_205_10 ?_
        refine wi_iret ct_205_14 (by decide) (wk_i ?_)
        refine wi_ishr (z := 3) ct_204_9 (by decide) ?_
        refine wi_iret ct_204_10 rfl (wk_i ?_)
        refine wi_icge_t ct_54_12 ki_3 ki_3 (by decide) ?_
        refine wi_ic ct_54_42 kc_m1 ?_
        refine wi_iret ct_54_43 rfl ?_
        refine k2 ?_
        unfold rl3
        repeat' split
        all_goals omega
      · skip
        refine wi_aload_0 ct_54_24 ?_
        refine wi_dup ct_54_25 rfl ?_
        refine wi_gf (x := fi 17 2) ct_54_26 (sT_17 hS) rfl rfl rfl ?_
        refine wi_ic ct_54_29 kc_1 ?_
        refine wi_iadd ct_54_30 rfl ?_
        refine wi_pf ct_54_31 (sT_17 hS) rfl ?_
        refine wi_iload_3 ct_54_34 ?_
        refine wi_iret ct_54_35 rfl ?_
        have he5 : rl3 (pk X n p) = 2 := by
          unfold rl3
          repeat' split
          all_goals omega
        exact k1 _ _ (ki_2.trans he5.symm) (by omega) (PF.up (p := p + 1) ((i_add hp ki_1 (by omega)).trans (by omega)))
    · skip
      refine wi_aload_0 ct_54_24 ?_
      refine wi_dup ct_54_25 rfl ?_
      refine wi_gf (x := fi 17 2) ct_54_26 (sT_17 hS) rfl rfl rfl ?_
      refine wi_ic ct_54_29 kc_1 ?_
      refine wi_iadd ct_54_30 rfl ?_
      refine wi_pf ct_54_31 (sT_17 hS) rfl ?_
      refine wi_iload_3 ct_54_34 ?_
      refine wi_iret ct_54_35 rfl ?_
      have he6 : rl3 (pk X n p) = 1 := by
        unfold rl3
        repeat' split
        all_goals omega
      exact k1 _ _ (ki_1.trans he6.symm) (by omega) (PF.up (p := p + 1) ((i_add hp ki_1 (by omega)).trans (by omega)))
  · skip
    refine wi_aload_0 ct_54_24 ?_
    refine wi_dup ct_54_25 rfl ?_
    refine wi_gf (x := fi 17 2) ct_54_26 (sT_17 hS) rfl rfl rfl ?_
    refine wi_ic ct_54_29 kc_1 ?_
    refine wi_iadd ct_54_30 rfl ?_
    refine wi_pf ct_54_31 (sT_17 hS) rfl ?_
    refine wi_iload_3 ct_54_34 ?_
    refine wi_iret ct_54_35 rfl ?_
    have he7 : rl3 (pk X n p) = 0 := by
      unfold rl3
      repeat' split
      all_goals omega
    exact k1 _ _ (ki_0.trans he7.symm) (by omega) (PF.up (p := p + 1) ((i_add hp ki_1 (by omega)).trans (by omega)))
theorem c_num {L n p : Nat} {d : Nat} {g : am_G} {fi : am_I} {fl : am_L} {P : Option Value → am_G → am_I → am_L → Prop} {X : Nat → Int} (hS : SF L g) (hp : (fi 17 2).toInt = (p : Int)) (hl : (fi 17 1).toInt = (n : Int)) (hx : ∀ j, j < n → (fi 18 j).toInt = X j) (hn : n ≤ 100) (hxb : ∀ j, j < n → 0 ≤ X j ∧ X j ≤ 127) (hp9 : p ≤ 1000) (kk : ∀ z fi2, z.toInt = (rNum X n p).1 → PF fi fi2 (rNum X n p).2 → P (some (.int z)) g fi2 fl) : WP (d + 1) 49 0 [some (.ref 17), none, none, none] [] g fi fl P := by
  refine wi_ic ct_49_0 kc_m1 ?_
  refine wi_istore_1 rfl ct_49_1 ?_
  refine wi_ic ct_49_2 kc_0 ?_
  refine wi_istore_2 rfl ct_49_3 ?_
  refine wi_iload_2 ct_49_4 ?_
  refine wi_ic ct_49_5 kc_2 ?_
  refine wi_icge_f ct_49_6 ki_0 ki_2 (by decide) ?_
  refine wi_aload_0 ct_49_9 ?_
  refine wi_cv0 (ls' := [some _]) ct_49_10 (Nat.le_of_ble_eq_true rfl) (by decide) (sT_17 hS) rfl (by decide) rfl rfl (Nat.le_of_ble_eq_true rfl) ?_
  refine c_peek (p := p) hS hp hl hx hn hxb (fun z1 hz1 => wk_i ?_)
  have hbz1 := pk_bd hxb (p := p)
  refine wi_ic ct_49_13 kc_48 ?_
  refine wi_isub ct_49_15 rfl ?_
  refine wi_istore_3 rfl ct_49_16 ?_
  refine wi_iload_3 ct_49_17 ?_
  refine wi_iflt ct_49_18 (i_sub hz1 ki_48 (by omega)) (fun h2 => ?_) (fun h2 => ?_)
  · skip
    refine wi_iload_1 ct_49_27 ?_
    refine wi_iret ct_49_28 rfl ?_
    have hr : rNum X n p = (-1, p) := by
      unfold rNum
      exact if_neg (by omega)
    exact kk _ _ (by rw [hr]; exact ki_m1) (by rw [hr]; exact (PF.rfl hp))
  · skip
    refine wi_iload_3 ct_49_21 ?_
    refine wi_ic ct_49_22 kc_9 ?_
    refine wi_icle ct_49_24 (i_sub hz1 ki_48 (by omega)) ki_9 (fun h3 => ?_) (fun h3 => ?_)
    · skip
      refine wi_iload_1 ct_49_29 ?_
      refine wi_ifge_f ct_49_30 ki_m1 (by decide) ?_
      refine wi_iload_3 ct_49_33 ?_
      refine wi_goto ct_49_34 ?_
      refine wi_istore_1 rfl ct_49_43 ?_
      refine wi_aload_0 ct_49_44 ?_
      refine wi_dup ct_49_45 rfl ?_
      refine wi_gf (x := fi 17 2) ct_49_46 (sT_17 hS) rfl rfl rfl ?_
      refine wi_ic ct_49_49 kc_1 ?_
      refine wi_iadd ct_49_50 rfl ?_
      refine wi_pf ct_49_51 (sT_17 hS) rfl ?_
      refine wi_iinc_2 rfl (z := 1) ct_49_54 (by decide) ?_
      refine wi_goto ct_49_57 ?_
      refine wi_iload_2 ct_49_4 ?_
      refine wi_ic ct_49_5 kc_2 ?_
      refine wi_icge_f ct_49_6 ki_1 ki_2 (by decide) ?_
      refine wi_aload_0 ct_49_9 ?_
      refine wi_cv0 (ls' := [some _]) ct_49_10 (Nat.le_of_ble_eq_true rfl) (by decide) (sT_17 hS) rfl (by decide) rfl rfl (Nat.le_of_ble_eq_true rfl) ?_
      refine c_peek (p := p + 1) hS ((congrArg Int32.toInt up2_eq).trans ((i_add hp ki_1 (by omega)).trans (by omega))) ((congrArg Int32.toInt (up2_nj (by decide))).trans hl) (fun j hj => (congrArg Int32.toInt (up2_nq (by decide))).trans (hx j hj)) hn hxb (fun z4 hz4 => wk_i ?_)
      have hbz4 := pk_bd hxb (p := p + 1)
      refine wi_ic ct_49_13 kc_48 ?_
      refine wi_isub ct_49_15 rfl ?_
      refine wi_istore_3 rfl ct_49_16 ?_
      refine wi_iload_3 ct_49_17 ?_
      refine wi_iflt ct_49_18 (i_sub hz4 ki_48 (by omega)) (fun h5 => ?_) (fun h5 => ?_)
      · skip
        refine wi_iload_1 ct_49_27 ?_
        refine wi_iret ct_49_28 rfl ?_
        have hr : rNum X n p = (pk X n p - 48, p + 1) := by
          unfold rNum
          exact (if_pos (by omega)).trans (if_neg (by omega))
        exact kk _ _ (by rw [hr]; exact (i_sub hz1 ki_48 (by omega)).trans (by first | rfl | (dsimp only; omega))) (by rw [hr]; exact (PF.up (p := p + 1) ((i_add hp ki_1 (by omega)).trans (by omega))))
      · skip
        refine wi_iload_3 ct_49_21 ?_
        refine wi_ic ct_49_22 kc_9 ?_
        refine wi_icle ct_49_24 (i_sub hz4 ki_48 (by omega)) ki_9 (fun h6 => ?_) (fun h6 => ?_)
        · skip
          refine wi_iload_1 ct_49_29 ?_
          refine wi_ifge_t ct_49_30 (i_sub hz1 ki_48 (by omega)) (by omega) ?_
          refine wi_ic ct_49_37 kc_10 ?_
          refine wi_iload_1 ct_49_39 ?_
          refine wi_imul ct_49_40 rfl ?_
          refine wi_iload_3 ct_49_41 ?_
          refine wi_iadd ct_49_42 rfl ?_
          refine wi_istore_1 rfl ct_49_43 ?_
          refine wi_aload_0 ct_49_44 ?_
          refine wi_dup ct_49_45 rfl ?_
          refine wi_gf (x := (fi 17 2 + 1)) ct_49_46 (sT_17 hS) rfl rfl up2_eq ?_
          refine wi_ic ct_49_49 kc_1 ?_
          refine wi_iadd ct_49_50 rfl ?_
          refine wi_pf ct_49_51 (sT_17 hS) rfl ?_
          refine wi_iinc_2 rfl (z := 2) ct_49_54 (by decide) ?_
          refine wi_goto ct_49_57 ?_
          refine wi_iload_2 ct_49_4 ?_
          refine wi_ic ct_49_5 kc_2 ?_
          refine wi_icge_t ct_49_6 ki_2 ki_2 (by decide) ?_
          refine wi_iload_1 ct_49_60 ?_
          refine wi_iret ct_49_61 rfl ?_
          have hr : rNum X n p = (10 * (pk X n p - 48) + (pk X n (p + 1) - 48), p + 2) := by
            unfold rNum
            exact (if_pos (by omega)).trans (if_pos (by omega))
          exact kk _ _ (by rw [hr]; exact (i_add (i_mul ki_10 (i_sub hz1 ki_48 (by omega)) (by omega)) (i_sub hz4 ki_48 (by omega)) (by omega)).trans (by first | rfl | (dsimp only; omega))) (by rw [hr]; exact ((PF.up (p := p + 1) ((i_add hp ki_1 (by omega)).trans (by omega))).trans (PF.up (p := p + 2) ((i_add (i_add hp ki_1 (by omega)) ki_1 (by omega)).trans (by omega)))))
        · skip
          refine wi_iload_1 ct_49_27 ?_
          refine wi_iret ct_49_28 rfl ?_
          have hr : rNum X n p = (pk X n p - 48, p + 1) := by
            unfold rNum
            exact (if_pos (by omega)).trans (if_neg (by omega))
          exact kk _ _ (by rw [hr]; exact (i_sub hz1 ki_48 (by omega)).trans (by first | rfl | (dsimp only; omega))) (by rw [hr]; exact (PF.up (p := p + 1) ((i_add hp ki_1 (by omega)).trans (by omega))))
    · skip
      refine wi_iload_1 ct_49_27 ?_
      refine wi_iret ct_49_28 rfl ?_
      have hr : rNum X n p = (-1, p) := by
        unfold rNum
        exact if_neg (by omega)
      exact kk _ _ (by rw [hr]; exact ki_m1) (by rw [hr]; exact (PF.rfl hp))
theorem c_word1 {L n p : Nat} {d : Nat} {g : am_G} {fi : am_I} {fl : am_L} {P : Option Value → am_G → am_I → am_L → Prop} {X : Nat → Int} (hS : SF L g) (hp : (fi 17 2).toInt = (p : Int)) (hl : (fi 17 1).toInt = (n : Int)) (hx : ∀ j, j < n → (fi 18 j).toInt = X j) (hn : n ≤ 100) (hxb : ∀ j, j < n → 0 ≤ X j ∧ X j ≤ 127) (hp9 : p ≤ 900) (k1 : (rCs X n [119, 105, 110, 100] p).1 = true → ∀ fi2, PF fi fi2 (rCs X n [119, 105, 110, 100] p).2 → P (some (.int 1)) g fi2 fl) (k2 : (rCs X n [119, 105, 110, 100] p).1 = false → ∀ fi2, PF fi fi2 (rCs X n [119, 105, 110, 100] p).2 → P (some (.int 0)) g fi2 fl) : WP (d + 7) 48 0 [some (.ref 17), some (.retAddr 1), none] [] g fi fl P := by
  refine wi_ic ct_48_0 kc_0 ?_
  refine wi_istore_2 rfl ct_48_1 ?_
  refine wi_iload_2 ct_48_2 ?_
  refine wi_aloadT_1 ct_48_3 ?_
  refine wi_cvT0 (ls' := [some _]) ct_48_4 (Nat.le_of_ble_eq_true rfl) (by decide) (by decide) rfl rfl (Nat.le_of_ble_eq_true rfl) ?_
  refine wi_aloadT_0 ct_204_0 ?_
  refine wi_gfs0 ct_204_1 (by decide) ?_
  refine wi_lenS (z := 4) ct_204_4 (by decide) (by decide) ?_
  refine wi_aloadT_0 ct_204_5 ?_
  refine wi_cvT0 (ls' := [some _]) ct_204_6 (Nat.le_of_ble_eq_true rfl) (by decide) (by decide) rfl rfl (Nat.le_of_ble_eq_true rfl) ?_
  refine wi_gs0 ct_205_0 ?_
  refine wi_ifeq_f ct_205_3 ki_1 (by decide) ?_
  refine wi_aloadT_0 ct_205_6 ?_
  refine wi_gfs1 ct_205_7 (by decide) ?_
  refine wi_goto ct_205_10 ?_
  refine wi_iret ct_205_14 (by decide) (wk_i ?_)
  refine wi_ishr (z := 4) ct_204_9 (by decide) ?_
  refine wi_iret ct_204_10 rfl (wk_i ?_)
  refine wi_icge_f ct_48_7 ki_0 ki_4 (by decide) ?_
  refine wi_aload_0 ct_48_10 ?_
  refine wi_aloadT_1 ct_48_11 ?_
  refine wi_iload_2 ct_48_12 ?_
  refine wi_cvT1 (ls' := [some _, some _]) ct_48_13 (Nat.le_of_ble_eq_true rfl) (by decide) (by decide) rfl rfl (Nat.le_of_ble_eq_true rfl) ?_
  refine wi_aloadT_0 ct_206_0 ?_
  refine wi_cvT0 (ls' := [some _]) ct_206_1 (Nat.le_of_ble_eq_true rfl) (by decide) (by decide) rfl rfl (Nat.le_of_ble_eq_true rfl) ?_
  refine wi_gs0 ct_207_0 ?_
  refine wi_ifeq_f ct_207_3 ki_1 (by decide) ?_
  refine wi_aloadT_0 ct_207_6 ?_
  refine wi_gfs1 ct_207_7 (by decide) ?_
  refine wi_ifne_f ct_207_10 ki_0 (by decide) ?_
  refine wi_ic ct_207_13 kc_1 ?_
  refine wi_goto ct_207_14 ?_
  refine wi_iret ct_207_18 (by decide) (wk_i ?_)
  refine wi_ifeq_f ct_206_4 ki_1 (by decide) ?_
  refine wi_aloadT_0 ct_206_7 ?_
  refine wi_gfs0 ct_206_8 (by decide) ?_
  refine wi_iload_1 ct_206_11 ?_
  refine wi_cs2 (ls' := [some _, some _]) ct_206_12 (Nat.le_of_ble_eq_true rfl) rfl (Nat.le_of_ble_eq_true rfl) ?_
  refine wi_iload_1 ct_208_0 ?_
  refine wi_aloadT_0 ct_208_1 ?_
  refine wi_lenS (z := 4) ct_208_2 (by decide) (by decide) ?_
  refine wi_cs2 (ls' := [some _, some _]) ct_208_3 (Nat.le_of_ble_eq_true rfl) rfl (Nat.le_of_ble_eq_true rfl) ?_
  refine wi_iload_0 ct_209_0 ?_
  refine wi_iload_1 ct_209_1 ?_
  refine wi_gs1 ct_209_2 ?_
  refine wi_cs3 (ls' := [some _, some _, some _]) ct_209_5 (Nat.le_of_ble_eq_true rfl) rfl (Nat.le_of_ble_eq_true rfl) ?_
  refine wi_iload_0 ct_210_0 ?_
  refine wi_iflt_f ct_210_1 ki_0 (by decide) ?_
  refine wi_iload_0 ct_210_4 ?_
  refine wi_iload_1 ct_210_5 ?_
  refine wi_iclt_t ct_210_6 ki_0 ki_4 (by decide) ?_
  refine wi_iload_0 ct_210_16 ?_
  refine wi_iret ct_210_17 rfl (wk_i ?_)
  refine wi_pop ct_209_8 rfl ?_
  refine wi_ret ct_209_9 (wk_v ?_)
  refine wi_aloadT_0 ct_208_6 ?_
  refine wi_iload_1 ct_208_7 ?_
  refine wi_baldS (z := 119) ct_208_8 (by decide) (by decide) (by decide) ?_
  refine wi_ic ct_208_9 kc_255 ?_
  refine wi_iand (z := 119) ct_208_12 (by decide) ?_
  refine wi_i2c ct_208_13 (i_c16 ki_119 (by omega)) ?_
  refine wi_iret ct_208_14 (by decide) (wk_i ?_)
  refine wi_iret ct_206_15 (by decide) (wk_i ?_)
  refine wi_cv1 (ls' := [some _, some _]) ct_48_16 (Nat.le_of_ble_eq_true rfl) (by decide) (sT_17 hS) rfl (by decide) rfl rfl (Nat.le_of_ble_eq_true rfl) ?_
  refine wi_aload_0 ct_55_0 ?_
  refine wi_cv0 (ls' := [some _]) ct_55_1 (Nat.le_of_ble_eq_true rfl) (by decide) (sT_17 hS) rfl (by decide) rfl rfl (Nat.le_of_ble_eq_true rfl) ?_
  refine c_peek (p := p) hS hp hl hx hn hxb (fun z1 hz1 => wk_i ?_)
  have hbz1 := pk_bd hxb (p := p)
  refine wi_iload_1 ct_55_4 ?_
  refine wi_iceq ct_55_5 hz1 ki_119 (fun h2 => ?_) (fun h2 => ?_)
  · skip
    refine wi_aload_0 ct_55_10 ?_
    refine wi_dup ct_55_11 rfl ?_
    refine wi_gf (x := fi 17 2) ct_55_12 (sT_17 hS) rfl rfl rfl ?_
    refine wi_ic ct_55_15 kc_1 ?_
    refine wi_iadd ct_55_16 rfl ?_
    refine wi_pf ct_55_17 (sT_17 hS) rfl ?_
    refine wi_ic ct_55_20 kc_1 ?_
    refine wi_iret ct_55_21 (by decide) (wk_i ?_)
    refine wi_ifne_t ct_48_19 ki_1 (by decide) ?_
    refine wi_iinc_2 rfl (z := 1) ct_48_24 (by decide) ?_
    refine wi_goto ct_48_27 ?_
    refine wi_iload_2 ct_48_2 ?_
    refine wi_aloadT_1 ct_48_3 ?_
    refine wi_cvT0 (ls' := [some _]) ct_48_4 (Nat.le_of_ble_eq_true rfl) (by decide) (by decide) rfl rfl (Nat.le_of_ble_eq_true rfl) ?_
    refine wi_aloadT_0 ct_204_0 ?_
    refine wi_gfs0 ct_204_1 (by decide) ?_
    refine wi_lenS (z := 4) ct_204_4 (by decide) (by decide) ?_
    refine wi_aloadT_0 ct_204_5 ?_
    refine wi_cvT0 (ls' := [some _]) ct_204_6 (Nat.le_of_ble_eq_true rfl) (by decide) (by decide) rfl rfl (Nat.le_of_ble_eq_true rfl) ?_
    refine wi_gs0 ct_205_0 ?_
    refine wi_ifeq_f ct_205_3 ki_1 (by decide) ?_
    refine wi_aloadT_0 ct_205_6 ?_
    refine wi_gfs1 ct_205_7 (by decide) ?_
    refine wi_goto ct_205_10 ?_
    refine wi_iret ct_205_14 (by decide) (wk_i ?_)
    refine wi_ishr (z := 4) ct_204_9 (by decide) ?_
    refine wi_iret ct_204_10 rfl (wk_i ?_)
    refine wi_icge_f ct_48_7 ki_1 ki_4 (by decide) ?_
    refine wi_aload_0 ct_48_10 ?_
    refine wi_aloadT_1 ct_48_11 ?_
    refine wi_iload_2 ct_48_12 ?_
    refine wi_cvT1 (ls' := [some _, some _]) ct_48_13 (Nat.le_of_ble_eq_true rfl) (by decide) (by decide) rfl rfl (Nat.le_of_ble_eq_true rfl) ?_
    refine wi_aloadT_0 ct_206_0 ?_
    refine wi_cvT0 (ls' := [some _]) ct_206_1 (Nat.le_of_ble_eq_true rfl) (by decide) (by decide) rfl rfl (Nat.le_of_ble_eq_true rfl) ?_
    refine wi_gs0 ct_207_0 ?_
    refine wi_ifeq_f ct_207_3 ki_1 (by decide) ?_
    refine wi_aloadT_0 ct_207_6 ?_
    refine wi_gfs1 ct_207_7 (by decide) ?_
    refine wi_ifne_f ct_207_10 ki_0 (by decide) ?_
    refine wi_ic ct_207_13 kc_1 ?_
    refine wi_goto ct_207_14 ?_
    refine wi_iret ct_207_18 (by decide) (wk_i ?_)
    refine wi_ifeq_f ct_206_4 ki_1 (by decide) ?_
    refine wi_aloadT_0 ct_206_7 ?_
    refine wi_gfs0 ct_206_8 (by decide) ?_
    refine wi_iload_1 ct_206_11 ?_
    refine wi_cs2 (ls' := [some _, some _]) ct_206_12 (Nat.le_of_ble_eq_true rfl) rfl (Nat.le_of_ble_eq_true rfl) ?_
    refine wi_iload_1 ct_208_0 ?_
    refine wi_aloadT_0 ct_208_1 ?_
    refine wi_lenS (z := 4) ct_208_2 (by decide) (by decide) ?_
    refine wi_cs2 (ls' := [some _, some _]) ct_208_3 (Nat.le_of_ble_eq_true rfl) rfl (Nat.le_of_ble_eq_true rfl) ?_
    refine wi_iload_0 ct_209_0 ?_
    refine wi_iload_1 ct_209_1 ?_
    refine wi_gs1 ct_209_2 ?_
    refine wi_cs3 (ls' := [some _, some _, some _]) ct_209_5 (Nat.le_of_ble_eq_true rfl) rfl (Nat.le_of_ble_eq_true rfl) ?_
    refine wi_iload_0 ct_210_0 ?_
    refine wi_iflt_f ct_210_1 ki_1 (by decide) ?_
    refine wi_iload_0 ct_210_4 ?_
    refine wi_iload_1 ct_210_5 ?_
    refine wi_iclt_t ct_210_6 ki_1 ki_4 (by decide) ?_
    refine wi_iload_0 ct_210_16 ?_
    refine wi_iret ct_210_17 rfl (wk_i ?_)
    refine wi_pop ct_209_8 rfl ?_
    refine wi_ret ct_209_9 (wk_v ?_)
    refine wi_aloadT_0 ct_208_6 ?_
    refine wi_iload_1 ct_208_7 ?_
    refine wi_baldS (z := 105) ct_208_8 (by decide) (by decide) (by decide) ?_
    refine wi_ic ct_208_9 kc_255 ?_
    refine wi_iand (z := 105) ct_208_12 (by decide) ?_
    refine wi_i2c ct_208_13 (i_c16 ki_105 (by omega)) ?_
    refine wi_iret ct_208_14 (by decide) (wk_i ?_)
    refine wi_iret ct_206_15 (by decide) (wk_i ?_)
    refine wi_cv1 (ls' := [some _, some _]) ct_48_16 (Nat.le_of_ble_eq_true rfl) (by decide) (sT_17 hS) rfl (by decide) rfl rfl (Nat.le_of_ble_eq_true rfl) ?_
    refine wi_aload_0 ct_55_0 ?_
    refine wi_cv0 (ls' := [some _]) ct_55_1 (Nat.le_of_ble_eq_true rfl) (by decide) (sT_17 hS) rfl (by decide) rfl rfl (Nat.le_of_ble_eq_true rfl) ?_
    refine c_peek (p := p + 1) hS ((congrArg Int32.toInt up2_eq).trans ((i_add hp ki_1 (by omega)).trans (by omega))) ((congrArg Int32.toInt (up2_nj (by decide))).trans hl) (fun j hj => (congrArg Int32.toInt (up2_nq (by decide))).trans (hx j hj)) hn hxb (fun z3 hz3 => wk_i ?_)
    have hbz3 := pk_bd hxb (p := p + 1)
    refine wi_iload_1 ct_55_4 ?_
    refine wi_iceq ct_55_5 hz3 ki_105 (fun h4 => ?_) (fun h4 => ?_)
    · skip
      refine wi_aload_0 ct_55_10 ?_
      refine wi_dup ct_55_11 rfl ?_
      refine wi_gf (x := (fi 17 2 + 1)) ct_55_12 (sT_17 hS) rfl rfl up2_eq ?_
      refine wi_ic ct_55_15 kc_1 ?_
      refine wi_iadd ct_55_16 rfl ?_
      refine wi_pf ct_55_17 (sT_17 hS) rfl ?_
      refine wi_ic ct_55_20 kc_1 ?_
      refine wi_iret ct_55_21 (by decide) (wk_i ?_)
      refine wi_ifne_t ct_48_19 ki_1 (by decide) ?_
      refine wi_iinc_2 rfl (z := 2) ct_48_24 (by decide) ?_
      refine wi_goto ct_48_27 ?_
      refine wi_iload_2 ct_48_2 ?_
      refine wi_aloadT_1 ct_48_3 ?_
      refine wi_cvT0 (ls' := [some _]) ct_48_4 (Nat.le_of_ble_eq_true rfl) (by decide) (by decide) rfl rfl (Nat.le_of_ble_eq_true rfl) ?_
      refine wi_aloadT_0 ct_204_0 ?_
      refine wi_gfs0 ct_204_1 (by decide) ?_
      refine wi_lenS (z := 4) ct_204_4 (by decide) (by decide) ?_
      refine wi_aloadT_0 ct_204_5 ?_
      refine wi_cvT0 (ls' := [some _]) ct_204_6 (Nat.le_of_ble_eq_true rfl) (by decide) (by decide) rfl rfl (Nat.le_of_ble_eq_true rfl) ?_
      refine wi_gs0 ct_205_0 ?_
      refine wi_ifeq_f ct_205_3 ki_1 (by decide) ?_
      refine wi_aloadT_0 ct_205_6 ?_
      refine wi_gfs1 ct_205_7 (by decide) ?_
      refine wi_goto ct_205_10 ?_
      refine wi_iret ct_205_14 (by decide) (wk_i ?_)
      refine wi_ishr (z := 4) ct_204_9 (by decide) ?_
      refine wi_iret ct_204_10 rfl (wk_i ?_)
      refine wi_icge_f ct_48_7 ki_2 ki_4 (by decide) ?_
      refine wi_aload_0 ct_48_10 ?_
      refine wi_aloadT_1 ct_48_11 ?_
      refine wi_iload_2 ct_48_12 ?_
      refine wi_cvT1 (ls' := [some _, some _]) ct_48_13 (Nat.le_of_ble_eq_true rfl) (by decide) (by decide) rfl rfl (Nat.le_of_ble_eq_true rfl) ?_
      refine wi_aloadT_0 ct_206_0 ?_
      refine wi_cvT0 (ls' := [some _]) ct_206_1 (Nat.le_of_ble_eq_true rfl) (by decide) (by decide) rfl rfl (Nat.le_of_ble_eq_true rfl) ?_
      refine wi_gs0 ct_207_0 ?_
      refine wi_ifeq_f ct_207_3 ki_1 (by decide) ?_
      refine wi_aloadT_0 ct_207_6 ?_
      refine wi_gfs1 ct_207_7 (by decide) ?_
      refine wi_ifne_f ct_207_10 ki_0 (by decide) ?_
      refine wi_ic ct_207_13 kc_1 ?_
      refine wi_goto ct_207_14 ?_
      refine wi_iret ct_207_18 (by decide) (wk_i ?_)
      refine wi_ifeq_f ct_206_4 ki_1 (by decide) ?_
      refine wi_aloadT_0 ct_206_7 ?_
      refine wi_gfs0 ct_206_8 (by decide) ?_
      refine wi_iload_1 ct_206_11 ?_
      refine wi_cs2 (ls' := [some _, some _]) ct_206_12 (Nat.le_of_ble_eq_true rfl) rfl (Nat.le_of_ble_eq_true rfl) ?_
      refine wi_iload_1 ct_208_0 ?_
      refine wi_aloadT_0 ct_208_1 ?_
      refine wi_lenS (z := 4) ct_208_2 (by decide) (by decide) ?_
      refine wi_cs2 (ls' := [some _, some _]) ct_208_3 (Nat.le_of_ble_eq_true rfl) rfl (Nat.le_of_ble_eq_true rfl) ?_
      refine wi_iload_0 ct_209_0 ?_
      refine wi_iload_1 ct_209_1 ?_
      refine wi_gs1 ct_209_2 ?_
      refine wi_cs3 (ls' := [some _, some _, some _]) ct_209_5 (Nat.le_of_ble_eq_true rfl) rfl (Nat.le_of_ble_eq_true rfl) ?_
      refine wi_iload_0 ct_210_0 ?_
      refine wi_iflt_f ct_210_1 ki_2 (by decide) ?_
      refine wi_iload_0 ct_210_4 ?_
      refine wi_iload_1 ct_210_5 ?_
      refine wi_iclt_t ct_210_6 ki_2 ki_4 (by decide) ?_
      refine wi_iload_0 ct_210_16 ?_
      refine wi_iret ct_210_17 rfl (wk_i ?_)
      refine wi_pop ct_209_8 rfl ?_
      refine wi_ret ct_209_9 (wk_v ?_)
      refine wi_aloadT_0 ct_208_6 ?_
      refine wi_iload_1 ct_208_7 ?_
      refine wi_baldS (z := 110) ct_208_8 (by decide) (by decide) (by decide) ?_
      refine wi_ic ct_208_9 kc_255 ?_
      refine wi_iand (z := 110) ct_208_12 (by decide) ?_
      refine wi_i2c ct_208_13 (i_c16 ki_110 (by omega)) ?_
      refine wi_iret ct_208_14 (by decide) (wk_i ?_)
      refine wi_iret ct_206_15 (by decide) (wk_i ?_)
      refine wi_cv1 (ls' := [some _, some _]) ct_48_16 (Nat.le_of_ble_eq_true rfl) (by decide) (sT_17 hS) rfl (by decide) rfl rfl (Nat.le_of_ble_eq_true rfl) ?_
      refine wi_aload_0 ct_55_0 ?_
      refine wi_cv0 (ls' := [some _]) ct_55_1 (Nat.le_of_ble_eq_true rfl) (by decide) (sT_17 hS) rfl (by decide) rfl rfl (Nat.le_of_ble_eq_true rfl) ?_
      refine c_peek (p := p + 2) hS ((congrArg Int32.toInt up2_eq).trans ((i_add (i_add hp ki_1 (by omega)) ki_1 (by omega)).trans (by omega))) ((congrArg Int32.toInt (Eq.trans (up2_nj (by decide)) (up2_nj (by decide)))).trans hl) (fun j hj => (congrArg Int32.toInt (Eq.trans (up2_nq (by decide)) (up2_nq (by decide)))).trans (hx j hj)) hn hxb (fun z5 hz5 => wk_i ?_)
      have hbz5 := pk_bd hxb (p := p + 2)
      refine wi_iload_1 ct_55_4 ?_
      refine wi_iceq ct_55_5 hz5 ki_110 (fun h6 => ?_) (fun h6 => ?_)
      · skip
        refine wi_aload_0 ct_55_10 ?_
        refine wi_dup ct_55_11 rfl ?_
        refine wi_gf (x := ((fi 17 2 + 1) + 1)) ct_55_12 (sT_17 hS) rfl rfl up2_eq ?_
        refine wi_ic ct_55_15 kc_1 ?_
        refine wi_iadd ct_55_16 rfl ?_
        refine wi_pf ct_55_17 (sT_17 hS) rfl ?_
        refine wi_ic ct_55_20 kc_1 ?_
        refine wi_iret ct_55_21 (by decide) (wk_i ?_)
        refine wi_ifne_t ct_48_19 ki_1 (by decide) ?_
        refine wi_iinc_2 rfl (z := 3) ct_48_24 (by decide) ?_
        refine wi_goto ct_48_27 ?_
        refine wi_iload_2 ct_48_2 ?_
        refine wi_aloadT_1 ct_48_3 ?_
        refine wi_cvT0 (ls' := [some _]) ct_48_4 (Nat.le_of_ble_eq_true rfl) (by decide) (by decide) rfl rfl (Nat.le_of_ble_eq_true rfl) ?_
        refine wi_aloadT_0 ct_204_0 ?_
        refine wi_gfs0 ct_204_1 (by decide) ?_
        refine wi_lenS (z := 4) ct_204_4 (by decide) (by decide) ?_
        refine wi_aloadT_0 ct_204_5 ?_
        refine wi_cvT0 (ls' := [some _]) ct_204_6 (Nat.le_of_ble_eq_true rfl) (by decide) (by decide) rfl rfl (Nat.le_of_ble_eq_true rfl) ?_
        refine wi_gs0 ct_205_0 ?_
        refine wi_ifeq_f ct_205_3 ki_1 (by decide) ?_
        refine wi_aloadT_0 ct_205_6 ?_
        refine wi_gfs1 ct_205_7 (by decide) ?_
        refine wi_goto ct_205_10 ?_
        refine wi_iret ct_205_14 (by decide) (wk_i ?_)
        refine wi_ishr (z := 4) ct_204_9 (by decide) ?_
        refine wi_iret ct_204_10 rfl (wk_i ?_)
        refine wi_icge_f ct_48_7 ki_3 ki_4 (by decide) ?_
        refine wi_aload_0 ct_48_10 ?_
        refine wi_aloadT_1 ct_48_11 ?_
        refine wi_iload_2 ct_48_12 ?_
        refine wi_cvT1 (ls' := [some _, some _]) ct_48_13 (Nat.le_of_ble_eq_true rfl) (by decide) (by decide) rfl rfl (Nat.le_of_ble_eq_true rfl) ?_
        refine wi_aloadT_0 ct_206_0 ?_
        refine wi_cvT0 (ls' := [some _]) ct_206_1 (Nat.le_of_ble_eq_true rfl) (by decide) (by decide) rfl rfl (Nat.le_of_ble_eq_true rfl) ?_
        refine wi_gs0 ct_207_0 ?_
        refine wi_ifeq_f ct_207_3 ki_1 (by decide) ?_
        refine wi_aloadT_0 ct_207_6 ?_
        refine wi_gfs1 ct_207_7 (by decide) ?_
        refine wi_ifne_f ct_207_10 ki_0 (by decide) ?_
        refine wi_ic ct_207_13 kc_1 ?_
        refine wi_goto ct_207_14 ?_
        refine wi_iret ct_207_18 (by decide) (wk_i ?_)
        refine wi_ifeq_f ct_206_4 ki_1 (by decide) ?_
        refine wi_aloadT_0 ct_206_7 ?_
        refine wi_gfs0 ct_206_8 (by decide) ?_
        refine wi_iload_1 ct_206_11 ?_
        refine wi_cs2 (ls' := [some _, some _]) ct_206_12 (Nat.le_of_ble_eq_true rfl) rfl (Nat.le_of_ble_eq_true rfl) ?_
        refine wi_iload_1 ct_208_0 ?_
        refine wi_aloadT_0 ct_208_1 ?_
        refine wi_lenS (z := 4) ct_208_2 (by decide) (by decide) ?_
        refine wi_cs2 (ls' := [some _, some _]) ct_208_3 (Nat.le_of_ble_eq_true rfl) rfl (Nat.le_of_ble_eq_true rfl) ?_
        refine wi_iload_0 ct_209_0 ?_
        refine wi_iload_1 ct_209_1 ?_
        refine wi_gs1 ct_209_2 ?_
        refine wi_cs3 (ls' := [some _, some _, some _]) ct_209_5 (Nat.le_of_ble_eq_true rfl) rfl (Nat.le_of_ble_eq_true rfl) ?_
        refine wi_iload_0 ct_210_0 ?_
        refine wi_iflt_f ct_210_1 ki_3 (by decide) ?_
        refine wi_iload_0 ct_210_4 ?_
        refine wi_iload_1 ct_210_5 ?_
        refine wi_iclt_t ct_210_6 ki_3 ki_4 (by decide) ?_
        refine wi_iload_0 ct_210_16 ?_
        refine wi_iret ct_210_17 rfl (wk_i ?_)
        refine wi_pop ct_209_8 rfl ?_
        refine wi_ret ct_209_9 (wk_v ?_)
        refine wi_aloadT_0 ct_208_6 ?_
        refine wi_iload_1 ct_208_7 ?_
        refine wi_baldS (z := 100) ct_208_8 (by decide) (by decide) (by decide) ?_
        refine wi_ic ct_208_9 kc_255 ?_
        refine wi_iand (z := 100) ct_208_12 (by decide) ?_
        refine wi_i2c ct_208_13 (i_c16 ki_100 (by omega)) ?_
        refine wi_iret ct_208_14 (by decide) (wk_i ?_)
        refine wi_iret ct_206_15 (by decide) (wk_i ?_)
        refine wi_cv1 (ls' := [some _, some _]) ct_48_16 (Nat.le_of_ble_eq_true rfl) (by decide) (sT_17 hS) rfl (by decide) rfl rfl (Nat.le_of_ble_eq_true rfl) ?_
        refine wi_aload_0 ct_55_0 ?_
        refine wi_cv0 (ls' := [some _]) ct_55_1 (Nat.le_of_ble_eq_true rfl) (by decide) (sT_17 hS) rfl (by decide) rfl rfl (Nat.le_of_ble_eq_true rfl) ?_
        refine c_peek (p := p + 3) hS ((congrArg Int32.toInt up2_eq).trans ((i_add (i_add (i_add hp ki_1 (by omega)) ki_1 (by omega)) ki_1 (by omega)).trans (by omega))) ((congrArg Int32.toInt (Eq.trans (up2_nj (by decide)) (Eq.trans (up2_nj (by decide)) (up2_nj (by decide))))).trans hl) (fun j hj => (congrArg Int32.toInt (Eq.trans (up2_nq (by decide)) (Eq.trans (up2_nq (by decide)) (up2_nq (by decide))))).trans (hx j hj)) hn hxb (fun z7 hz7 => wk_i ?_)
        have hbz7 := pk_bd hxb (p := p + 3)
        refine wi_iload_1 ct_55_4 ?_
        refine wi_iceq ct_55_5 hz7 ki_100 (fun h8 => ?_) (fun h8 => ?_)
        · skip
          refine wi_aload_0 ct_55_10 ?_
          refine wi_dup ct_55_11 rfl ?_
          refine wi_gf (x := (((fi 17 2 + 1) + 1) + 1)) ct_55_12 (sT_17 hS) rfl rfl up2_eq ?_
          refine wi_ic ct_55_15 kc_1 ?_
          refine wi_iadd ct_55_16 rfl ?_
          refine wi_pf ct_55_17 (sT_17 hS) rfl ?_
          refine wi_ic ct_55_20 kc_1 ?_
          refine wi_iret ct_55_21 (by decide) (wk_i ?_)
          refine wi_ifne_t ct_48_19 ki_1 (by decide) ?_
          refine wi_iinc_2 rfl (z := 4) ct_48_24 (by decide) ?_
          refine wi_goto ct_48_27 ?_
          refine wi_iload_2 ct_48_2 ?_
          refine wi_aloadT_1 ct_48_3 ?_
          refine wi_cvT0 (ls' := [some _]) ct_48_4 (Nat.le_of_ble_eq_true rfl) (by decide) (by decide) rfl rfl (Nat.le_of_ble_eq_true rfl) ?_
          refine wi_aloadT_0 ct_204_0 ?_
          refine wi_gfs0 ct_204_1 (by decide) ?_
          refine wi_lenS (z := 4) ct_204_4 (by decide) (by decide) ?_
          refine wi_aloadT_0 ct_204_5 ?_
          refine wi_cvT0 (ls' := [some _]) ct_204_6 (Nat.le_of_ble_eq_true rfl) (by decide) (by decide) rfl rfl (Nat.le_of_ble_eq_true rfl) ?_
          refine wi_gs0 ct_205_0 ?_
          refine wi_ifeq_f ct_205_3 ki_1 (by decide) ?_
          refine wi_aloadT_0 ct_205_6 ?_
          refine wi_gfs1 ct_205_7 (by decide) ?_
          refine wi_goto ct_205_10 ?_
          refine wi_iret ct_205_14 (by decide) (wk_i ?_)
          refine wi_ishr (z := 4) ct_204_9 (by decide) ?_
          refine wi_iret ct_204_10 rfl (wk_i ?_)
          refine wi_icge_t ct_48_7 ki_4 ki_4 (by decide) ?_
          refine wi_ic ct_48_30 kc_1 ?_
          refine wi_iret ct_48_31 (by decide) ?_
          have hr : rCs X n [119, 105, 110, 100] p = (true, p + 4) := by
            exact ((rCs_t (c := 119) (p := p) (by omega)).trans ((rCs_t (c := 105) (p := p + 1) (by omega)).trans ((rCs_t (c := 110) (p := p + 2) (by omega)).trans ((rCs_t (c := 100) (p := p + 3) (by omega)).trans rfl))))
          exact k1 (by rw [hr]) _ (by rw [hr]; exact ((((PF.up (p := p + 1) ((i_add hp ki_1 (by omega)).trans (by omega))).trans (PF.up (p := p + 2) ((i_add (i_add hp ki_1 (by omega)) ki_1 (by omega)).trans (by omega)))).trans (PF.up (p := p + 3) ((i_add (i_add (i_add hp ki_1 (by omega)) ki_1 (by omega)) ki_1 (by omega)).trans (by omega)))).trans (PF.up (p := p + 4) ((i_add (i_add (i_add (i_add hp ki_1 (by omega)) ki_1 (by omega)) ki_1 (by omega)) ki_1 (by omega)).trans (by omega)))))
        · skip
          refine wi_ic ct_55_8 kc_0 ?_
          refine wi_iret ct_55_9 (by decide) (wk_i ?_)
          refine wi_ifne_f ct_48_19 ki_0 (by decide) ?_
          refine wi_ic ct_48_22 kc_0 ?_
          refine wi_iret ct_48_23 (by decide) ?_
          have hr : rCs X n [119, 105, 110, 100] p = (false, p + 3) := by
            exact ((rCs_t (c := 119) (p := p) (by omega)).trans ((rCs_t (c := 105) (p := p + 1) (by omega)).trans ((rCs_t (c := 110) (p := p + 2) (by omega)).trans (rCs_f (c := 100) (p := p + 3) (by omega)))))
          exact k2 (by rw [hr]) _ (by rw [hr]; exact (((PF.up (p := p + 1) ((i_add hp ki_1 (by omega)).trans (by omega))).trans (PF.up (p := p + 2) ((i_add (i_add hp ki_1 (by omega)) ki_1 (by omega)).trans (by omega)))).trans (PF.up (p := p + 3) ((i_add (i_add (i_add hp ki_1 (by omega)) ki_1 (by omega)) ki_1 (by omega)).trans (by omega)))))
      · skip
        refine wi_ic ct_55_8 kc_0 ?_
        refine wi_iret ct_55_9 (by decide) (wk_i ?_)
        refine wi_ifne_f ct_48_19 ki_0 (by decide) ?_
        refine wi_ic ct_48_22 kc_0 ?_
        refine wi_iret ct_48_23 (by decide) ?_
        have hr : rCs X n [119, 105, 110, 100] p = (false, p + 2) := by
          exact ((rCs_t (c := 119) (p := p) (by omega)).trans ((rCs_t (c := 105) (p := p + 1) (by omega)).trans (rCs_f (c := 110) (p := p + 2) (by omega))))
        exact k2 (by rw [hr]) _ (by rw [hr]; exact ((PF.up (p := p + 1) ((i_add hp ki_1 (by omega)).trans (by omega))).trans (PF.up (p := p + 2) ((i_add (i_add hp ki_1 (by omega)) ki_1 (by omega)).trans (by omega)))))
    · skip
      refine wi_ic ct_55_8 kc_0 ?_
      refine wi_iret ct_55_9 (by decide) (wk_i ?_)
      refine wi_ifne_f ct_48_19 ki_0 (by decide) ?_
      refine wi_ic ct_48_22 kc_0 ?_
      refine wi_iret ct_48_23 (by decide) ?_
      have hr : rCs X n [119, 105, 110, 100] p = (false, p + 1) := by
        exact ((rCs_t (c := 119) (p := p) (by omega)).trans (rCs_f (c := 105) (p := p + 1) (by omega)))
      exact k2 (by rw [hr]) _ (by rw [hr]; exact (PF.up (p := p + 1) ((i_add hp ki_1 (by omega)).trans (by omega))))
  · skip
    refine wi_ic ct_55_8 kc_0 ?_
    refine wi_iret ct_55_9 (by decide) (wk_i ?_)
    refine wi_ifne_f ct_48_19 ki_0 (by decide) ?_
    refine wi_ic ct_48_22 kc_0 ?_
    refine wi_iret ct_48_23 (by decide) ?_
    have hr : rCs X n [119, 105, 110, 100] p = (false, p) := by
      exact (rCs_f (c := 119) (p := p) (by omega))
    exact k2 (by rw [hr]) _ (by rw [hr]; exact (PF.rfl hp))
theorem c_word2 {L n p : Nat} {d : Nat} {g : am_G} {fi : am_I} {fl : am_L} {P : Option Value → am_G → am_I → am_L → Prop} {X : Nat → Int} (hS : SF L g) (hp : (fi 17 2).toInt = (p : Int)) (hl : (fi 17 1).toInt = (n : Int)) (hx : ∀ j, j < n → (fi 18 j).toInt = X j) (hn : n ≤ 100) (hxb : ∀ j, j < n → 0 ≤ X j ∧ X j ≤ 127) (hp9 : p ≤ 900) (k1 : (rCs X n [100, 114, 121] p).1 = true → ∀ fi2, PF fi fi2 (rCs X n [100, 114, 121] p).2 → P (some (.int 1)) g fi2 fl) (k2 : (rCs X n [100, 114, 121] p).1 = false → ∀ fi2, PF fi fi2 (rCs X n [100, 114, 121] p).2 → P (some (.int 0)) g fi2 fl) : WP (d + 7) 48 0 [some (.ref 17), some (.retAddr 2), none] [] g fi fl P := by
  refine wi_ic ct_48_0 kc_0 ?_
  refine wi_istore_2 rfl ct_48_1 ?_
  refine wi_iload_2 ct_48_2 ?_
  refine wi_aloadT_1 ct_48_3 ?_
  refine wi_cvT0 (ls' := [some _]) ct_48_4 (Nat.le_of_ble_eq_true rfl) (by decide) (by decide) rfl rfl (Nat.le_of_ble_eq_true rfl) ?_
  refine wi_aloadT_0 ct_204_0 ?_
  refine wi_gfs0 ct_204_1 (by decide) ?_
  refine wi_lenS (z := 3) ct_204_4 (by decide) (by decide) ?_
  refine wi_aloadT_0 ct_204_5 ?_
  refine wi_cvT0 (ls' := [some _]) ct_204_6 (Nat.le_of_ble_eq_true rfl) (by decide) (by decide) rfl rfl (Nat.le_of_ble_eq_true rfl) ?_
  refine wi_gs0 ct_205_0 ?_
  refine wi_ifeq_f ct_205_3 ki_1 (by decide) ?_
  refine wi_aloadT_0 ct_205_6 ?_
  refine wi_gfs1 ct_205_7 (by decide) ?_
  refine wi_goto ct_205_10 ?_
  refine wi_iret ct_205_14 (by decide) (wk_i ?_)
  refine wi_ishr (z := 3) ct_204_9 (by decide) ?_
  refine wi_iret ct_204_10 rfl (wk_i ?_)
  refine wi_icge_f ct_48_7 ki_0 ki_3 (by decide) ?_
  refine wi_aload_0 ct_48_10 ?_
  refine wi_aloadT_1 ct_48_11 ?_
  refine wi_iload_2 ct_48_12 ?_
  refine wi_cvT1 (ls' := [some _, some _]) ct_48_13 (Nat.le_of_ble_eq_true rfl) (by decide) (by decide) rfl rfl (Nat.le_of_ble_eq_true rfl) ?_
  refine wi_aloadT_0 ct_206_0 ?_
  refine wi_cvT0 (ls' := [some _]) ct_206_1 (Nat.le_of_ble_eq_true rfl) (by decide) (by decide) rfl rfl (Nat.le_of_ble_eq_true rfl) ?_
  refine wi_gs0 ct_207_0 ?_
  refine wi_ifeq_f ct_207_3 ki_1 (by decide) ?_
  refine wi_aloadT_0 ct_207_6 ?_
  refine wi_gfs1 ct_207_7 (by decide) ?_
  refine wi_ifne_f ct_207_10 ki_0 (by decide) ?_
  refine wi_ic ct_207_13 kc_1 ?_
  refine wi_goto ct_207_14 ?_
  refine wi_iret ct_207_18 (by decide) (wk_i ?_)
  refine wi_ifeq_f ct_206_4 ki_1 (by decide) ?_
  refine wi_aloadT_0 ct_206_7 ?_
  refine wi_gfs0 ct_206_8 (by decide) ?_
  refine wi_iload_1 ct_206_11 ?_
  refine wi_cs2 (ls' := [some _, some _]) ct_206_12 (Nat.le_of_ble_eq_true rfl) rfl (Nat.le_of_ble_eq_true rfl) ?_
  refine wi_iload_1 ct_208_0 ?_
  refine wi_aloadT_0 ct_208_1 ?_
  refine wi_lenS (z := 3) ct_208_2 (by decide) (by decide) ?_
  refine wi_cs2 (ls' := [some _, some _]) ct_208_3 (Nat.le_of_ble_eq_true rfl) rfl (Nat.le_of_ble_eq_true rfl) ?_
  refine wi_iload_0 ct_209_0 ?_
  refine wi_iload_1 ct_209_1 ?_
  refine wi_gs1 ct_209_2 ?_
  refine wi_cs3 (ls' := [some _, some _, some _]) ct_209_5 (Nat.le_of_ble_eq_true rfl) rfl (Nat.le_of_ble_eq_true rfl) ?_
  refine wi_iload_0 ct_210_0 ?_
  refine wi_iflt_f ct_210_1 ki_0 (by decide) ?_
  refine wi_iload_0 ct_210_4 ?_
  refine wi_iload_1 ct_210_5 ?_
  refine wi_iclt_t ct_210_6 ki_0 ki_3 (by decide) ?_
  refine wi_iload_0 ct_210_16 ?_
  refine wi_iret ct_210_17 rfl (wk_i ?_)
  refine wi_pop ct_209_8 rfl ?_
  refine wi_ret ct_209_9 (wk_v ?_)
  refine wi_aloadT_0 ct_208_6 ?_
  refine wi_iload_1 ct_208_7 ?_
  refine wi_baldS (z := 100) ct_208_8 (by decide) (by decide) (by decide) ?_
  refine wi_ic ct_208_9 kc_255 ?_
  refine wi_iand (z := 100) ct_208_12 (by decide) ?_
  refine wi_i2c ct_208_13 (i_c16 ki_100 (by omega)) ?_
  refine wi_iret ct_208_14 (by decide) (wk_i ?_)
  refine wi_iret ct_206_15 (by decide) (wk_i ?_)
  refine wi_cv1 (ls' := [some _, some _]) ct_48_16 (Nat.le_of_ble_eq_true rfl) (by decide) (sT_17 hS) rfl (by decide) rfl rfl (Nat.le_of_ble_eq_true rfl) ?_
  refine wi_aload_0 ct_55_0 ?_
  refine wi_cv0 (ls' := [some _]) ct_55_1 (Nat.le_of_ble_eq_true rfl) (by decide) (sT_17 hS) rfl (by decide) rfl rfl (Nat.le_of_ble_eq_true rfl) ?_
  refine c_peek (p := p) hS hp hl hx hn hxb (fun z1 hz1 => wk_i ?_)
  have hbz1 := pk_bd hxb (p := p)
  refine wi_iload_1 ct_55_4 ?_
  refine wi_iceq ct_55_5 hz1 ki_100 (fun h2 => ?_) (fun h2 => ?_)
  · skip
    refine wi_aload_0 ct_55_10 ?_
    refine wi_dup ct_55_11 rfl ?_
    refine wi_gf (x := fi 17 2) ct_55_12 (sT_17 hS) rfl rfl rfl ?_
    refine wi_ic ct_55_15 kc_1 ?_
    refine wi_iadd ct_55_16 rfl ?_
    refine wi_pf ct_55_17 (sT_17 hS) rfl ?_
    refine wi_ic ct_55_20 kc_1 ?_
    refine wi_iret ct_55_21 (by decide) (wk_i ?_)
    refine wi_ifne_t ct_48_19 ki_1 (by decide) ?_
    refine wi_iinc_2 rfl (z := 1) ct_48_24 (by decide) ?_
    refine wi_goto ct_48_27 ?_
    refine wi_iload_2 ct_48_2 ?_
    refine wi_aloadT_1 ct_48_3 ?_
    refine wi_cvT0 (ls' := [some _]) ct_48_4 (Nat.le_of_ble_eq_true rfl) (by decide) (by decide) rfl rfl (Nat.le_of_ble_eq_true rfl) ?_
    refine wi_aloadT_0 ct_204_0 ?_
    refine wi_gfs0 ct_204_1 (by decide) ?_
    refine wi_lenS (z := 3) ct_204_4 (by decide) (by decide) ?_
    refine wi_aloadT_0 ct_204_5 ?_
    refine wi_cvT0 (ls' := [some _]) ct_204_6 (Nat.le_of_ble_eq_true rfl) (by decide) (by decide) rfl rfl (Nat.le_of_ble_eq_true rfl) ?_
    refine wi_gs0 ct_205_0 ?_
    refine wi_ifeq_f ct_205_3 ki_1 (by decide) ?_
    refine wi_aloadT_0 ct_205_6 ?_
    refine wi_gfs1 ct_205_7 (by decide) ?_
    refine wi_goto ct_205_10 ?_
    refine wi_iret ct_205_14 (by decide) (wk_i ?_)
    refine wi_ishr (z := 3) ct_204_9 (by decide) ?_
    refine wi_iret ct_204_10 rfl (wk_i ?_)
    refine wi_icge_f ct_48_7 ki_1 ki_3 (by decide) ?_
    refine wi_aload_0 ct_48_10 ?_
    refine wi_aloadT_1 ct_48_11 ?_
    refine wi_iload_2 ct_48_12 ?_
    refine wi_cvT1 (ls' := [some _, some _]) ct_48_13 (Nat.le_of_ble_eq_true rfl) (by decide) (by decide) rfl rfl (Nat.le_of_ble_eq_true rfl) ?_
    refine wi_aloadT_0 ct_206_0 ?_
    refine wi_cvT0 (ls' := [some _]) ct_206_1 (Nat.le_of_ble_eq_true rfl) (by decide) (by decide) rfl rfl (Nat.le_of_ble_eq_true rfl) ?_
    refine wi_gs0 ct_207_0 ?_
    refine wi_ifeq_f ct_207_3 ki_1 (by decide) ?_
    refine wi_aloadT_0 ct_207_6 ?_
    refine wi_gfs1 ct_207_7 (by decide) ?_
    refine wi_ifne_f ct_207_10 ki_0 (by decide) ?_
    refine wi_ic ct_207_13 kc_1 ?_
    refine wi_goto ct_207_14 ?_
    refine wi_iret ct_207_18 (by decide) (wk_i ?_)
    refine wi_ifeq_f ct_206_4 ki_1 (by decide) ?_
    refine wi_aloadT_0 ct_206_7 ?_
    refine wi_gfs0 ct_206_8 (by decide) ?_
    refine wi_iload_1 ct_206_11 ?_
    refine wi_cs2 (ls' := [some _, some _]) ct_206_12 (Nat.le_of_ble_eq_true rfl) rfl (Nat.le_of_ble_eq_true rfl) ?_
    refine wi_iload_1 ct_208_0 ?_
    refine wi_aloadT_0 ct_208_1 ?_
    refine wi_lenS (z := 3) ct_208_2 (by decide) (by decide) ?_
    refine wi_cs2 (ls' := [some _, some _]) ct_208_3 (Nat.le_of_ble_eq_true rfl) rfl (Nat.le_of_ble_eq_true rfl) ?_
    refine wi_iload_0 ct_209_0 ?_
    refine wi_iload_1 ct_209_1 ?_
    refine wi_gs1 ct_209_2 ?_
    refine wi_cs3 (ls' := [some _, some _, some _]) ct_209_5 (Nat.le_of_ble_eq_true rfl) rfl (Nat.le_of_ble_eq_true rfl) ?_
    refine wi_iload_0 ct_210_0 ?_
    refine wi_iflt_f ct_210_1 ki_1 (by decide) ?_
    refine wi_iload_0 ct_210_4 ?_
    refine wi_iload_1 ct_210_5 ?_
    refine wi_iclt_t ct_210_6 ki_1 ki_3 (by decide) ?_
    refine wi_iload_0 ct_210_16 ?_
    refine wi_iret ct_210_17 rfl (wk_i ?_)
    refine wi_pop ct_209_8 rfl ?_
    refine wi_ret ct_209_9 (wk_v ?_)
    refine wi_aloadT_0 ct_208_6 ?_
    refine wi_iload_1 ct_208_7 ?_
    refine wi_baldS (z := 114) ct_208_8 (by decide) (by decide) (by decide) ?_
    refine wi_ic ct_208_9 kc_255 ?_
    refine wi_iand (z := 114) ct_208_12 (by decide) ?_
    refine wi_i2c ct_208_13 (i_c16 ki_114 (by omega)) ?_
    refine wi_iret ct_208_14 (by decide) (wk_i ?_)
    refine wi_iret ct_206_15 (by decide) (wk_i ?_)
    refine wi_cv1 (ls' := [some _, some _]) ct_48_16 (Nat.le_of_ble_eq_true rfl) (by decide) (sT_17 hS) rfl (by decide) rfl rfl (Nat.le_of_ble_eq_true rfl) ?_
    refine wi_aload_0 ct_55_0 ?_
    refine wi_cv0 (ls' := [some _]) ct_55_1 (Nat.le_of_ble_eq_true rfl) (by decide) (sT_17 hS) rfl (by decide) rfl rfl (Nat.le_of_ble_eq_true rfl) ?_
    refine c_peek (p := p + 1) hS ((congrArg Int32.toInt up2_eq).trans ((i_add hp ki_1 (by omega)).trans (by omega))) ((congrArg Int32.toInt (up2_nj (by decide))).trans hl) (fun j hj => (congrArg Int32.toInt (up2_nq (by decide))).trans (hx j hj)) hn hxb (fun z3 hz3 => wk_i ?_)
    have hbz3 := pk_bd hxb (p := p + 1)
    refine wi_iload_1 ct_55_4 ?_
    refine wi_iceq ct_55_5 hz3 ki_114 (fun h4 => ?_) (fun h4 => ?_)
    · skip
      refine wi_aload_0 ct_55_10 ?_
      refine wi_dup ct_55_11 rfl ?_
      refine wi_gf (x := (fi 17 2 + 1)) ct_55_12 (sT_17 hS) rfl rfl up2_eq ?_
      refine wi_ic ct_55_15 kc_1 ?_
      refine wi_iadd ct_55_16 rfl ?_
      refine wi_pf ct_55_17 (sT_17 hS) rfl ?_
      refine wi_ic ct_55_20 kc_1 ?_
      refine wi_iret ct_55_21 (by decide) (wk_i ?_)
      refine wi_ifne_t ct_48_19 ki_1 (by decide) ?_
      refine wi_iinc_2 rfl (z := 2) ct_48_24 (by decide) ?_
      refine wi_goto ct_48_27 ?_
      refine wi_iload_2 ct_48_2 ?_
      refine wi_aloadT_1 ct_48_3 ?_
      refine wi_cvT0 (ls' := [some _]) ct_48_4 (Nat.le_of_ble_eq_true rfl) (by decide) (by decide) rfl rfl (Nat.le_of_ble_eq_true rfl) ?_
      refine wi_aloadT_0 ct_204_0 ?_
      refine wi_gfs0 ct_204_1 (by decide) ?_
      refine wi_lenS (z := 3) ct_204_4 (by decide) (by decide) ?_
      refine wi_aloadT_0 ct_204_5 ?_
      refine wi_cvT0 (ls' := [some _]) ct_204_6 (Nat.le_of_ble_eq_true rfl) (by decide) (by decide) rfl rfl (Nat.le_of_ble_eq_true rfl) ?_
      refine wi_gs0 ct_205_0 ?_
      refine wi_ifeq_f ct_205_3 ki_1 (by decide) ?_
      refine wi_aloadT_0 ct_205_6 ?_
      refine wi_gfs1 ct_205_7 (by decide) ?_
      refine wi_goto ct_205_10 ?_
      refine wi_iret ct_205_14 (by decide) (wk_i ?_)
      refine wi_ishr (z := 3) ct_204_9 (by decide) ?_
      refine wi_iret ct_204_10 rfl (wk_i ?_)
      refine wi_icge_f ct_48_7 ki_2 ki_3 (by decide) ?_
      refine wi_aload_0 ct_48_10 ?_
      refine wi_aloadT_1 ct_48_11 ?_
      refine wi_iload_2 ct_48_12 ?_
      refine wi_cvT1 (ls' := [some _, some _]) ct_48_13 (Nat.le_of_ble_eq_true rfl) (by decide) (by decide) rfl rfl (Nat.le_of_ble_eq_true rfl) ?_
      refine wi_aloadT_0 ct_206_0 ?_
      refine wi_cvT0 (ls' := [some _]) ct_206_1 (Nat.le_of_ble_eq_true rfl) (by decide) (by decide) rfl rfl (Nat.le_of_ble_eq_true rfl) ?_
      refine wi_gs0 ct_207_0 ?_
      refine wi_ifeq_f ct_207_3 ki_1 (by decide) ?_
      refine wi_aloadT_0 ct_207_6 ?_
      refine wi_gfs1 ct_207_7 (by decide) ?_
      refine wi_ifne_f ct_207_10 ki_0 (by decide) ?_
      refine wi_ic ct_207_13 kc_1 ?_
      refine wi_goto ct_207_14 ?_
      refine wi_iret ct_207_18 (by decide) (wk_i ?_)
      refine wi_ifeq_f ct_206_4 ki_1 (by decide) ?_
      refine wi_aloadT_0 ct_206_7 ?_
      refine wi_gfs0 ct_206_8 (by decide) ?_
      refine wi_iload_1 ct_206_11 ?_
      refine wi_cs2 (ls' := [some _, some _]) ct_206_12 (Nat.le_of_ble_eq_true rfl) rfl (Nat.le_of_ble_eq_true rfl) ?_
      refine wi_iload_1 ct_208_0 ?_
      refine wi_aloadT_0 ct_208_1 ?_
      refine wi_lenS (z := 3) ct_208_2 (by decide) (by decide) ?_
      refine wi_cs2 (ls' := [some _, some _]) ct_208_3 (Nat.le_of_ble_eq_true rfl) rfl (Nat.le_of_ble_eq_true rfl) ?_
      refine wi_iload_0 ct_209_0 ?_
      refine wi_iload_1 ct_209_1 ?_
      refine wi_gs1 ct_209_2 ?_
      refine wi_cs3 (ls' := [some _, some _, some _]) ct_209_5 (Nat.le_of_ble_eq_true rfl) rfl (Nat.le_of_ble_eq_true rfl) ?_
      refine wi_iload_0 ct_210_0 ?_
      refine wi_iflt_f ct_210_1 ki_2 (by decide) ?_
      refine wi_iload_0 ct_210_4 ?_
      refine wi_iload_1 ct_210_5 ?_
      refine wi_iclt_t ct_210_6 ki_2 ki_3 (by decide) ?_
      refine wi_iload_0 ct_210_16 ?_
      refine wi_iret ct_210_17 rfl (wk_i ?_)
      refine wi_pop ct_209_8 rfl ?_
      refine wi_ret ct_209_9 (wk_v ?_)
      refine wi_aloadT_0 ct_208_6 ?_
      refine wi_iload_1 ct_208_7 ?_
      refine wi_baldS (z := 121) ct_208_8 (by decide) (by decide) (by decide) ?_
      refine wi_ic ct_208_9 kc_255 ?_
      refine wi_iand (z := 121) ct_208_12 (by decide) ?_
      refine wi_i2c ct_208_13 (i_c16 ki_121 (by omega)) ?_
      refine wi_iret ct_208_14 (by decide) (wk_i ?_)
      refine wi_iret ct_206_15 (by decide) (wk_i ?_)
      refine wi_cv1 (ls' := [some _, some _]) ct_48_16 (Nat.le_of_ble_eq_true rfl) (by decide) (sT_17 hS) rfl (by decide) rfl rfl (Nat.le_of_ble_eq_true rfl) ?_
      refine wi_aload_0 ct_55_0 ?_
      refine wi_cv0 (ls' := [some _]) ct_55_1 (Nat.le_of_ble_eq_true rfl) (by decide) (sT_17 hS) rfl (by decide) rfl rfl (Nat.le_of_ble_eq_true rfl) ?_
      refine c_peek (p := p + 2) hS ((congrArg Int32.toInt up2_eq).trans ((i_add (i_add hp ki_1 (by omega)) ki_1 (by omega)).trans (by omega))) ((congrArg Int32.toInt (Eq.trans (up2_nj (by decide)) (up2_nj (by decide)))).trans hl) (fun j hj => (congrArg Int32.toInt (Eq.trans (up2_nq (by decide)) (up2_nq (by decide)))).trans (hx j hj)) hn hxb (fun z5 hz5 => wk_i ?_)
      have hbz5 := pk_bd hxb (p := p + 2)
      refine wi_iload_1 ct_55_4 ?_
      refine wi_iceq ct_55_5 hz5 ki_121 (fun h6 => ?_) (fun h6 => ?_)
      · skip
        refine wi_aload_0 ct_55_10 ?_
        refine wi_dup ct_55_11 rfl ?_
        refine wi_gf (x := ((fi 17 2 + 1) + 1)) ct_55_12 (sT_17 hS) rfl rfl up2_eq ?_
        refine wi_ic ct_55_15 kc_1 ?_
        refine wi_iadd ct_55_16 rfl ?_
        refine wi_pf ct_55_17 (sT_17 hS) rfl ?_
        refine wi_ic ct_55_20 kc_1 ?_
        refine wi_iret ct_55_21 (by decide) (wk_i ?_)
        refine wi_ifne_t ct_48_19 ki_1 (by decide) ?_
        refine wi_iinc_2 rfl (z := 3) ct_48_24 (by decide) ?_
        refine wi_goto ct_48_27 ?_
        refine wi_iload_2 ct_48_2 ?_
        refine wi_aloadT_1 ct_48_3 ?_
        refine wi_cvT0 (ls' := [some _]) ct_48_4 (Nat.le_of_ble_eq_true rfl) (by decide) (by decide) rfl rfl (Nat.le_of_ble_eq_true rfl) ?_
        refine wi_aloadT_0 ct_204_0 ?_
        refine wi_gfs0 ct_204_1 (by decide) ?_
        refine wi_lenS (z := 3) ct_204_4 (by decide) (by decide) ?_
        refine wi_aloadT_0 ct_204_5 ?_
        refine wi_cvT0 (ls' := [some _]) ct_204_6 (Nat.le_of_ble_eq_true rfl) (by decide) (by decide) rfl rfl (Nat.le_of_ble_eq_true rfl) ?_
        refine wi_gs0 ct_205_0 ?_
        refine wi_ifeq_f ct_205_3 ki_1 (by decide) ?_
        refine wi_aloadT_0 ct_205_6 ?_
        refine wi_gfs1 ct_205_7 (by decide) ?_
        refine wi_goto ct_205_10 ?_
        refine wi_iret ct_205_14 (by decide) (wk_i ?_)
        refine wi_ishr (z := 3) ct_204_9 (by decide) ?_
        refine wi_iret ct_204_10 rfl (wk_i ?_)
        refine wi_icge_t ct_48_7 ki_3 ki_3 (by decide) ?_
        refine wi_ic ct_48_30 kc_1 ?_
        refine wi_iret ct_48_31 (by decide) ?_
        have hr : rCs X n [100, 114, 121] p = (true, p + 3) := by
          exact ((rCs_t (c := 100) (p := p) (by omega)).trans ((rCs_t (c := 114) (p := p + 1) (by omega)).trans ((rCs_t (c := 121) (p := p + 2) (by omega)).trans rfl)))
        exact k1 (by rw [hr]) _ (by rw [hr]; exact (((PF.up (p := p + 1) ((i_add hp ki_1 (by omega)).trans (by omega))).trans (PF.up (p := p + 2) ((i_add (i_add hp ki_1 (by omega)) ki_1 (by omega)).trans (by omega)))).trans (PF.up (p := p + 3) ((i_add (i_add (i_add hp ki_1 (by omega)) ki_1 (by omega)) ki_1 (by omega)).trans (by omega)))))
      · skip
        refine wi_ic ct_55_8 kc_0 ?_
        refine wi_iret ct_55_9 (by decide) (wk_i ?_)
        refine wi_ifne_f ct_48_19 ki_0 (by decide) ?_
        refine wi_ic ct_48_22 kc_0 ?_
        refine wi_iret ct_48_23 (by decide) ?_
        have hr : rCs X n [100, 114, 121] p = (false, p + 2) := by
          exact ((rCs_t (c := 100) (p := p) (by omega)).trans ((rCs_t (c := 114) (p := p + 1) (by omega)).trans (rCs_f (c := 121) (p := p + 2) (by omega))))
        exact k2 (by rw [hr]) _ (by rw [hr]; exact ((PF.up (p := p + 1) ((i_add hp ki_1 (by omega)).trans (by omega))).trans (PF.up (p := p + 2) ((i_add (i_add hp ki_1 (by omega)) ki_1 (by omega)).trans (by omega)))))
    · skip
      refine wi_ic ct_55_8 kc_0 ?_
      refine wi_iret ct_55_9 (by decide) (wk_i ?_)
      refine wi_ifne_f ct_48_19 ki_0 (by decide) ?_
      refine wi_ic ct_48_22 kc_0 ?_
      refine wi_iret ct_48_23 (by decide) ?_
      have hr : rCs X n [100, 114, 121] p = (false, p + 1) := by
        exact ((rCs_t (c := 100) (p := p) (by omega)).trans (rCs_f (c := 114) (p := p + 1) (by omega)))
      exact k2 (by rw [hr]) _ (by rw [hr]; exact (PF.up (p := p + 1) ((i_add hp ki_1 (by omega)).trans (by omega))))
  · skip
    refine wi_ic ct_55_8 kc_0 ?_
    refine wi_iret ct_55_9 (by decide) (wk_i ?_)
    refine wi_ifne_f ct_48_19 ki_0 (by decide) ?_
    refine wi_ic ct_48_22 kc_0 ?_
    refine wi_iret ct_48_23 (by decide) ?_
    have hr : rCs X n [100, 114, 121] p = (false, p) := by
      exact (rCs_f (c := 100) (p := p) (by omega))
    exact k2 (by rw [hr]) _ (by rw [hr]; exact (PF.rfl hp))
theorem c_word3 {L n p : Nat} {d : Nat} {g : am_G} {fi : am_I} {fl : am_L} {P : Option Value → am_G → am_I → am_L → Prop} {X : Nat → Int} (hS : SF L g) (hp : (fi 17 2).toInt = (p : Int)) (hl : (fi 17 1).toInt = (n : Int)) (hx : ∀ j, j < n → (fi 18 j).toInt = X j) (hn : n ≤ 100) (hxb : ∀ j, j < n → 0 ≤ X j ∧ X j ≤ 127) (hp9 : p ≤ 900) (k1 : (rCs X n [99, 111, 105, 110] p).1 = true → ∀ fi2, PF fi fi2 (rCs X n [99, 111, 105, 110] p).2 → P (some (.int 1)) g fi2 fl) (k2 : (rCs X n [99, 111, 105, 110] p).1 = false → ∀ fi2, PF fi fi2 (rCs X n [99, 111, 105, 110] p).2 → P (some (.int 0)) g fi2 fl) : WP (d + 7) 48 0 [some (.ref 17), some (.retAddr 3), none] [] g fi fl P := by
  refine wi_ic ct_48_0 kc_0 ?_
  refine wi_istore_2 rfl ct_48_1 ?_
  refine wi_iload_2 ct_48_2 ?_
  refine wi_aloadT_1 ct_48_3 ?_
  refine wi_cvT0 (ls' := [some _]) ct_48_4 (Nat.le_of_ble_eq_true rfl) (by decide) (by decide) rfl rfl (Nat.le_of_ble_eq_true rfl) ?_
  refine wi_aloadT_0 ct_204_0 ?_
  refine wi_gfs0 ct_204_1 (by decide) ?_
  refine wi_lenS (z := 4) ct_204_4 (by decide) (by decide) ?_
  refine wi_aloadT_0 ct_204_5 ?_
  refine wi_cvT0 (ls' := [some _]) ct_204_6 (Nat.le_of_ble_eq_true rfl) (by decide) (by decide) rfl rfl (Nat.le_of_ble_eq_true rfl) ?_
  refine wi_gs0 ct_205_0 ?_
  refine wi_ifeq_f ct_205_3 ki_1 (by decide) ?_
  refine wi_aloadT_0 ct_205_6 ?_
  refine wi_gfs1 ct_205_7 (by decide) ?_
  refine wi_goto ct_205_10 ?_
  refine wi_iret ct_205_14 (by decide) (wk_i ?_)
  refine wi_ishr (z := 4) ct_204_9 (by decide) ?_
  refine wi_iret ct_204_10 rfl (wk_i ?_)
  refine wi_icge_f ct_48_7 ki_0 ki_4 (by decide) ?_
  refine wi_aload_0 ct_48_10 ?_
  refine wi_aloadT_1 ct_48_11 ?_
  refine wi_iload_2 ct_48_12 ?_
  refine wi_cvT1 (ls' := [some _, some _]) ct_48_13 (Nat.le_of_ble_eq_true rfl) (by decide) (by decide) rfl rfl (Nat.le_of_ble_eq_true rfl) ?_
  refine wi_aloadT_0 ct_206_0 ?_
  refine wi_cvT0 (ls' := [some _]) ct_206_1 (Nat.le_of_ble_eq_true rfl) (by decide) (by decide) rfl rfl (Nat.le_of_ble_eq_true rfl) ?_
  refine wi_gs0 ct_207_0 ?_
  refine wi_ifeq_f ct_207_3 ki_1 (by decide) ?_
  refine wi_aloadT_0 ct_207_6 ?_
  refine wi_gfs1 ct_207_7 (by decide) ?_
  refine wi_ifne_f ct_207_10 ki_0 (by decide) ?_
  refine wi_ic ct_207_13 kc_1 ?_
  refine wi_goto ct_207_14 ?_
  refine wi_iret ct_207_18 (by decide) (wk_i ?_)
  refine wi_ifeq_f ct_206_4 ki_1 (by decide) ?_
  refine wi_aloadT_0 ct_206_7 ?_
  refine wi_gfs0 ct_206_8 (by decide) ?_
  refine wi_iload_1 ct_206_11 ?_
  refine wi_cs2 (ls' := [some _, some _]) ct_206_12 (Nat.le_of_ble_eq_true rfl) rfl (Nat.le_of_ble_eq_true rfl) ?_
  refine wi_iload_1 ct_208_0 ?_
  refine wi_aloadT_0 ct_208_1 ?_
  refine wi_lenS (z := 4) ct_208_2 (by decide) (by decide) ?_
  refine wi_cs2 (ls' := [some _, some _]) ct_208_3 (Nat.le_of_ble_eq_true rfl) rfl (Nat.le_of_ble_eq_true rfl) ?_
  refine wi_iload_0 ct_209_0 ?_
  refine wi_iload_1 ct_209_1 ?_
  refine wi_gs1 ct_209_2 ?_
  refine wi_cs3 (ls' := [some _, some _, some _]) ct_209_5 (Nat.le_of_ble_eq_true rfl) rfl (Nat.le_of_ble_eq_true rfl) ?_
  refine wi_iload_0 ct_210_0 ?_
  refine wi_iflt_f ct_210_1 ki_0 (by decide) ?_
  refine wi_iload_0 ct_210_4 ?_
  refine wi_iload_1 ct_210_5 ?_
  refine wi_iclt_t ct_210_6 ki_0 ki_4 (by decide) ?_
  refine wi_iload_0 ct_210_16 ?_
  refine wi_iret ct_210_17 rfl (wk_i ?_)
  refine wi_pop ct_209_8 rfl ?_
  refine wi_ret ct_209_9 (wk_v ?_)
  refine wi_aloadT_0 ct_208_6 ?_
  refine wi_iload_1 ct_208_7 ?_
  refine wi_baldS (z := 99) ct_208_8 (by decide) (by decide) (by decide) ?_
  refine wi_ic ct_208_9 kc_255 ?_
  refine wi_iand (z := 99) ct_208_12 (by decide) ?_
  refine wi_i2c ct_208_13 (i_c16 ki_99 (by omega)) ?_
  refine wi_iret ct_208_14 (by decide) (wk_i ?_)
  refine wi_iret ct_206_15 (by decide) (wk_i ?_)
  refine wi_cv1 (ls' := [some _, some _]) ct_48_16 (Nat.le_of_ble_eq_true rfl) (by decide) (sT_17 hS) rfl (by decide) rfl rfl (Nat.le_of_ble_eq_true rfl) ?_
  refine wi_aload_0 ct_55_0 ?_
  refine wi_cv0 (ls' := [some _]) ct_55_1 (Nat.le_of_ble_eq_true rfl) (by decide) (sT_17 hS) rfl (by decide) rfl rfl (Nat.le_of_ble_eq_true rfl) ?_
  refine c_peek (p := p) hS hp hl hx hn hxb (fun z1 hz1 => wk_i ?_)
  have hbz1 := pk_bd hxb (p := p)
  refine wi_iload_1 ct_55_4 ?_
  refine wi_iceq ct_55_5 hz1 ki_99 (fun h2 => ?_) (fun h2 => ?_)
  · skip
    refine wi_aload_0 ct_55_10 ?_
    refine wi_dup ct_55_11 rfl ?_
    refine wi_gf (x := fi 17 2) ct_55_12 (sT_17 hS) rfl rfl rfl ?_
    refine wi_ic ct_55_15 kc_1 ?_
    refine wi_iadd ct_55_16 rfl ?_
    refine wi_pf ct_55_17 (sT_17 hS) rfl ?_
    refine wi_ic ct_55_20 kc_1 ?_
    refine wi_iret ct_55_21 (by decide) (wk_i ?_)
    refine wi_ifne_t ct_48_19 ki_1 (by decide) ?_
    refine wi_iinc_2 rfl (z := 1) ct_48_24 (by decide) ?_
    refine wi_goto ct_48_27 ?_
    refine wi_iload_2 ct_48_2 ?_
    refine wi_aloadT_1 ct_48_3 ?_
    refine wi_cvT0 (ls' := [some _]) ct_48_4 (Nat.le_of_ble_eq_true rfl) (by decide) (by decide) rfl rfl (Nat.le_of_ble_eq_true rfl) ?_
    refine wi_aloadT_0 ct_204_0 ?_
    refine wi_gfs0 ct_204_1 (by decide) ?_
    refine wi_lenS (z := 4) ct_204_4 (by decide) (by decide) ?_
    refine wi_aloadT_0 ct_204_5 ?_
    refine wi_cvT0 (ls' := [some _]) ct_204_6 (Nat.le_of_ble_eq_true rfl) (by decide) (by decide) rfl rfl (Nat.le_of_ble_eq_true rfl) ?_
    refine wi_gs0 ct_205_0 ?_
    refine wi_ifeq_f ct_205_3 ki_1 (by decide) ?_
    refine wi_aloadT_0 ct_205_6 ?_
    refine wi_gfs1 ct_205_7 (by decide) ?_
    refine wi_goto ct_205_10 ?_
    refine wi_iret ct_205_14 (by decide) (wk_i ?_)
    refine wi_ishr (z := 4) ct_204_9 (by decide) ?_
    refine wi_iret ct_204_10 rfl (wk_i ?_)
    refine wi_icge_f ct_48_7 ki_1 ki_4 (by decide) ?_
    refine wi_aload_0 ct_48_10 ?_
    refine wi_aloadT_1 ct_48_11 ?_
    refine wi_iload_2 ct_48_12 ?_
    refine wi_cvT1 (ls' := [some _, some _]) ct_48_13 (Nat.le_of_ble_eq_true rfl) (by decide) (by decide) rfl rfl (Nat.le_of_ble_eq_true rfl) ?_
    refine wi_aloadT_0 ct_206_0 ?_
    refine wi_cvT0 (ls' := [some _]) ct_206_1 (Nat.le_of_ble_eq_true rfl) (by decide) (by decide) rfl rfl (Nat.le_of_ble_eq_true rfl) ?_
    refine wi_gs0 ct_207_0 ?_
    refine wi_ifeq_f ct_207_3 ki_1 (by decide) ?_
    refine wi_aloadT_0 ct_207_6 ?_
    refine wi_gfs1 ct_207_7 (by decide) ?_
    refine wi_ifne_f ct_207_10 ki_0 (by decide) ?_
    refine wi_ic ct_207_13 kc_1 ?_
    refine wi_goto ct_207_14 ?_
    refine wi_iret ct_207_18 (by decide) (wk_i ?_)
    refine wi_ifeq_f ct_206_4 ki_1 (by decide) ?_
    refine wi_aloadT_0 ct_206_7 ?_
    refine wi_gfs0 ct_206_8 (by decide) ?_
    refine wi_iload_1 ct_206_11 ?_
    refine wi_cs2 (ls' := [some _, some _]) ct_206_12 (Nat.le_of_ble_eq_true rfl) rfl (Nat.le_of_ble_eq_true rfl) ?_
    refine wi_iload_1 ct_208_0 ?_
    refine wi_aloadT_0 ct_208_1 ?_
    refine wi_lenS (z := 4) ct_208_2 (by decide) (by decide) ?_
    refine wi_cs2 (ls' := [some _, some _]) ct_208_3 (Nat.le_of_ble_eq_true rfl) rfl (Nat.le_of_ble_eq_true rfl) ?_
    refine wi_iload_0 ct_209_0 ?_
    refine wi_iload_1 ct_209_1 ?_
    refine wi_gs1 ct_209_2 ?_
    refine wi_cs3 (ls' := [some _, some _, some _]) ct_209_5 (Nat.le_of_ble_eq_true rfl) rfl (Nat.le_of_ble_eq_true rfl) ?_
    refine wi_iload_0 ct_210_0 ?_
    refine wi_iflt_f ct_210_1 ki_1 (by decide) ?_
    refine wi_iload_0 ct_210_4 ?_
    refine wi_iload_1 ct_210_5 ?_
    refine wi_iclt_t ct_210_6 ki_1 ki_4 (by decide) ?_
    refine wi_iload_0 ct_210_16 ?_
    refine wi_iret ct_210_17 rfl (wk_i ?_)
    refine wi_pop ct_209_8 rfl ?_
    refine wi_ret ct_209_9 (wk_v ?_)
    refine wi_aloadT_0 ct_208_6 ?_
    refine wi_iload_1 ct_208_7 ?_
    refine wi_baldS (z := 111) ct_208_8 (by decide) (by decide) (by decide) ?_
    refine wi_ic ct_208_9 kc_255 ?_
    refine wi_iand (z := 111) ct_208_12 (by decide) ?_
    refine wi_i2c ct_208_13 (i_c16 ki_111 (by omega)) ?_
    refine wi_iret ct_208_14 (by decide) (wk_i ?_)
    refine wi_iret ct_206_15 (by decide) (wk_i ?_)
    refine wi_cv1 (ls' := [some _, some _]) ct_48_16 (Nat.le_of_ble_eq_true rfl) (by decide) (sT_17 hS) rfl (by decide) rfl rfl (Nat.le_of_ble_eq_true rfl) ?_
    refine wi_aload_0 ct_55_0 ?_
    refine wi_cv0 (ls' := [some _]) ct_55_1 (Nat.le_of_ble_eq_true rfl) (by decide) (sT_17 hS) rfl (by decide) rfl rfl (Nat.le_of_ble_eq_true rfl) ?_
    refine c_peek (p := p + 1) hS ((congrArg Int32.toInt up2_eq).trans ((i_add hp ki_1 (by omega)).trans (by omega))) ((congrArg Int32.toInt (up2_nj (by decide))).trans hl) (fun j hj => (congrArg Int32.toInt (up2_nq (by decide))).trans (hx j hj)) hn hxb (fun z3 hz3 => wk_i ?_)
    have hbz3 := pk_bd hxb (p := p + 1)
    refine wi_iload_1 ct_55_4 ?_
    refine wi_iceq ct_55_5 hz3 ki_111 (fun h4 => ?_) (fun h4 => ?_)
    · skip
      refine wi_aload_0 ct_55_10 ?_
      refine wi_dup ct_55_11 rfl ?_
      refine wi_gf (x := (fi 17 2 + 1)) ct_55_12 (sT_17 hS) rfl rfl up2_eq ?_
      refine wi_ic ct_55_15 kc_1 ?_
      refine wi_iadd ct_55_16 rfl ?_
      refine wi_pf ct_55_17 (sT_17 hS) rfl ?_
      refine wi_ic ct_55_20 kc_1 ?_
      refine wi_iret ct_55_21 (by decide) (wk_i ?_)
      refine wi_ifne_t ct_48_19 ki_1 (by decide) ?_
      refine wi_iinc_2 rfl (z := 2) ct_48_24 (by decide) ?_
      refine wi_goto ct_48_27 ?_
      refine wi_iload_2 ct_48_2 ?_
      refine wi_aloadT_1 ct_48_3 ?_
      refine wi_cvT0 (ls' := [some _]) ct_48_4 (Nat.le_of_ble_eq_true rfl) (by decide) (by decide) rfl rfl (Nat.le_of_ble_eq_true rfl) ?_
      refine wi_aloadT_0 ct_204_0 ?_
      refine wi_gfs0 ct_204_1 (by decide) ?_
      refine wi_lenS (z := 4) ct_204_4 (by decide) (by decide) ?_
      refine wi_aloadT_0 ct_204_5 ?_
      refine wi_cvT0 (ls' := [some _]) ct_204_6 (Nat.le_of_ble_eq_true rfl) (by decide) (by decide) rfl rfl (Nat.le_of_ble_eq_true rfl) ?_
      refine wi_gs0 ct_205_0 ?_
      refine wi_ifeq_f ct_205_3 ki_1 (by decide) ?_
      refine wi_aloadT_0 ct_205_6 ?_
      refine wi_gfs1 ct_205_7 (by decide) ?_
      refine wi_goto ct_205_10 ?_
      refine wi_iret ct_205_14 (by decide) (wk_i ?_)
      refine wi_ishr (z := 4) ct_204_9 (by decide) ?_
      refine wi_iret ct_204_10 rfl (wk_i ?_)
      refine wi_icge_f ct_48_7 ki_2 ki_4 (by decide) ?_
      refine wi_aload_0 ct_48_10 ?_
      refine wi_aloadT_1 ct_48_11 ?_
      refine wi_iload_2 ct_48_12 ?_
      refine wi_cvT1 (ls' := [some _, some _]) ct_48_13 (Nat.le_of_ble_eq_true rfl) (by decide) (by decide) rfl rfl (Nat.le_of_ble_eq_true rfl) ?_
      refine wi_aloadT_0 ct_206_0 ?_
      refine wi_cvT0 (ls' := [some _]) ct_206_1 (Nat.le_of_ble_eq_true rfl) (by decide) (by decide) rfl rfl (Nat.le_of_ble_eq_true rfl) ?_
      refine wi_gs0 ct_207_0 ?_
      refine wi_ifeq_f ct_207_3 ki_1 (by decide) ?_
      refine wi_aloadT_0 ct_207_6 ?_
      refine wi_gfs1 ct_207_7 (by decide) ?_
      refine wi_ifne_f ct_207_10 ki_0 (by decide) ?_
      refine wi_ic ct_207_13 kc_1 ?_
      refine wi_goto ct_207_14 ?_
      refine wi_iret ct_207_18 (by decide) (wk_i ?_)
      refine wi_ifeq_f ct_206_4 ki_1 (by decide) ?_
      refine wi_aloadT_0 ct_206_7 ?_
      refine wi_gfs0 ct_206_8 (by decide) ?_
      refine wi_iload_1 ct_206_11 ?_
      refine wi_cs2 (ls' := [some _, some _]) ct_206_12 (Nat.le_of_ble_eq_true rfl) rfl (Nat.le_of_ble_eq_true rfl) ?_
      refine wi_iload_1 ct_208_0 ?_
      refine wi_aloadT_0 ct_208_1 ?_
      refine wi_lenS (z := 4) ct_208_2 (by decide) (by decide) ?_
      refine wi_cs2 (ls' := [some _, some _]) ct_208_3 (Nat.le_of_ble_eq_true rfl) rfl (Nat.le_of_ble_eq_true rfl) ?_
      refine wi_iload_0 ct_209_0 ?_
      refine wi_iload_1 ct_209_1 ?_
      refine wi_gs1 ct_209_2 ?_
      refine wi_cs3 (ls' := [some _, some _, some _]) ct_209_5 (Nat.le_of_ble_eq_true rfl) rfl (Nat.le_of_ble_eq_true rfl) ?_
      refine wi_iload_0 ct_210_0 ?_
      refine wi_iflt_f ct_210_1 ki_2 (by decide) ?_
      refine wi_iload_0 ct_210_4 ?_
      refine wi_iload_1 ct_210_5 ?_
      refine wi_iclt_t ct_210_6 ki_2 ki_4 (by decide) ?_
      refine wi_iload_0 ct_210_16 ?_
      refine wi_iret ct_210_17 rfl (wk_i ?_)
      refine wi_pop ct_209_8 rfl ?_
      refine wi_ret ct_209_9 (wk_v ?_)
      refine wi_aloadT_0 ct_208_6 ?_
      refine wi_iload_1 ct_208_7 ?_
      refine wi_baldS (z := 105) ct_208_8 (by decide) (by decide) (by decide) ?_
      refine wi_ic ct_208_9 kc_255 ?_
      refine wi_iand (z := 105) ct_208_12 (by decide) ?_
      refine wi_i2c ct_208_13 (i_c16 ki_105 (by omega)) ?_
      refine wi_iret ct_208_14 (by decide) (wk_i ?_)
      refine wi_iret ct_206_15 (by decide) (wk_i ?_)
      refine wi_cv1 (ls' := [some _, some _]) ct_48_16 (Nat.le_of_ble_eq_true rfl) (by decide) (sT_17 hS) rfl (by decide) rfl rfl (Nat.le_of_ble_eq_true rfl) ?_
      refine wi_aload_0 ct_55_0 ?_
      refine wi_cv0 (ls' := [some _]) ct_55_1 (Nat.le_of_ble_eq_true rfl) (by decide) (sT_17 hS) rfl (by decide) rfl rfl (Nat.le_of_ble_eq_true rfl) ?_
      refine c_peek (p := p + 2) hS ((congrArg Int32.toInt up2_eq).trans ((i_add (i_add hp ki_1 (by omega)) ki_1 (by omega)).trans (by omega))) ((congrArg Int32.toInt (Eq.trans (up2_nj (by decide)) (up2_nj (by decide)))).trans hl) (fun j hj => (congrArg Int32.toInt (Eq.trans (up2_nq (by decide)) (up2_nq (by decide)))).trans (hx j hj)) hn hxb (fun z5 hz5 => wk_i ?_)
      have hbz5 := pk_bd hxb (p := p + 2)
      refine wi_iload_1 ct_55_4 ?_
      refine wi_iceq ct_55_5 hz5 ki_105 (fun h6 => ?_) (fun h6 => ?_)
      · skip
        refine wi_aload_0 ct_55_10 ?_
        refine wi_dup ct_55_11 rfl ?_
        refine wi_gf (x := ((fi 17 2 + 1) + 1)) ct_55_12 (sT_17 hS) rfl rfl up2_eq ?_
        refine wi_ic ct_55_15 kc_1 ?_
        refine wi_iadd ct_55_16 rfl ?_
        refine wi_pf ct_55_17 (sT_17 hS) rfl ?_
        refine wi_ic ct_55_20 kc_1 ?_
        refine wi_iret ct_55_21 (by decide) (wk_i ?_)
        refine wi_ifne_t ct_48_19 ki_1 (by decide) ?_
        refine wi_iinc_2 rfl (z := 3) ct_48_24 (by decide) ?_
        refine wi_goto ct_48_27 ?_
        refine wi_iload_2 ct_48_2 ?_
        refine wi_aloadT_1 ct_48_3 ?_
        refine wi_cvT0 (ls' := [some _]) ct_48_4 (Nat.le_of_ble_eq_true rfl) (by decide) (by decide) rfl rfl (Nat.le_of_ble_eq_true rfl) ?_
        refine wi_aloadT_0 ct_204_0 ?_
        refine wi_gfs0 ct_204_1 (by decide) ?_
        refine wi_lenS (z := 4) ct_204_4 (by decide) (by decide) ?_
        refine wi_aloadT_0 ct_204_5 ?_
        refine wi_cvT0 (ls' := [some _]) ct_204_6 (Nat.le_of_ble_eq_true rfl) (by decide) (by decide) rfl rfl (Nat.le_of_ble_eq_true rfl) ?_
        refine wi_gs0 ct_205_0 ?_
        refine wi_ifeq_f ct_205_3 ki_1 (by decide) ?_
        refine wi_aloadT_0 ct_205_6 ?_
        refine wi_gfs1 ct_205_7 (by decide) ?_
        refine wi_goto ct_205_10 ?_
        refine wi_iret ct_205_14 (by decide) (wk_i ?_)
        refine wi_ishr (z := 4) ct_204_9 (by decide) ?_
        refine wi_iret ct_204_10 rfl (wk_i ?_)
        refine wi_icge_f ct_48_7 ki_3 ki_4 (by decide) ?_
        refine wi_aload_0 ct_48_10 ?_
        refine wi_aloadT_1 ct_48_11 ?_
        refine wi_iload_2 ct_48_12 ?_
        refine wi_cvT1 (ls' := [some _, some _]) ct_48_13 (Nat.le_of_ble_eq_true rfl) (by decide) (by decide) rfl rfl (Nat.le_of_ble_eq_true rfl) ?_
        refine wi_aloadT_0 ct_206_0 ?_
        refine wi_cvT0 (ls' := [some _]) ct_206_1 (Nat.le_of_ble_eq_true rfl) (by decide) (by decide) rfl rfl (Nat.le_of_ble_eq_true rfl) ?_
        refine wi_gs0 ct_207_0 ?_
        refine wi_ifeq_f ct_207_3 ki_1 (by decide) ?_
        refine wi_aloadT_0 ct_207_6 ?_
        refine wi_gfs1 ct_207_7 (by decide) ?_
        refine wi_ifne_f ct_207_10 ki_0 (by decide) ?_
        refine wi_ic ct_207_13 kc_1 ?_
        refine wi_goto ct_207_14 ?_
        refine wi_iret ct_207_18 (by decide) (wk_i ?_)
        refine wi_ifeq_f ct_206_4 ki_1 (by decide) ?_
        refine wi_aloadT_0 ct_206_7 ?_
        refine wi_gfs0 ct_206_8 (by decide) ?_
        refine wi_iload_1 ct_206_11 ?_
        refine wi_cs2 (ls' := [some _, some _]) ct_206_12 (Nat.le_of_ble_eq_true rfl) rfl (Nat.le_of_ble_eq_true rfl) ?_
        refine wi_iload_1 ct_208_0 ?_
        refine wi_aloadT_0 ct_208_1 ?_
        refine wi_lenS (z := 4) ct_208_2 (by decide) (by decide) ?_
        refine wi_cs2 (ls' := [some _, some _]) ct_208_3 (Nat.le_of_ble_eq_true rfl) rfl (Nat.le_of_ble_eq_true rfl) ?_
        refine wi_iload_0 ct_209_0 ?_
        refine wi_iload_1 ct_209_1 ?_
        refine wi_gs1 ct_209_2 ?_
        refine wi_cs3 (ls' := [some _, some _, some _]) ct_209_5 (Nat.le_of_ble_eq_true rfl) rfl (Nat.le_of_ble_eq_true rfl) ?_
        refine wi_iload_0 ct_210_0 ?_
        refine wi_iflt_f ct_210_1 ki_3 (by decide) ?_
        refine wi_iload_0 ct_210_4 ?_
        refine wi_iload_1 ct_210_5 ?_
        refine wi_iclt_t ct_210_6 ki_3 ki_4 (by decide) ?_
        refine wi_iload_0 ct_210_16 ?_
        refine wi_iret ct_210_17 rfl (wk_i ?_)
        refine wi_pop ct_209_8 rfl ?_
        refine wi_ret ct_209_9 (wk_v ?_)
        refine wi_aloadT_0 ct_208_6 ?_
        refine wi_iload_1 ct_208_7 ?_
        refine wi_baldS (z := 110) ct_208_8 (by decide) (by decide) (by decide) ?_
        refine wi_ic ct_208_9 kc_255 ?_
        refine wi_iand (z := 110) ct_208_12 (by decide) ?_
        refine wi_i2c ct_208_13 (i_c16 ki_110 (by omega)) ?_
        refine wi_iret ct_208_14 (by decide) (wk_i ?_)
        refine wi_iret ct_206_15 (by decide) (wk_i ?_)
        refine wi_cv1 (ls' := [some _, some _]) ct_48_16 (Nat.le_of_ble_eq_true rfl) (by decide) (sT_17 hS) rfl (by decide) rfl rfl (Nat.le_of_ble_eq_true rfl) ?_
        refine wi_aload_0 ct_55_0 ?_
        refine wi_cv0 (ls' := [some _]) ct_55_1 (Nat.le_of_ble_eq_true rfl) (by decide) (sT_17 hS) rfl (by decide) rfl rfl (Nat.le_of_ble_eq_true rfl) ?_
        refine c_peek (p := p + 3) hS ((congrArg Int32.toInt up2_eq).trans ((i_add (i_add (i_add hp ki_1 (by omega)) ki_1 (by omega)) ki_1 (by omega)).trans (by omega))) ((congrArg Int32.toInt (Eq.trans (up2_nj (by decide)) (Eq.trans (up2_nj (by decide)) (up2_nj (by decide))))).trans hl) (fun j hj => (congrArg Int32.toInt (Eq.trans (up2_nq (by decide)) (Eq.trans (up2_nq (by decide)) (up2_nq (by decide))))).trans (hx j hj)) hn hxb (fun z7 hz7 => wk_i ?_)
        have hbz7 := pk_bd hxb (p := p + 3)
        refine wi_iload_1 ct_55_4 ?_
        refine wi_iceq ct_55_5 hz7 ki_110 (fun h8 => ?_) (fun h8 => ?_)
        · skip
          refine wi_aload_0 ct_55_10 ?_
          refine wi_dup ct_55_11 rfl ?_
          refine wi_gf (x := (((fi 17 2 + 1) + 1) + 1)) ct_55_12 (sT_17 hS) rfl rfl up2_eq ?_
          refine wi_ic ct_55_15 kc_1 ?_
          refine wi_iadd ct_55_16 rfl ?_
          refine wi_pf ct_55_17 (sT_17 hS) rfl ?_
          refine wi_ic ct_55_20 kc_1 ?_
          refine wi_iret ct_55_21 (by decide) (wk_i ?_)
          refine wi_ifne_t ct_48_19 ki_1 (by decide) ?_
          refine wi_iinc_2 rfl (z := 4) ct_48_24 (by decide) ?_
          refine wi_goto ct_48_27 ?_
          refine wi_iload_2 ct_48_2 ?_
          refine wi_aloadT_1 ct_48_3 ?_
          refine wi_cvT0 (ls' := [some _]) ct_48_4 (Nat.le_of_ble_eq_true rfl) (by decide) (by decide) rfl rfl (Nat.le_of_ble_eq_true rfl) ?_
          refine wi_aloadT_0 ct_204_0 ?_
          refine wi_gfs0 ct_204_1 (by decide) ?_
          refine wi_lenS (z := 4) ct_204_4 (by decide) (by decide) ?_
          refine wi_aloadT_0 ct_204_5 ?_
          refine wi_cvT0 (ls' := [some _]) ct_204_6 (Nat.le_of_ble_eq_true rfl) (by decide) (by decide) rfl rfl (Nat.le_of_ble_eq_true rfl) ?_
          refine wi_gs0 ct_205_0 ?_
          refine wi_ifeq_f ct_205_3 ki_1 (by decide) ?_
          refine wi_aloadT_0 ct_205_6 ?_
          refine wi_gfs1 ct_205_7 (by decide) ?_
          refine wi_goto ct_205_10 ?_
          refine wi_iret ct_205_14 (by decide) (wk_i ?_)
          refine wi_ishr (z := 4) ct_204_9 (by decide) ?_
          refine wi_iret ct_204_10 rfl (wk_i ?_)
          refine wi_icge_t ct_48_7 ki_4 ki_4 (by decide) ?_
          refine wi_ic ct_48_30 kc_1 ?_
          refine wi_iret ct_48_31 (by decide) ?_
          have hr : rCs X n [99, 111, 105, 110] p = (true, p + 4) := by
            exact ((rCs_t (c := 99) (p := p) (by omega)).trans ((rCs_t (c := 111) (p := p + 1) (by omega)).trans ((rCs_t (c := 105) (p := p + 2) (by omega)).trans ((rCs_t (c := 110) (p := p + 3) (by omega)).trans rfl))))
          exact k1 (by rw [hr]) _ (by rw [hr]; exact ((((PF.up (p := p + 1) ((i_add hp ki_1 (by omega)).trans (by omega))).trans (PF.up (p := p + 2) ((i_add (i_add hp ki_1 (by omega)) ki_1 (by omega)).trans (by omega)))).trans (PF.up (p := p + 3) ((i_add (i_add (i_add hp ki_1 (by omega)) ki_1 (by omega)) ki_1 (by omega)).trans (by omega)))).trans (PF.up (p := p + 4) ((i_add (i_add (i_add (i_add hp ki_1 (by omega)) ki_1 (by omega)) ki_1 (by omega)) ki_1 (by omega)).trans (by omega)))))
        · skip
          refine wi_ic ct_55_8 kc_0 ?_
          refine wi_iret ct_55_9 (by decide) (wk_i ?_)
          refine wi_ifne_f ct_48_19 ki_0 (by decide) ?_
          refine wi_ic ct_48_22 kc_0 ?_
          refine wi_iret ct_48_23 (by decide) ?_
          have hr : rCs X n [99, 111, 105, 110] p = (false, p + 3) := by
            exact ((rCs_t (c := 99) (p := p) (by omega)).trans ((rCs_t (c := 111) (p := p + 1) (by omega)).trans ((rCs_t (c := 105) (p := p + 2) (by omega)).trans (rCs_f (c := 110) (p := p + 3) (by omega)))))
          exact k2 (by rw [hr]) _ (by rw [hr]; exact (((PF.up (p := p + 1) ((i_add hp ki_1 (by omega)).trans (by omega))).trans (PF.up (p := p + 2) ((i_add (i_add hp ki_1 (by omega)) ki_1 (by omega)).trans (by omega)))).trans (PF.up (p := p + 3) ((i_add (i_add (i_add hp ki_1 (by omega)) ki_1 (by omega)) ki_1 (by omega)).trans (by omega)))))
      · skip
        refine wi_ic ct_55_8 kc_0 ?_
        refine wi_iret ct_55_9 (by decide) (wk_i ?_)
        refine wi_ifne_f ct_48_19 ki_0 (by decide) ?_
        refine wi_ic ct_48_22 kc_0 ?_
        refine wi_iret ct_48_23 (by decide) ?_
        have hr : rCs X n [99, 111, 105, 110] p = (false, p + 2) := by
          exact ((rCs_t (c := 99) (p := p) (by omega)).trans ((rCs_t (c := 111) (p := p + 1) (by omega)).trans (rCs_f (c := 105) (p := p + 2) (by omega))))
        exact k2 (by rw [hr]) _ (by rw [hr]; exact ((PF.up (p := p + 1) ((i_add hp ki_1 (by omega)).trans (by omega))).trans (PF.up (p := p + 2) ((i_add (i_add hp ki_1 (by omega)) ki_1 (by omega)).trans (by omega)))))
    · skip
      refine wi_ic ct_55_8 kc_0 ?_
      refine wi_iret ct_55_9 (by decide) (wk_i ?_)
      refine wi_ifne_f ct_48_19 ki_0 (by decide) ?_
      refine wi_ic ct_48_22 kc_0 ?_
      refine wi_iret ct_48_23 (by decide) ?_
      have hr : rCs X n [99, 111, 105, 110] p = (false, p + 1) := by
        exact ((rCs_t (c := 99) (p := p) (by omega)).trans (rCs_f (c := 111) (p := p + 1) (by omega)))
      exact k2 (by rw [hr]) _ (by rw [hr]; exact (PF.up (p := p + 1) ((i_add hp ki_1 (by omega)).trans (by omega))))
  · skip
    refine wi_ic ct_55_8 kc_0 ?_
    refine wi_iret ct_55_9 (by decide) (wk_i ?_)
    refine wi_ifne_f ct_48_19 ki_0 (by decide) ?_
    refine wi_ic ct_48_22 kc_0 ?_
    refine wi_iret ct_48_23 (by decide) ?_
    have hr : rCs X n [99, 111, 105, 110] p = (false, p) := by
      exact (rCs_f (c := 99) (p := p) (by omega))
    exact k2 (by rw [hr]) _ (by rw [hr]; exact (PF.rfl hp))
theorem c_add {L n : Nat} {g : am_G} {fl : am_L} {q a0 a1 a2 a4 a5 a6 : Nat} {fi0 : am_I} {X : Nat → Int} {d p : Nat} {P : Option Value → am_G → am_I → am_L → Prop} {fi : am_I} {ts : List tk_T} {t : tk_T} {x y z : Int32} (hT : TXC L g fi0 q a0 a1 a2 a4 a5 a6 X n) (hs : CS q a4 a5 a6 fi0 fi p ts) (h100 : ts.length < 100) (hx : x.toInt = (t.1 : Int)) (hy : y.toInt = (t.2.1 : Int)) (hz : z.toInt = (t.2.2 : Int)) (kk : ∀ fi2, CS q a4 a5 a6 fi0 fi2 p (ts ++ [t]) → P none g fi2 fl) : WP d 32 0 [some (.ref q), some (.int x), some (.int y), some (.int z)] [] g fi fl P := by
  obtain ⟨hS, hsp, ⟨d72, d724, d725, d726⟩, ⟨nq4, nq5, nq6, n45, n46, n56⟩, hl0, hx0, hn, hxb⟩ := id hT
  obtain ⟨p0, ⟨r0, r1, r2, r4, r5, r6⟩, ⟨t0, t1, t2, t4, t5, t6⟩, ⟨l0, l1, l2, l4, l5, l6⟩⟩ := id hsp
  obtain ⟨h1, h2, h3, h4a, h4b, h4c⟩ := hs
  obtain ⟨M, hM⟩ : ∃ M, ts.length = M := ⟨_, rfl⟩
  rw [hM] at h2 h100
  refine wi_aload_0 ct_32_0 ?_
  refine wi_gf (x := fi q 7) ct_32_1 p0 rfl rfl rfl ?_
  refine wi_aload_0 ct_32_4 ?_
  refine wi_gfr ct_32_5 p0 rfl r4 ?_
  refine wi_len (z := 100) ct_32_8 t4 (by decide) l4 (by decide) ?_
  refine wi_iclt_t ct_32_9 h2 ki_100 (by omega) ?_
  refine wi_aload_0 ct_32_13 ?_
  refine wi_gfr ct_32_14 p0 rfl r4 ?_
  refine wi_aload_0 ct_32_17 ?_
  refine wi_gf (x := fi q 7) ct_32_18 p0 rfl rfl rfl ?_
  refine wi_iload_1 ct_32_21 ?_
  refine wi_iast ct_32_22 t4 l4 (i_in h2 (by omega)) (i_cl (k := M) h2 (by omega)) ?_
  refine wi_aload_0 ct_32_23 ?_
  refine wi_gfr ct_32_24 p0 rfl r5 ?_
  refine wi_aload_0 ct_32_27 ?_
  refine wi_gf (x := fi q 7) ct_32_28 p0 rfl rfl (up2_nq nq4) ?_
  refine wi_iload_2 ct_32_31 ?_
  refine wi_iast ct_32_32 t5 l5 (i_in h2 (by omega)) (i_cl (k := M) h2 (by omega)) ?_
  refine wi_aload_0 ct_32_33 ?_
  refine wi_gfr ct_32_34 p0 rfl r6 ?_
  refine wi_aload_0 ct_32_37 ?_
  refine wi_gf (x := fi q 7) ct_32_38 p0 rfl rfl (Eq.trans (up2_nq nq5) (up2_nq nq4)) ?_
  refine wi_iload_3 ct_32_41 ?_
  refine wi_iast ct_32_42 t6 l6 (i_in h2 (by omega)) (i_cl (k := M) h2 (by omega)) ?_
  refine wi_aload_0 ct_32_43 ?_
  refine wi_dup ct_32_44 rfl ?_
  refine wi_gf (x := fi q 7) ct_32_45 p0 rfl rfl (Eq.trans (up2_nq nq6) (Eq.trans (up2_nq nq5) (up2_nq nq4))) ?_
  refine wi_ic ct_32_48 kc_1 ?_
  refine wi_iadd ct_32_49 rfl ?_
  refine wi_pf ct_32_50 p0 rfl ?_
  refine wi_ret ct_32_53 ?_
  refine kk _ ⟨(congrArg Int32.toInt (Eq.trans (up2_nq (by omega)) (Eq.trans (up2_nq (by omega)) (Eq.trans (up2_nq (by omega)) (up2_nq (by omega)))))).trans h1, ?_, ?_, fun x e1 e2 e3 e4 e5 => ?_, fun j hj => ?_, fun j hj => ?_⟩
  · refine (congrArg Int32.toInt up2_eq).trans ((i_add h2 ki_1 (by omega)).trans ?_)
    simp only [List.length_append, List.length_cons, List.length_nil, hM]
    omega
  · refine TKS.add h3 (fun j hj => (Eq.trans (up2_nq nq4.symm) (Eq.trans (up2_nq n46) (Eq.trans (up2_nq n45) (up2_nj (hM ▸ hj)))))) (fun j hj => (Eq.trans (up2_nq nq5.symm) (Eq.trans (up2_nq n56) (Eq.trans (up2_nj (hM ▸ hj)) (up2_nq n45.symm))))) (fun j hj => (Eq.trans (up2_nq nq6.symm) (Eq.trans (up2_nj (hM ▸ hj)) (Eq.trans (up2_nq n56.symm) (up2_nq n46.symm))))) ?_ ?_ ?_
    · rw [hM]
      exact (congrArg Int32.toInt (Eq.trans (up2_nq nq4.symm) (Eq.trans (up2_nq n46) (Eq.trans (up2_nq n45) up2_eq)))).trans hx
    · rw [hM]
      exact (congrArg Int32.toInt (Eq.trans (up2_nq nq5.symm) (Eq.trans (up2_nq n56) up2_eq))).trans hy
    · rw [hM]
      exact (congrArg Int32.toInt (Eq.trans (up2_nq nq6.symm) up2_eq)).trans hz
  · exact (Eq.trans (funext fun _ => up2_nq e2) (Eq.trans (funext fun _ => up2_nq e5) (Eq.trans (funext fun _ => up2_nq e4) (Eq.trans (funext fun _ => up2_nq e3) (h4a x e1 e2 e3 e4 e5)))))
  · exact (Eq.trans (up2_nq (by omega)) (Eq.trans (up2_nq (by omega)) (Eq.trans (up2_nq (by omega)) (Eq.trans (up2_nq (by omega)) (h4b j hj)))))
  · exact (Eq.trans (up2_nj hj) (Eq.trans (up2_nq nq6) (Eq.trans (up2_nq nq5) (Eq.trans (up2_nq nq4) (h4c j hj)))))
