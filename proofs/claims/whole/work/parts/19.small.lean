theorem c_within {d : Nat} {g : am_G} {fi : am_I} {fl : am_L} {P : Option Value → am_G → am_I → am_L → Prop} {n lo hi : Int32} {N A B : Int} (hn : n.toInt = N) (hlo : lo.toInt = A) (hhi : hi.toInt = B) (k1 : A ≤ N ∧ N ≤ B → P (some (.int 1)) g fi fl) (k2 : (N < A ∨ B < N) → P (some (.int 0)) g fi fl) : WP d 103 0 [some (.int (n)), some (.int (lo)), some (.int (hi))] [] g fi fl P := by
  refine wi_iload_0 ct_103_0 ?_
  refine wi_iload_1 ct_103_1 ?_
  refine wi_iclt ct_103_2 hn hlo (fun h1 => ?_) (fun h1 => ?_)
  · skip
    refine wi_ic ct_103_14 kc_0 ?_
    refine wi_iret ct_103_15 (by decide) ?_
    exact k2 (by omega)
  · skip
    refine wi_iload_0 ct_103_5 ?_
    refine wi_iload_2 ct_103_6 ?_
    refine wi_icgt ct_103_7 hn hhi (fun h2 => ?_) (fun h2 => ?_)
    · skip
      refine wi_ic ct_103_14 kc_0 ?_
      refine wi_iret ct_103_15 (by decide) ?_
      exact k2 (by omega)
    · skip
      refine wi_ic ct_103_10 kc_1 ?_
      refine wi_goto ct_103_11 ?_
      refine wi_iret ct_103_15 (by decide) ?_
      exact k1 (by omega)
theorem c_in {d : Nat} {g : am_G} {fi : am_I} {fl : am_L} {P : Option Value → am_G → am_I → am_L → Prop} {n lo hi : Int32} {q : Nat} {N A B : Int} (hn : n.toInt = N) (hlo : lo.toInt = A) (hhi : hi.toInt = B) (k1 : A ≤ N ∧ N ≤ B → P (some (.int 1)) g fi fl) (k2 : (N < A ∨ B < N) → P (some (.int 0)) g fi fl) : WP d 119 0 [some (.ref q), some (.int (n)), some (.int (lo)), some (.int (hi))] [] g fi fl P := by
  refine wi_iload_1 ct_119_0 ?_
  refine wi_iload_2 ct_119_1 ?_
  refine wi_iclt ct_119_2 hn hlo (fun h1 => ?_) (fun h1 => ?_)
  · skip
    refine wi_ic ct_119_14 kc_0 ?_
    refine wi_iret ct_119_15 (by decide) ?_
    exact k2 (by omega)
  · skip
    refine wi_iload_1 ct_119_5 ?_
    refine wi_iload_3 ct_119_6 ?_
    refine wi_icgt ct_119_7 hn hhi (fun h2 => ?_) (fun h2 => ?_)
    · skip
      refine wi_ic ct_119_14 kc_0 ?_
      refine wi_iret ct_119_15 (by decide) ?_
      exact k2 (by omega)
    · skip
      refine wi_ic ct_119_10 kc_1 ?_
      refine wi_goto ct_119_11 ?_
      refine wi_iret ct_119_15 (by decide) ?_
      exact k1 (by omega)
theorem c_max {d : Nat} {g : am_G} {fi : am_I} {fl : am_L} {P : Option Value → am_G → am_I → am_L → Prop} {x y : Int32} {X Y : Int} (hx : x.toInt = X) (hy : y.toInt = Y) (k : ∀ z : Int32, z.toInt = max X Y → P (some (.int z)) g fi fl) : WP d 201 0 [some (.int (x)), some (.int (y))] [] g fi fl P := by
  refine wi_iload_0 ct_201_0 ?_
  refine wi_iload_1 ct_201_1 ?_
  refine wi_iclt ct_201_2 hx hy (fun h1 => ?_) (fun h1 => ?_)
  · skip
    refine wi_iload_1 ct_201_9 ?_
    refine wi_iret ct_201_10 rfl ?_
    exact k _ (hy.trans (by omega))
  · skip
    refine wi_iload_0 ct_201_5 ?_
    refine wi_goto ct_201_6 ?_
    refine wi_iret ct_201_10 rfl ?_
    exact k _ (hx.trans (by omega))
theorem c_min {d : Nat} {g : am_G} {fi : am_I} {fl : am_L} {P : Option Value → am_G → am_I → am_L → Prop} {x y : Int32} {X Y : Int} (hx : x.toInt = X) (hy : y.toInt = Y) (k : ∀ z : Int32, z.toInt = min X Y → P (some (.int z)) g fi fl) : WP d 202 0 [some (.int (x)), some (.int (y))] [] g fi fl P := by
  refine wi_iload_0 ct_202_0 ?_
  refine wi_iload_1 ct_202_1 ?_
  refine wi_icgt ct_202_2 hx hy (fun h1 => ?_) (fun h1 => ?_)
  · skip
    refine wi_iload_1 ct_202_9 ?_
    refine wi_iret ct_202_10 rfl ?_
    exact k _ (hy.trans (by omega))
  · skip
    refine wi_iload_0 ct_202_5 ?_
    refine wi_goto ct_202_6 ?_
    refine wi_iret ct_202_10 rfl ?_
    exact k _ (hx.trans (by omega))
theorem c_least {d : Nat} {g : am_G} {fi : am_I} {fl : am_L} {P : Option Value → am_G → am_I → am_L → Prop} {x y : Int32} {q : Nat} {X Y : Int} (hx : x.toInt = X) (hy : y.toInt = Y) (k : ∀ z : Int32, z.toInt = min X Y → P (some (.int z)) g fi fl) : WP d 148 0 [some (.ref q), some (.int (x)), some (.int (y))] [] g fi fl P := by
  refine wi_iload_1 ct_148_0 ?_
  refine wi_iload_2 ct_148_1 ?_
  refine wi_icge ct_148_2 hx hy (fun h1 => ?_) (fun h1 => ?_)
  · skip
    refine wi_iload_2 ct_148_9 ?_
    refine wi_iret ct_148_10 rfl ?_
    exact k _ (hy.trans (by omega))
  · skip
    refine wi_iload_1 ct_148_5 ?_
    refine wi_goto ct_148_6 ?_
    refine wi_iret ct_148_10 rfl ?_
    exact k _ (hx.trans (by omega))
theorem c_most {d : Nat} {g : am_G} {fi : am_I} {fl : am_L} {P : Option Value → am_G → am_I → am_L → Prop} {x y : Int32} {q : Nat} {X Y : Int} (hx : x.toInt = X) (hy : y.toInt = Y) (k : ∀ z : Int32, z.toInt = max X Y → P (some (.int z)) g fi fl) : WP d 149 0 [some (.ref q), some (.int (x)), some (.int (y))] [] g fi fl P := by
  refine wi_iload_1 ct_149_0 ?_
  refine wi_iload_2 ct_149_1 ?_
  refine wi_icle ct_149_2 hx hy (fun h1 => ?_) (fun h1 => ?_)
  · skip
    refine wi_iload_2 ct_149_9 ?_
    refine wi_iret ct_149_10 rfl ?_
    exact k _ (hy.trans (by omega))
  · skip
    refine wi_iload_1 ct_149_5 ?_
    refine wi_goto ct_149_6 ?_
    refine wi_iret ct_149_10 rfl ?_
    exact k _ (hx.trans (by omega))
theorem c_apart {d : Nat} {g : am_G} {fi : am_I} {fl : am_L} {P : Option Value → am_G → am_I → am_L → Prop} {q : Nat} {x y : Int32} {X Y : Int} (hx : x.toInt = X) (hy : y.toInt = Y) (hX : -1000 ≤ X ∧ X ≤ 1000) (hY : -1000 ≤ Y ∧ Y ≤ 1000) (k : ∀ z : Int32, z.toInt = (max (X - Y) (Y - X)) → P (some (.int z)) g fi fl) : WP d 147 0 [some (.ref q), some (.int (x)), some (.int (y))] [] g fi fl P := by
  refine wi_iload_1 ct_147_0 ?_
  refine wi_iload_2 ct_147_1 ?_
  refine wi_icge ct_147_2 hx hy (fun h1 => ?_) (fun h1 => ?_)
  · skip
    refine wi_iload_1 ct_147_11 ?_
    refine wi_iload_2 ct_147_12 ?_
    refine wi_isub ct_147_13 rfl ?_
    refine wi_iret ct_147_14 rfl ?_
    exact k _ ((i_sub hx hy (by omega)).trans (by omega))
  · skip
    refine wi_iload_2 ct_147_5 ?_
    refine wi_iload_1 ct_147_6 ?_
    refine wi_isub ct_147_7 rfl ?_
    refine wi_goto ct_147_8 ?_
    refine wi_iret ct_147_14 rfl ?_
    exact k _ ((i_sub hy hx (by omega)).trans (by omega))
theorem c_abs {d : Nat} {g : am_G} {fi : am_I} {fl : am_L} {P : Option Value → am_G → am_I → am_L → Prop} {x : Int32} {X : Int} (hx : x.toInt = X) (hX : -1000 ≤ X ∧ X ≤ 1000) (k : ∀ z : Int32, z.toInt = max X (-X) → P (some (.int z)) g fi fl) : WP d 200 0 [some (.int (x))] [] g fi fl P := by
  refine wi_iload_0 ct_200_0 ?_
  refine wi_ifge ct_200_1 hx (fun h1 => ?_) (fun h1 => ?_)
  · skip
    refine wi_iload_0 ct_200_9 ?_
    refine wi_iret ct_200_10 rfl ?_
    exact k _ (hx.trans (by omega))
  · skip
    refine wi_iload_0 ct_200_4 ?_
    refine wi_ineg ct_200_5 rfl ?_
    refine wi_goto ct_200_6 ?_
    refine wi_iret ct_200_10 rfl ?_
    exact k _ ((i_neg hx (by omega)).trans (by omega))
theorem sc_nd {p : Nat} (h : p < 900000) : am_SC ≠ p := by
  have : am_SC = 1000000 := rfl
  omega
theorem lcmp_eq {x y : Int64} (h : x = y) : lg_cmp x y = 0 := by
  subst h
  unfold lg_cmp
  simp
