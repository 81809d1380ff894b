theorem c_within {d : Nat} {g : am_G} {fi : am_I} {fl : am_L} {P : Option Value → am_G → am_I → am_L → Prop} {n lo hi : Int32} {N A B : Int} (hn : n.toInt = N) (ha : lo.toInt = A) (hb : hi.toInt = B) (k1 : A ≤ N ∧ N ≤ B → P (some (.int 1)) g fi fl) (k2 : (N < A ∨ B < N) → P (some (.int 0)) g fi fl) : WP d 103 0 [some (.int (n)), some (.int (lo)), some (.int (hi))] [] g fi fl P := by
  refine wi_iload_0 ct_103_0 ?_
  refine wi_iload_1 ct_103_1 ?_
  refine wi_iclt ct_103_2 hn ha (fun h1 => ?_) (fun h1 => ?_)
  · skip
    refine wi_ic ct_103_14 kc_0 ?_
    refine wi_iret ct_103_15 (by decide) ?_
    exact k2 (by omega)
  · skip
    refine wi_iload_0 ct_103_5 ?_
    refine wi_iload_2 ct_103_6 ?_
    refine wi_icgt ct_103_7 hn hb (fun h2 => ?_) (fun h2 => ?_)
    · skip
      refine wi_ic ct_103_14 kc_0 ?_
      refine wi_iret ct_103_15 (by decide) ?_
      exact k2 (by omega)
    · skip
      refine wi_ic ct_103_10 kc_1 ?_
      refine wi_goto ct_103_11 ?_
      refine wi_iret ct_103_15 (by decide) ?_
      exact k1 (by omega)
