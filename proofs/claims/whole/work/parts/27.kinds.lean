theorem c_pace {d : Nat} {g : am_G} {fl : am_L} {P : Option Value → am_G → am_I → am_L → Prop} {fi : am_I} {p : Nat} {x : Int32} {kd sz : Int} (hk : 0 ≤ kd ∧ kd ≤ 6) (hx : x.toInt = sz) (kk : ∀ z : Int32, z.toInt = paceV kd sz → P (some (.int z)) g fi fl) : WP d (vtk 3 kd) 0 [some (.ref p), some (.int x)] [] g fi fl P := by
  rcases am_k7 hk with rfl | rfl | rfl | rfl | rfl | rfl | rfl
  · show WP d 4 0 _ _ g fi fl P
    refine wi_ic ct_4_0 kc_2 ?_
    refine wi_iret ct_4_1 rfl ?_
    exact kk _ (by unfold paceV; rw [ki_2]; simp <;> omega)
  · show WP d 4 0 _ _ g fi fl P
    refine wi_ic ct_4_0 kc_2 ?_
    refine wi_iret ct_4_1 rfl ?_
    exact kk _ (by unfold paceV; rw [ki_2]; simp <;> omega)
  · show WP d 4 0 _ _ g fi fl P
    refine wi_ic ct_4_0 kc_2 ?_
    refine wi_iret ct_4_1 rfl ?_
    exact kk _ (by unfold paceV; rw [ki_2]; simp <;> omega)
  · show WP d 28 0 _ _ g fi fl P
    refine wi_ic ct_28_0 kc_1 ?_
    refine wi_iret ct_28_1 rfl ?_
    exact kk _ (by unfold paceV; rw [ki_1]; simp <;> omega)
  · show WP d 23 0 _ _ g fi fl P
    refine wi_iload_1 ct_23_0 ?_
    refine wi_ic ct_23_1 kc_20 ?_
    refine wi_icge ct_23_3 hx ki_20 (fun h1 => ?_) (fun h1 => ?_)
    · skip
      refine wi_ic ct_23_10 kc_2 ?_
      refine wi_iret ct_23_11 rfl ?_
      exact kk _ (by unfold paceV; rw [ki_2]; simp <;> omega)
    · skip
      refine wi_ic ct_23_6 kc_3 ?_
      refine wi_goto ct_23_7 ?_
      refine wi_iret ct_23_11 rfl ?_
      exact kk _ (by unfold paceV; rw [ki_3]; simp <;> omega)
  · show WP d 4 0 _ _ g fi fl P
    refine wi_ic ct_4_0 kc_2 ?_
    refine wi_iret ct_4_1 rfl ?_
    exact kk _ (by unfold paceV; rw [ki_2]; simp <;> omega)
  · show WP d 28 0 _ _ g fi fl P
    refine wi_ic ct_28_0 kc_1 ?_
    refine wi_iret ct_28_1 rfl ?_
    exact kk _ (by unfold paceV; rw [ki_1]; simp <;> omega)
theorem c_mpace {L : Nat} {d : Nat} {g : am_G} {fl : am_L} {P : Option Value → am_G → am_I → am_L → Prop} {fi : am_I} {b : Int32} {B : Nat} {kd sz : Int} (hS : SF L g) (hb : b.toInt = (B : Int)) (hb5 : B < 5) (hk : 0 ≤ kd ∧ kd ≤ 6) (hkd : (fi 32 B).toInt = kd) (hsz : (fi 31 27).toInt = sz) (kk : ∀ z : Int32, z.toInt = paceV kd sz → P (some (.int z)) g fi fl) : WP d 153 0 [some (.ref 31), some (.int b)] [] g fi fl P := by
  refine wi_aload_0 ct_153_0 ?_
  refine wi_gfr ct_153_1 (sT_31 hS) rfl (sR_31_2 hS) ?_
  refine wi_iload_1 ct_153_4 ?_
  refine wi_iald (x := fi 32 B) ct_153_5 (sT_32 hS) (sL_32 hS) (i_in hb (by omega)) (i_cl (k := B) hb (by omega)) rfl ?_
  rcases Decidable.em (kd = 3) with h1 | h1
  · refine wi_tsw (X := 3) (t := 36) ct_153_6 (hkd.trans (by omega)) rfl ?_
    refine wi_ic ct_153_36 kc_1 ?_
    refine wi_iret ct_153_37 rfl ?_
    exact kk _ (by unfold paceV; rw [ki_1]; (repeat' split) <;> omega)
  rcases Decidable.em (kd = 4) with h2 | h2
  · refine wi_tsw (X := 4) (t := 38) ct_153_6 (hkd.trans (by omega)) rfl ?_
    refine wi_aload_0 ct_153_38 ?_
    refine wi_gf (x := fi 31 27) ct_153_39 (sT_31 hS) rfl rfl rfl ?_
    refine wi_ic ct_153_42 kc_20 ?_
    refine wi_icge ct_153_44 hsz ki_20 (fun h3 => ?_) (fun h3 => ?_)
    · skip
      refine wi_ic ct_153_51 kc_2 ?_
      refine wi_iret ct_153_52 rfl ?_
      exact kk _ (by unfold paceV; rw [ki_2]; (repeat' split) <;> omega)
    · skip
      refine wi_ic ct_153_47 kc_3 ?_
      refine wi_goto ct_153_48 ?_
      refine wi_iret ct_153_52 rfl ?_
      exact kk _ (by unfold paceV; rw [ki_3]; (repeat' split) <;> omega)
  rcases Decidable.em (kd = 5) with h4 | h4
  · refine wi_tsw (X := 5) (t := 53) ct_153_6 (hkd.trans (by omega)) rfl ?_
    refine wi_ic ct_153_53 kc_2 ?_
    refine wi_iret ct_153_54 rfl ?_
    exact kk _ (by unfold paceV; rw [ki_2]; (repeat' split) <;> omega)
  rcases Decidable.em (kd = 6) with h5 | h5
  · refine wi_tsw (X := 6) (t := 36) ct_153_6 (hkd.trans (by omega)) rfl ?_
    refine wi_ic ct_153_36 kc_1 ?_
    refine wi_iret ct_153_37 rfl ?_
    exact kk _ (by unfold paceV; rw [ki_1]; (repeat' split) <;> omega)
  refine wi_tsw (t := 53) ct_153_6 hkd ((am_tswD (by omega)).trans rfl) ?_
  refine wi_ic ct_153_53 kc_2 ?_
  refine wi_iret ct_153_54 rfl ?_
  exact kk _ (by unfold paceV; rw [ki_2]; (repeat' split) <;> omega)
theorem i_xnn {x y : Int32} {X : Int} (hx : x.toInt = X) (h : 0 ≤ X) (hy : 0 ≤ y.toInt) : 0 ≤ (x ^^^ y).toInt := by
  have h1 : x.toBitVec.msb = false := by
    rw [BitVec.msb_eq_toInt]
    exact decide_eq_false (by
      have : x.toBitVec.toInt = X := hx
      omega)
  have h2 : y.toBitVec.msb = false := by
    rw [BitVec.msb_eq_toInt]
    exact decide_eq_false (by
      have : y.toBitVec.toInt = y.toInt := rfl
      omega)
  have h3 : (x ^^^ y).toBitVec.msb = false := by
    rw [Int32.toBitVec_xor, BitVec.msb_xor, h1, h2]
    rfl
  rw [BitVec.msb_eq_toInt] at h3
  have h4 := of_decide_eq_false h3
  have : (x ^^^ y).toBitVec.toInt = (x ^^^ y).toInt := rfl
  omega
theorem c_shut {L : Nat} {d : Nat} {g : am_G} {fl : am_L} {P : Option Value → am_G → am_I → am_L → Prop} {fi : am_I} {p r : Nat} {kd v aim sz fm wd clk : Int} {row : Nat → Int} (hS : SF L g) (hk : 0 ≤ kd ∧ kd ≤ 6) (hp : g.1 p = am_kt kd) (hv : (fi p 2).toInt = v) (haim : (fi 15 2).toInt = aim) (hsz : (fi 15 7).toInt = sz) (hfm : (fi 15 8).toInt = fm) (hwd : (fi 15 9).toInt = wd) (hclk : (fi 15 4).toInt = clk) (hrow : kd = 6 → g.2.2.1 p 6 = some r ∧ g.1 r = 20 ∧ g.2.1 r = 4 ∧ ∀ j, j < 4 → (fi r j).toInt = row j) (hv9 : 0 ≤ v ∧ v ≤ 9) (ha6 : 1 ≤ aim ∧ aim ≤ 60) (hs9 : 0 ≤ sz ∧ sz ≤ 200) (hf9 : -2000 ≤ fm ∧ fm ≤ 400) (hw9 : 0 ≤ wd ∧ wd ≤ 2000) (hc9 : 0 ≤ clk ∧ clk ≤ 20000) (hr9 : ∀ j, j < 4 → 0 ≤ row j ∧ row j ≤ 9) (k1 : shutB kd v aim row sz fm wd clk = true → P (some (.int 1)) g fi fl) (k2 : shutB kd v aim row sz fm wd clk = false → P (some (.int 0)) g fi fl) : WP (d + 3) (vtk 4 kd) 0 [some (.ref p), some (.ref 15)] [] g fi fl P := by
  rcases am_k7 hk with rfl | rfl | rfl | rfl | rfl | rfl | rfl
  · show WP (d + 3) 5 0 _ _ g fi fl P
    refine wi_aload_1 ct_5_0 ?_
    refine wi_gf (x := fi 15 7) ct_5_1 (sT_15 hS) rfl rfl rfl ?_
    refine wi_aload_1 ct_5_4 ?_
    refine wi_gf (x := fi 15 2) ct_5_5 (sT_15 hS) rfl rfl rfl ?_
    refine wi_iclt ct_5_8 hsz haim (fun h1 => ?_) (fun h1 => ?_)
    · skip
      refine wi_ic ct_5_15 kc_0 ?_
      refine wi_iret ct_5_16 (by decide) ?_
      exact k2 (shutB_f.mpr (by omega))
    · skip
      refine wi_ic ct_5_11 kc_1 ?_
      refine wi_goto ct_5_12 ?_
      refine wi_iret ct_5_16 (by decide) ?_
      exact k1 (shutB_t.mpr (by omega))
  · show WP (d + 3) 11 0 _ _ g fi fl P
    refine wi_aload_1 ct_11_0 ?_
    refine wi_gf (x := fi 15 7) ct_11_1 (sT_15 hS) rfl rfl rfl ?_
    refine wi_aload_1 ct_11_4 ?_
    refine wi_gf (x := fi 15 2) ct_11_5 (sT_15 hS) rfl rfl rfl ?_
    refine wi_aload_0 ct_11_8 ?_
    refine wi_gf (x := fi p 2) ct_11_9 (hp.trans rfl : g.1 p = 1) rfl rfl rfl ?_
    refine wi_iadd ct_11_12 rfl ?_
    refine wi_iclt ct_11_13 hsz (i_add haim hv (by omega)) (fun h2 => ?_) (fun h2 => ?_)
    · skip
      refine wi_ic ct_11_20 kc_0 ?_
      refine wi_iret ct_11_21 (by decide) ?_
      exact k2 (shutB_f.mpr (by omega))
    · skip
      refine wi_ic ct_11_16 kc_1 ?_
      refine wi_goto ct_11_17 ?_
      refine wi_iret ct_11_21 (by decide) ?_
      exact k1 (shutB_t.mpr (by omega))
  · show WP (d + 3) 14 0 _ _ g fi fl P
    refine wi_aload_0 ct_14_0 ?_
    refine wi_aload_1 ct_14_1 ?_
    refine wi_cp1 (ls' := [some _, some _]) ct_14_2 (Nat.le_of_ble_eq_true rfl) (hp.trans rfl : g.1 p = 2) (by decide) rfl (Nat.le_of_ble_eq_true rfl) ?_
    refine wi_aload_1 ct_5_0 ?_
    refine wi_gf (x := fi 15 7) ct_5_1 (sT_15 hS) rfl rfl rfl ?_
    refine wi_aload_1 ct_5_4 ?_
    refine wi_gf (x := fi 15 2) ct_5_5 (sT_15 hS) rfl rfl rfl ?_
    refine wi_iclt ct_5_8 hsz haim (fun h3 => ?_) (fun h3 => ?_)
    · skip
      refine wi_ic ct_5_15 kc_0 ?_
      refine wi_iret ct_5_16 (by decide) (wk_i ?_)
      refine wi_ifne_f ct_14_5 ki_0 (by decide) ?_
      refine wi_aload_1 ct_14_8 ?_
      refine wi_gf (x := fi 15 8) ct_14_9 (sT_15 hS) rfl rfl rfl ?_
      refine wi_aload_1 ct_14_12 ?_
      refine wi_gf (x := fi 15 7) ct_14_13 (sT_15 hS) rfl rfl rfl ?_
      refine wi_aload_0 ct_14_16 ?_
      refine wi_gf (x := fi p 2) ct_14_17 (hp.trans rfl : g.1 p = 2) rfl rfl rfl ?_
      refine wi_iadd ct_14_20 rfl ?_
      refine wi_icgt ct_14_21 hfm (i_add hsz hv (by omega)) (fun h4 => ?_) (fun h4 => ?_)
      · skip
        refine wi_ic ct_14_28 kc_0 ?_
        refine wi_iret ct_14_29 (by decide) ?_
        exact k2 (shutB_f.mpr (by omega))
      · skip
        refine wi_ic ct_14_24 kc_1 ?_
        refine wi_goto ct_14_25 ?_
        refine wi_iret ct_14_29 (by decide) ?_
        exact k1 (shutB_t.mpr (by omega))
    · skip
      refine wi_ic ct_5_11 kc_1 ?_
      refine wi_goto ct_5_12 ?_
      refine wi_iret ct_5_16 (by decide) (wk_i ?_)
      refine wi_ifne_t ct_14_5 ki_1 (by decide) ?_
      refine wi_ic ct_14_24 kc_1 ?_
      refine wi_goto ct_14_25 ?_
      refine wi_iret ct_14_29 (by decide) ?_
      exact k1 (shutB_t.mpr (by omega))
  · show WP (d + 3) 5 0 _ _ g fi fl P
    refine wi_aload_1 ct_5_0 ?_
    refine wi_gf (x := fi 15 7) ct_5_1 (sT_15 hS) rfl rfl rfl ?_
    refine wi_aload_1 ct_5_4 ?_
    refine wi_gf (x := fi 15 2) ct_5_5 (sT_15 hS) rfl rfl rfl ?_
    refine wi_iclt ct_5_8 hsz haim (fun h5 => ?_) (fun h5 => ?_)
    · skip
      refine wi_ic ct_5_15 kc_0 ?_
      refine wi_iret ct_5_16 (by decide) ?_
      exact k2 (shutB_f.mpr (by omega))
    · skip
      refine wi_ic ct_5_11 kc_1 ?_
      refine wi_goto ct_5_12 ?_
      refine wi_iret ct_5_16 (by decide) ?_
      exact k1 (shutB_t.mpr (by omega))
  · show WP (d + 3) 24 0 _ _ g fi fl P
    refine wi_aload_1 ct_24_0 ?_
    refine wi_gf (x := fi 15 9) ct_24_1 (sT_15 hS) rfl rfl rfl ?_
    refine wi_ic ct_24_4 kc_5 ?_
    refine wi_icgt ct_24_5 hwd ki_5 (fun h6 => ?_) (fun h6 => ?_)
    · skip
      refine wi_ic ct_24_20 kc_0 ?_
      refine wi_iret ct_24_21 (by decide) ?_
      exact k2 (shutB_f.mpr (by omega))
    · skip
      refine wi_aload_0 ct_24_8 ?_
      refine wi_aload_1 ct_24_9 ?_
      refine wi_cp1 (ls' := [some _, some _]) ct_24_10 (Nat.le_of_ble_eq_true rfl) (hp.trans rfl : g.1 p = 4) (by decide) rfl (Nat.le_of_ble_eq_true rfl) ?_
      refine wi_aload_1 ct_11_0 ?_
      refine wi_gf (x := fi 15 7) ct_11_1 (sT_15 hS) rfl rfl rfl ?_
      refine wi_aload_1 ct_11_4 ?_
      refine wi_gf (x := fi 15 2) ct_11_5 (sT_15 hS) rfl rfl rfl ?_
      refine wi_aload_0 ct_11_8 ?_
      refine wi_gf (x := fi p 2) ct_11_9 (hp.trans rfl : g.1 p = 4) rfl rfl rfl ?_
      refine wi_iadd ct_11_12 rfl ?_
      refine wi_iclt ct_11_13 hsz (i_add haim hv (by omega)) (fun h7 => ?_) (fun h7 => ?_)
      · skip
        refine wi_ic ct_11_20 kc_0 ?_
        refine wi_iret ct_11_21 (by decide) (wk_i ?_)
        refine wi_ifeq_t ct_24_13 ki_0 (by decide) ?_
        refine wi_ic ct_24_20 kc_0 ?_
        refine wi_iret ct_24_21 (by decide) ?_
        exact k2 (shutB_f.mpr (by omega))
      · skip
        refine wi_ic ct_11_16 kc_1 ?_
        refine wi_goto ct_11_17 ?_
        refine wi_iret ct_11_21 (by decide) (wk_i ?_)
        refine wi_ifeq_f ct_24_13 ki_1 (by decide) ?_
        refine wi_ic ct_24_16 kc_1 ?_
        refine wi_goto ct_24_17 ?_
        refine wi_iret ct_24_21 (by decide) ?_
        exact k1 (shutB_t.mpr (by omega))
  · show WP (d + 3) 64 0 _ _ g fi fl P
    refine wi_aload_0 ct_64_0 ?_
    refine wi_aload_1 ct_64_1 ?_
    refine wi_cp1 (ls' := [some _, some _]) ct_64_2 (Nat.le_of_ble_eq_true rfl) (hp.trans rfl : g.1 p = 10) (by decide) rfl (Nat.le_of_ble_eq_true rfl) ?_
    refine wi_aload_0 ct_14_0 ?_
    refine wi_aload_1 ct_14_1 ?_
    refine wi_cp1 (ls' := [some _, some _]) ct_14_2 (Nat.le_of_ble_eq_true rfl) (hp.trans rfl : g.1 p = 10) (by decide) rfl (Nat.le_of_ble_eq_true rfl) ?_
    refine wi_aload_1 ct_5_0 ?_
    refine wi_gf (x := fi 15 7) ct_5_1 (sT_15 hS) rfl rfl rfl ?_
    refine wi_aload_1 ct_5_4 ?_
    refine wi_gf (x := fi 15 2) ct_5_5 (sT_15 hS) rfl rfl rfl ?_
    refine wi_iclt ct_5_8 hsz haim (fun h8 => ?_) (fun h8 => ?_)
    · skip
      refine wi_ic ct_5_15 kc_0 ?_
      refine wi_iret ct_5_16 (by decide) (wk_i ?_)
      refine wi_ifne_f ct_14_5 ki_0 (by decide) ?_
      refine wi_aload_1 ct_14_8 ?_
      refine wi_gf (x := fi 15 8) ct_14_9 (sT_15 hS) rfl rfl rfl ?_
      refine wi_aload_1 ct_14_12 ?_
      refine wi_gf (x := fi 15 7) ct_14_13 (sT_15 hS) rfl rfl rfl ?_
      refine wi_aload_0 ct_14_16 ?_
      refine wi_gf (x := fi p 2) ct_14_17 (hp.trans rfl : g.1 p = 10) rfl rfl rfl ?_
      refine wi_iadd ct_14_20 rfl ?_
      refine wi_icgt ct_14_21 hfm (i_add hsz hv (by omega)) (fun h9 => ?_) (fun h9 => ?_)
      · skip
        refine wi_ic ct_14_28 kc_0 ?_
        refine wi_iret ct_14_29 (by decide) (wk_i ?_)
        refine wi_ifne_f ct_64_5 ki_0 (by decide) ?_
        refine wi_aload_1 ct_64_8 ?_
        refine wi_gf (x := fi 15 9) ct_64_9 (sT_15 hS) rfl rfl rfl ?_
        refine wi_ifne ct_64_12 hwd (fun h10 => ?_) (fun h10 => ?_)
        · skip
          refine wi_ic ct_64_28 kc_0 ?_
          refine wi_iret ct_64_29 (by decide) ?_
          exact k2 (shutB_f.mpr (by omega))
        · skip
          refine wi_aload_1 ct_64_15 ?_
          refine wi_gf (x := fi 15 7) ct_64_16 (sT_15 hS) rfl rfl rfl ?_
          refine wi_ic ct_64_19 kc_10 ?_
          refine wi_iclt ct_64_21 hsz ki_10 (fun h11 => ?_) (fun h11 => ?_)
          · skip
            refine wi_ic ct_64_28 kc_0 ?_
            refine wi_iret ct_64_29 (by decide) ?_
            exact k2 (shutB_f.mpr (by omega))
          · skip
            refine wi_ic ct_64_24 kc_1 ?_
            refine wi_goto ct_64_25 ?_
            refine wi_iret ct_64_29 (by decide) ?_
            exact k1 (shutB_t.mpr (by omega))
      · skip
        refine wi_ic ct_14_24 kc_1 ?_
        refine wi_goto ct_14_25 ?_
        refine wi_iret ct_14_29 (by decide) (wk_i ?_)
        refine wi_ifne_t ct_64_5 ki_1 (by decide) ?_
        refine wi_ic ct_64_24 kc_1 ?_
        refine wi_goto ct_64_25 ?_
        refine wi_iret ct_64_29 (by decide) ?_
        exact k1 (shutB_t.mpr (by omega))
    · skip
      refine wi_ic ct_5_11 kc_1 ?_
      refine wi_goto ct_5_12 ?_
      refine wi_iret ct_5_16 (by decide) (wk_i ?_)
      refine wi_ifne_t ct_14_5 ki_1 (by decide) ?_
      refine wi_ic ct_14_24 kc_1 ?_
      refine wi_goto ct_14_25 ?_
      refine wi_iret ct_14_29 (by decide) (wk_i ?_)
      refine wi_ifne_t ct_64_5 ki_1 (by decide) ?_
      refine wi_ic ct_64_24 kc_1 ?_
      refine wi_goto ct_64_25 ?_
      refine wi_iret ct_64_29 (by decide) ?_
      exact k1 (shutB_t.mpr (by omega))
  · show WP (d + 3) 60 0 _ _ g fi fl P
    obtain ⟨hr0, hr1, hr2, hr3a⟩ := hrow rfl
    obtain ⟨J, hJ⟩ : ∃ J : Nat, clk % 4 = (J : Int) := ⟨(clk % 4).toNat, by omega⟩
    have hr3 := hr3a J (by omega)
    obtain ⟨rw0, hrw⟩ : ∃ x, row J = x := ⟨_, rfl⟩
    have hJn : (clk % 4).toNat = J := by omega
    have hrb := hr9 J (by omega)
    rw [hrw] at hrb
    refine wi_aload_1 ct_60_0 ?_
    refine wi_gf (x := fi 15 7) ct_60_1 (sT_15 hS) rfl rfl rfl ?_
    refine wi_aload_1 ct_60_4 ?_
    refine wi_gf (x := fi 15 2) ct_60_5 (sT_15 hS) rfl rfl rfl ?_
    refine wi_aload_0 ct_60_8 ?_
    refine wi_gfr ct_60_9 (hp.trans rfl : g.1 p = 9) rfl hr0 ?_
    refine wi_aload_1 ct_60_12 ?_
    refine wi_gf (x := fi 15 4) ct_60_13 (sT_15 hS) rfl rfl rfl ?_
    refine wi_ic ct_60_16 kc_4 ?_
    refine wi_cs2 (ls' := [some _, some _, none]) ct_60_17 (Nat.le_of_ble_eq_true rfl) rfl (Nat.le_of_ble_eq_true rfl) ?_
    refine wi_iload_0 ct_203_0 ?_
    refine wi_iload_1 ct_203_1 ?_
    refine wi_irem ct_203_2 (by decide) rfl ?_
    refine wi_istore_2 rfl ct_203_3 ?_
    refine wi_iload_0 ct_203_4 ?_
    refine wi_iload_1 ct_203_5 ?_
    refine wi_ixor ct_203_6 rfl ?_
    have hxr : 0 ≤ ((fi 15 4 ^^^ 4)).toInt := i_xnn hclk (by omega) (by decide)
    refine wi_ifge_t ct_203_7 rfl (by omega) ?_
    refine wi_iload_2 ct_203_18 ?_
    refine wi_iret ct_203_19 rfl (wk_i ?_)
    refine wi_iald (x := fi r J) ct_60_20 hr1 hr2 (i_in ((i_rem hclk ki_4 (by omega) (by omega)).trans hJ) (by omega)) (i_cl (k := J) ((i_rem hclk ki_4 (by omega) (by omega)).trans hJ) (by omega)) rfl ?_
    refine wi_iadd ct_60_21 rfl ?_
    refine wi_iclt ct_60_22 hsz (i_add haim (hr3.trans hrw) (by omega)) (fun h12 => ?_) (fun h12 => ?_)
    · skip
      refine wi_ic ct_60_29 kc_0 ?_
      refine wi_iret ct_60_30 (by decide) ?_
      exact k2 (shutB_f.mpr (by rw [hJn, hrw]; omega))
    · skip
      refine wi_ic ct_60_25 kc_1 ?_
      refine wi_goto ct_60_26 ?_
      refine wi_iret ct_60_30 (by decide) ?_
      exact k1 (shutB_t.mpr (by rw [hJn, hrw]; omega))
theorem c_mshut {L : Nat} {d : Nat} {g : am_G} {fl : am_L} {P : Option Value → am_G → am_I → am_L → Prop} {fi : am_I} {b w : Int32} {B : Nat} {kd v aim sz fm wd clk : Int} {row : Nat → Int} (hS : SF L g) (hb : b.toInt = (B : Int)) (hb5 : B < 5) (hk : 0 ≤ kd ∧ kd ≤ 6) (hkd : (fi 32 B).toInt = kd) (hv : (fi 33 B).toInt = v) (haim : (fi 35 B).toInt = aim) (hsz : (fi 31 27).toInt = sz) (hfm : (fi 31 28).toInt = fm) (hwd : w.toInt = wd) (hclk : (fi 31 29).toInt = clk) (hrow : ∀ j, j < 4 → (fi 37 (4 * B + j)).toInt = row j) (hv9 : 0 ≤ v ∧ v ≤ 9) (ha6 : 1 ≤ aim ∧ aim ≤ 60) (hs9 : 0 ≤ sz ∧ sz ≤ 200) (hf9 : -2000 ≤ fm ∧ fm ≤ 400) (hw9 : 0 ≤ wd ∧ wd ≤ 2000) (hc9 : 0 ≤ clk ∧ clk ≤ 20000) (hr9 : ∀ j, j < 4 → 0 ≤ row j ∧ row j ≤ 9) (k1 : shutB kd v aim row sz fm wd clk = true → P (some (.int 1)) g fi fl) (k2 : shutB kd v aim row sz fm wd clk = false → P (some (.int 0)) g fi fl) : WP d 154 0 [some (.ref 31), some (.int b), some (.int w)] [] g fi fl P := by
  obtain ⟨J, hJ⟩ : ∃ J : Nat, clk % 4 = (J : Int) := ⟨(clk % 4).toNat, by omega⟩
  have hr3 := hrow J (by omega)
  obtain ⟨rw0, hrw⟩ : ∃ x, row J = x := ⟨_, rfl⟩
  rw [hrw] at hr3
  have hJn : (clk % 4).toNat = J := by omega
  have hrb := hr9 J (by omega)
  rw [hrw] at hrb
  refine wi_aload_0 ct_154_0 ?_
  refine wi_gfr ct_154_1 (sT_31 hS) rfl (sR_31_2 hS) ?_
  refine wi_iload_1 ct_154_4 ?_
  refine wi_iald (x := fi 32 B) ct_154_5 (sT_32 hS) (sL_32 hS) (i_in hb (by omega)) (i_cl (k := B) hb (by omega)) rfl ?_
  rcases Decidable.em (kd = 1) with h1 | h1
  · refine wi_tsw (X := 1) (t := 44) ct_154_6 (hkd.trans (by omega)) rfl ?_
    refine wi_aload_0 ct_154_44 ?_
    refine wi_gf (x := fi 31 27) ct_154_45 (sT_31 hS) rfl rfl rfl ?_
    refine wi_aload_0 ct_154_48 ?_
    refine wi_gfr ct_154_49 (sT_31 hS) rfl (sR_31_5 hS) ?_
    refine wi_iload_1 ct_154_52 ?_
    refine wi_iald (x := fi 35 B) ct_154_53 (sT_35 hS) (sL_35 hS) (i_in hb (by omega)) (i_cl (k := B) hb (by omega)) rfl ?_
    refine wi_aload_0 ct_154_54 ?_
    refine wi_gfr ct_154_55 (sT_31 hS) rfl (sR_31_3 hS) ?_
    refine wi_iload_1 ct_154_58 ?_
    refine wi_iald (x := fi 33 B) ct_154_59 (sT_33 hS) (sL_33 hS) (i_in hb (by omega)) (i_cl (k := B) hb (by omega)) rfl ?_
    refine wi_iadd ct_154_60 rfl ?_
    refine wi_iclt ct_154_61 hsz (i_add haim hv (by omega)) (fun h2 => ?_) (fun h2 => ?_)
    · skip
      refine wi_ic ct_154_68 kc_0 ?_
      refine wi_iret ct_154_69 (by decide) ?_
      exact k2 (shutB_f.mpr (by rw [hJn, hrw]; omega))
    · skip
      refine wi_ic ct_154_64 kc_1 ?_
      refine wi_goto ct_154_65 ?_
      refine wi_iret ct_154_69 (by decide) ?_
      exact k1 (shutB_t.mpr (by rw [hJn, hrw]; omega))
  rcases Decidable.em (kd = 2) with h3 | h3
  · refine wi_tsw (X := 2) (t := 70) ct_154_6 (hkd.trans (by omega)) rfl ?_
    refine wi_aload_0 ct_154_70 ?_
    refine wi_gf (x := fi 31 27) ct_154_71 (sT_31 hS) rfl rfl rfl ?_
    refine wi_aload_0 ct_154_74 ?_
    refine wi_gfr ct_154_75 (sT_31 hS) rfl (sR_31_5 hS) ?_
    refine wi_iload_1 ct_154_78 ?_
    refine wi_iald (x := fi 35 B) ct_154_79 (sT_35 hS) (sL_35 hS) (i_in hb (by omega)) (i_cl (k := B) hb (by omega)) rfl ?_
    refine wi_icge ct_154_80 hsz haim (fun h4 => ?_) (fun h4 => ?_)
    · skip
      refine wi_ic ct_154_101 kc_1 ?_
      refine wi_goto ct_154_102 ?_
      refine wi_iret ct_154_106 (by decide) ?_
      exact k1 (shutB_t.mpr (by rw [hJn, hrw]; omega))
    · skip
      refine wi_aload_0 ct_154_83 ?_
      refine wi_gf (x := fi 31 28) ct_154_84 (sT_31 hS) rfl rfl rfl ?_
      refine wi_aload_0 ct_154_87 ?_
      refine wi_gf (x := fi 31 27) ct_154_88 (sT_31 hS) rfl rfl rfl ?_
      refine wi_aload_0 ct_154_91 ?_
      refine wi_gfr ct_154_92 (sT_31 hS) rfl (sR_31_3 hS) ?_
      refine wi_iload_1 ct_154_95 ?_
      refine wi_iald (x := fi 33 B) ct_154_96 (sT_33 hS) (sL_33 hS) (i_in hb (by omega)) (i_cl (k := B) hb (by omega)) rfl ?_
      refine wi_iadd ct_154_97 rfl ?_
      refine wi_icgt ct_154_98 hfm (i_add hsz hv (by omega)) (fun h5 => ?_) (fun h5 => ?_)
      · skip
        refine wi_ic ct_154_105 kc_0 ?_
        refine wi_iret ct_154_106 (by decide) ?_
        exact k2 (shutB_f.mpr (by rw [hJn, hrw]; omega))
      · skip
        refine wi_ic ct_154_101 kc_1 ?_
        refine wi_goto ct_154_102 ?_
        refine wi_iret ct_154_106 (by decide) ?_
        exact k1 (shutB_t.mpr (by rw [hJn, hrw]; omega))
  rcases Decidable.em (kd = 3) with h6 | h6
  · refine wi_tsw (X := 3) (t := 224) ct_154_6 (hkd.trans (by omega)) rfl ?_
    refine wi_aload_0 ct_154_224 ?_
    refine wi_gf (x := fi 31 27) ct_154_225 (sT_31 hS) rfl rfl rfl ?_
    refine wi_aload_0 ct_154_228 ?_
    refine wi_gfr ct_154_229 (sT_31 hS) rfl (sR_31_5 hS) ?_
    refine wi_iload_1 ct_154_232 ?_
    refine wi_iald (x := fi 35 B) ct_154_233 (sT_35 hS) (sL_35 hS) (i_in hb (by omega)) (i_cl (k := B) hb (by omega)) rfl ?_
    refine wi_iclt ct_154_234 hsz haim (fun h7 => ?_) (fun h7 => ?_)
    · skip
      refine wi_ic ct_154_241 kc_0 ?_
      refine wi_iret ct_154_242 (by decide) ?_
      exact k2 (shutB_f.mpr (by rw [hJn, hrw]; omega))
    · skip
      refine wi_ic ct_154_237 kc_1 ?_
      refine wi_goto ct_154_238 ?_
      refine wi_iret ct_154_242 (by decide) ?_
      exact k1 (shutB_t.mpr (by rw [hJn, hrw]; omega))
  rcases Decidable.em (kd = 4) with h8 | h8
  · refine wi_tsw (X := 4) (t := 107) ct_154_6 (hkd.trans (by omega)) rfl ?_
    refine wi_iload_2 ct_154_107 ?_
    refine wi_ic ct_154_108 kc_6 ?_
    refine wi_icge ct_154_110 hwd ki_6 (fun h9 => ?_) (fun h9 => ?_)
    · skip
      refine wi_ic ct_154_137 kc_0 ?_
      refine wi_iret ct_154_138 (by decide) ?_
      exact k2 (shutB_f.mpr (by rw [hJn, hrw]; omega))
    · skip
      refine wi_aload_0 ct_154_113 ?_
      refine wi_gf (x := fi 31 27) ct_154_114 (sT_31 hS) rfl rfl rfl ?_
      refine wi_aload_0 ct_154_117 ?_
      refine wi_gfr ct_154_118 (sT_31 hS) rfl (sR_31_5 hS) ?_
      refine wi_iload_1 ct_154_121 ?_
      refine wi_iald (x := fi 35 B) ct_154_122 (sT_35 hS) (sL_35 hS) (i_in hb (by omega)) (i_cl (k := B) hb (by omega)) rfl ?_
      refine wi_aload_0 ct_154_123 ?_
      refine wi_gfr ct_154_124 (sT_31 hS) rfl (sR_31_3 hS) ?_
      refine wi_iload_1 ct_154_127 ?_
      refine wi_iald (x := fi 33 B) ct_154_128 (sT_33 hS) (sL_33 hS) (i_in hb (by omega)) (i_cl (k := B) hb (by omega)) rfl ?_
      refine wi_iadd ct_154_129 rfl ?_
      refine wi_iclt ct_154_130 hsz (i_add haim hv (by omega)) (fun h10 => ?_) (fun h10 => ?_)
      · skip
        refine wi_ic ct_154_137 kc_0 ?_
        refine wi_iret ct_154_138 (by decide) ?_
        exact k2 (shutB_f.mpr (by rw [hJn, hrw]; omega))
      · skip
        refine wi_ic ct_154_133 kc_1 ?_
        refine wi_goto ct_154_134 ?_
        refine wi_iret ct_154_138 (by decide) ?_
        exact k1 (shutB_t.mpr (by rw [hJn, hrw]; omega))
  rcases Decidable.em (kd = 5) with h11 | h11
  · refine wi_tsw (X := 5) (t := 139) ct_154_6 (hkd.trans (by omega)) rfl ?_
    refine wi_aload_0 ct_154_139 ?_
    refine wi_gf (x := fi 31 27) ct_154_140 (sT_31 hS) rfl rfl rfl ?_
    refine wi_aload_0 ct_154_143 ?_
    refine wi_gfr ct_154_144 (sT_31 hS) rfl (sR_31_5 hS) ?_
    refine wi_iload_1 ct_154_147 ?_
    refine wi_iald (x := fi 35 B) ct_154_148 (sT_35 hS) (sL_35 hS) (i_in hb (by omega)) (i_cl (k := B) hb (by omega)) rfl ?_
    refine wi_icge ct_154_149 hsz haim (fun h12 => ?_) (fun h12 => ?_)
    · skip
      refine wi_ic ct_154_183 kc_1 ?_
      refine wi_goto ct_154_184 ?_
      refine wi_iret ct_154_188 (by decide) ?_
      exact k1 (shutB_t.mpr (by rw [hJn, hrw]; omega))
    · skip
      refine wi_aload_0 ct_154_152 ?_
      refine wi_gf (x := fi 31 28) ct_154_153 (sT_31 hS) rfl rfl rfl ?_
      refine wi_aload_0 ct_154_156 ?_
      refine wi_gf (x := fi 31 27) ct_154_157 (sT_31 hS) rfl rfl rfl ?_
      refine wi_aload_0 ct_154_160 ?_
      refine wi_gfr ct_154_161 (sT_31 hS) rfl (sR_31_3 hS) ?_
      refine wi_iload_1 ct_154_164 ?_
      refine wi_iald (x := fi 33 B) ct_154_165 (sT_33 hS) (sL_33 hS) (i_in hb (by omega)) (i_cl (k := B) hb (by omega)) rfl ?_
      refine wi_iadd ct_154_166 rfl ?_
      refine wi_icle ct_154_167 hfm (i_add hsz hv (by omega)) (fun h13 => ?_) (fun h13 => ?_)
      · skip
        refine wi_ic ct_154_183 kc_1 ?_
        refine wi_goto ct_154_184 ?_
        refine wi_iret ct_154_188 (by decide) ?_
        exact k1 (shutB_t.mpr (by rw [hJn, hrw]; omega))
      · skip
        refine wi_iload_2 ct_154_170 ?_
        refine wi_ifne ct_154_171 hwd (fun h14 => ?_) (fun h14 => ?_)
        · skip
          refine wi_ic ct_154_187 kc_0 ?_
          refine wi_iret ct_154_188 (by decide) ?_
          exact k2 (shutB_f.mpr (by rw [hJn, hrw]; omega))
        · skip
          refine wi_aload_0 ct_154_174 ?_
          refine wi_gf (x := fi 31 27) ct_154_175 (sT_31 hS) rfl rfl rfl ?_
          refine wi_ic ct_154_178 kc_9 ?_
          refine wi_icle ct_154_180 hsz ki_9 (fun h15 => ?_) (fun h15 => ?_)
          · skip
            refine wi_ic ct_154_187 kc_0 ?_
            refine wi_iret ct_154_188 (by decide) ?_
            exact k2 (shutB_f.mpr (by rw [hJn, hrw]; omega))
          · skip
            refine wi_ic ct_154_183 kc_1 ?_
            refine wi_goto ct_154_184 ?_
            refine wi_iret ct_154_188 (by decide) ?_
            exact k1 (shutB_t.mpr (by rw [hJn, hrw]; omega))
  rcases Decidable.em (kd = 6) with h16 | h16
  · refine wi_tsw (X := 6) (t := 189) ct_154_6 (hkd.trans (by omega)) rfl ?_
    refine wi_aload_0 ct_154_189 ?_
    refine wi_gf (x := fi 31 27) ct_154_190 (sT_31 hS) rfl rfl rfl ?_
    refine wi_aload_0 ct_154_193 ?_
    refine wi_gfr ct_154_194 (sT_31 hS) rfl (sR_31_5 hS) ?_
    refine wi_iload_1 ct_154_197 ?_
    refine wi_iald (x := fi 35 B) ct_154_198 (sT_35 hS) (sL_35 hS) (i_in hb (by omega)) (i_cl (k := B) hb (by omega)) rfl ?_
    refine wi_aload_0 ct_154_199 ?_
    refine wi_gfr ct_154_200 (sT_31 hS) rfl (sR_31_7 hS) ?_
    refine wi_ic ct_154_203 kc_4 ?_
    refine wi_iload_1 ct_154_204 ?_
    refine wi_imul ct_154_205 rfl ?_
    refine wi_aload_0 ct_154_206 ?_
    refine wi_gf (x := fi 31 29) ct_154_207 (sT_31 hS) rfl rfl rfl ?_
    refine wi_ic ct_154_210 kc_4 ?_
    refine wi_irem ct_154_211 (by decide) rfl ?_
    refine wi_iadd ct_154_212 rfl ?_
    refine wi_iald (x := fi 37 (4 * B + J)) ct_154_213 (sT_37 hS) (sL_37 hS) (i_in (i_add (i_mul ki_4 hb (by omega)) ((i_rem hclk ki_4 (by omega) (by omega)).trans hJ) (by omega)) (by omega)) (i_cl (k := (4 * B + J)) (i_add (i_mul ki_4 hb (by omega)) ((i_rem hclk ki_4 (by omega) (by omega)).trans hJ) (by omega)) (by omega)) rfl ?_
    refine wi_iadd ct_154_214 rfl ?_
    refine wi_iclt ct_154_215 hsz (i_add haim hr3 (by omega)) (fun h17 => ?_) (fun h17 => ?_)
    · skip
      refine wi_ic ct_154_222 kc_0 ?_
      refine wi_iret ct_154_223 (by decide) ?_
      exact k2 (shutB_f.mpr (by rw [hJn, hrw]; omega))
    · skip
      refine wi_ic ct_154_218 kc_1 ?_
      refine wi_goto ct_154_219 ?_
      refine wi_iret ct_154_223 (by decide) ?_
      exact k1 (shutB_t.mpr (by rw [hJn, hrw]; omega))
  refine wi_tsw (t := 224) ct_154_6 hkd ((am_tswD (by omega)).trans rfl) ?_
  refine wi_aload_0 ct_154_224 ?_
  refine wi_gf (x := fi 31 27) ct_154_225 (sT_31 hS) rfl rfl rfl ?_
  refine wi_aload_0 ct_154_228 ?_
  refine wi_gfr ct_154_229 (sT_31 hS) rfl (sR_31_5 hS) ?_
  refine wi_iload_1 ct_154_232 ?_
  refine wi_iald (x := fi 35 B) ct_154_233 (sT_35 hS) (sL_35 hS) (i_in hb (by omega)) (i_cl (k := B) hb (by omega)) rfl ?_
  refine wi_iclt ct_154_234 hsz haim (fun h18 => ?_) (fun h18 => ?_)
  · skip
    refine wi_ic ct_154_241 kc_0 ?_
    refine wi_iret ct_154_242 (by decide) ?_
    exact k2 (shutB_f.mpr (by rw [hJn, hrw]; omega))
  · skip
    refine wi_ic ct_154_237 kc_1 ?_
    refine wi_goto ct_154_238 ?_
    refine wi_iret ct_154_242 (by decide) ?_
    exact k1 (shutB_t.mpr (by rw [hJn, hrw]; omega))
theorem c_goodOf {d : Nat} {g : am_G} {fl : am_L} {P : Option Value → am_G → am_I → am_L → Prop} {fi : am_I} {a b c : Int32} {A B C : Int} (ha : a.toInt = A) (hb : b.toInt = B) (hc : c.toInt = C) (h0 : 0 ≤ A ∧ A ≤ 9) (h1 : 0 ≤ B ∧ B ≤ 9) (h2 : 0 ≤ C ∧ C ≤ 9) (kk : ∀ z : Int32, z.toInt = goodV A B C → P (some (.int z)) g fi fl) : WP (d + 1) 38 0 [some (.int a), some (.int b), some (.int c)] [] g fi fl P := by
  refine wi_ic ct_38_0 kc_30 ?_
  refine wi_ic ct_38_2 kc_4 ?_
  refine wi_iload_0 ct_38_3 ?_
  refine wi_ic ct_38_4 kc_5 ?_
  refine wi_isub ct_38_5 rfl ?_
  refine wi_cs1 (ls' := [some _]) ct_38_6 (Nat.le_of_ble_eq_true rfl) rfl (Nat.le_of_ble_eq_true rfl) ?_
  refine c_abs (i_sub ha ki_5 (by omega)) (by omega) (fun z1 hz1 => wk_i ?_)
  refine wi_imul ct_38_9 rfl ?_
  refine wi_isub ct_38_10 rfl ?_
  refine wi_ic ct_38_11 kc_2 ?_
  refine wi_iload_1 ct_38_12 ?_
  refine wi_ic ct_38_13 kc_3 ?_
  refine wi_isub ct_38_14 rfl ?_
  refine wi_cs1 (ls' := [some _]) ct_38_15 (Nat.le_of_ble_eq_true rfl) rfl (Nat.le_of_ble_eq_true rfl) ?_
  refine c_abs (i_sub hb ki_3 (by omega)) (by omega) (fun z2 hz2 => wk_i ?_)
  refine wi_imul ct_38_18 rfl ?_
  refine wi_isub ct_38_19 rfl ?_
  refine wi_iload_2 ct_38_20 ?_
  refine wi_iadd ct_38_21 rfl ?_
  refine wi_ic ct_38_22 kc_0 ?_
  refine wi_cs2 (ls' := [some _, some _]) ct_38_23 (Nat.le_of_ble_eq_true rfl) rfl (Nat.le_of_ble_eq_true rfl) ?_
  refine c_max (i_add (i_sub (i_sub ki_30 (i_mul ki_4 hz1 (by omega)) (by omega)) (i_mul ki_2 hz2 (by omega)) (by omega)) hc (by omega)) ki_0 (fun z3 hz3 => wk_i ?_)
  refine wi_iret ct_38_26 rfl ?_
  exact kk _ (hz3.trans (by unfold goodV; omega))
theorem c_good {L : Nat} {d : Nat} {g : am_G} {fl : am_L} {P : Option Value → am_G → am_I → am_L → Prop} {fi : am_I} {A B C : Int} (hS : SF L g) (ha : (fi 3 0).toInt = A) (hb : (fi 3 1).toInt = B) (hc : (fi 3 2).toInt = C) (h0 : 0 ≤ A ∧ A ≤ 9) (h1 : 0 ≤ B ∧ B ≤ 9) (h2 : 0 ≤ C ∧ C ≤ 9) (kk : ∀ z : Int32, z.toInt = goodV A B C → P (some (.int z)) g fi fl) : WP (d + 2) 37 0 [some (.ref 1)] [] g fi fl P := by
  refine wi_aload_0 ct_37_0 ?_
  refine wi_gfr ct_37_1 (sT_1 hS) rfl (sR_1_2 hS) ?_
  refine wi_ic ct_37_4 kc_0 ?_
  refine wi_iald (x := fi 3 0) ct_37_5 (sT_3 hS) (sL_3 hS) (by decide) kn_c0 rfl ?_
  refine wi_aload_0 ct_37_6 ?_
  refine wi_gfr ct_37_7 (sT_1 hS) rfl (sR_1_2 hS) ?_
  refine wi_ic ct_37_10 kc_1 ?_
  refine wi_iald (x := fi 3 1) ct_37_11 (sT_3 hS) (sL_3 hS) (by decide) kn_c1 rfl ?_
  refine wi_aload_0 ct_37_12 ?_
  refine wi_gfr ct_37_13 (sT_1 hS) rfl (sR_1_2 hS) ?_
  refine wi_ic ct_37_16 kc_2 ?_
  refine wi_iald (x := fi 3 2) ct_37_17 (sT_3 hS) (sL_3 hS) (by decide) kn_c2 rfl ?_
  refine wi_cs3 (ls' := [some _, some _, some _]) ct_37_18 (Nat.le_of_ble_eq_true rfl) rfl (Nat.le_of_ble_eq_true rfl) ?_
  refine c_goodOf ha hb hc h0 h1 h2 (fun z hz => wk_i ?_)
  refine wi_iret ct_37_21 rfl ?_
  exact kk _ hz
theorem c_mgood {L : Nat} {d : Nat} {g : am_G} {fl : am_L} {P : Option Value → am_G → am_I → am_L → Prop} {fi : am_I} {A B C : Int} (hS : SF L g) (ha : (fi 38 0).toInt = A) (hb : (fi 38 1).toInt = B) (hc : (fi 38 2).toInt = C) (h0 : 0 ≤ A ∧ A ≤ 9) (h1 : 0 ≤ B ∧ B ≤ 9) (h2 : 0 ≤ C ∧ C ≤ 9) (kk : ∀ z : Int32, z.toInt = goodV A B C → P (some (.int z)) g fi fl) : WP (d + 2) 150 0 [some (.ref 31)] [] g fi fl P := by
  refine wi_aload_0 ct_150_0 ?_
  refine wi_ic ct_150_1 kc_0 ?_
  refine wi_ic ct_150_2 kc_30 ?_
  refine wi_ic ct_150_4 kc_4 ?_
  refine wi_aload_0 ct_150_5 ?_
  refine wi_aload_0 ct_150_6 ?_
  refine wi_gfr ct_150_7 (sT_31 hS) rfl (sR_31_8 hS) ?_
  refine wi_ic ct_150_10 kc_0 ?_
  refine wi_iald (x := fi 38 0) ct_150_11 (sT_38 hS) (sL_38 hS) (by decide) kn_c0 rfl ?_
  refine wi_ic ct_150_12 kc_5 ?_
  refine wi_cv2 (ls' := [some _, some _, some _]) ct_150_13 (Nat.le_of_ble_eq_true rfl) (by decide) (sT_31 hS) rfl (by decide) rfl rfl (Nat.le_of_ble_eq_true rfl) ?_
  refine c_apart ha ki_5 (by omega) (by omega) (fun z1 hz1 => wk_i ?_)
  refine wi_imul ct_150_16 rfl ?_
  refine wi_isub ct_150_17 rfl ?_
  refine wi_ic ct_150_18 kc_2 ?_
  refine wi_aload_0 ct_150_19 ?_
  refine wi_aload_0 ct_150_20 ?_
  refine wi_gfr ct_150_21 (sT_31 hS) rfl (sR_31_8 hS) ?_
  refine wi_ic ct_150_24 kc_1 ?_
  refine wi_iald (x := fi 38 1) ct_150_25 (sT_38 hS) (sL_38 hS) (by decide) kn_c1 rfl ?_
  refine wi_ic ct_150_26 kc_3 ?_
  refine wi_cv2 (ls' := [some _, some _, some _]) ct_150_27 (Nat.le_of_ble_eq_true rfl) (by decide) (sT_31 hS) rfl (by decide) rfl rfl (Nat.le_of_ble_eq_true rfl) ?_
  refine c_apart hb ki_3 (by omega) (by omega) (fun z2 hz2 => wk_i ?_)
  refine wi_imul ct_150_30 rfl ?_
  refine wi_isub ct_150_31 rfl ?_
  refine wi_aload_0 ct_150_32 ?_
  refine wi_gfr ct_150_33 (sT_31 hS) rfl (sR_31_8 hS) ?_
  refine wi_ic ct_150_36 kc_2 ?_
  refine wi_iald (x := fi 38 2) ct_150_37 (sT_38 hS) (sL_38 hS) (by decide) kn_c2 rfl ?_
  refine wi_iadd ct_150_38 rfl ?_
  refine wi_cv2 (ls' := [some _, some _, some _]) ct_150_39 (Nat.le_of_ble_eq_true rfl) (by decide) (sT_31 hS) rfl (by decide) rfl rfl (Nat.le_of_ble_eq_true rfl) ?_
  refine c_most ki_0 (i_add (i_sub (i_sub ki_30 (i_mul ki_4 hz1 (by omega)) (by omega)) (i_mul ki_2 hz2 (by omega)) (by omega)) hc (by omega)) (fun z3 hz3 => wk_i ?_)
  refine wi_iret ct_150_42 rfl ?_
  exact kk _ (hz3.trans (by unfold goodV; omega))
