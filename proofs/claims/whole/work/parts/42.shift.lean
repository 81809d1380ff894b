set_option maxHeartbeats 2000000 in
theorem vl_cjudge {L : Nat} {xs : Nat → Int32} {own : Nat → Nat} {d : Nat} {g : am_G} {fi : am_I} {fl : am_L} {P : Option Value → am_G → am_I → am_L → Prop} {T : Nat} (hR : Rel L xs own g fi fl) {eq : Nat → Bool} {I2 N : Nat} {z1 z2 : Int32} {Iv : Int} (hT6 : T < 6) (hTn : z1.toInt = (T : Int)) (hIv : z2.toInt = Iv) (hI2 : 0 ≤ Iv → Iv = (I2 : Int)) (hNb : (fi 31 0).toInt = (N : Int)) (hst : (fi 68 T).toInt = -1 ∨ (fi 68 T).toInt = 3) (heq : ∀ k, eq k = decide (fl 70 (60 * T + I2 + k) = (fi 36 k).toInt64)) (kk : ∀ z : Int32, z.toInt = jgV eq Iv (fi 69 T).toInt N 0 → P (some (.int z)) g fi fl) : ∀ (n k : Nat) (zi : Int32) (l4 l5 l6 : Option Value), k + n = N → zi.toInt = (k : Int) → jgV eq Iv (fi 69 T).toInt n k = jgV eq Iv (fi 69 T).toInt N 0 → WP (d + 4) 92 32 [some (.ref 0), some (.int (z1)), some (.int (z2)), some (.int (zi)), l4, l5, l6] [] g fi fl P := by
  obtain ⟨hS, hsc, hC, hK, hX, hV, hT, hP, hB, hN, hQ, hZ, hI⟩ := id hR
  obtain ⟨⟨c0, c0a, c0b⟩, ⟨c1, c1a, c1b⟩, ⟨c2, c2a, c2b⟩, ⟨c3, c3a, c3b⟩, ⟨c4, c4a, c4b⟩, ⟨c5, c5a, c5b⟩, ⟨c6, c6a, c6b⟩, ⟨c7, c7a, c7b⟩, c8, c9⟩ := id hC
  obtain ⟨p22T, p23T, ⟨paT, pbT⟩, ⟨pcT, pdT⟩, pzT, tvT⟩ := id (hP T (by omega))
  have hIb : -2147483648 ≤ Iv ∧ Iv ≤ 2147483647 := hIv ▸ i_bd
  intro n
  induction n with
  | zero =>
    intro k zi l4 l5 l6 hkn hzi hb
    rcases Int.lt_or_le Iv 0 with hIn | hIn
    · skip
      refine wi_iload_3 ct_92_32 ?_
      refine wi_aload_0 ct_92_33 ?_
      refine wi_gfr ct_92_34 (sT_0 hS) rfl (sR_0_0 hS) ?_
      refine wi_gf (x := fi 31 0) ct_92_37 (sT_1 hS) rfl rfl c0 ?_
      refine wi_icge_t ct_92_40 hzi hNb (by omega) ?_
      refine wi_ic ct_92_112 kc_m5 ?_
      refine wi_iret ct_92_114 rfl ?_
      exact kk _ (ki_m5.trans hb)
    · skip
      replace hIn := hI2 hIn
      refine wi_iload_3 ct_92_32 ?_
      refine wi_aload_0 ct_92_33 ?_
      refine wi_gfr ct_92_34 (sT_0 hS) rfl (sR_0_0 hS) ?_
      refine wi_gf (x := fi 31 0) ct_92_37 (sT_1 hS) rfl rfl c0 ?_
      refine wi_icge_t ct_92_40 hzi hNb (by omega) ?_
      refine wi_ic ct_92_112 kc_m5 ?_
      refine wi_iret ct_92_114 rfl ?_
      exact kk _ (ki_m5.trans hb)
  | succ n ih =>
    intro k zi l4 l5 l6 hkn hzi hb
    rcases Int.lt_or_le Iv 0 with hIn | hIn
    · skip
      refine wi_iload_3 ct_92_32 ?_
      refine wi_aload_0 ct_92_33 ?_
      refine wi_gfr ct_92_34 (sT_0 hS) rfl (sR_0_0 hS) ?_
      refine wi_gf (x := fi 31 0) ct_92_37 (sT_1 hS) rfl rfl c0 ?_
      refine wi_icge_f ct_92_40 hzi hNb (by omega) ?_
      refine wi_iload_2 ct_92_43 ?_
      refine wi_i2l ct_92_44 rfl ?_
      refine wi_iload_3 ct_92_45 ?_
      refine wi_i2l ct_92_46 rfl ?_
      have hla1 := j_add (j_of hIv) (j_of hzi) (by omega)
      refine wi_ladd ct_92_47 rfl ?_
      refine wi_lstore_4 rfl ct_92_48 ?_
      refine wi_iload_2 ct_92_50 ?_
      refine wi_iflt_t ct_92_51 hIv (by omega) ?_
      refine wi_ic ct_92_67 kc_100 ?_
      refine wi_iload_3 ct_92_69 ?_
      refine wi_iadd ct_92_70 rfl ?_
      refine wi_iret ct_92_71 rfl ?_
      exact kk _ ((i_add ki_100 hzi (by omega)).trans ((jgV_1 (by omega)).symm.trans hb))
    · skip
      replace hIn := hI2 hIn
      refine wi_iload_3 ct_92_32 ?_
      refine wi_aload_0 ct_92_33 ?_
      refine wi_gfr ct_92_34 (sT_0 hS) rfl (sR_0_0 hS) ?_
      refine wi_gf (x := fi 31 0) ct_92_37 (sT_1 hS) rfl rfl c0 ?_
      refine wi_icge_f ct_92_40 hzi hNb (by omega) ?_
      refine wi_iload_2 ct_92_43 ?_
      refine wi_i2l ct_92_44 rfl ?_
      refine wi_iload_3 ct_92_45 ?_
      refine wi_i2l ct_92_46 rfl ?_
      have hla2 := j_add (j_of (hIv.trans hIn)) (j_of hzi) (by omega)
      refine wi_ladd ct_92_47 rfl ?_
      refine wi_lstore_4 rfl ct_92_48 ?_
      refine wi_iload_2 ct_92_50 ?_
      refine wi_iflt_f ct_92_51 (hIv.trans hIn) (by omega) ?_
      refine wi_lload_4 ct_92_54 ?_
      refine wi_aload_0 ct_92_56 ?_
      refine wi_gfr ct_92_57 (sT_0 hS) rfl (sR_0_12 hS) ?_
      refine wi_iload_1 ct_92_60 ?_
      refine wi_iald (x := fi 69 T) ct_92_61 (sT_23 hS) (sL_23 hS) (i_in hTn (by omega)) (i_cl (k := T) hTn (by omega)) p23T ?_
      refine wi_i2l ct_92_62 rfl ?_
      rcases Int.lt_trichotomy ((I2 : Int) + (k : Int)) ((fi 69 T).toInt) with hj3 | hj3 | hj3
      · skip
        refine wi_lcmp ct_92_63 (lcmp_m1 (hla2.trans rfl) ((j_of (rfl : (fi 69 T).toInt = _)).trans rfl) hj3) ?_
        refine wi_iflt_t ct_92_64 ki_m1 (by decide) ?_
        refine wi_aload_0 ct_92_72 ?_
        refine wi_iload_3 ct_92_73 ?_
        refine wi_cv1 (ls' := [some _, some _]) ct_92_74 (Nat.le_of_ble_eq_true rfl) (by decide) (sT_0 hS) rfl (by decide) rfl rfl (Nat.le_of_ble_eq_true rfl) ?_
        refine wi_iload_1 ct_104_0 ?_
        refine wi_ic ct_104_1 kc_0 ?_
        refine wi_aload_0 ct_104_2 ?_
        refine wi_gfr ct_104_3 (sT_0 hS) rfl (sR_0_0 hS) ?_
        refine wi_gf (x := fi 31 0) ct_104_6 (sT_1 hS) rfl rfl c0 ?_
        refine wi_ic ct_104_9 kc_1 ?_
        refine wi_isub ct_104_10 rfl ?_
        refine wi_cs3 (ls' := [some _, some _, some _]) ct_104_11 (Nat.le_of_ble_eq_true rfl) rfl (Nat.le_of_ble_eq_true rfl) ?_
        refine c_within hzi ki_0 (i_sub hNb ki_1 (by omega)) (fun _ => wk_i ?_) (fun h => absurd h (by omega))
        refine wi_ifeq_f ct_104_14 ki_1 (by decide) ?_
        refine wi_aload_0 ct_104_17 ?_
        refine wi_gfr ct_104_18 (sT_0 hS) rfl (sR_0_0 hS) ?_
        refine wi_gfr ct_104_21 (sT_1 hS) rfl (sR_1_0 hS) ?_
        refine wi_iload_1 ct_104_24 ?_
        obtain ⟨hM4, p4, r4, hO4⟩ := hB k (by omega)
        obtain ⟨⟨m4_0, m4_0b⟩, ⟨m4_1, m4_1b⟩, ⟨m4_2, m4_2b⟩, ⟨m4_3, m4_3b⟩, ⟨m4_4, m4_4b⟩, m4_5⟩ := id hM4
        obtain ⟨o4_0, ⟨o4_72, o4_nx, o4_ow⟩, o4_t, o4_k, o4_n, o4_v, o4_c, o4_a, o4_m, o4_r⟩ := id hO4
        refine wi_aald ct_104_25 (sT_2 hS) (by decide) (sL_2 hS) (i_in hzi (by omega)) (i_cl (k := k) hzi (by omega)) o4_0 ?_
        refine wi_goto ct_104_26 ?_
        refine wi_aret ct_104_30 (wk_r ?_)
        refine wi_astore_6 rfl ct_92_77 ?_
        refine wi_aload_6 ct_92_79 ?_
        refine wi_ifnull_r ct_92_81 ?_
        refine wi_aload_0 ct_92_84 ?_
        refine wi_gfr ct_92_85 (sT_0 hS) rfl (sR_0_13 hS) ?_
        refine wi_iload_1 ct_92_88 ?_
        refine wi_aald ct_92_89 (sT_24 hS) (by decide) (sL_24 hS) (i_in hTn (by omega)) (i_cl (k := T) hTn (by omega)) (tp_R hS hT6) ?_
        refine wi_lload_4 ct_92_90 ?_
        have hli5 := j_l2i hla2 (by omega)
        refine wi_l2i ct_92_92 rfl ?_
        refine wi_lald (x := fl 70 (60 * T + I2 + k)) ct_92_93 (tp_T hS hT6) (tp_L hS hT6) (i_in hli5 (by omega)) (i_cl (k := (I2 + k)) hli5 (by omega)) ((tvT (I2 + k) (by omega)).trans (congrArg (fl 70) (Nat.add_assoc _ _ _).symm)) ?_
        refine wi_aload_6 ct_92_94 ?_
        refine wi_gf (x := fi 36 k) ct_92_96 o4_t (am_ktb _) rfl o4_m ?_
        refine wi_i2l ct_92_99 rfl ?_
        cases heqk : eq k
        · skip
          have hdq := (heq k).symm.trans heqk
          have hln := lcmp_ne (of_decide_eq_false hdq)
          refine wi_lcmp ct_92_100 rfl ?_
          refine wi_ifeq_f ct_92_101 rfl (by omega) ?_
          refine wi_iload_3 ct_92_104 ?_
          refine wi_iret ct_92_105 rfl ?_
          exact kk _ (hzi.trans ((jgV_2 (by omega) heqk).symm.trans hb))
        · skip
          have hdq := (heq k).symm.trans heqk
          refine wi_lcmp ct_92_100 (lcmp_eq (of_decide_eq_true hdq)) ?_
          refine wi_ifeq_t ct_92_101 ki_0 (by decide) ?_
          refine wi_iinc_3 rfl (z := (zi + 1)) ct_92_106 (by rw [kc_1]) ?_
          refine wi_goto ct_92_109 ?_
          exact ih (k + 1) _ _ _ _ (by omega) ((i_add hzi ki_1 (by omega)).trans (by omega)) ((jgV_3 (by omega) heqk).symm.trans hb)
      · skip
        refine wi_lcmp ct_92_63 (lcmp_eq (j_eq hla2 ((j_of (rfl : (fi 69 T).toInt = _)).trans hj3.symm))) ?_
        refine wi_iflt_f ct_92_64 ki_0 (by decide) ?_
        refine wi_ic ct_92_67 kc_100 ?_
        refine wi_iload_3 ct_92_69 ?_
        refine wi_iadd ct_92_70 rfl ?_
        refine wi_iret ct_92_71 rfl ?_
        exact kk _ ((i_add ki_100 hzi (by omega)).trans ((jgV_1 (by omega)).symm.trans hb))
      · skip
        refine wi_lcmp ct_92_63 (lcmp_1 (hla2.trans rfl) ((j_of (rfl : (fi 69 T).toInt = _)).trans rfl) hj3) ?_
        refine wi_iflt_f ct_92_64 ki_1 (by decide) ?_
        refine wi_ic ct_92_67 kc_100 ?_
        refine wi_iload_3 ct_92_69 ?_
        refine wi_iadd ct_92_70 rfl ?_
        refine wi_iret ct_92_71 rfl ?_
        exact kk _ ((i_add ki_100 hzi (by omega)).trans ((jgV_1 (by omega)).symm.trans hb))
set_option maxHeartbeats 2000000 in
theorem vl_mjudge {L : Nat} {xs : Nat → Int32} {own : Nat → Nat} {d : Nat} {g : am_G} {fi : am_I} {fl : am_L} {P : Option Value → am_G → am_I → am_L → Prop} {T : Nat} (hR : Rel L xs own g fi fl) {eq : Nat → Bool} {I2 N : Nat} {z1 z2 : Int32} {Iv : Int} (hT6 : T < 6) (hTn : z1.toInt = (T : Int)) (hIv : z2.toInt = Iv) (hI2 : 0 ≤ Iv → Iv = (I2 : Int)) (hNb : (fi 31 0).toInt = (N : Int)) (hst : (fi 68 T).toInt = -1 ∨ (fi 68 T).toInt = 3) (heq : ∀ k, eq k = decide (fl 70 (60 * T + I2 + k) = (fi 36 k).toInt64)) (kk : ∀ z : Int32, z.toInt = jgV eq Iv (fi 69 T).toInt N 0 → P (some (.int z)) g fi fl) : ∀ (n k : Nat) (zi : Int32), k + n = N → zi.toInt = (k : Int) → jgV eq Iv (fi 69 T).toInt n k = jgV eq Iv (fi 69 T).toInt N 0 → WP (d + 4) 179 34 [some (.ref 31), some (.int (z1)), some (.int (z2)), some (.int (zi))] [] g fi fl P := by
  obtain ⟨hS, hsc, hC, hK, hX, hV, hT, hP, hB, hN, hQ, hZ, hI⟩ := id hR
  obtain ⟨⟨c0, c0a, c0b⟩, ⟨c1, c1a, c1b⟩, ⟨c2, c2a, c2b⟩, ⟨c3, c3a, c3b⟩, ⟨c4, c4a, c4b⟩, ⟨c5, c5a, c5b⟩, ⟨c6, c6a, c6b⟩, ⟨c7, c7a, c7b⟩, c8, c9⟩ := id hC
  obtain ⟨p22T, p23T, ⟨paT, pbT⟩, ⟨pcT, pdT⟩, pzT, tvT⟩ := id (hP T (by omega))
  have hIb : -2147483648 ≤ Iv ∧ Iv ≤ 2147483647 := hIv ▸ i_bd
  intro n
  induction n with
  | zero =>
    intro k zi hkn hzi hb
    rcases Int.lt_or_le Iv 0 with hIn | hIn
    · skip
      refine wi_iload_3 ct_179_34 ?_
      refine wi_aload_0 ct_179_35 ?_
      refine wi_gf (x := fi 31 0) ct_179_36 (sT_31 hS) rfl rfl rfl ?_
      refine wi_icge_t ct_179_39 hzi hNb (by omega) ?_
      refine wi_ic ct_179_106 kc_m5 ?_
      refine wi_iret ct_179_108 rfl ?_
      exact kk _ (ki_m5.trans hb)
    · skip
      replace hIn := hI2 hIn
      refine wi_iload_3 ct_179_34 ?_
      refine wi_aload_0 ct_179_35 ?_
      refine wi_gf (x := fi 31 0) ct_179_36 (sT_31 hS) rfl rfl rfl ?_
      refine wi_icge_t ct_179_39 hzi hNb (by omega) ?_
      refine wi_ic ct_179_106 kc_m5 ?_
      refine wi_iret ct_179_108 rfl ?_
      exact kk _ (ki_m5.trans hb)
  | succ n ih =>
    intro k zi hkn hzi hb
    rcases Int.lt_or_le Iv 0 with hIn | hIn
    · skip
      refine wi_iload_3 ct_179_34 ?_
      refine wi_aload_0 ct_179_35 ?_
      refine wi_gf (x := fi 31 0) ct_179_36 (sT_31 hS) rfl rfl rfl ?_
      refine wi_icge_f ct_179_39 hzi hNb (by omega) ?_
      refine wi_aload_0 ct_179_42 ?_
      refine wi_gfr ct_179_43 (sT_31 hS) rfl (sR_31_67 hS) ?_
      refine wi_iload_1 ct_179_46 ?_
      refine wi_iald (x := fi 68 T) ct_179_47 (sT_68 hS) (sL_68 hS) (i_in hTn (by omega)) (i_cl (k := T) hTn (by omega)) rfl ?_
      refine wi_iflt ct_179_48 rfl (fun h1 => ?_) (fun h1 => ?_)
      · skip
        refine wi_ic ct_179_69 kc_100 ?_
        refine wi_iload_3 ct_179_71 ?_
        refine wi_iadd ct_179_72 rfl ?_
        refine wi_iret ct_179_73 rfl ?_
        exact kk _ ((i_add ki_100 hzi (by omega)).trans ((jgV_1 (by omega)).symm.trans hb))
      · skip
        refine wi_iload_2 ct_179_51 ?_
        refine wi_iflt_t ct_179_52 hIv (by omega) ?_
        refine wi_ic ct_179_69 kc_100 ?_
        refine wi_iload_3 ct_179_71 ?_
        refine wi_iadd ct_179_72 rfl ?_
        refine wi_iret ct_179_73 rfl ?_
        exact kk _ ((i_add ki_100 hzi (by omega)).trans ((jgV_1 (by omega)).symm.trans hb))
    · skip
      replace hIn := hI2 hIn
      refine wi_iload_3 ct_179_34 ?_
      refine wi_aload_0 ct_179_35 ?_
      refine wi_gf (x := fi 31 0) ct_179_36 (sT_31 hS) rfl rfl rfl ?_
      refine wi_icge_f ct_179_39 hzi hNb (by omega) ?_
      refine wi_aload_0 ct_179_42 ?_
      refine wi_gfr ct_179_43 (sT_31 hS) rfl (sR_31_67 hS) ?_
      refine wi_iload_1 ct_179_46 ?_
      refine wi_iald (x := fi 68 T) ct_179_47 (sT_68 hS) (sL_68 hS) (i_in hTn (by omega)) (i_cl (k := T) hTn (by omega)) rfl ?_
      refine wi_iflt ct_179_48 rfl (fun h2 => ?_) (fun h2 => ?_)
      · skip
        refine wi_ic ct_179_69 kc_100 ?_
        refine wi_iload_3 ct_179_71 ?_
        refine wi_iadd ct_179_72 rfl ?_
        refine wi_iret ct_179_73 rfl ?_
        exact kk _ ((i_add ki_100 hzi (by omega)).trans ((jgV_1 (by omega)).symm.trans hb))
      · skip
        refine wi_iload_2 ct_179_51 ?_
        refine wi_iflt_f ct_179_52 (hIv.trans hIn) (by omega) ?_
        refine wi_iload_2 ct_179_55 ?_
        refine wi_aload_0 ct_179_56 ?_
        refine wi_gfr ct_179_57 (sT_31 hS) rfl (sR_31_68 hS) ?_
        refine wi_iload_1 ct_179_60 ?_
        refine wi_iald (x := fi 69 T) ct_179_61 (sT_69 hS) (sL_69 hS) (i_in hTn (by omega)) (i_cl (k := T) hTn (by omega)) rfl ?_
        refine wi_iload_3 ct_179_62 ?_
        refine wi_isub ct_179_63 rfl ?_
        refine wi_ic ct_179_64 kc_1 ?_
        refine wi_isub ct_179_65 rfl ?_
        refine wi_icle ct_179_66 (hIv.trans hIn) (i_sub (i_sub rfl hzi (by omega)) ki_1 (by omega)) (fun h3 => ?_) (fun h3 => ?_)
        · skip
          refine wi_aload_0 ct_179_74 ?_
          refine wi_gfr ct_179_75 (sT_31 hS) rfl (sR_31_69 hS) ?_
          refine wi_ic ct_179_78 kc_60 ?_
          refine wi_iload_1 ct_179_80 ?_
          refine wi_imul ct_179_81 rfl ?_
          refine wi_iload_2 ct_179_82 ?_
          refine wi_iadd ct_179_83 rfl ?_
          refine wi_iload_3 ct_179_84 ?_
          refine wi_iadd ct_179_85 rfl ?_
          refine wi_lald (x := fl 70 (60 * T + I2 + k)) ct_179_86 (sT_70 hS) (sL_70 hS) (i_in (i_add (i_add (i_mul ki_60 hTn (by omega)) (hIv.trans hIn) (by omega)) hzi (by omega)) (by omega)) (i_cl (k := (60 * T + I2 + k)) (i_add (i_add (i_mul ki_60 hTn (by omega)) (hIv.trans hIn) (by omega)) hzi (by omega)) (by omega)) rfl ?_
          refine wi_aload_0 ct_179_87 ?_
          refine wi_gfr ct_179_88 (sT_31 hS) rfl (sR_31_6 hS) ?_
          refine wi_iload_3 ct_179_91 ?_
          refine wi_iald (x := fi 36 k) ct_179_92 (sT_36 hS) (sL_36 hS) (i_in hzi (by omega)) (i_cl (k := k) hzi (by omega)) rfl ?_
          refine wi_i2l ct_179_93 rfl ?_
          cases heqk : eq k
          · skip
            have hdq := (heq k).symm.trans heqk
            have hln := lcmp_ne (of_decide_eq_false hdq)
            refine wi_lcmp ct_179_94 rfl ?_
            refine wi_ifeq_f ct_179_95 rfl (by omega) ?_
            refine wi_iload_3 ct_179_98 ?_
            refine wi_iret ct_179_99 rfl ?_
            exact kk _ (hzi.trans ((jgV_2 (by omega) heqk).symm.trans hb))
          · skip
            have hdq := (heq k).symm.trans heqk
            refine wi_lcmp ct_179_94 (lcmp_eq (of_decide_eq_true hdq)) ?_
            refine wi_ifeq_t ct_179_95 ki_0 (by decide) ?_
            refine wi_iinc_3 rfl (z := (zi + 1)) ct_179_100 (by rw [kc_1]) ?_
            refine wi_goto ct_179_103 ?_
            exact ih (k + 1) _ (by omega) ((i_add hzi ki_1 (by omega)).trans (by omega)) ((jgV_3 (by omega) heqk).symm.trans hb)
        · skip
          refine wi_ic ct_179_69 kc_100 ?_
          refine wi_iload_3 ct_179_71 ?_
          refine wi_iadd ct_179_72 rfl ?_
          refine wi_iret ct_179_73 rfl ?_
          exact kk _ ((i_add ki_100 hzi (by omega)).trans ((jgV_1 (by omega)).symm.trans hb))
set_option maxHeartbeats 2000000 in
theorem op_judge {L I : Nat} {xs : Nat → Int32} {own : Nat → Nat} {d : Nat} {g : am_G} {fi : am_I} {fl : am_L} {P : Option Value → am_G → am_I → am_L → Prop} {i : Int32} (hi : i.toInt = (I : Int)) (hI6 : I + 6 ≤ L) (hL : L ≤ 3072) (hR : Rel L xs own g fi fl) (hnx : am_nx g ≤ 800000) (kk : ∀ own' g' fi' fl', Rel L xs own' g' fi' fl' → am_nx g' ≤ am_nx g + 30 → am_sl g' ≤ am_sl g + 1000 → WP (d + 60) 211 1359 [some (.retAddr 0), some (.ref 0), some (.ref 31), some (.int i)] [] g' fi' fl' P) : WP (d + 60) 211 965 [some (.retAddr 0), some (.ref 0), some (.ref 31), some (.int i)] [] g fi fl P := by
  obtain ⟨hS, hsc, hC, hK, hX, hV, hT, hP, hB, hN, hQ, hZ, hI⟩ := id hR
  obtain ⟨⟨c0, c0a, c0b⟩, ⟨c1, c1a, c1b⟩, ⟨c2, c2a, c2b⟩, ⟨c3, c3a, c3b⟩, ⟨c4, c4a, c4b⟩, ⟨c5, c5a, c5b⟩, ⟨c6, c6a, c6b⟩, ⟨c7, c7a, c7b⟩, c8, c9⟩ := id hC
  obtain ⟨a1, e1⟩ : ∃ a, xs (I + 1) = a := ⟨_, rfl⟩
  obtain ⟨a2, e2⟩ : ∃ a, xs (I + 2) = a := ⟨_, rfl⟩
  obtain ⟨N, hNb⟩ : ∃ N : Nat, (fi 31 0).toInt = (N : Int) := ⟨(fi 31 0).toInt.toNat, by omega⟩
  by_cases hAT : 0 ≤ (a1).toInt ∧ (a1).toInt ≤ 5
  · skip
    obtain ⟨T, hTa⟩ : ∃ T : Nat, (a1).toInt = (T : Int) := ⟨(a1).toInt.toNat, by omega⟩
    have hTn := hTa
    have hT6 : T < 6 := by omega
    obtain ⟨p22T, p23T, ⟨paT, pbT⟩, ⟨pcT, pdT⟩, pzT, tvT⟩ := id (hP T (by omega))
    obtain ⟨I2, hI2⟩ : ∃ I2 : Nat, 0 ≤ (a2).toInt → (a2).toInt = (I2 : Int) := ⟨(a2).toInt.toNat, fun h => by omega⟩
    obtain ⟨eq, heq⟩ : ∃ eq : Nat → Bool, ∀ k, eq k = decide (fl 70 (60 * T + I2 + k) = (fi 36 k).toInt64) := ⟨_, fun _ => rfl⟩
    refine wi_aload_1 ct_211_965 ?_
    refine wi_aloadT_0 ct_211_966 ?_
    refine wi_iload_3 ct_211_967 ?_
    refine wi_ic ct_211_968 kc_1 ?_
    refine wi_iadd ct_211_969 rfl ?_
    refine wi_ialdT (j := I + 1) (x := a1) ct_211_970 (sL_SC hS) (i_in (i_add hi ki_1 (by omega)) (by omega)) (i_cl (i_add hi ki_1 (by omega)) (by omega)) (((hsc _).trans e1)) ?_
    refine wi_aloadT_0 ct_211_971 ?_
    refine wi_iload_3 ct_211_972 ?_
    refine wi_ic ct_211_973 kc_2 ?_
    refine wi_iadd ct_211_974 rfl ?_
    refine wi_ialdT (j := I + 2) (x := a2) ct_211_975 (sL_SC hS) (i_in (i_add hi ki_2 (by omega)) (by omega)) (i_cl (i_add hi ki_2 (by omega)) (by omega)) (((hsc _).trans e2)) ?_
    refine wi_cv2 (ls' := [some _, some _, some _, none, none, none, none]) ct_211_976 (Nat.le_of_ble_eq_true rfl) (by decide) (sT_0 hS) rfl (by decide) rfl rfl (Nat.le_of_ble_eq_true rfl) ?_
    refine wi_iload_1 ct_92_0 ?_
    refine wi_cs1 (ls' := [some _]) ct_92_1 (Nat.le_of_ble_eq_true rfl) rfl (Nat.le_of_ble_eq_true rfl) ?_
    refine wi_iload_0 ct_114_0 ?_
    refine wi_ic ct_114_1 kc_0 ?_
    refine wi_ic ct_114_2 kc_5 ?_
    refine wi_cs3 (ls' := [some _, some _, some _]) ct_114_3 (Nat.le_of_ble_eq_true rfl) rfl (Nat.le_of_ble_eq_true rfl) ?_
    refine c_within hTn ki_0 ki_5 (fun _ => wk_i ?_) (fun h => absurd h (by omega))
    refine wi_iret ct_114_6 (by decide) (wk_i ?_)
    refine wi_ifne_t ct_92_4 ki_1 (by decide) ?_
    refine wi_aload_0 ct_92_9 ?_
    refine wi_iload_1 ct_92_10 ?_
    refine wi_cv1 (ls' := [some _, some _]) ct_92_11 (Nat.le_of_ble_eq_true rfl) (by decide) (sT_0 hS) rfl (by decide) rfl rfl (Nat.le_of_ble_eq_true rfl) ?_
    refine wi_aload_0 ct_115_0 ?_
    refine wi_gfr ct_115_1 (sT_0 hS) rfl (sR_0_11 hS) ?_
    refine wi_iload_1 ct_115_4 ?_
    refine wi_iald (x := fi 68 T) ct_115_5 (sT_22 hS) (sL_22 hS) (i_in hTn (by omega)) (i_cl (k := T) hTn (by omega)) p22T ?_
    refine wi_ic ct_115_6 kc_m1 ?_
    refine wi_iceq ct_115_7 rfl ki_m1 (fun h1 => ?_) (fun h1 => ?_)
    · skip
      refine wi_ic ct_115_14 kc_0 ?_
      refine wi_iret ct_115_15 (by decide) (wk_i ?_)
      refine wi_ifeq_t ct_92_14 ki_0 (by decide) ?_
      refine wi_ic ct_92_30 kc_0 ?_
      refine wi_istore_3 rfl ct_92_31 ?_
      refine vl_cjudge hR hT6 hTn rfl hI2 hNb (by omega) heq (fun zc2 hzc2 => wk_i ?_) N 0 _ none none none (by omega) (ki_0.trans rfl) rfl
      refine wi_aload_2 ct_211_979 ?_
      refine wi_aloadT_0 ct_211_980 ?_
      refine wi_iload_3 ct_211_981 ?_
      refine wi_ic ct_211_982 kc_1 ?_
      refine wi_iadd ct_211_983 rfl ?_
      refine wi_ialdT (j := I + 1) (x := a1) ct_211_984 (sL_SC hS) (i_in (i_add hi ki_1 (by omega)) (by omega)) (i_cl (i_add hi ki_1 (by omega)) (by omega)) (((hsc _).trans e1)) ?_
      refine wi_aloadT_0 ct_211_985 ?_
      refine wi_iload_3 ct_211_986 ?_
      refine wi_ic ct_211_987 kc_2 ?_
      refine wi_iadd ct_211_988 rfl ?_
      refine wi_ialdT (j := I + 2) (x := a2) ct_211_989 (sL_SC hS) (i_in (i_add hi ki_2 (by omega)) (by omega)) (i_cl (i_add hi ki_2 (by omega)) (by omega)) (((hsc _).trans e2)) ?_
      refine wi_cv2 (ls' := [some _, some _, some _, none]) ct_211_990 (Nat.le_of_ble_eq_true rfl) (by decide) (sT_31 hS) rfl (by decide) rfl rfl (Nat.le_of_ble_eq_true rfl) ?_
      refine wi_aload_0 ct_179_0 ?_
      refine wi_iload_1 ct_179_1 ?_
      refine wi_cv1 (ls' := [some _, some _]) ct_179_2 (Nat.le_of_ble_eq_true rfl) (by decide) (sT_31 hS) rfl (by decide) rfl rfl (Nat.le_of_ble_eq_true rfl) ?_
      refine wi_aload_0 ct_194_0 ?_
      refine wi_iload_1 ct_194_1 ?_
      refine wi_ic ct_194_2 kc_0 ?_
      refine wi_ic ct_194_3 kc_5 ?_
      refine wi_cv3 (ls' := [some _, some _, some _, some _]) ct_194_4 (Nat.le_of_ble_eq_true rfl) (by decide) (sT_31 hS) rfl (by decide) rfl rfl (Nat.le_of_ble_eq_true rfl) ?_
      refine c_in hTn ki_0 ki_5 (fun _ => wk_i ?_) (fun h => absurd h (by omega))
      refine wi_iret ct_194_7 (by decide) (wk_i ?_)
      refine wi_ifne_t ct_179_5 ki_1 (by decide) ?_
      refine wi_aload_0 ct_179_10 ?_
      refine wi_gfr ct_179_11 (sT_31 hS) rfl (sR_31_67 hS) ?_
      refine wi_iload_1 ct_179_14 ?_
      refine wi_iald (x := fi 68 T) ct_179_15 (sT_68 hS) (sL_68 hS) (i_in hTn (by omega)) (i_cl (k := T) hTn (by omega)) rfl ?_
      refine wi_iflt_t ct_179_16 rfl (by omega) ?_
      refine wi_ic ct_179_32 kc_0 ?_
      refine wi_istore_3 rfl ct_179_33 ?_
      refine vl_mjudge hR hT6 hTn rfl hI2 hNb (by omega) heq (fun zm3 hzm3 => wk_i ?_) N 0 _ (by omega) (ki_0.trans rfl) rfl
      refine wi_iceq_t ct_211_993 hzc2 hzm3 (by omega) ?_
      exact kk own g fi fl hR (by omega) (by omega)
    · skip
      refine wi_ic ct_115_10 kc_1 ?_
      refine wi_goto ct_115_11 ?_
      refine wi_iret ct_115_15 (by decide) (wk_i ?_)
      refine wi_ifeq_f ct_92_14 ki_1 (by decide) ?_
      refine wi_aload_0 ct_92_17 ?_
      refine wi_gfr ct_92_18 (sT_0 hS) rfl (sR_0_11 hS) ?_
      refine wi_iload_1 ct_92_21 ?_
      refine wi_iald (x := fi 68 T) ct_92_22 (sT_22 hS) (sL_22 hS) (i_in hTn (by omega)) (i_cl (k := T) hTn (by omega)) p22T ?_
      refine wi_ic ct_92_23 kc_3 ?_
      refine wi_iceq ct_92_24 rfl ki_3 (fun h4 => ?_) (fun h4 => ?_)
      · skip
        refine wi_ic ct_92_30 kc_0 ?_
        refine wi_istore_3 rfl ct_92_31 ?_
        refine vl_cjudge hR hT6 hTn rfl hI2 hNb (by omega) heq (fun zc5 hzc5 => wk_i ?_) N 0 _ none none none (by omega) (ki_0.trans rfl) rfl
        refine wi_aload_2 ct_211_979 ?_
        refine wi_aloadT_0 ct_211_980 ?_
        refine wi_iload_3 ct_211_981 ?_
        refine wi_ic ct_211_982 kc_1 ?_
        refine wi_iadd ct_211_983 rfl ?_
        refine wi_ialdT (j := I + 1) (x := a1) ct_211_984 (sL_SC hS) (i_in (i_add hi ki_1 (by omega)) (by omega)) (i_cl (i_add hi ki_1 (by omega)) (by omega)) (((hsc _).trans e1)) ?_
        refine wi_aloadT_0 ct_211_985 ?_
        refine wi_iload_3 ct_211_986 ?_
        refine wi_ic ct_211_987 kc_2 ?_
        refine wi_iadd ct_211_988 rfl ?_
        refine wi_ialdT (j := I + 2) (x := a2) ct_211_989 (sL_SC hS) (i_in (i_add hi ki_2 (by omega)) (by omega)) (i_cl (i_add hi ki_2 (by omega)) (by omega)) (((hsc _).trans e2)) ?_
        refine wi_cv2 (ls' := [some _, some _, some _, none]) ct_211_990 (Nat.le_of_ble_eq_true rfl) (by decide) (sT_31 hS) rfl (by decide) rfl rfl (Nat.le_of_ble_eq_true rfl) ?_
        refine wi_aload_0 ct_179_0 ?_
        refine wi_iload_1 ct_179_1 ?_
        refine wi_cv1 (ls' := [some _, some _]) ct_179_2 (Nat.le_of_ble_eq_true rfl) (by decide) (sT_31 hS) rfl (by decide) rfl rfl (Nat.le_of_ble_eq_true rfl) ?_
        refine wi_aload_0 ct_194_0 ?_
        refine wi_iload_1 ct_194_1 ?_
        refine wi_ic ct_194_2 kc_0 ?_
        refine wi_ic ct_194_3 kc_5 ?_
        refine wi_cv3 (ls' := [some _, some _, some _, some _]) ct_194_4 (Nat.le_of_ble_eq_true rfl) (by decide) (sT_31 hS) rfl (by decide) rfl rfl (Nat.le_of_ble_eq_true rfl) ?_
        refine c_in hTn ki_0 ki_5 (fun _ => wk_i ?_) (fun h => absurd h (by omega))
        refine wi_iret ct_194_7 (by decide) (wk_i ?_)
        refine wi_ifne_t ct_179_5 ki_1 (by decide) ?_
        refine wi_aload_0 ct_179_10 ?_
        refine wi_gfr ct_179_11 (sT_31 hS) rfl (sR_31_67 hS) ?_
        refine wi_iload_1 ct_179_14 ?_
        refine wi_iald (x := fi 68 T) ct_179_15 (sT_68 hS) (sL_68 hS) (i_in hTn (by omega)) (i_cl (k := T) hTn (by omega)) rfl ?_
        refine wi_iflt_f ct_179_16 rfl (by omega) ?_
        refine wi_aload_0 ct_179_19 ?_
        refine wi_gfr ct_179_20 (sT_31 hS) rfl (sR_31_67 hS) ?_
        refine wi_iload_1 ct_179_23 ?_
        refine wi_iald (x := fi 68 T) ct_179_24 (sT_68 hS) (sL_68 hS) (i_in hTn (by omega)) (i_cl (k := T) hTn (by omega)) rfl ?_
        refine wi_ic ct_179_25 kc_3 ?_
        refine wi_iceq_t ct_179_26 rfl ki_3 (by omega) ?_
        refine wi_ic ct_179_32 kc_0 ?_
        refine wi_istore_3 rfl ct_179_33 ?_
        refine vl_mjudge hR hT6 hTn rfl hI2 hNb (by omega) heq (fun zm6 hzm6 => wk_i ?_) N 0 _ (by omega) (ki_0.trans rfl) rfl
        refine wi_iceq_t ct_211_993 hzc5 hzm6 (by omega) ?_
        exact kk own g fi fl hR (by omega) (by omega)
      · skip
        refine wi_ic ct_92_27 kc_m12 ?_
        refine wi_iret ct_92_29 rfl (wk_i ?_)
        refine wi_aload_2 ct_211_979 ?_
        refine wi_aloadT_0 ct_211_980 ?_
        refine wi_iload_3 ct_211_981 ?_
        refine wi_ic ct_211_982 kc_1 ?_
        refine wi_iadd ct_211_983 rfl ?_
        refine wi_ialdT (j := I + 1) (x := a1) ct_211_984 (sL_SC hS) (i_in (i_add hi ki_1 (by omega)) (by omega)) (i_cl (i_add hi ki_1 (by omega)) (by omega)) (((hsc _).trans e1)) ?_
        refine wi_aloadT_0 ct_211_985 ?_
        refine wi_iload_3 ct_211_986 ?_
        refine wi_ic ct_211_987 kc_2 ?_
        refine wi_iadd ct_211_988 rfl ?_
        refine wi_ialdT (j := I + 2) (x := a2) ct_211_989 (sL_SC hS) (i_in (i_add hi ki_2 (by omega)) (by omega)) (i_cl (i_add hi ki_2 (by omega)) (by omega)) (((hsc _).trans e2)) ?_
        refine wi_cv2 (ls' := [some _, some _, some _, none]) ct_211_990 (Nat.le_of_ble_eq_true rfl) (by decide) (sT_31 hS) rfl (by decide) rfl rfl (Nat.le_of_ble_eq_true rfl) ?_
        refine wi_aload_0 ct_179_0 ?_
        refine wi_iload_1 ct_179_1 ?_
        refine wi_cv1 (ls' := [some _, some _]) ct_179_2 (Nat.le_of_ble_eq_true rfl) (by decide) (sT_31 hS) rfl (by decide) rfl rfl (Nat.le_of_ble_eq_true rfl) ?_
        refine wi_aload_0 ct_194_0 ?_
        refine wi_iload_1 ct_194_1 ?_
        refine wi_ic ct_194_2 kc_0 ?_
        refine wi_ic ct_194_3 kc_5 ?_
        refine wi_cv3 (ls' := [some _, some _, some _, some _]) ct_194_4 (Nat.le_of_ble_eq_true rfl) (by decide) (sT_31 hS) rfl (by decide) rfl rfl (Nat.le_of_ble_eq_true rfl) ?_
        refine c_in hTn ki_0 ki_5 (fun _ => wk_i ?_) (fun h => absurd h (by omega))
        refine wi_iret ct_194_7 (by decide) (wk_i ?_)
        refine wi_ifne_t ct_179_5 ki_1 (by decide) ?_
        refine wi_aload_0 ct_179_10 ?_
        refine wi_gfr ct_179_11 (sT_31 hS) rfl (sR_31_67 hS) ?_
        refine wi_iload_1 ct_179_14 ?_
        refine wi_iald (x := fi 68 T) ct_179_15 (sT_68 hS) (sL_68 hS) (i_in hTn (by omega)) (i_cl (k := T) hTn (by omega)) rfl ?_
        refine wi_iflt_f ct_179_16 rfl (by omega) ?_
        refine wi_aload_0 ct_179_19 ?_
        refine wi_gfr ct_179_20 (sT_31 hS) rfl (sR_31_67 hS) ?_
        refine wi_iload_1 ct_179_23 ?_
        refine wi_iald (x := fi 68 T) ct_179_24 (sT_68 hS) (sL_68 hS) (i_in hTn (by omega)) (i_cl (k := T) hTn (by omega)) rfl ?_
        refine wi_ic ct_179_25 kc_3 ?_
        refine wi_iceq_f ct_179_26 rfl ki_3 (by omega) ?_
        refine wi_ic ct_179_29 kc_m12 ?_
        refine wi_iret ct_179_31 rfl (wk_i ?_)
        refine wi_iceq_t ct_211_993 ki_m12 ki_m12 (by decide) ?_
        exact kk own g fi fl hR (by omega) (by omega)
  · skip
    refine wi_aload_1 ct_211_965 ?_
    refine wi_aloadT_0 ct_211_966 ?_
    refine wi_iload_3 ct_211_967 ?_
    refine wi_ic ct_211_968 kc_1 ?_
    refine wi_iadd ct_211_969 rfl ?_
    refine wi_ialdT (j := I + 1) (x := a1) ct_211_970 (sL_SC hS) (i_in (i_add hi ki_1 (by omega)) (by omega)) (i_cl (i_add hi ki_1 (by omega)) (by omega)) (((hsc _).trans e1)) ?_
    refine wi_aloadT_0 ct_211_971 ?_
    refine wi_iload_3 ct_211_972 ?_
    refine wi_ic ct_211_973 kc_2 ?_
    refine wi_iadd ct_211_974 rfl ?_
    refine wi_ialdT (j := I + 2) (x := a2) ct_211_975 (sL_SC hS) (i_in (i_add hi ki_2 (by omega)) (by omega)) (i_cl (i_add hi ki_2 (by omega)) (by omega)) (((hsc _).trans e2)) ?_
    refine wi_cv2 (ls' := [some _, some _, some _, none, none, none, none]) ct_211_976 (Nat.le_of_ble_eq_true rfl) (by decide) (sT_0 hS) rfl (by decide) rfl rfl (Nat.le_of_ble_eq_true rfl) ?_
    refine wi_iload_1 ct_92_0 ?_
    refine wi_cs1 (ls' := [some _]) ct_92_1 (Nat.le_of_ble_eq_true rfl) rfl (Nat.le_of_ble_eq_true rfl) ?_
    refine wi_iload_0 ct_114_0 ?_
    refine wi_ic ct_114_1 kc_0 ?_
    refine wi_ic ct_114_2 kc_5 ?_
    refine wi_cs3 (ls' := [some _, some _, some _]) ct_114_3 (Nat.le_of_ble_eq_true rfl) rfl (Nat.le_of_ble_eq_true rfl) ?_
    refine c_within rfl ki_0 ki_5 (fun h => absurd h (by omega)) (fun _ => wk_i ?_)
    refine wi_iret ct_114_6 (by decide) (wk_i ?_)
    refine wi_ifne_f ct_92_4 ki_0 (by decide) ?_
    refine wi_ic ct_92_7 kc_m1 ?_
    refine wi_iret ct_92_8 rfl (wk_i ?_)
    refine wi_aload_2 ct_211_979 ?_
    refine wi_aloadT_0 ct_211_980 ?_
    refine wi_iload_3 ct_211_981 ?_
    refine wi_ic ct_211_982 kc_1 ?_
    refine wi_iadd ct_211_983 rfl ?_
    refine wi_ialdT (j := I + 1) (x := a1) ct_211_984 (sL_SC hS) (i_in (i_add hi ki_1 (by omega)) (by omega)) (i_cl (i_add hi ki_1 (by omega)) (by omega)) (((hsc _).trans e1)) ?_
    refine wi_aloadT_0 ct_211_985 ?_
    refine wi_iload_3 ct_211_986 ?_
    refine wi_ic ct_211_987 kc_2 ?_
    refine wi_iadd ct_211_988 rfl ?_
    refine wi_ialdT (j := I + 2) (x := a2) ct_211_989 (sL_SC hS) (i_in (i_add hi ki_2 (by omega)) (by omega)) (i_cl (i_add hi ki_2 (by omega)) (by omega)) (((hsc _).trans e2)) ?_
    refine wi_cv2 (ls' := [some _, some _, some _, none]) ct_211_990 (Nat.le_of_ble_eq_true rfl) (by decide) (sT_31 hS) rfl (by decide) rfl rfl (Nat.le_of_ble_eq_true rfl) ?_
    refine wi_aload_0 ct_179_0 ?_
    refine wi_iload_1 ct_179_1 ?_
    refine wi_cv1 (ls' := [some _, some _]) ct_179_2 (Nat.le_of_ble_eq_true rfl) (by decide) (sT_31 hS) rfl (by decide) rfl rfl (Nat.le_of_ble_eq_true rfl) ?_
    refine wi_aload_0 ct_194_0 ?_
    refine wi_iload_1 ct_194_1 ?_
    refine wi_ic ct_194_2 kc_0 ?_
    refine wi_ic ct_194_3 kc_5 ?_
    refine wi_cv3 (ls' := [some _, some _, some _, some _]) ct_194_4 (Nat.le_of_ble_eq_true rfl) (by decide) (sT_31 hS) rfl (by decide) rfl rfl (Nat.le_of_ble_eq_true rfl) ?_
    refine c_in rfl ki_0 ki_5 (fun h => absurd h (by omega)) (fun _ => wk_i ?_)
    refine wi_iret ct_194_7 (by decide) (wk_i ?_)
    refine wi_ifne_f ct_179_5 ki_0 (by decide) ?_
    refine wi_ic ct_179_8 kc_m1 ?_
    refine wi_iret ct_179_9 rfl (wk_i ?_)
    refine wi_iceq_t ct_211_993 ki_m1 ki_m1 (by decide) ?_
    exact kk own g fi fl hR (by omega) (by omega)
theorem vl_shift1 {L d : Nat} {g : am_G} {fi : am_I} {P : Option Value → am_G → am_I → am_L → Prop} {T O I2 J2 N : Nat} {fl : am_L} {z1 z2 z3 z4 z5 : Int32} (hS : SF L g) (hT6 : T < 6) (hO6 : O < 6) (hTn : z1.toInt = (T : Int)) (hIn : z2.toInt = (I2 : Int)) (hOn : z3.toInt = (O : Int)) (hJn : z4.toInt = (J2 : Int)) (hn : z5.toInt = (N : Int)) (hIN : I2 + N ≤ 60) (hJN : J2 + N ≤ 60) (kk : ∀ fl3 zi, (∀ j, j < N → fl3 71 j = fl 70 (60 * T + I2 + j)) → (∀ q, q ≠ 71 → fl3 q = fl q) → WP d 199 138 [some (.ref 31), some (.int (z1)), some (.int (z2)), some (.int (z3)), some (.int (z4)), some (.int (z5)), some (.int (zi))] [] g fi fl3 P) : ∀ (n k : Nat) (fl2 : am_L) (zi : Int32), k + n = N → zi.toInt = (k : Int) → (∀ j, j < k → fl2 71 j = fl 70 (60 * T + I2 + j)) → (∀ q, q ≠ 71 → fl2 q = fl q) → WP d 199 104 [some (.ref 31), some (.int (z1)), some (.int (z2)), some (.int (z3)), some (.int (z4)), some (.int (z5)), some (.int (zi))] [] g fi fl2 P := by
  intro n
  induction n with
  | zero =>
    intro k fl2 zi hkn hzi h1 h2
    refine wi_iload_6 ct_199_104 ?_
    refine wi_iload_5 ct_199_106 ?_
    refine wi_icge_t ct_199_108 hzi hn (by omega) ?_
    exact kk _ _ (fun j hj => h1 j (by omega)) h2
  | succ n ih =>
    intro k fl2 zi hkn hzi h1 h2
    refine wi_iload_6 ct_199_104 ?_
    refine wi_iload_5 ct_199_106 ?_
    refine wi_icge_f ct_199_108 hzi hn (by omega) ?_
    refine wi_aload_0 ct_199_111 ?_
    refine wi_gfr ct_199_112 (sT_31 hS) rfl (sR_31_70 hS) ?_
    refine wi_iload_6 ct_199_115 ?_
    refine wi_aload_0 ct_199_117 ?_
    refine wi_gfr ct_199_118 (sT_31 hS) rfl (sR_31_69 hS) ?_
    refine wi_ic ct_199_121 kc_60 ?_
    refine wi_iload_1 ct_199_123 ?_
    refine wi_imul ct_199_124 rfl ?_
    refine wi_iload_2 ct_199_125 ?_
    refine wi_iadd ct_199_126 rfl ?_
    refine wi_iload_6 ct_199_127 ?_
    refine wi_iadd ct_199_129 rfl ?_
    refine wi_lald (x := fl 70 (60 * T + I2 + k)) ct_199_130 (sT_70 hS) (sL_70 hS) (i_in (i_add (i_add (i_mul ki_60 hTn (by omega)) hIn (by omega)) hzi (by omega)) (by omega)) (i_cl (k := (60 * T + I2 + k)) (i_add (i_add (i_mul ki_60 hTn (by omega)) hIn (by omega)) hzi (by omega)) (by omega)) (congrFun (h2 70 (by decide)) _) ?_
    refine wi_last ct_199_131 (sT_71 hS) (sL_71 hS) (i_in hzi (by omega)) (i_cl (k := k) hzi (by omega)) ?_
    refine wi_iinc_6 rfl (z := (zi + 1)) ct_199_132 (by rw [kc_1]) ?_
    refine wi_goto ct_199_135 ?_
    exact ih (k + 1) _ _ (by omega) ((i_add hzi ki_1 (by omega)).trans (by omega)) (fun j hj => by
      rcases Decidable.em (j = k) with ej | ej
      · rw [ej]; exact up2_eq
      · exact (up2_nj (by omega)).trans (h1 j (by omega))) (fun q hq => (funext fun j => up2_nq hq).trans (h2 q hq))
theorem vl_shift2 {L d : Nat} {g : am_G} {fi : am_I} {P : Option Value → am_G → am_I → am_L → Prop} {T O I2 J2 N : Nat} {fl : am_L} {z1 z2 z3 z4 z5 : Int32} (hS : SF L g) (hT6 : T < 6) (hO6 : O < 6) (hTn : z1.toInt = (T : Int)) (hIn : z2.toInt = (I2 : Int)) (hOn : z3.toInt = (O : Int)) (hJn : z4.toInt = (J2 : Int)) (hn : z5.toInt = (N : Int)) (hIN : I2 + N ≤ 60) (hJN : J2 + N ≤ 60) (kk : ∀ fl3 zi, (∀ j, j < N → fl3 70 (60 * O + J2 + j) = fl 71 j) → (∀ q, q ≠ 70 → fl3 q = fl q) → (∀ j, ¬ (60 * O + J2 ≤ j ∧ j < 60 * O + J2 + N) → fl3 70 j = fl 70 j) → WP d 199 176 [some (.ref 31), some (.int (z1)), some (.int (z2)), some (.int (z3)), some (.int (z4)), some (.int (z5)), some (.int (zi))] [] g fi fl3 P) : ∀ (n k : Nat) (fl2 : am_L) (zi : Int32), k + n = N → zi.toInt = (k : Int) → (∀ j, j < k → fl2 70 (60 * O + J2 + j) = fl 71 j) → (∀ q, q ≠ 70 → fl2 q = fl q) → (∀ j, ¬ (60 * O + J2 ≤ j ∧ j < 60 * O + J2 + N) → fl2 70 j = fl 70 j) → WP d 199 141 [some (.ref 31), some (.int (z1)), some (.int (z2)), some (.int (z3)), some (.int (z4)), some (.int (z5)), some (.int (zi))] [] g fi fl2 P := by
  intro n
  induction n with
  | zero =>
    intro k fl2 zi hkn hzi h1 h2 h3
    refine wi_iload_6 ct_199_141 ?_
    refine wi_iload_5 ct_199_143 ?_
    refine wi_icge_t ct_199_145 hzi hn (by omega) ?_
    exact kk _ _ (fun j hj => h1 j (by omega)) h2 h3
  | succ n ih =>
    intro k fl2 zi hkn hzi h1 h2 h3
    refine wi_iload_6 ct_199_141 ?_
    refine wi_iload_5 ct_199_143 ?_
    refine wi_icge_f ct_199_145 hzi hn (by omega) ?_
    refine wi_aload_0 ct_199_148 ?_
    refine wi_gfr ct_199_149 (sT_31 hS) rfl (sR_31_69 hS) ?_
    refine wi_ic ct_199_152 kc_60 ?_
    refine wi_iload_3 ct_199_154 ?_
    refine wi_imul ct_199_155 rfl ?_
    refine wi_iload_4 ct_199_156 ?_
    refine wi_iadd ct_199_158 rfl ?_
    refine wi_iload_6 ct_199_159 ?_
    refine wi_iadd ct_199_161 rfl ?_
    refine wi_aload_0 ct_199_162 ?_
    refine wi_gfr ct_199_163 (sT_31 hS) rfl (sR_31_70 hS) ?_
    refine wi_iload_6 ct_199_166 ?_
    refine wi_lald (x := fl 71 k) ct_199_168 (sT_71 hS) (sL_71 hS) (i_in hzi (by omega)) (i_cl (k := k) hzi (by omega)) (congrFun (h2 71 (by decide)) _) ?_
    refine wi_last ct_199_169 (sT_70 hS) (sL_70 hS) (i_in (i_add (i_add (i_mul ki_60 hOn (by omega)) hJn (by omega)) hzi (by omega)) (by omega)) (i_cl (k := (60 * O + J2 + k)) (i_add (i_add (i_mul ki_60 hOn (by omega)) hJn (by omega)) hzi (by omega)) (by omega)) ?_
    refine wi_iinc_6 rfl (z := (zi + 1)) ct_199_170 (by rw [kc_1]) ?_
    refine wi_goto ct_199_173 ?_
    exact ih (k + 1) _ _ (by omega) ((i_add hzi ki_1 (by omega)).trans (by omega)) (fun j hj => by
      rcases Decidable.em (j = k) with ej | ej
      · rw [ej]; exact up2_eq
      · exact (up2_nj (by omega)).trans (h1 j (by omega))) (fun q hq => (funext fun j => up2_nq hq).trans (h2 q hq)) (fun j hj => (up2_nj (by omega)).trans (h3 j hj))
set_option maxHeartbeats 2000000 in
theorem op_shift {L I : Nat} {xs : Nat → Int32} {own : Nat → Nat} {d : Nat} {g : am_G} {fi : am_I} {fl : am_L} {P : Option Value → am_G → am_I → am_L → Prop} {i : Int32} (hi : i.toInt = (I : Int)) (hI6 : I + 6 ≤ L) (hL : L ≤ 3072) (hR : Rel L xs own g fi fl) (hnx : am_nx g ≤ 800000) (kk : ∀ own' g' fi' fl', Rel L xs own' g' fi' fl' → am_nx g' ≤ am_nx g + 30 → am_sl g' ≤ am_sl g + 1000 → WP (d + 60) 211 1359 [some (.retAddr 0), some (.ref 0), some (.ref 31), some (.int i)] [] g' fi' fl' P) : WP (d + 60) 211 1296 [some (.retAddr 0), some (.ref 0), some (.ref 31), some (.int i)] [] g fi fl P := by
  obtain ⟨hS, hsc, hC, hK, hX, hV, hT, hP, hB, hN, hQ, hZ, hI⟩ := id hR
  obtain ⟨⟨c0, c0a, c0b⟩, ⟨c1, c1a, c1b⟩, ⟨c2, c2a, c2b⟩, ⟨c3, c3a, c3b⟩, ⟨c4, c4a, c4b⟩, ⟨c5, c5a, c5b⟩, ⟨c6, c6a, c6b⟩, ⟨c7, c7a, c7b⟩, c8, c9⟩ := id hC
  obtain ⟨a1, e1⟩ : ∃ a, xs (I + 1) = a := ⟨_, rfl⟩
  obtain ⟨a2, e2⟩ : ∃ a, xs (I + 2) = a := ⟨_, rfl⟩
  obtain ⟨a3, e3⟩ : ∃ a, xs (I + 3) = a := ⟨_, rfl⟩
  obtain ⟨a4, e4⟩ : ∃ a, xs (I + 4) = a := ⟨_, rfl⟩
  obtain ⟨a5, e5⟩ : ∃ a, xs (I + 5) = a := ⟨_, rfl⟩
  have hbd2 := i_bd (x := a2)
  have hbd4 := i_bd (x := a4)
  have hbd5 := i_bd (x := a5)
  by_cases hAT : 0 ≤ (a1).toInt ∧ (a1).toInt ≤ 5
  · skip
    obtain ⟨T, hTa⟩ : ∃ T : Nat, (a1).toInt = (T : Int) := ⟨(a1).toInt.toNat, by omega⟩
    have hTn := hTa
    have hT6 : T < 6 := by omega
    obtain ⟨p22T, p23T, ⟨paT, pbT⟩, ⟨pcT, pdT⟩, pzT, tvT⟩ := id (hP T (by omega))
    by_cases hAO : 0 ≤ (a3).toInt ∧ (a3).toInt ≤ 5
    · skip
      obtain ⟨O, hOa⟩ : ∃ O : Nat, (a3).toInt = (O : Int) := ⟨(a3).toInt.toNat, by omega⟩
      have hOn := hOa
      have hO6 : O < 6 := by omega
      obtain ⟨p22O, p23O, ⟨paO, pbO⟩, ⟨pcO, pdO⟩, pzO, tvO⟩ := id (hP O (by omega))
      refine wi_aload_1 ct_211_1296 ?_
      refine wi_aloadT_0 ct_211_1297 ?_
      refine wi_iload_3 ct_211_1298 ?_
      refine wi_ic ct_211_1299 kc_1 ?_
      refine wi_iadd ct_211_1300 rfl ?_
      refine wi_ialdT (j := I + 1) (x := a1) ct_211_1301 (sL_SC hS) (i_in (i_add hi ki_1 (by omega)) (by omega)) (i_cl (i_add hi ki_1 (by omega)) (by omega)) (((hsc _).trans e1)) ?_
      refine wi_aloadT_0 ct_211_1302 ?_
      refine wi_iload_3 ct_211_1303 ?_
      refine wi_ic ct_211_1304 kc_2 ?_
      refine wi_iadd ct_211_1305 rfl ?_
      refine wi_ialdT (j := I + 2) (x := a2) ct_211_1306 (sL_SC hS) (i_in (i_add hi ki_2 (by omega)) (by omega)) (i_cl (i_add hi ki_2 (by omega)) (by omega)) (((hsc _).trans e2)) ?_
      refine wi_aloadT_0 ct_211_1307 ?_
      refine wi_iload_3 ct_211_1308 ?_
      refine wi_ic ct_211_1309 kc_3 ?_
      refine wi_iadd ct_211_1310 rfl ?_
      refine wi_ialdT (j := I + 3) (x := a3) ct_211_1311 (sL_SC hS) (i_in (i_add hi ki_3 (by omega)) (by omega)) (i_cl (i_add hi ki_3 (by omega)) (by omega)) (((hsc _).trans e3)) ?_
      refine wi_aloadT_0 ct_211_1312 ?_
      refine wi_iload_3 ct_211_1313 ?_
      refine wi_ic ct_211_1314 kc_4 ?_
      refine wi_iadd ct_211_1315 rfl ?_
      refine wi_ialdT (j := I + 4) (x := a4) ct_211_1316 (sL_SC hS) (i_in (i_add hi ki_4 (by omega)) (by omega)) (i_cl (i_add hi ki_4 (by omega)) (by omega)) (((hsc _).trans e4)) ?_
      refine wi_aloadT_0 ct_211_1317 ?_
      refine wi_iload_3 ct_211_1318 ?_
      refine wi_ic ct_211_1319 kc_5 ?_
      refine wi_iadd ct_211_1320 rfl ?_
      refine wi_ialdT (j := I + 5) (x := a5) ct_211_1321 (sL_SC hS) (i_in (i_add hi ki_5 (by omega)) (by omega)) (i_cl (i_add hi ki_5 (by omega)) (by omega)) (((hsc _).trans e5)) ?_
      refine wi_cv5 (ls' := [some _, some _, some _, some _, some _, some _]) ct_211_1322 (Nat.le_of_ble_eq_true rfl) (by decide) (sT_0 hS) rfl (by decide) rfl rfl (Nat.le_of_ble_eq_true rfl) ?_
      refine wi_iload_1 ct_102_0 ?_
      refine wi_cs1 (ls' := [some _]) ct_102_1 (Nat.le_of_ble_eq_true rfl) rfl (Nat.le_of_ble_eq_true rfl) ?_
      refine wi_iload_0 ct_114_0 ?_
      refine wi_ic ct_114_1 kc_0 ?_
      refine wi_ic ct_114_2 kc_5 ?_
      refine wi_cs3 (ls' := [some _, some _, some _]) ct_114_3 (Nat.le_of_ble_eq_true rfl) rfl (Nat.le_of_ble_eq_true rfl) ?_
      refine c_within hTn ki_0 ki_5 (fun _ => wk_i ?_) (fun h => absurd h (by omega))
      refine wi_iret ct_114_6 (by decide) (wk_i ?_)
      refine wi_ifeq_f ct_102_4 ki_1 (by decide) ?_
      refine wi_iload_3 ct_102_7 ?_
      refine wi_cs1 (ls' := [some _]) ct_102_8 (Nat.le_of_ble_eq_true rfl) rfl (Nat.le_of_ble_eq_true rfl) ?_
      refine wi_iload_0 ct_114_0 ?_
      refine wi_ic ct_114_1 kc_0 ?_
      refine wi_ic ct_114_2 kc_5 ?_
      refine wi_cs3 (ls' := [some _, some _, some _]) ct_114_3 (Nat.le_of_ble_eq_true rfl) rfl (Nat.le_of_ble_eq_true rfl) ?_
      refine c_within hOn ki_0 ki_5 (fun _ => wk_i ?_) (fun h => absurd h (by omega))
      refine wi_iret ct_114_6 (by decide) (wk_i ?_)
      refine wi_ifne_t ct_102_11 ki_1 (by decide) ?_
      refine wi_aload_0 ct_102_16 ?_
      refine wi_iload_1 ct_102_17 ?_
      refine wi_cv1 (ls' := [some _, some _]) ct_102_18 (Nat.le_of_ble_eq_true rfl) (by decide) (sT_0 hS) rfl (by decide) rfl rfl (Nat.le_of_ble_eq_true rfl) ?_
      refine wi_aload_0 ct_115_0 ?_
      refine wi_gfr ct_115_1 (sT_0 hS) rfl (sR_0_11 hS) ?_
      refine wi_iload_1 ct_115_4 ?_
      refine wi_iald (x := fi 68 T) ct_115_5 (sT_22 hS) (sL_22 hS) (i_in hTn (by omega)) (i_cl (k := T) hTn (by omega)) p22T ?_
      refine wi_ic ct_115_6 kc_m1 ?_
      refine wi_iceq ct_115_7 rfl ki_m1 (fun h1 => ?_) (fun h1 => ?_)
      · skip
        refine wi_ic ct_115_14 kc_0 ?_
        refine wi_iret ct_115_15 (by decide) (wk_i ?_)
        refine wi_ifeq_t ct_102_21 ki_0 (by decide) ?_
        refine wi_ic ct_102_32 kc_m11 ?_
        refine wi_iret ct_102_34 rfl (wk_i ?_)
        refine wi_aload_2 ct_211_1325 ?_
        refine wi_aloadT_0 ct_211_1326 ?_
        refine wi_iload_3 ct_211_1327 ?_
        refine wi_ic ct_211_1328 kc_1 ?_
        refine wi_iadd ct_211_1329 rfl ?_
        refine wi_ialdT (j := I + 1) (x := a1) ct_211_1330 (sL_SC hS) (i_in (i_add hi ki_1 (by omega)) (by omega)) (i_cl (i_add hi ki_1 (by omega)) (by omega)) (((hsc _).trans e1)) ?_
        refine wi_aloadT_0 ct_211_1331 ?_
        refine wi_iload_3 ct_211_1332 ?_
        refine wi_ic ct_211_1333 kc_2 ?_
        refine wi_iadd ct_211_1334 rfl ?_
        refine wi_ialdT (j := I + 2) (x := a2) ct_211_1335 (sL_SC hS) (i_in (i_add hi ki_2 (by omega)) (by omega)) (i_cl (i_add hi ki_2 (by omega)) (by omega)) (((hsc _).trans e2)) ?_
        refine wi_aloadT_0 ct_211_1336 ?_
        refine wi_iload_3 ct_211_1337 ?_
        refine wi_ic ct_211_1338 kc_3 ?_
        refine wi_iadd ct_211_1339 rfl ?_
        refine wi_ialdT (j := I + 3) (x := a3) ct_211_1340 (sL_SC hS) (i_in (i_add hi ki_3 (by omega)) (by omega)) (i_cl (i_add hi ki_3 (by omega)) (by omega)) (((hsc _).trans e3)) ?_
        refine wi_aloadT_0 ct_211_1341 ?_
        refine wi_iload_3 ct_211_1342 ?_
        refine wi_ic ct_211_1343 kc_4 ?_
        refine wi_iadd ct_211_1344 rfl ?_
        refine wi_ialdT (j := I + 4) (x := a4) ct_211_1345 (sL_SC hS) (i_in (i_add hi ki_4 (by omega)) (by omega)) (i_cl (i_add hi ki_4 (by omega)) (by omega)) (((hsc _).trans e4)) ?_
        refine wi_aloadT_0 ct_211_1346 ?_
        refine wi_iload_3 ct_211_1347 ?_
        refine wi_ic ct_211_1348 kc_5 ?_
        refine wi_iadd ct_211_1349 rfl ?_
        refine wi_ialdT (j := I + 5) (x := a5) ct_211_1350 (sL_SC hS) (i_in (i_add hi ki_5 (by omega)) (by omega)) (i_cl (i_add hi ki_5 (by omega)) (by omega)) (((hsc _).trans e5)) ?_
        refine wi_cv5 (ls' := [some _, some _, some _, some _, some _, some _, none]) ct_211_1351 (Nat.le_of_ble_eq_true rfl) (by decide) (sT_31 hS) rfl (by decide) rfl rfl (Nat.le_of_ble_eq_true rfl) ?_
        refine wi_aload_0 ct_199_0 ?_
        refine wi_iload_1 ct_199_1 ?_
        refine wi_cv1 (ls' := [some _, some _]) ct_199_2 (Nat.le_of_ble_eq_true rfl) (by decide) (sT_31 hS) rfl (by decide) rfl rfl (Nat.le_of_ble_eq_true rfl) ?_
        refine wi_aload_0 ct_194_0 ?_
        refine wi_iload_1 ct_194_1 ?_
        refine wi_ic ct_194_2 kc_0 ?_
        refine wi_ic ct_194_3 kc_5 ?_
        refine wi_cv3 (ls' := [some _, some _, some _, some _]) ct_194_4 (Nat.le_of_ble_eq_true rfl) (by decide) (sT_31 hS) rfl (by decide) rfl rfl (Nat.le_of_ble_eq_true rfl) ?_
        refine c_in hTn ki_0 ki_5 (fun _ => wk_i ?_) (fun h => absurd h (by omega))
        refine wi_iret ct_194_7 (by decide) (wk_i ?_)
        refine wi_ifeq_f ct_199_5 ki_1 (by decide) ?_
        refine wi_aload_0 ct_199_8 ?_
        refine wi_iload_3 ct_199_9 ?_
        refine wi_cv1 (ls' := [some _, some _]) ct_199_10 (Nat.le_of_ble_eq_true rfl) (by decide) (sT_31 hS) rfl (by decide) rfl rfl (Nat.le_of_ble_eq_true rfl) ?_
        refine wi_aload_0 ct_194_0 ?_
        refine wi_iload_1 ct_194_1 ?_
        refine wi_ic ct_194_2 kc_0 ?_
        refine wi_ic ct_194_3 kc_5 ?_
        refine wi_cv3 (ls' := [some _, some _, some _, some _]) ct_194_4 (Nat.le_of_ble_eq_true rfl) (by decide) (sT_31 hS) rfl (by decide) rfl rfl (Nat.le_of_ble_eq_true rfl) ?_
        refine c_in hOn ki_0 ki_5 (fun _ => wk_i ?_) (fun h => absurd h (by omega))
        refine wi_iret ct_194_7 (by decide) (wk_i ?_)
        refine wi_ifne_t ct_199_13 ki_1 (by decide) ?_
        refine wi_aload_0 ct_199_18 ?_
        refine wi_gfr ct_199_19 (sT_31 hS) rfl (sR_31_67 hS) ?_
        refine wi_iload_1 ct_199_22 ?_
        refine wi_iald (x := fi 68 T) ct_199_23 (sT_68 hS) (sL_68 hS) (i_in hTn (by omega)) (i_cl (k := T) hTn (by omega)) rfl ?_
        refine wi_iflt_t ct_199_24 rfl (by omega) ?_
        refine wi_ic ct_199_36 kc_m11 ?_
        refine wi_iret ct_199_38 rfl (wk_i ?_)
        refine wi_iceq_t ct_211_1354 ki_m11 ki_m11 (by decide) ?_
        exact kk own g fi fl hR (by omega) (by omega)
      · skip
        refine wi_ic ct_115_10 kc_1 ?_
        refine wi_goto ct_115_11 ?_
        refine wi_iret ct_115_15 (by decide) (wk_i ?_)
        refine wi_ifeq_f ct_102_21 ki_1 (by decide) ?_
        refine wi_aload_0 ct_102_24 ?_
        refine wi_iload_3 ct_102_25 ?_
        refine wi_cv1 (ls' := [some _, some _]) ct_102_26 (Nat.le_of_ble_eq_true rfl) (by decide) (sT_0 hS) rfl (by decide) rfl rfl (Nat.le_of_ble_eq_true rfl) ?_
        refine wi_aload_0 ct_115_0 ?_
        refine wi_gfr ct_115_1 (sT_0 hS) rfl (sR_0_11 hS) ?_
        refine wi_iload_1 ct_115_4 ?_
        refine wi_iald (x := fi 68 O) ct_115_5 (sT_22 hS) (sL_22 hS) (i_in hOn (by omega)) (i_cl (k := O) hOn (by omega)) p22O ?_
        refine wi_ic ct_115_6 kc_m1 ?_
        refine wi_iceq ct_115_7 rfl ki_m1 (fun h2 => ?_) (fun h2 => ?_)
        · skip
          refine wi_ic ct_115_14 kc_0 ?_
          refine wi_iret ct_115_15 (by decide) (wk_i ?_)
          refine wi_ifne_f ct_102_29 ki_0 (by decide) ?_
          refine wi_ic ct_102_32 kc_m11 ?_
          refine wi_iret ct_102_34 rfl (wk_i ?_)
          refine wi_aload_2 ct_211_1325 ?_
          refine wi_aloadT_0 ct_211_1326 ?_
          refine wi_iload_3 ct_211_1327 ?_
          refine wi_ic ct_211_1328 kc_1 ?_
          refine wi_iadd ct_211_1329 rfl ?_
          refine wi_ialdT (j := I + 1) (x := a1) ct_211_1330 (sL_SC hS) (i_in (i_add hi ki_1 (by omega)) (by omega)) (i_cl (i_add hi ki_1 (by omega)) (by omega)) (((hsc _).trans e1)) ?_
          refine wi_aloadT_0 ct_211_1331 ?_
          refine wi_iload_3 ct_211_1332 ?_
          refine wi_ic ct_211_1333 kc_2 ?_
          refine wi_iadd ct_211_1334 rfl ?_
          refine wi_ialdT (j := I + 2) (x := a2) ct_211_1335 (sL_SC hS) (i_in (i_add hi ki_2 (by omega)) (by omega)) (i_cl (i_add hi ki_2 (by omega)) (by omega)) (((hsc _).trans e2)) ?_
          refine wi_aloadT_0 ct_211_1336 ?_
          refine wi_iload_3 ct_211_1337 ?_
          refine wi_ic ct_211_1338 kc_3 ?_
          refine wi_iadd ct_211_1339 rfl ?_
          refine wi_ialdT (j := I + 3) (x := a3) ct_211_1340 (sL_SC hS) (i_in (i_add hi ki_3 (by omega)) (by omega)) (i_cl (i_add hi ki_3 (by omega)) (by omega)) (((hsc _).trans e3)) ?_
          refine wi_aloadT_0 ct_211_1341 ?_
          refine wi_iload_3 ct_211_1342 ?_
          refine wi_ic ct_211_1343 kc_4 ?_
          refine wi_iadd ct_211_1344 rfl ?_
          refine wi_ialdT (j := I + 4) (x := a4) ct_211_1345 (sL_SC hS) (i_in (i_add hi ki_4 (by omega)) (by omega)) (i_cl (i_add hi ki_4 (by omega)) (by omega)) (((hsc _).trans e4)) ?_
          refine wi_aloadT_0 ct_211_1346 ?_
          refine wi_iload_3 ct_211_1347 ?_
          refine wi_ic ct_211_1348 kc_5 ?_
          refine wi_iadd ct_211_1349 rfl ?_
          refine wi_ialdT (j := I + 5) (x := a5) ct_211_1350 (sL_SC hS) (i_in (i_add hi ki_5 (by omega)) (by omega)) (i_cl (i_add hi ki_5 (by omega)) (by omega)) (((hsc _).trans e5)) ?_
          refine wi_cv5 (ls' := [some _, some _, some _, some _, some _, some _, none]) ct_211_1351 (Nat.le_of_ble_eq_true rfl) (by decide) (sT_31 hS) rfl (by decide) rfl rfl (Nat.le_of_ble_eq_true rfl) ?_
          refine wi_aload_0 ct_199_0 ?_
          refine wi_iload_1 ct_199_1 ?_
          refine wi_cv1 (ls' := [some _, some _]) ct_199_2 (Nat.le_of_ble_eq_true rfl) (by decide) (sT_31 hS) rfl (by decide) rfl rfl (Nat.le_of_ble_eq_true rfl) ?_
          refine wi_aload_0 ct_194_0 ?_
          refine wi_iload_1 ct_194_1 ?_
          refine wi_ic ct_194_2 kc_0 ?_
          refine wi_ic ct_194_3 kc_5 ?_
          refine wi_cv3 (ls' := [some _, some _, some _, some _]) ct_194_4 (Nat.le_of_ble_eq_true rfl) (by decide) (sT_31 hS) rfl (by decide) rfl rfl (Nat.le_of_ble_eq_true rfl) ?_
          refine c_in hTn ki_0 ki_5 (fun _ => wk_i ?_) (fun h => absurd h (by omega))
          refine wi_iret ct_194_7 (by decide) (wk_i ?_)
          refine wi_ifeq_f ct_199_5 ki_1 (by decide) ?_
          refine wi_aload_0 ct_199_8 ?_
          refine wi_iload_3 ct_199_9 ?_
          refine wi_cv1 (ls' := [some _, some _]) ct_199_10 (Nat.le_of_ble_eq_true rfl) (by decide) (sT_31 hS) rfl (by decide) rfl rfl (Nat.le_of_ble_eq_true rfl) ?_
          refine wi_aload_0 ct_194_0 ?_
          refine wi_iload_1 ct_194_1 ?_
          refine wi_ic ct_194_2 kc_0 ?_
          refine wi_ic ct_194_3 kc_5 ?_
          refine wi_cv3 (ls' := [some _, some _, some _, some _]) ct_194_4 (Nat.le_of_ble_eq_true rfl) (by decide) (sT_31 hS) rfl (by decide) rfl rfl (Nat.le_of_ble_eq_true rfl) ?_
          refine c_in hOn ki_0 ki_5 (fun _ => wk_i ?_) (fun h => absurd h (by omega))
          refine wi_iret ct_194_7 (by decide) (wk_i ?_)
          refine wi_ifne_t ct_199_13 ki_1 (by decide) ?_
          refine wi_aload_0 ct_199_18 ?_
          refine wi_gfr ct_199_19 (sT_31 hS) rfl (sR_31_67 hS) ?_
          refine wi_iload_1 ct_199_22 ?_
          refine wi_iald (x := fi 68 T) ct_199_23 (sT_68 hS) (sL_68 hS) (i_in hTn (by omega)) (i_cl (k := T) hTn (by omega)) rfl ?_
          refine wi_iflt_f ct_199_24 rfl (by omega) ?_
          refine wi_aload_0 ct_199_27 ?_
          refine wi_gfr ct_199_28 (sT_31 hS) rfl (sR_31_67 hS) ?_
          refine wi_iload_3 ct_199_31 ?_
          refine wi_iald (x := fi 68 O) ct_199_32 (sT_68 hS) (sL_68 hS) (i_in hOn (by omega)) (i_cl (k := O) hOn (by omega)) rfl ?_
          refine wi_ifge_f ct_199_33 rfl (by omega) ?_
          refine wi_ic ct_199_36 kc_m11 ?_
          refine wi_iret ct_199_38 rfl (wk_i ?_)
          refine wi_iceq_t ct_211_1354 ki_m11 ki_m11 (by decide) ?_
          exact kk own g fi fl hR (by omega) (by omega)
        · skip
          refine wi_ic ct_115_10 kc_1 ?_
          refine wi_goto ct_115_11 ?_
          refine wi_iret ct_115_15 (by decide) (wk_i ?_)
          refine wi_ifne_t ct_102_29 ki_1 (by decide) ?_
          refine wi_aload_0 ct_102_35 ?_
          refine wi_gfr ct_102_36 (sT_0 hS) rfl (sR_0_11 hS) ?_
          refine wi_iload_1 ct_102_39 ?_
          refine wi_iald (x := fi 68 T) ct_102_40 (sT_22 hS) (sL_22 hS) (i_in hTn (by omega)) (i_cl (k := T) hTn (by omega)) p22T ?_
          refine wi_aload_0 ct_102_41 ?_
          refine wi_gfr ct_102_42 (sT_0 hS) rfl (sR_0_11 hS) ?_
          refine wi_iload_3 ct_102_45 ?_
          refine wi_iald (x := fi 68 O) ct_102_46 (sT_22 hS) (sL_22 hS) (i_in hOn (by omega)) (i_cl (k := O) hOn (by omega)) p22O ?_
          refine wi_iceq ct_102_47 rfl rfl (fun h3 => ?_) (fun h3 => ?_)
          · skip
            refine wi_aload_0 ct_102_53 ?_
            refine wi_iload_1 ct_102_54 ?_
            refine wi_iload_2 ct_102_55 ?_
            refine wi_iload_5 ct_102_56 ?_
            refine wi_cv3 (ls' := [some _, some _, some _, some _]) ct_102_58 (Nat.le_of_ble_eq_true rfl) (by decide) (sT_0 hS) rfl (by decide) rfl rfl (Nat.le_of_ble_eq_true rfl) ?_
            refine wi_iload_2 ct_116_0 ?_
            refine wi_iflt ct_116_1 rfl (fun h4 => ?_) (fun h4 => ?_)
            · skip
              refine wi_ic ct_116_28 kc_0 ?_
              refine wi_iret ct_116_29 (by decide) (wk_i ?_)
              refine wi_ifeq_t ct_102_61 ki_0 (by decide) ?_
              refine wi_ic ct_102_76 kc_m13 ?_
              refine wi_iret ct_102_78 rfl (wk_i ?_)
              refine wi_aload_2 ct_211_1325 ?_
              refine wi_aloadT_0 ct_211_1326 ?_
              refine wi_iload_3 ct_211_1327 ?_
              refine wi_ic ct_211_1328 kc_1 ?_
              refine wi_iadd ct_211_1329 rfl ?_
              refine wi_ialdT (j := I + 1) (x := a1) ct_211_1330 (sL_SC hS) (i_in (i_add hi ki_1 (by omega)) (by omega)) (i_cl (i_add hi ki_1 (by omega)) (by omega)) (((hsc _).trans e1)) ?_
              refine wi_aloadT_0 ct_211_1331 ?_
              refine wi_iload_3 ct_211_1332 ?_
              refine wi_ic ct_211_1333 kc_2 ?_
              refine wi_iadd ct_211_1334 rfl ?_
              refine wi_ialdT (j := I + 2) (x := a2) ct_211_1335 (sL_SC hS) (i_in (i_add hi ki_2 (by omega)) (by omega)) (i_cl (i_add hi ki_2 (by omega)) (by omega)) (((hsc _).trans e2)) ?_
              refine wi_aloadT_0 ct_211_1336 ?_
              refine wi_iload_3 ct_211_1337 ?_
              refine wi_ic ct_211_1338 kc_3 ?_
              refine wi_iadd ct_211_1339 rfl ?_
              refine wi_ialdT (j := I + 3) (x := a3) ct_211_1340 (sL_SC hS) (i_in (i_add hi ki_3 (by omega)) (by omega)) (i_cl (i_add hi ki_3 (by omega)) (by omega)) (((hsc _).trans e3)) ?_
              refine wi_aloadT_0 ct_211_1341 ?_
              refine wi_iload_3 ct_211_1342 ?_
              refine wi_ic ct_211_1343 kc_4 ?_
              refine wi_iadd ct_211_1344 rfl ?_
              refine wi_ialdT (j := I + 4) (x := a4) ct_211_1345 (sL_SC hS) (i_in (i_add hi ki_4 (by omega)) (by omega)) (i_cl (i_add hi ki_4 (by omega)) (by omega)) (((hsc _).trans e4)) ?_
              refine wi_aloadT_0 ct_211_1346 ?_
              refine wi_iload_3 ct_211_1347 ?_
              refine wi_ic ct_211_1348 kc_5 ?_
              refine wi_iadd ct_211_1349 rfl ?_
              refine wi_ialdT (j := I + 5) (x := a5) ct_211_1350 (sL_SC hS) (i_in (i_add hi ki_5 (by omega)) (by omega)) (i_cl (i_add hi ki_5 (by omega)) (by omega)) (((hsc _).trans e5)) ?_
              refine wi_cv5 (ls' := [some _, some _, some _, some _, some _, some _, none]) ct_211_1351 (Nat.le_of_ble_eq_true rfl) (by decide) (sT_31 hS) rfl (by decide) rfl rfl (Nat.le_of_ble_eq_true rfl) ?_
              refine wi_aload_0 ct_199_0 ?_
              refine wi_iload_1 ct_199_1 ?_
              refine wi_cv1 (ls' := [some _, some _]) ct_199_2 (Nat.le_of_ble_eq_true rfl) (by decide) (sT_31 hS) rfl (by decide) rfl rfl (Nat.le_of_ble_eq_true rfl) ?_
              refine wi_aload_0 ct_194_0 ?_
              refine wi_iload_1 ct_194_1 ?_
              refine wi_ic ct_194_2 kc_0 ?_
              refine wi_ic ct_194_3 kc_5 ?_
              refine wi_cv3 (ls' := [some _, some _, some _, some _]) ct_194_4 (Nat.le_of_ble_eq_true rfl) (by decide) (sT_31 hS) rfl (by decide) rfl rfl (Nat.le_of_ble_eq_true rfl) ?_
              refine c_in hTn ki_0 ki_5 (fun _ => wk_i ?_) (fun h => absurd h (by omega))
              refine wi_iret ct_194_7 (by decide) (wk_i ?_)
              refine wi_ifeq_f ct_199_5 ki_1 (by decide) ?_
              refine wi_aload_0 ct_199_8 ?_
              refine wi_iload_3 ct_199_9 ?_
              refine wi_cv1 (ls' := [some _, some _]) ct_199_10 (Nat.le_of_ble_eq_true rfl) (by decide) (sT_31 hS) rfl (by decide) rfl rfl (Nat.le_of_ble_eq_true rfl) ?_
              refine wi_aload_0 ct_194_0 ?_
              refine wi_iload_1 ct_194_1 ?_
              refine wi_ic ct_194_2 kc_0 ?_
              refine wi_ic ct_194_3 kc_5 ?_
              refine wi_cv3 (ls' := [some _, some _, some _, some _]) ct_194_4 (Nat.le_of_ble_eq_true rfl) (by decide) (sT_31 hS) rfl (by decide) rfl rfl (Nat.le_of_ble_eq_true rfl) ?_
              refine c_in hOn ki_0 ki_5 (fun _ => wk_i ?_) (fun h => absurd h (by omega))
              refine wi_iret ct_194_7 (by decide) (wk_i ?_)
              refine wi_ifne_t ct_199_13 ki_1 (by decide) ?_
              refine wi_aload_0 ct_199_18 ?_
              refine wi_gfr ct_199_19 (sT_31 hS) rfl (sR_31_67 hS) ?_
              refine wi_iload_1 ct_199_22 ?_
              refine wi_iald (x := fi 68 T) ct_199_23 (sT_68 hS) (sL_68 hS) (i_in hTn (by omega)) (i_cl (k := T) hTn (by omega)) rfl ?_
              refine wi_iflt_f ct_199_24 rfl (by omega) ?_
              refine wi_aload_0 ct_199_27 ?_
              refine wi_gfr ct_199_28 (sT_31 hS) rfl (sR_31_67 hS) ?_
              refine wi_iload_3 ct_199_31 ?_
              refine wi_iald (x := fi 68 O) ct_199_32 (sT_68 hS) (sL_68 hS) (i_in hOn (by omega)) (i_cl (k := O) hOn (by omega)) rfl ?_
              refine wi_ifge_t ct_199_33 rfl (by omega) ?_
              refine wi_aload_0 ct_199_39 ?_
              refine wi_gfr ct_199_40 (sT_31 hS) rfl (sR_31_67 hS) ?_
              refine wi_iload_1 ct_199_43 ?_
              refine wi_iald (x := fi 68 T) ct_199_44 (sT_68 hS) (sL_68 hS) (i_in hTn (by omega)) (i_cl (k := T) hTn (by omega)) rfl ?_
              refine wi_aload_0 ct_199_45 ?_
              refine wi_gfr ct_199_46 (sT_31 hS) rfl (sR_31_67 hS) ?_
              refine wi_iload_3 ct_199_49 ?_
              refine wi_iald (x := fi 68 O) ct_199_50 (sT_68 hS) (sL_68 hS) (i_in hOn (by omega)) (i_cl (k := O) hOn (by omega)) rfl ?_
              refine wi_iceq_t ct_199_51 rfl rfl (by omega) ?_
              refine wi_iload_5 ct_199_57 ?_
              refine wi_iflt ct_199_59 rfl (fun h5 => ?_) (fun h5 => ?_)
              · skip
                refine wi_ic ct_199_98 kc_m13 ?_
                refine wi_iret ct_199_100 rfl (wk_i ?_)
                refine wi_iceq_t ct_211_1354 ki_m13 ki_m13 (by decide) ?_
                exact kk own g fi fl hR (by omega) (by omega)
              · skip
                refine wi_iload_2 ct_199_62 ?_
                refine wi_iflt_t ct_199_63 rfl (by omega) ?_
                refine wi_ic ct_199_98 kc_m13 ?_
                refine wi_iret ct_199_100 rfl (wk_i ?_)
                refine wi_iceq_t ct_211_1354 ki_m13 ki_m13 (by decide) ?_
                exact kk own g fi fl hR (by omega) (by omega)
            · skip
              refine wi_iload_3 ct_116_4 ?_
              refine wi_iflt ct_116_5 rfl (fun h6 => ?_) (fun h6 => ?_)
              · skip
                refine wi_ic ct_116_28 kc_0 ?_
                refine wi_iret ct_116_29 (by decide) (wk_i ?_)
                refine wi_ifeq_t ct_102_61 ki_0 (by decide) ?_
                refine wi_ic ct_102_76 kc_m13 ?_
                refine wi_iret ct_102_78 rfl (wk_i ?_)
                refine wi_aload_2 ct_211_1325 ?_
                refine wi_aloadT_0 ct_211_1326 ?_
                refine wi_iload_3 ct_211_1327 ?_
                refine wi_ic ct_211_1328 kc_1 ?_
                refine wi_iadd ct_211_1329 rfl ?_
                refine wi_ialdT (j := I + 1) (x := a1) ct_211_1330 (sL_SC hS) (i_in (i_add hi ki_1 (by omega)) (by omega)) (i_cl (i_add hi ki_1 (by omega)) (by omega)) (((hsc _).trans e1)) ?_
                refine wi_aloadT_0 ct_211_1331 ?_
                refine wi_iload_3 ct_211_1332 ?_
                refine wi_ic ct_211_1333 kc_2 ?_
                refine wi_iadd ct_211_1334 rfl ?_
                refine wi_ialdT (j := I + 2) (x := a2) ct_211_1335 (sL_SC hS) (i_in (i_add hi ki_2 (by omega)) (by omega)) (i_cl (i_add hi ki_2 (by omega)) (by omega)) (((hsc _).trans e2)) ?_
                refine wi_aloadT_0 ct_211_1336 ?_
                refine wi_iload_3 ct_211_1337 ?_
                refine wi_ic ct_211_1338 kc_3 ?_
                refine wi_iadd ct_211_1339 rfl ?_
                refine wi_ialdT (j := I + 3) (x := a3) ct_211_1340 (sL_SC hS) (i_in (i_add hi ki_3 (by omega)) (by omega)) (i_cl (i_add hi ki_3 (by omega)) (by omega)) (((hsc _).trans e3)) ?_
                refine wi_aloadT_0 ct_211_1341 ?_
                refine wi_iload_3 ct_211_1342 ?_
                refine wi_ic ct_211_1343 kc_4 ?_
                refine wi_iadd ct_211_1344 rfl ?_
                refine wi_ialdT (j := I + 4) (x := a4) ct_211_1345 (sL_SC hS) (i_in (i_add hi ki_4 (by omega)) (by omega)) (i_cl (i_add hi ki_4 (by omega)) (by omega)) (((hsc _).trans e4)) ?_
                refine wi_aloadT_0 ct_211_1346 ?_
                refine wi_iload_3 ct_211_1347 ?_
                refine wi_ic ct_211_1348 kc_5 ?_
                refine wi_iadd ct_211_1349 rfl ?_
                refine wi_ialdT (j := I + 5) (x := a5) ct_211_1350 (sL_SC hS) (i_in (i_add hi ki_5 (by omega)) (by omega)) (i_cl (i_add hi ki_5 (by omega)) (by omega)) (((hsc _).trans e5)) ?_
                refine wi_cv5 (ls' := [some _, some _, some _, some _, some _, some _, none]) ct_211_1351 (Nat.le_of_ble_eq_true rfl) (by decide) (sT_31 hS) rfl (by decide) rfl rfl (Nat.le_of_ble_eq_true rfl) ?_
                refine wi_aload_0 ct_199_0 ?_
                refine wi_iload_1 ct_199_1 ?_
                refine wi_cv1 (ls' := [some _, some _]) ct_199_2 (Nat.le_of_ble_eq_true rfl) (by decide) (sT_31 hS) rfl (by decide) rfl rfl (Nat.le_of_ble_eq_true rfl) ?_
                refine wi_aload_0 ct_194_0 ?_
                refine wi_iload_1 ct_194_1 ?_
                refine wi_ic ct_194_2 kc_0 ?_
                refine wi_ic ct_194_3 kc_5 ?_
                refine wi_cv3 (ls' := [some _, some _, some _, some _]) ct_194_4 (Nat.le_of_ble_eq_true rfl) (by decide) (sT_31 hS) rfl (by decide) rfl rfl (Nat.le_of_ble_eq_true rfl) ?_
                refine c_in hTn ki_0 ki_5 (fun _ => wk_i ?_) (fun h => absurd h (by omega))
                refine wi_iret ct_194_7 (by decide) (wk_i ?_)
                refine wi_ifeq_f ct_199_5 ki_1 (by decide) ?_
                refine wi_aload_0 ct_199_8 ?_
                refine wi_iload_3 ct_199_9 ?_
                refine wi_cv1 (ls' := [some _, some _]) ct_199_10 (Nat.le_of_ble_eq_true rfl) (by decide) (sT_31 hS) rfl (by decide) rfl rfl (Nat.le_of_ble_eq_true rfl) ?_
                refine wi_aload_0 ct_194_0 ?_
                refine wi_iload_1 ct_194_1 ?_
                refine wi_ic ct_194_2 kc_0 ?_
                refine wi_ic ct_194_3 kc_5 ?_
                refine wi_cv3 (ls' := [some _, some _, some _, some _]) ct_194_4 (Nat.le_of_ble_eq_true rfl) (by decide) (sT_31 hS) rfl (by decide) rfl rfl (Nat.le_of_ble_eq_true rfl) ?_
                refine c_in hOn ki_0 ki_5 (fun _ => wk_i ?_) (fun h => absurd h (by omega))
                refine wi_iret ct_194_7 (by decide) (wk_i ?_)
                refine wi_ifne_t ct_199_13 ki_1 (by decide) ?_
                refine wi_aload_0 ct_199_18 ?_
                refine wi_gfr ct_199_19 (sT_31 hS) rfl (sR_31_67 hS) ?_
                refine wi_iload_1 ct_199_22 ?_
                refine wi_iald (x := fi 68 T) ct_199_23 (sT_68 hS) (sL_68 hS) (i_in hTn (by omega)) (i_cl (k := T) hTn (by omega)) rfl ?_
                refine wi_iflt_f ct_199_24 rfl (by omega) ?_
                refine wi_aload_0 ct_199_27 ?_
                refine wi_gfr ct_199_28 (sT_31 hS) rfl (sR_31_67 hS) ?_
                refine wi_iload_3 ct_199_31 ?_
                refine wi_iald (x := fi 68 O) ct_199_32 (sT_68 hS) (sL_68 hS) (i_in hOn (by omega)) (i_cl (k := O) hOn (by omega)) rfl ?_
                refine wi_ifge_t ct_199_33 rfl (by omega) ?_
                refine wi_aload_0 ct_199_39 ?_
                refine wi_gfr ct_199_40 (sT_31 hS) rfl (sR_31_67 hS) ?_
                refine wi_iload_1 ct_199_43 ?_
                refine wi_iald (x := fi 68 T) ct_199_44 (sT_68 hS) (sL_68 hS) (i_in hTn (by omega)) (i_cl (k := T) hTn (by omega)) rfl ?_
                refine wi_aload_0 ct_199_45 ?_
                refine wi_gfr ct_199_46 (sT_31 hS) rfl (sR_31_67 hS) ?_
                refine wi_iload_3 ct_199_49 ?_
                refine wi_iald (x := fi 68 O) ct_199_50 (sT_68 hS) (sL_68 hS) (i_in hOn (by omega)) (i_cl (k := O) hOn (by omega)) rfl ?_
                refine wi_iceq_t ct_199_51 rfl rfl (by omega) ?_
                refine wi_iload_5 ct_199_57 ?_
                refine wi_iflt_t ct_199_59 rfl (by omega) ?_
                refine wi_ic ct_199_98 kc_m13 ?_
                refine wi_iret ct_199_100 rfl (wk_i ?_)
                refine wi_iceq_t ct_211_1354 ki_m13 ki_m13 (by decide) ?_
                exact kk own g fi fl hR (by omega) (by omega)
              · skip
                refine wi_iload_2 ct_116_8 ?_
                refine wi_i2l ct_116_9 rfl ?_
                refine wi_iload_3 ct_116_10 ?_
                refine wi_i2l ct_116_11 rfl ?_
                have hla7 := j_add (j_of (rfl : (a2).toInt = _)) (j_of (rfl : (a5).toInt = _)) (by omega)
                refine wi_ladd ct_116_12 rfl ?_
                refine wi_aload_0 ct_116_13 ?_
                refine wi_gfr ct_116_14 (sT_0 hS) rfl (sR_0_12 hS) ?_
                refine wi_iload_1 ct_116_17 ?_
                refine wi_iald (x := fi 69 T) ct_116_18 (sT_23 hS) (sL_23 hS) (i_in hTn (by omega)) (i_cl (k := T) hTn (by omega)) p23T ?_
                refine wi_i2l ct_116_19 rfl ?_
                rcases Int.lt_trichotomy ((a2).toInt + (a5).toInt) ((fi 69 T).toInt) with hj8 | hj8 | hj8
                · skip
                  refine wi_lcmp ct_116_20 (lcmp_m1 (hla7.trans rfl) ((j_of (rfl : (fi 69 T).toInt = _)).trans rfl) hj8) ?_
                  refine wi_ifgt_f ct_116_21 ki_m1 (by decide) ?_
                  refine wi_ic ct_116_24 kc_1 ?_
                  refine wi_goto ct_116_25 ?_
                  refine wi_iret ct_116_29 (by decide) (wk_i ?_)
                  refine wi_ifeq_f ct_102_61 ki_1 (by decide) ?_
                  refine wi_aload_0 ct_102_64 ?_
                  refine wi_iload_3 ct_102_65 ?_
                  refine wi_iload_4 ct_102_66 ?_
                  refine wi_iload_5 ct_102_68 ?_
                  refine wi_cv3 (ls' := [some _, some _, some _, some _]) ct_102_70 (Nat.le_of_ble_eq_true rfl) (by decide) (sT_0 hS) rfl (by decide) rfl rfl (Nat.le_of_ble_eq_true rfl) ?_
                  refine wi_iload_2 ct_116_0 ?_
                  refine wi_iflt ct_116_1 rfl (fun h9 => ?_) (fun h9 => ?_)
                  · skip
                    refine wi_ic ct_116_28 kc_0 ?_
                    refine wi_iret ct_116_29 (by decide) (wk_i ?_)
                    refine wi_ifne_f ct_102_73 ki_0 (by decide) ?_
                    refine wi_ic ct_102_76 kc_m13 ?_
                    refine wi_iret ct_102_78 rfl (wk_i ?_)
                    refine wi_aload_2 ct_211_1325 ?_
                    refine wi_aloadT_0 ct_211_1326 ?_
                    refine wi_iload_3 ct_211_1327 ?_
                    refine wi_ic ct_211_1328 kc_1 ?_
                    refine wi_iadd ct_211_1329 rfl ?_
                    refine wi_ialdT (j := I + 1) (x := a1) ct_211_1330 (sL_SC hS) (i_in (i_add hi ki_1 (by omega)) (by omega)) (i_cl (i_add hi ki_1 (by omega)) (by omega)) (((hsc _).trans e1)) ?_
                    refine wi_aloadT_0 ct_211_1331 ?_
                    refine wi_iload_3 ct_211_1332 ?_
                    refine wi_ic ct_211_1333 kc_2 ?_
                    refine wi_iadd ct_211_1334 rfl ?_
                    refine wi_ialdT (j := I + 2) (x := a2) ct_211_1335 (sL_SC hS) (i_in (i_add hi ki_2 (by omega)) (by omega)) (i_cl (i_add hi ki_2 (by omega)) (by omega)) (((hsc _).trans e2)) ?_
                    refine wi_aloadT_0 ct_211_1336 ?_
                    refine wi_iload_3 ct_211_1337 ?_
                    refine wi_ic ct_211_1338 kc_3 ?_
                    refine wi_iadd ct_211_1339 rfl ?_
                    refine wi_ialdT (j := I + 3) (x := a3) ct_211_1340 (sL_SC hS) (i_in (i_add hi ki_3 (by omega)) (by omega)) (i_cl (i_add hi ki_3 (by omega)) (by omega)) (((hsc _).trans e3)) ?_
                    refine wi_aloadT_0 ct_211_1341 ?_
                    refine wi_iload_3 ct_211_1342 ?_
                    refine wi_ic ct_211_1343 kc_4 ?_
                    refine wi_iadd ct_211_1344 rfl ?_
                    refine wi_ialdT (j := I + 4) (x := a4) ct_211_1345 (sL_SC hS) (i_in (i_add hi ki_4 (by omega)) (by omega)) (i_cl (i_add hi ki_4 (by omega)) (by omega)) (((hsc _).trans e4)) ?_
                    refine wi_aloadT_0 ct_211_1346 ?_
                    refine wi_iload_3 ct_211_1347 ?_
                    refine wi_ic ct_211_1348 kc_5 ?_
                    refine wi_iadd ct_211_1349 rfl ?_
                    refine wi_ialdT (j := I + 5) (x := a5) ct_211_1350 (sL_SC hS) (i_in (i_add hi ki_5 (by omega)) (by omega)) (i_cl (i_add hi ki_5 (by omega)) (by omega)) (((hsc _).trans e5)) ?_
                    refine wi_cv5 (ls' := [some _, some _, some _, some _, some _, some _, none]) ct_211_1351 (Nat.le_of_ble_eq_true rfl) (by decide) (sT_31 hS) rfl (by decide) rfl rfl (Nat.le_of_ble_eq_true rfl) ?_
                    refine wi_aload_0 ct_199_0 ?_
                    refine wi_iload_1 ct_199_1 ?_
                    refine wi_cv1 (ls' := [some _, some _]) ct_199_2 (Nat.le_of_ble_eq_true rfl) (by decide) (sT_31 hS) rfl (by decide) rfl rfl (Nat.le_of_ble_eq_true rfl) ?_
                    refine wi_aload_0 ct_194_0 ?_
                    refine wi_iload_1 ct_194_1 ?_
                    refine wi_ic ct_194_2 kc_0 ?_
                    refine wi_ic ct_194_3 kc_5 ?_
                    refine wi_cv3 (ls' := [some _, some _, some _, some _]) ct_194_4 (Nat.le_of_ble_eq_true rfl) (by decide) (sT_31 hS) rfl (by decide) rfl rfl (Nat.le_of_ble_eq_true rfl) ?_
                    refine c_in hTn ki_0 ki_5 (fun _ => wk_i ?_) (fun h => absurd h (by omega))
                    refine wi_iret ct_194_7 (by decide) (wk_i ?_)
                    refine wi_ifeq_f ct_199_5 ki_1 (by decide) ?_
                    refine wi_aload_0 ct_199_8 ?_
                    refine wi_iload_3 ct_199_9 ?_
                    refine wi_cv1 (ls' := [some _, some _]) ct_199_10 (Nat.le_of_ble_eq_true rfl) (by decide) (sT_31 hS) rfl (by decide) rfl rfl (Nat.le_of_ble_eq_true rfl) ?_
                    refine wi_aload_0 ct_194_0 ?_
                    refine wi_iload_1 ct_194_1 ?_
                    refine wi_ic ct_194_2 kc_0 ?_
                    refine wi_ic ct_194_3 kc_5 ?_
                    refine wi_cv3 (ls' := [some _, some _, some _, some _]) ct_194_4 (Nat.le_of_ble_eq_true rfl) (by decide) (sT_31 hS) rfl (by decide) rfl rfl (Nat.le_of_ble_eq_true rfl) ?_
                    refine c_in hOn ki_0 ki_5 (fun _ => wk_i ?_) (fun h => absurd h (by omega))
                    refine wi_iret ct_194_7 (by decide) (wk_i ?_)
                    refine wi_ifne_t ct_199_13 ki_1 (by decide) ?_
                    refine wi_aload_0 ct_199_18 ?_
                    refine wi_gfr ct_199_19 (sT_31 hS) rfl (sR_31_67 hS) ?_
                    refine wi_iload_1 ct_199_22 ?_
                    refine wi_iald (x := fi 68 T) ct_199_23 (sT_68 hS) (sL_68 hS) (i_in hTn (by omega)) (i_cl (k := T) hTn (by omega)) rfl ?_
                    refine wi_iflt_f ct_199_24 rfl (by omega) ?_
                    refine wi_aload_0 ct_199_27 ?_
                    refine wi_gfr ct_199_28 (sT_31 hS) rfl (sR_31_67 hS) ?_
                    refine wi_iload_3 ct_199_31 ?_
                    refine wi_iald (x := fi 68 O) ct_199_32 (sT_68 hS) (sL_68 hS) (i_in hOn (by omega)) (i_cl (k := O) hOn (by omega)) rfl ?_
                    refine wi_ifge_t ct_199_33 rfl (by omega) ?_
                    refine wi_aload_0 ct_199_39 ?_
                    refine wi_gfr ct_199_40 (sT_31 hS) rfl (sR_31_67 hS) ?_
                    refine wi_iload_1 ct_199_43 ?_
                    refine wi_iald (x := fi 68 T) ct_199_44 (sT_68 hS) (sL_68 hS) (i_in hTn (by omega)) (i_cl (k := T) hTn (by omega)) rfl ?_
                    refine wi_aload_0 ct_199_45 ?_
                    refine wi_gfr ct_199_46 (sT_31 hS) rfl (sR_31_67 hS) ?_
                    refine wi_iload_3 ct_199_49 ?_
                    refine wi_iald (x := fi 68 O) ct_199_50 (sT_68 hS) (sL_68 hS) (i_in hOn (by omega)) (i_cl (k := O) hOn (by omega)) rfl ?_
                    refine wi_iceq_t ct_199_51 rfl rfl (by omega) ?_
                    refine wi_iload_5 ct_199_57 ?_
                    refine wi_iflt_f ct_199_59 rfl (by omega) ?_
                    refine wi_iload_2 ct_199_62 ?_
                    refine wi_iflt_f ct_199_63 rfl (by omega) ?_
                    refine wi_iload_4 ct_199_66 ?_
                    refine wi_iflt_t ct_199_68 rfl (by omega) ?_
                    refine wi_ic ct_199_98 kc_m13 ?_
                    refine wi_iret ct_199_100 rfl (wk_i ?_)
                    refine wi_iceq_t ct_211_1354 ki_m13 ki_m13 (by decide) ?_
                    exact kk own g fi fl hR (by omega) (by omega)
                  · skip
                    refine wi_iload_3 ct_116_4 ?_
                    refine wi_iflt_f ct_116_5 rfl (by omega) ?_
                    refine wi_iload_2 ct_116_8 ?_
                    refine wi_i2l ct_116_9 rfl ?_
                    refine wi_iload_3 ct_116_10 ?_
                    refine wi_i2l ct_116_11 rfl ?_
                    have hla10 := j_add (j_of (rfl : (a4).toInt = _)) (j_of (rfl : (a5).toInt = _)) (by omega)
                    refine wi_ladd ct_116_12 rfl ?_
                    refine wi_aload_0 ct_116_13 ?_
                    refine wi_gfr ct_116_14 (sT_0 hS) rfl (sR_0_12 hS) ?_
                    refine wi_iload_1 ct_116_17 ?_
                    refine wi_iald (x := fi 69 O) ct_116_18 (sT_23 hS) (sL_23 hS) (i_in hOn (by omega)) (i_cl (k := O) hOn (by omega)) p23O ?_
                    refine wi_i2l ct_116_19 rfl ?_
                    rcases Int.lt_trichotomy ((a4).toInt + (a5).toInt) ((fi 69 O).toInt) with hj11 | hj11 | hj11
                    · skip
                      refine wi_lcmp ct_116_20 (lcmp_m1 (hla10.trans rfl) ((j_of (rfl : (fi 69 O).toInt = _)).trans rfl) hj11) ?_
                      refine wi_ifgt_f ct_116_21 ki_m1 (by decide) ?_
                      refine wi_ic ct_116_24 kc_1 ?_
                      refine wi_goto ct_116_25 ?_
                      refine wi_iret ct_116_29 (by decide) (wk_i ?_)
                      refine wi_ifne_t ct_102_73 ki_1 (by decide) ?_
                      refine wi_aload_0 ct_102_79 ?_
                      refine wi_gfr ct_102_80 (sT_0 hS) rfl (sR_0_13 hS) ?_
                      refine wi_iload_1 ct_102_83 ?_
                      refine wi_aald ct_102_84 (sT_24 hS) (by decide) (sL_24 hS) (i_in hTn (by omega)) (i_cl (k := T) hTn (by omega)) (tp_R hS hT6) ?_
                      refine wi_iload_2 ct_102_85 ?_
                      refine wi_aload_0 ct_102_86 ?_
                      refine wi_gfr ct_102_87 (sT_0 hS) rfl (sR_0_13 hS) ?_
                      refine wi_iload_3 ct_102_90 ?_
                      refine wi_aald ct_102_91 (sT_24 hS) (by decide) (sL_24 hS) (i_in hOn (by omega)) (i_cl (k := O) hOn (by omega)) (tp_R hS hO6) ?_
                      refine wi_iload_4 ct_102_92 ?_
                      refine wi_iload_5 ct_102_94 ?_
                      obtain ⟨N12, hN12⟩ : ∃ k : Nat, (a5).toInt = (k : Int) := ⟨_, (i_cln (by omega)).symm⟩
                      obtain ⟨N13, hN13⟩ : ∃ k : Nat, (a4).toInt = (k : Int) := ⟨_, (i_cln (by omega)).symm⟩
                      obtain ⟨N14, hN14⟩ : ∃ k : Nat, (a2).toInt = (k : Int) := ⟨_, (i_cln (by omega)).symm⟩
                      refine wi_copyJ ct_102_96 (Nat.le_of_ble_eq_true rfl) (tp_T hS hT6) (tp_T hS hO6) (tp_L hS hT6) (tp_L hS hO6) (i_cl (k := N14) hN14 (by omega)) (i_cl (k := N13) hN13 (by omega)) (i_cl (k := N12) hN12 (by omega)) ⟨by omega, by omega, by omega⟩ ⟨by omega, by omega⟩ ?_
                      refine wi_iload_5 ct_102_99 ?_
                      refine wi_iret ct_102_101 rfl (wk_i ?_)
                      refine wi_aload_2 ct_211_1325 ?_
                      refine wi_aloadT_0 ct_211_1326 ?_
                      refine wi_iload_3 ct_211_1327 ?_
                      refine wi_ic ct_211_1328 kc_1 ?_
                      refine wi_iadd ct_211_1329 rfl ?_
                      refine wi_ialdT (j := I + 1) (x := a1) ct_211_1330 (sL_SC hS) (i_in (i_add hi ki_1 (by omega)) (by omega)) (i_cl (i_add hi ki_1 (by omega)) (by omega)) (((hsc _).trans e1)) ?_
                      refine wi_aloadT_0 ct_211_1331 ?_
                      refine wi_iload_3 ct_211_1332 ?_
                      refine wi_ic ct_211_1333 kc_2 ?_
                      refine wi_iadd ct_211_1334 rfl ?_
                      refine wi_ialdT (j := I + 2) (x := a2) ct_211_1335 (sL_SC hS) (i_in (i_add hi ki_2 (by omega)) (by omega)) (i_cl (i_add hi ki_2 (by omega)) (by omega)) (((hsc _).trans e2)) ?_
                      refine wi_aloadT_0 ct_211_1336 ?_
                      refine wi_iload_3 ct_211_1337 ?_
                      refine wi_ic ct_211_1338 kc_3 ?_
                      refine wi_iadd ct_211_1339 rfl ?_
                      refine wi_ialdT (j := I + 3) (x := a3) ct_211_1340 (sL_SC hS) (i_in (i_add hi ki_3 (by omega)) (by omega)) (i_cl (i_add hi ki_3 (by omega)) (by omega)) (((hsc _).trans e3)) ?_
                      refine wi_aloadT_0 ct_211_1341 ?_
                      refine wi_iload_3 ct_211_1342 ?_
                      refine wi_ic ct_211_1343 kc_4 ?_
                      refine wi_iadd ct_211_1344 rfl ?_
                      refine wi_ialdT (j := I + 4) (x := a4) ct_211_1345 (sL_SC hS) (i_in (i_add hi ki_4 (by omega)) (by omega)) (i_cl (i_add hi ki_4 (by omega)) (by omega)) (((hsc _).trans e4)) ?_
                      refine wi_aloadT_0 ct_211_1346 ?_
                      refine wi_iload_3 ct_211_1347 ?_
                      refine wi_ic ct_211_1348 kc_5 ?_
                      refine wi_iadd ct_211_1349 rfl ?_
                      refine wi_ialdT (j := I + 5) (x := a5) ct_211_1350 (sL_SC hS) (i_in (i_add hi ki_5 (by omega)) (by omega)) (i_cl (i_add hi ki_5 (by omega)) (by omega)) (((hsc _).trans e5)) ?_
                      refine wi_cv5 (ls' := [some _, some _, some _, some _, some _, some _, none]) ct_211_1351 (Nat.le_of_ble_eq_true rfl) (by decide) (sT_31 hS) rfl (by decide) rfl rfl (Nat.le_of_ble_eq_true rfl) ?_
                      refine wi_aload_0 ct_199_0 ?_
                      refine wi_iload_1 ct_199_1 ?_
                      refine wi_cv1 (ls' := [some _, some _]) ct_199_2 (Nat.le_of_ble_eq_true rfl) (by decide) (sT_31 hS) rfl (by decide) rfl rfl (Nat.le_of_ble_eq_true rfl) ?_
                      refine wi_aload_0 ct_194_0 ?_
                      refine wi_iload_1 ct_194_1 ?_
                      refine wi_ic ct_194_2 kc_0 ?_
                      refine wi_ic ct_194_3 kc_5 ?_
                      refine wi_cv3 (ls' := [some _, some _, some _, some _]) ct_194_4 (Nat.le_of_ble_eq_true rfl) (by decide) (sT_31 hS) rfl (by decide) rfl rfl (Nat.le_of_ble_eq_true rfl) ?_
                      refine c_in hTn ki_0 ki_5 (fun _ => wk_i ?_) (fun h => absurd h (by omega))
                      refine wi_iret ct_194_7 (by decide) (wk_i ?_)
                      refine wi_ifeq_f ct_199_5 ki_1 (by decide) ?_
                      refine wi_aload_0 ct_199_8 ?_
                      refine wi_iload_3 ct_199_9 ?_
                      refine wi_cv1 (ls' := [some _, some _]) ct_199_10 (Nat.le_of_ble_eq_true rfl) (by decide) (sT_31 hS) rfl (by decide) rfl rfl (Nat.le_of_ble_eq_true rfl) ?_
                      refine wi_aload_0 ct_194_0 ?_
                      refine wi_iload_1 ct_194_1 ?_
                      refine wi_ic ct_194_2 kc_0 ?_
                      refine wi_ic ct_194_3 kc_5 ?_
                      refine wi_cv3 (ls' := [some _, some _, some _, some _]) ct_194_4 (Nat.le_of_ble_eq_true rfl) (by decide) (sT_31 hS) rfl (by decide) rfl rfl (Nat.le_of_ble_eq_true rfl) ?_
                      refine c_in hOn ki_0 ki_5 (fun _ => wk_i ?_) (fun h => absurd h (by omega))
                      refine wi_iret ct_194_7 (by decide) (wk_i ?_)
                      refine wi_ifne_t ct_199_13 ki_1 (by decide) ?_
                      refine wi_aload_0 ct_199_18 ?_
                      refine wi_gfr ct_199_19 (sT_31 hS) rfl (sR_31_67 hS) ?_
                      refine wi_iload_1 ct_199_22 ?_
                      refine wi_iald (x := fi 68 T) ct_199_23 (sT_68 hS) (sL_68 hS) (i_in hTn (by omega)) (i_cl (k := T) hTn (by omega)) rfl ?_
                      refine wi_iflt_f ct_199_24 rfl (by omega) ?_
                      refine wi_aload_0 ct_199_27 ?_
                      refine wi_gfr ct_199_28 (sT_31 hS) rfl (sR_31_67 hS) ?_
                      refine wi_iload_3 ct_199_31 ?_
                      refine wi_iald (x := fi 68 O) ct_199_32 (sT_68 hS) (sL_68 hS) (i_in hOn (by omega)) (i_cl (k := O) hOn (by omega)) rfl ?_
                      refine wi_ifge_t ct_199_33 rfl (by omega) ?_
                      refine wi_aload_0 ct_199_39 ?_
                      refine wi_gfr ct_199_40 (sT_31 hS) rfl (sR_31_67 hS) ?_
                      refine wi_iload_1 ct_199_43 ?_
                      refine wi_iald (x := fi 68 T) ct_199_44 (sT_68 hS) (sL_68 hS) (i_in hTn (by omega)) (i_cl (k := T) hTn (by omega)) rfl ?_
                      refine wi_aload_0 ct_199_45 ?_
                      refine wi_gfr ct_199_46 (sT_31 hS) rfl (sR_31_67 hS) ?_
                      refine wi_iload_3 ct_199_49 ?_
                      refine wi_iald (x := fi 68 O) ct_199_50 (sT_68 hS) (sL_68 hS) (i_in hOn (by omega)) (i_cl (k := O) hOn (by omega)) rfl ?_
                      refine wi_iceq_t ct_199_51 rfl rfl (by omega) ?_
                      refine wi_iload_5 ct_199_57 ?_
                      refine wi_iflt_f ct_199_59 hN12 (by omega) ?_
                      refine wi_iload_2 ct_199_62 ?_
                      refine wi_iflt_f ct_199_63 hN14 (by omega) ?_
                      refine wi_iload_4 ct_199_66 ?_
                      refine wi_iflt_f ct_199_68 hN13 (by omega) ?_
                      refine wi_iload_2 ct_199_71 ?_
                      refine wi_aload_0 ct_199_72 ?_
                      refine wi_gfr ct_199_73 (sT_31 hS) rfl (sR_31_68 hS) ?_
                      refine wi_iload_1 ct_199_76 ?_
                      refine wi_iald (x := fi 69 T) ct_199_77 (sT_69 hS) (sL_69 hS) (i_in hTn (by omega)) (i_cl (k := T) hTn (by omega)) rfl ?_
                      refine wi_iload_5 ct_199_78 ?_
                      refine wi_isub ct_199_80 rfl ?_
                      refine wi_icgt_f ct_199_81 hN14 (i_sub rfl hN12 (by omega)) (by omega) ?_
                      refine wi_iload_4 ct_199_84 ?_
                      refine wi_aload_0 ct_199_86 ?_
                      refine wi_gfr ct_199_87 (sT_31 hS) rfl (sR_31_68 hS) ?_
                      refine wi_iload_3 ct_199_90 ?_
                      refine wi_iald (x := fi 69 O) ct_199_91 (sT_69 hS) (sL_69 hS) (i_in hOn (by omega)) (i_cl (k := O) hOn (by omega)) rfl ?_
                      refine wi_iload_5 ct_199_92 ?_
                      refine wi_isub ct_199_94 rfl ?_
                      refine wi_icle_t ct_199_95 hN13 (i_sub rfl hN12 (by omega)) (by omega) ?_
                      refine wi_ic ct_199_101 kc_0 ?_
                      refine wi_istore_6 rfl ct_199_102 ?_
                      refine vl_shift1 hS hT6 hO6 hTn hN14 hOn hN13 hN12 (by omega) (by omega) (fun fm15 zim15 hm151 hm152 => ?_) N12 0 _ _ (by omega) (ki_0.trans rfl) (fun j hj => absurd hj (by omega)) (fun _ _ => rfl)
                      refine wi_ic ct_199_138 kc_0 ?_
                      refine wi_istore_6 rfl ct_199_139 ?_
                      refine vl_shift2 hS hT6 hO6 hTn hN14 hOn hN13 hN12 (by omega) (by omega) (fun fm16 zim16 hm161 hm162 hm163 => ?_) N12 0 _ _ (by omega) (ki_0.trans rfl) (fun j hj => absurd hj (by omega)) (fun _ _ => rfl) (fun _ _ => rfl)
                      refine wi_iload_5 ct_199_176 ?_
                      refine wi_iret ct_199_178 rfl (wk_i ?_)
                      refine wi_iceq_t ct_211_1354 hN12 hN12 (by omega) ?_
                      have hrow : ∀ q j, q ≠ 70 → q ≠ 71 → fm16 q j = (cp2 fl (25 + T) (25 + O) N14 N13 N12) q j := fun q j e1 e2 => (congrFun (hm162 q e1) j).trans (congrFun (hm152 q e2) j)
                      have h70 : ∀ j, ¬ (60 * O + N13 ≤ j ∧ j < 60 * O + N13 + N12) → fm16 70 j = fl 70 j := fun j e => (hm163 j e).trans ((congrFun (hm152 70 (by decide)) j).trans (cp2_nq (by omega)))
                      have hin : ∀ j, j < N12 → fm16 70 (60 * O + N13 + j) = fl 70 (60 * T + N14 + j) := fun j e => (hm161 j e).trans ((hm151 j e).trans (cp2_nq (by omega)))
                      refine kk own g fi _ (hR.tp (fun _ _ _ _ _ => rfl) (hP.put hO6 (fun t ht => ⟨rfl, rfl, rfl, rfl⟩) (fun t j ht hj hne => ⟨(hrow _ _ (by omega) (by omega)).trans (cp2_nq (by omega)), h70 _ (by omega)⟩) ⟨p22O, p23O, ⟨paO, pbO⟩, ⟨pcO, pdO⟩, pzO, fun k hk => ?_⟩)) (by omega) (by omega)
                      rw [hrow _ _ (by omega) (by omega)]
                      rcases Decidable.em (N13 ≤ k ∧ k < N13 + N12) with ek | ek
                      · obtain ⟨j, hj⟩ : ∃ j, k = N13 + j := ⟨k - N13, by omega⟩
                        rw [cp2_in ek, hj, ← Nat.add_assoc, hin j (by omega), Nat.add_assoc]
                        rw [show N14 + (N13 + j - N13) = N14 + j by omega]
                        exact tvT (N14 + j) (by omega)
                      · rw [cp2_nj ek, h70 _ (by omega)]
                        exact tvO k hk
                    · skip
                      refine wi_lcmp ct_116_20 (lcmp_eq (j_eq hla10 ((j_of (rfl : (fi 69 O).toInt = _)).trans hj11.symm))) ?_
                      refine wi_ifgt_f ct_116_21 ki_0 (by decide) ?_
                      refine wi_ic ct_116_24 kc_1 ?_
                      refine wi_goto ct_116_25 ?_
                      refine wi_iret ct_116_29 (by decide) (wk_i ?_)
                      refine wi_ifne_t ct_102_73 ki_1 (by decide) ?_
                      refine wi_aload_0 ct_102_79 ?_
                      refine wi_gfr ct_102_80 (sT_0 hS) rfl (sR_0_13 hS) ?_
                      refine wi_iload_1 ct_102_83 ?_
                      refine wi_aald ct_102_84 (sT_24 hS) (by decide) (sL_24 hS) (i_in hTn (by omega)) (i_cl (k := T) hTn (by omega)) (tp_R hS hT6) ?_
                      refine wi_iload_2 ct_102_85 ?_
                      refine wi_aload_0 ct_102_86 ?_
                      refine wi_gfr ct_102_87 (sT_0 hS) rfl (sR_0_13 hS) ?_
                      refine wi_iload_3 ct_102_90 ?_
                      refine wi_aald ct_102_91 (sT_24 hS) (by decide) (sL_24 hS) (i_in hOn (by omega)) (i_cl (k := O) hOn (by omega)) (tp_R hS hO6) ?_
                      refine wi_iload_4 ct_102_92 ?_
                      refine wi_iload_5 ct_102_94 ?_
                      obtain ⟨N17, hN17⟩ : ∃ k : Nat, (a5).toInt = (k : Int) := ⟨_, (i_cln (by omega)).symm⟩
                      obtain ⟨N18, hN18⟩ : ∃ k : Nat, (a4).toInt = (k : Int) := ⟨_, (i_cln (by omega)).symm⟩
                      obtain ⟨N19, hN19⟩ : ∃ k : Nat, (a2).toInt = (k : Int) := ⟨_, (i_cln (by omega)).symm⟩
                      refine wi_copyJ ct_102_96 (Nat.le_of_ble_eq_true rfl) (tp_T hS hT6) (tp_T hS hO6) (tp_L hS hT6) (tp_L hS hO6) (i_cl (k := N19) hN19 (by omega)) (i_cl (k := N18) hN18 (by omega)) (i_cl (k := N17) hN17 (by omega)) ⟨by omega, by omega, by omega⟩ ⟨by omega, by omega⟩ ?_
                      refine wi_iload_5 ct_102_99 ?_
                      refine wi_iret ct_102_101 rfl (wk_i ?_)
                      refine wi_aload_2 ct_211_1325 ?_
                      refine wi_aloadT_0 ct_211_1326 ?_
                      refine wi_iload_3 ct_211_1327 ?_
                      refine wi_ic ct_211_1328 kc_1 ?_
                      refine wi_iadd ct_211_1329 rfl ?_
                      refine wi_ialdT (j := I + 1) (x := a1) ct_211_1330 (sL_SC hS) (i_in (i_add hi ki_1 (by omega)) (by omega)) (i_cl (i_add hi ki_1 (by omega)) (by omega)) (((hsc _).trans e1)) ?_
                      refine wi_aloadT_0 ct_211_1331 ?_
                      refine wi_iload_3 ct_211_1332 ?_
                      refine wi_ic ct_211_1333 kc_2 ?_
                      refine wi_iadd ct_211_1334 rfl ?_
                      refine wi_ialdT (j := I + 2) (x := a2) ct_211_1335 (sL_SC hS) (i_in (i_add hi ki_2 (by omega)) (by omega)) (i_cl (i_add hi ki_2 (by omega)) (by omega)) (((hsc _).trans e2)) ?_
                      refine wi_aloadT_0 ct_211_1336 ?_
                      refine wi_iload_3 ct_211_1337 ?_
                      refine wi_ic ct_211_1338 kc_3 ?_
                      refine wi_iadd ct_211_1339 rfl ?_
                      refine wi_ialdT (j := I + 3) (x := a3) ct_211_1340 (sL_SC hS) (i_in (i_add hi ki_3 (by omega)) (by omega)) (i_cl (i_add hi ki_3 (by omega)) (by omega)) (((hsc _).trans e3)) ?_
                      refine wi_aloadT_0 ct_211_1341 ?_
                      refine wi_iload_3 ct_211_1342 ?_
                      refine wi_ic ct_211_1343 kc_4 ?_
                      refine wi_iadd ct_211_1344 rfl ?_
                      refine wi_ialdT (j := I + 4) (x := a4) ct_211_1345 (sL_SC hS) (i_in (i_add hi ki_4 (by omega)) (by omega)) (i_cl (i_add hi ki_4 (by omega)) (by omega)) (((hsc _).trans e4)) ?_
                      refine wi_aloadT_0 ct_211_1346 ?_
                      refine wi_iload_3 ct_211_1347 ?_
                      refine wi_ic ct_211_1348 kc_5 ?_
                      refine wi_iadd ct_211_1349 rfl ?_
                      refine wi_ialdT (j := I + 5) (x := a5) ct_211_1350 (sL_SC hS) (i_in (i_add hi ki_5 (by omega)) (by omega)) (i_cl (i_add hi ki_5 (by omega)) (by omega)) (((hsc _).trans e5)) ?_
                      refine wi_cv5 (ls' := [some _, some _, some _, some _, some _, some _, none]) ct_211_1351 (Nat.le_of_ble_eq_true rfl) (by decide) (sT_31 hS) rfl (by decide) rfl rfl (Nat.le_of_ble_eq_true rfl) ?_
                      refine wi_aload_0 ct_199_0 ?_
                      refine wi_iload_1 ct_199_1 ?_
                      refine wi_cv1 (ls' := [some _, some _]) ct_199_2 (Nat.le_of_ble_eq_true rfl) (by decide) (sT_31 hS) rfl (by decide) rfl rfl (Nat.le_of_ble_eq_true rfl) ?_
                      refine wi_aload_0 ct_194_0 ?_
                      refine wi_iload_1 ct_194_1 ?_
                      refine wi_ic ct_194_2 kc_0 ?_
                      refine wi_ic ct_194_3 kc_5 ?_
                      refine wi_cv3 (ls' := [some _, some _, some _, some _]) ct_194_4 (Nat.le_of_ble_eq_true rfl) (by decide) (sT_31 hS) rfl (by decide) rfl rfl (Nat.le_of_ble_eq_true rfl) ?_
                      refine c_in hTn ki_0 ki_5 (fun _ => wk_i ?_) (fun h => absurd h (by omega))
                      refine wi_iret ct_194_7 (by decide) (wk_i ?_)
                      refine wi_ifeq_f ct_199_5 ki_1 (by decide) ?_
                      refine wi_aload_0 ct_199_8 ?_
                      refine wi_iload_3 ct_199_9 ?_
                      refine wi_cv1 (ls' := [some _, some _]) ct_199_10 (Nat.le_of_ble_eq_true rfl) (by decide) (sT_31 hS) rfl (by decide) rfl rfl (Nat.le_of_ble_eq_true rfl) ?_
                      refine wi_aload_0 ct_194_0 ?_
                      refine wi_iload_1 ct_194_1 ?_
                      refine wi_ic ct_194_2 kc_0 ?_
                      refine wi_ic ct_194_3 kc_5 ?_
                      refine wi_cv3 (ls' := [some _, some _, some _, some _]) ct_194_4 (Nat.le_of_ble_eq_true rfl) (by decide) (sT_31 hS) rfl (by decide) rfl rfl (Nat.le_of_ble_eq_true rfl) ?_
                      refine c_in hOn ki_0 ki_5 (fun _ => wk_i ?_) (fun h => absurd h (by omega))
                      refine wi_iret ct_194_7 (by decide) (wk_i ?_)
                      refine wi_ifne_t ct_199_13 ki_1 (by decide) ?_
                      refine wi_aload_0 ct_199_18 ?_
                      refine wi_gfr ct_199_19 (sT_31 hS) rfl (sR_31_67 hS) ?_
                      refine wi_iload_1 ct_199_22 ?_
                      refine wi_iald (x := fi 68 T) ct_199_23 (sT_68 hS) (sL_68 hS) (i_in hTn (by omega)) (i_cl (k := T) hTn (by omega)) rfl ?_
                      refine wi_iflt_f ct_199_24 rfl (by omega) ?_
                      refine wi_aload_0 ct_199_27 ?_
                      refine wi_gfr ct_199_28 (sT_31 hS) rfl (sR_31_67 hS) ?_
                      refine wi_iload_3 ct_199_31 ?_
                      refine wi_iald (x := fi 68 O) ct_199_32 (sT_68 hS) (sL_68 hS) (i_in hOn (by omega)) (i_cl (k := O) hOn (by omega)) rfl ?_
                      refine wi_ifge_t ct_199_33 rfl (by omega) ?_
                      refine wi_aload_0 ct_199_39 ?_
                      refine wi_gfr ct_199_40 (sT_31 hS) rfl (sR_31_67 hS) ?_
                      refine wi_iload_1 ct_199_43 ?_
                      refine wi_iald (x := fi 68 T) ct_199_44 (sT_68 hS) (sL_68 hS) (i_in hTn (by omega)) (i_cl (k := T) hTn (by omega)) rfl ?_
                      refine wi_aload_0 ct_199_45 ?_
                      refine wi_gfr ct_199_46 (sT_31 hS) rfl (sR_31_67 hS) ?_
                      refine wi_iload_3 ct_199_49 ?_
                      refine wi_iald (x := fi 68 O) ct_199_50 (sT_68 hS) (sL_68 hS) (i_in hOn (by omega)) (i_cl (k := O) hOn (by omega)) rfl ?_
                      refine wi_iceq_t ct_199_51 rfl rfl (by omega) ?_
                      refine wi_iload_5 ct_199_57 ?_
                      refine wi_iflt_f ct_199_59 hN17 (by omega) ?_
                      refine wi_iload_2 ct_199_62 ?_
                      refine wi_iflt_f ct_199_63 hN19 (by omega) ?_
                      refine wi_iload_4 ct_199_66 ?_
                      refine wi_iflt_f ct_199_68 hN18 (by omega) ?_
                      refine wi_iload_2 ct_199_71 ?_
                      refine wi_aload_0 ct_199_72 ?_
                      refine wi_gfr ct_199_73 (sT_31 hS) rfl (sR_31_68 hS) ?_
                      refine wi_iload_1 ct_199_76 ?_
                      refine wi_iald (x := fi 69 T) ct_199_77 (sT_69 hS) (sL_69 hS) (i_in hTn (by omega)) (i_cl (k := T) hTn (by omega)) rfl ?_
                      refine wi_iload_5 ct_199_78 ?_
                      refine wi_isub ct_199_80 rfl ?_
                      refine wi_icgt_f ct_199_81 hN19 (i_sub rfl hN17 (by omega)) (by omega) ?_
                      refine wi_iload_4 ct_199_84 ?_
                      refine wi_aload_0 ct_199_86 ?_
                      refine wi_gfr ct_199_87 (sT_31 hS) rfl (sR_31_68 hS) ?_
                      refine wi_iload_3 ct_199_90 ?_
                      refine wi_iald (x := fi 69 O) ct_199_91 (sT_69 hS) (sL_69 hS) (i_in hOn (by omega)) (i_cl (k := O) hOn (by omega)) rfl ?_
                      refine wi_iload_5 ct_199_92 ?_
                      refine wi_isub ct_199_94 rfl ?_
                      refine wi_icle_t ct_199_95 hN18 (i_sub rfl hN17 (by omega)) (by omega) ?_
                      refine wi_ic ct_199_101 kc_0 ?_
                      refine wi_istore_6 rfl ct_199_102 ?_
                      refine vl_shift1 hS hT6 hO6 hTn hN19 hOn hN18 hN17 (by omega) (by omega) (fun fm20 zim20 hm201 hm202 => ?_) N17 0 _ _ (by omega) (ki_0.trans rfl) (fun j hj => absurd hj (by omega)) (fun _ _ => rfl)
                      refine wi_ic ct_199_138 kc_0 ?_
                      refine wi_istore_6 rfl ct_199_139 ?_
                      refine vl_shift2 hS hT6 hO6 hTn hN19 hOn hN18 hN17 (by omega) (by omega) (fun fm21 zim21 hm211 hm212 hm213 => ?_) N17 0 _ _ (by omega) (ki_0.trans rfl) (fun j hj => absurd hj (by omega)) (fun _ _ => rfl) (fun _ _ => rfl)
                      refine wi_iload_5 ct_199_176 ?_
                      refine wi_iret ct_199_178 rfl (wk_i ?_)
                      refine wi_iceq_t ct_211_1354 hN17 hN17 (by omega) ?_
                      have hrow : ∀ q j, q ≠ 70 → q ≠ 71 → fm21 q j = (cp2 fl (25 + T) (25 + O) N19 N18 N17) q j := fun q j e1 e2 => (congrFun (hm212 q e1) j).trans (congrFun (hm202 q e2) j)
                      have h70 : ∀ j, ¬ (60 * O + N18 ≤ j ∧ j < 60 * O + N18 + N17) → fm21 70 j = fl 70 j := fun j e => (hm213 j e).trans ((congrFun (hm202 70 (by decide)) j).trans (cp2_nq (by omega)))
                      have hin : ∀ j, j < N17 → fm21 70 (60 * O + N18 + j) = fl 70 (60 * T + N19 + j) := fun j e => (hm211 j e).trans ((hm201 j e).trans (cp2_nq (by omega)))
                      refine kk own g fi _ (hR.tp (fun _ _ _ _ _ => rfl) (hP.put hO6 (fun t ht => ⟨rfl, rfl, rfl, rfl⟩) (fun t j ht hj hne => ⟨(hrow _ _ (by omega) (by omega)).trans (cp2_nq (by omega)), h70 _ (by omega)⟩) ⟨p22O, p23O, ⟨paO, pbO⟩, ⟨pcO, pdO⟩, pzO, fun k hk => ?_⟩)) (by omega) (by omega)
                      rw [hrow _ _ (by omega) (by omega)]
                      rcases Decidable.em (N18 ≤ k ∧ k < N18 + N17) with ek | ek
                      · obtain ⟨j, hj⟩ : ∃ j, k = N18 + j := ⟨k - N18, by omega⟩
                        rw [cp2_in ek, hj, ← Nat.add_assoc, hin j (by omega), Nat.add_assoc]
                        rw [show N19 + (N18 + j - N18) = N19 + j by omega]
                        exact tvT (N19 + j) (by omega)
                      · rw [cp2_nj ek, h70 _ (by omega)]
                        exact tvO k hk
                    · skip
                      refine wi_lcmp ct_116_20 (lcmp_1 (hla10.trans rfl) ((j_of (rfl : (fi 69 O).toInt = _)).trans rfl) hj11) ?_
                      refine wi_ifgt_t ct_116_21 ki_1 (by decide) ?_
                      refine wi_ic ct_116_28 kc_0 ?_
                      refine wi_iret ct_116_29 (by decide) (wk_i ?_)
                      refine wi_ifne_f ct_102_73 ki_0 (by decide) ?_
                      refine wi_ic ct_102_76 kc_m13 ?_
                      refine wi_iret ct_102_78 rfl (wk_i ?_)
                      refine wi_aload_2 ct_211_1325 ?_
                      refine wi_aloadT_0 ct_211_1326 ?_
                      refine wi_iload_3 ct_211_1327 ?_
                      refine wi_ic ct_211_1328 kc_1 ?_
                      refine wi_iadd ct_211_1329 rfl ?_
                      refine wi_ialdT (j := I + 1) (x := a1) ct_211_1330 (sL_SC hS) (i_in (i_add hi ki_1 (by omega)) (by omega)) (i_cl (i_add hi ki_1 (by omega)) (by omega)) (((hsc _).trans e1)) ?_
                      refine wi_aloadT_0 ct_211_1331 ?_
                      refine wi_iload_3 ct_211_1332 ?_
                      refine wi_ic ct_211_1333 kc_2 ?_
                      refine wi_iadd ct_211_1334 rfl ?_
                      refine wi_ialdT (j := I + 2) (x := a2) ct_211_1335 (sL_SC hS) (i_in (i_add hi ki_2 (by omega)) (by omega)) (i_cl (i_add hi ki_2 (by omega)) (by omega)) (((hsc _).trans e2)) ?_
                      refine wi_aloadT_0 ct_211_1336 ?_
                      refine wi_iload_3 ct_211_1337 ?_
                      refine wi_ic ct_211_1338 kc_3 ?_
                      refine wi_iadd ct_211_1339 rfl ?_
                      refine wi_ialdT (j := I + 3) (x := a3) ct_211_1340 (sL_SC hS) (i_in (i_add hi ki_3 (by omega)) (by omega)) (i_cl (i_add hi ki_3 (by omega)) (by omega)) (((hsc _).trans e3)) ?_
                      refine wi_aloadT_0 ct_211_1341 ?_
                      refine wi_iload_3 ct_211_1342 ?_
                      refine wi_ic ct_211_1343 kc_4 ?_
                      refine wi_iadd ct_211_1344 rfl ?_
                      refine wi_ialdT (j := I + 4) (x := a4) ct_211_1345 (sL_SC hS) (i_in (i_add hi ki_4 (by omega)) (by omega)) (i_cl (i_add hi ki_4 (by omega)) (by omega)) (((hsc _).trans e4)) ?_
                      refine wi_aloadT_0 ct_211_1346 ?_
                      refine wi_iload_3 ct_211_1347 ?_
                      refine wi_ic ct_211_1348 kc_5 ?_
                      refine wi_iadd ct_211_1349 rfl ?_
                      refine wi_ialdT (j := I + 5) (x := a5) ct_211_1350 (sL_SC hS) (i_in (i_add hi ki_5 (by omega)) (by omega)) (i_cl (i_add hi ki_5 (by omega)) (by omega)) (((hsc _).trans e5)) ?_
                      refine wi_cv5 (ls' := [some _, some _, some _, some _, some _, some _, none]) ct_211_1351 (Nat.le_of_ble_eq_true rfl) (by decide) (sT_31 hS) rfl (by decide) rfl rfl (Nat.le_of_ble_eq_true rfl) ?_
                      refine wi_aload_0 ct_199_0 ?_
                      refine wi_iload_1 ct_199_1 ?_
                      refine wi_cv1 (ls' := [some _, some _]) ct_199_2 (Nat.le_of_ble_eq_true rfl) (by decide) (sT_31 hS) rfl (by decide) rfl rfl (Nat.le_of_ble_eq_true rfl) ?_
                      refine wi_aload_0 ct_194_0 ?_
                      refine wi_iload_1 ct_194_1 ?_
                      refine wi_ic ct_194_2 kc_0 ?_
                      refine wi_ic ct_194_3 kc_5 ?_
                      refine wi_cv3 (ls' := [some _, some _, some _, some _]) ct_194_4 (Nat.le_of_ble_eq_true rfl) (by decide) (sT_31 hS) rfl (by decide) rfl rfl (Nat.le_of_ble_eq_true rfl) ?_
                      refine c_in hTn ki_0 ki_5 (fun _ => wk_i ?_) (fun h => absurd h (by omega))
                      refine wi_iret ct_194_7 (by decide) (wk_i ?_)
                      refine wi_ifeq_f ct_199_5 ki_1 (by decide) ?_
                      refine wi_aload_0 ct_199_8 ?_
                      refine wi_iload_3 ct_199_9 ?_
                      refine wi_cv1 (ls' := [some _, some _]) ct_199_10 (Nat.le_of_ble_eq_true rfl) (by decide) (sT_31 hS) rfl (by decide) rfl rfl (Nat.le_of_ble_eq_true rfl) ?_
                      refine wi_aload_0 ct_194_0 ?_
                      refine wi_iload_1 ct_194_1 ?_
                      refine wi_ic ct_194_2 kc_0 ?_
                      refine wi_ic ct_194_3 kc_5 ?_
                      refine wi_cv3 (ls' := [some _, some _, some _, some _]) ct_194_4 (Nat.le_of_ble_eq_true rfl) (by decide) (sT_31 hS) rfl (by decide) rfl rfl (Nat.le_of_ble_eq_true rfl) ?_
                      refine c_in hOn ki_0 ki_5 (fun _ => wk_i ?_) (fun h => absurd h (by omega))
                      refine wi_iret ct_194_7 (by decide) (wk_i ?_)
                      refine wi_ifne_t ct_199_13 ki_1 (by decide) ?_
                      refine wi_aload_0 ct_199_18 ?_
                      refine wi_gfr ct_199_19 (sT_31 hS) rfl (sR_31_67 hS) ?_
                      refine wi_iload_1 ct_199_22 ?_
                      refine wi_iald (x := fi 68 T) ct_199_23 (sT_68 hS) (sL_68 hS) (i_in hTn (by omega)) (i_cl (k := T) hTn (by omega)) rfl ?_
                      refine wi_iflt_f ct_199_24 rfl (by omega) ?_
                      refine wi_aload_0 ct_199_27 ?_
                      refine wi_gfr ct_199_28 (sT_31 hS) rfl (sR_31_67 hS) ?_
                      refine wi_iload_3 ct_199_31 ?_
                      refine wi_iald (x := fi 68 O) ct_199_32 (sT_68 hS) (sL_68 hS) (i_in hOn (by omega)) (i_cl (k := O) hOn (by omega)) rfl ?_
                      refine wi_ifge_t ct_199_33 rfl (by omega) ?_
                      refine wi_aload_0 ct_199_39 ?_
                      refine wi_gfr ct_199_40 (sT_31 hS) rfl (sR_31_67 hS) ?_
                      refine wi_iload_1 ct_199_43 ?_
                      refine wi_iald (x := fi 68 T) ct_199_44 (sT_68 hS) (sL_68 hS) (i_in hTn (by omega)) (i_cl (k := T) hTn (by omega)) rfl ?_
                      refine wi_aload_0 ct_199_45 ?_
                      refine wi_gfr ct_199_46 (sT_31 hS) rfl (sR_31_67 hS) ?_
                      refine wi_iload_3 ct_199_49 ?_
                      refine wi_iald (x := fi 68 O) ct_199_50 (sT_68 hS) (sL_68 hS) (i_in hOn (by omega)) (i_cl (k := O) hOn (by omega)) rfl ?_
                      refine wi_iceq_t ct_199_51 rfl rfl (by omega) ?_
                      refine wi_iload_5 ct_199_57 ?_
                      refine wi_iflt_f ct_199_59 rfl (by omega) ?_
                      refine wi_iload_2 ct_199_62 ?_
                      refine wi_iflt_f ct_199_63 rfl (by omega) ?_
                      refine wi_iload_4 ct_199_66 ?_
                      refine wi_iflt_f ct_199_68 rfl (by omega) ?_
                      refine wi_iload_2 ct_199_71 ?_
                      refine wi_aload_0 ct_199_72 ?_
                      refine wi_gfr ct_199_73 (sT_31 hS) rfl (sR_31_68 hS) ?_
                      refine wi_iload_1 ct_199_76 ?_
                      refine wi_iald (x := fi 69 T) ct_199_77 (sT_69 hS) (sL_69 hS) (i_in hTn (by omega)) (i_cl (k := T) hTn (by omega)) rfl ?_
                      refine wi_iload_5 ct_199_78 ?_
                      refine wi_isub ct_199_80 rfl ?_
                      refine wi_icgt_f ct_199_81 rfl (i_sub rfl rfl (by omega)) (by omega) ?_
                      refine wi_iload_4 ct_199_84 ?_
                      refine wi_aload_0 ct_199_86 ?_
                      refine wi_gfr ct_199_87 (sT_31 hS) rfl (sR_31_68 hS) ?_
                      refine wi_iload_3 ct_199_90 ?_
                      refine wi_iald (x := fi 69 O) ct_199_91 (sT_69 hS) (sL_69 hS) (i_in hOn (by omega)) (i_cl (k := O) hOn (by omega)) rfl ?_
                      refine wi_iload_5 ct_199_92 ?_
                      refine wi_isub ct_199_94 rfl ?_
                      refine wi_icle_f ct_199_95 rfl (i_sub rfl rfl (by omega)) (by omega) ?_
                      refine wi_ic ct_199_98 kc_m13 ?_
                      refine wi_iret ct_199_100 rfl (wk_i ?_)
                      refine wi_iceq_t ct_211_1354 ki_m13 ki_m13 (by decide) ?_
                      exact kk own g fi fl hR (by omega) (by omega)
                · skip
                  refine wi_lcmp ct_116_20 (lcmp_eq (j_eq hla7 ((j_of (rfl : (fi 69 T).toInt = _)).trans hj8.symm))) ?_
                  refine wi_ifgt_f ct_116_21 ki_0 (by decide) ?_
                  refine wi_ic ct_116_24 kc_1 ?_
                  refine wi_goto ct_116_25 ?_
                  refine wi_iret ct_116_29 (by decide) (wk_i ?_)
                  refine wi_ifeq_f ct_102_61 ki_1 (by decide) ?_
                  refine wi_aload_0 ct_102_64 ?_
                  refine wi_iload_3 ct_102_65 ?_
                  refine wi_iload_4 ct_102_66 ?_
                  refine wi_iload_5 ct_102_68 ?_
                  refine wi_cv3 (ls' := [some _, some _, some _, some _]) ct_102_70 (Nat.le_of_ble_eq_true rfl) (by decide) (sT_0 hS) rfl (by decide) rfl rfl (Nat.le_of_ble_eq_true rfl) ?_
                  refine wi_iload_2 ct_116_0 ?_
                  refine wi_iflt ct_116_1 rfl (fun h22 => ?_) (fun h22 => ?_)
                  · skip
                    refine wi_ic ct_116_28 kc_0 ?_
                    refine wi_iret ct_116_29 (by decide) (wk_i ?_)
                    refine wi_ifne_f ct_102_73 ki_0 (by decide) ?_
                    refine wi_ic ct_102_76 kc_m13 ?_
                    refine wi_iret ct_102_78 rfl (wk_i ?_)
                    refine wi_aload_2 ct_211_1325 ?_
                    refine wi_aloadT_0 ct_211_1326 ?_
                    refine wi_iload_3 ct_211_1327 ?_
                    refine wi_ic ct_211_1328 kc_1 ?_
                    refine wi_iadd ct_211_1329 rfl ?_
                    refine wi_ialdT (j := I + 1) (x := a1) ct_211_1330 (sL_SC hS) (i_in (i_add hi ki_1 (by omega)) (by omega)) (i_cl (i_add hi ki_1 (by omega)) (by omega)) (((hsc _).trans e1)) ?_
                    refine wi_aloadT_0 ct_211_1331 ?_
                    refine wi_iload_3 ct_211_1332 ?_
                    refine wi_ic ct_211_1333 kc_2 ?_
                    refine wi_iadd ct_211_1334 rfl ?_
                    refine wi_ialdT (j := I + 2) (x := a2) ct_211_1335 (sL_SC hS) (i_in (i_add hi ki_2 (by omega)) (by omega)) (i_cl (i_add hi ki_2 (by omega)) (by omega)) (((hsc _).trans e2)) ?_
                    refine wi_aloadT_0 ct_211_1336 ?_
                    refine wi_iload_3 ct_211_1337 ?_
                    refine wi_ic ct_211_1338 kc_3 ?_
                    refine wi_iadd ct_211_1339 rfl ?_
                    refine wi_ialdT (j := I + 3) (x := a3) ct_211_1340 (sL_SC hS) (i_in (i_add hi ki_3 (by omega)) (by omega)) (i_cl (i_add hi ki_3 (by omega)) (by omega)) (((hsc _).trans e3)) ?_
                    refine wi_aloadT_0 ct_211_1341 ?_
                    refine wi_iload_3 ct_211_1342 ?_
                    refine wi_ic ct_211_1343 kc_4 ?_
                    refine wi_iadd ct_211_1344 rfl ?_
                    refine wi_ialdT (j := I + 4) (x := a4) ct_211_1345 (sL_SC hS) (i_in (i_add hi ki_4 (by omega)) (by omega)) (i_cl (i_add hi ki_4 (by omega)) (by omega)) (((hsc _).trans e4)) ?_
                    refine wi_aloadT_0 ct_211_1346 ?_
                    refine wi_iload_3 ct_211_1347 ?_
                    refine wi_ic ct_211_1348 kc_5 ?_
                    refine wi_iadd ct_211_1349 rfl ?_
                    refine wi_ialdT (j := I + 5) (x := a5) ct_211_1350 (sL_SC hS) (i_in (i_add hi ki_5 (by omega)) (by omega)) (i_cl (i_add hi ki_5 (by omega)) (by omega)) (((hsc _).trans e5)) ?_
                    refine wi_cv5 (ls' := [some _, some _, some _, some _, some _, some _, none]) ct_211_1351 (Nat.le_of_ble_eq_true rfl) (by decide) (sT_31 hS) rfl (by decide) rfl rfl (Nat.le_of_ble_eq_true rfl) ?_
                    refine wi_aload_0 ct_199_0 ?_
                    refine wi_iload_1 ct_199_1 ?_
                    refine wi_cv1 (ls' := [some _, some _]) ct_199_2 (Nat.le_of_ble_eq_true rfl) (by decide) (sT_31 hS) rfl (by decide) rfl rfl (Nat.le_of_ble_eq_true rfl) ?_
                    refine wi_aload_0 ct_194_0 ?_
                    refine wi_iload_1 ct_194_1 ?_
                    refine wi_ic ct_194_2 kc_0 ?_
                    refine wi_ic ct_194_3 kc_5 ?_
                    refine wi_cv3 (ls' := [some _, some _, some _, some _]) ct_194_4 (Nat.le_of_ble_eq_true rfl) (by decide) (sT_31 hS) rfl (by decide) rfl rfl (Nat.le_of_ble_eq_true rfl) ?_
                    refine c_in hTn ki_0 ki_5 (fun _ => wk_i ?_) (fun h => absurd h (by omega))
                    refine wi_iret ct_194_7 (by decide) (wk_i ?_)
                    refine wi_ifeq_f ct_199_5 ki_1 (by decide) ?_
                    refine wi_aload_0 ct_199_8 ?_
                    refine wi_iload_3 ct_199_9 ?_
                    refine wi_cv1 (ls' := [some _, some _]) ct_199_10 (Nat.le_of_ble_eq_true rfl) (by decide) (sT_31 hS) rfl (by decide) rfl rfl (Nat.le_of_ble_eq_true rfl) ?_
                    refine wi_aload_0 ct_194_0 ?_
                    refine wi_iload_1 ct_194_1 ?_
                    refine wi_ic ct_194_2 kc_0 ?_
                    refine wi_ic ct_194_3 kc_5 ?_
                    refine wi_cv3 (ls' := [some _, some _, some _, some _]) ct_194_4 (Nat.le_of_ble_eq_true rfl) (by decide) (sT_31 hS) rfl (by decide) rfl rfl (Nat.le_of_ble_eq_true rfl) ?_
                    refine c_in hOn ki_0 ki_5 (fun _ => wk_i ?_) (fun h => absurd h (by omega))
                    refine wi_iret ct_194_7 (by decide) (wk_i ?_)
                    refine wi_ifne_t ct_199_13 ki_1 (by decide) ?_
                    refine wi_aload_0 ct_199_18 ?_
                    refine wi_gfr ct_199_19 (sT_31 hS) rfl (sR_31_67 hS) ?_
                    refine wi_iload_1 ct_199_22 ?_
                    refine wi_iald (x := fi 68 T) ct_199_23 (sT_68 hS) (sL_68 hS) (i_in hTn (by omega)) (i_cl (k := T) hTn (by omega)) rfl ?_
                    refine wi_iflt_f ct_199_24 rfl (by omega) ?_
                    refine wi_aload_0 ct_199_27 ?_
                    refine wi_gfr ct_199_28 (sT_31 hS) rfl (sR_31_67 hS) ?_
                    refine wi_iload_3 ct_199_31 ?_
                    refine wi_iald (x := fi 68 O) ct_199_32 (sT_68 hS) (sL_68 hS) (i_in hOn (by omega)) (i_cl (k := O) hOn (by omega)) rfl ?_
                    refine wi_ifge_t ct_199_33 rfl (by omega) ?_
                    refine wi_aload_0 ct_199_39 ?_
                    refine wi_gfr ct_199_40 (sT_31 hS) rfl (sR_31_67 hS) ?_
                    refine wi_iload_1 ct_199_43 ?_
                    refine wi_iald (x := fi 68 T) ct_199_44 (sT_68 hS) (sL_68 hS) (i_in hTn (by omega)) (i_cl (k := T) hTn (by omega)) rfl ?_
                    refine wi_aload_0 ct_199_45 ?_
                    refine wi_gfr ct_199_46 (sT_31 hS) rfl (sR_31_67 hS) ?_
                    refine wi_iload_3 ct_199_49 ?_
                    refine wi_iald (x := fi 68 O) ct_199_50 (sT_68 hS) (sL_68 hS) (i_in hOn (by omega)) (i_cl (k := O) hOn (by omega)) rfl ?_
                    refine wi_iceq_t ct_199_51 rfl rfl (by omega) ?_
                    refine wi_iload_5 ct_199_57 ?_
                    refine wi_iflt_f ct_199_59 rfl (by omega) ?_
                    refine wi_iload_2 ct_199_62 ?_
                    refine wi_iflt_f ct_199_63 rfl (by omega) ?_
                    refine wi_iload_4 ct_199_66 ?_
                    refine wi_iflt_t ct_199_68 rfl (by omega) ?_
                    refine wi_ic ct_199_98 kc_m13 ?_
                    refine wi_iret ct_199_100 rfl (wk_i ?_)
                    refine wi_iceq_t ct_211_1354 ki_m13 ki_m13 (by decide) ?_
                    exact kk own g fi fl hR (by omega) (by omega)
                  · skip
                    refine wi_iload_3 ct_116_4 ?_
                    refine wi_iflt_f ct_116_5 rfl (by omega) ?_
                    refine wi_iload_2 ct_116_8 ?_
                    refine wi_i2l ct_116_9 rfl ?_
                    refine wi_iload_3 ct_116_10 ?_
                    refine wi_i2l ct_116_11 rfl ?_
                    have hla23 := j_add (j_of (rfl : (a4).toInt = _)) (j_of (rfl : (a5).toInt = _)) (by omega)
                    refine wi_ladd ct_116_12 rfl ?_
                    refine wi_aload_0 ct_116_13 ?_
                    refine wi_gfr ct_116_14 (sT_0 hS) rfl (sR_0_12 hS) ?_
                    refine wi_iload_1 ct_116_17 ?_
                    refine wi_iald (x := fi 69 O) ct_116_18 (sT_23 hS) (sL_23 hS) (i_in hOn (by omega)) (i_cl (k := O) hOn (by omega)) p23O ?_
                    refine wi_i2l ct_116_19 rfl ?_
                    rcases Int.lt_trichotomy ((a4).toInt + (a5).toInt) ((fi 69 O).toInt) with hj24 | hj24 | hj24
                    · skip
                      refine wi_lcmp ct_116_20 (lcmp_m1 (hla23.trans rfl) ((j_of (rfl : (fi 69 O).toInt = _)).trans rfl) hj24) ?_
                      refine wi_ifgt_f ct_116_21 ki_m1 (by decide) ?_
                      refine wi_ic ct_116_24 kc_1 ?_
                      refine wi_goto ct_116_25 ?_
                      refine wi_iret ct_116_29 (by decide) (wk_i ?_)
                      refine wi_ifne_t ct_102_73 ki_1 (by decide) ?_
                      refine wi_aload_0 ct_102_79 ?_
                      refine wi_gfr ct_102_80 (sT_0 hS) rfl (sR_0_13 hS) ?_
                      refine wi_iload_1 ct_102_83 ?_
                      refine wi_aald ct_102_84 (sT_24 hS) (by decide) (sL_24 hS) (i_in hTn (by omega)) (i_cl (k := T) hTn (by omega)) (tp_R hS hT6) ?_
                      refine wi_iload_2 ct_102_85 ?_
                      refine wi_aload_0 ct_102_86 ?_
                      refine wi_gfr ct_102_87 (sT_0 hS) rfl (sR_0_13 hS) ?_
                      refine wi_iload_3 ct_102_90 ?_
                      refine wi_aald ct_102_91 (sT_24 hS) (by decide) (sL_24 hS) (i_in hOn (by omega)) (i_cl (k := O) hOn (by omega)) (tp_R hS hO6) ?_
                      refine wi_iload_4 ct_102_92 ?_
                      refine wi_iload_5 ct_102_94 ?_
                      obtain ⟨N25, hN25⟩ : ∃ k : Nat, (a5).toInt = (k : Int) := ⟨_, (i_cln (by omega)).symm⟩
                      obtain ⟨N26, hN26⟩ : ∃ k : Nat, (a4).toInt = (k : Int) := ⟨_, (i_cln (by omega)).symm⟩
                      obtain ⟨N27, hN27⟩ : ∃ k : Nat, (a2).toInt = (k : Int) := ⟨_, (i_cln (by omega)).symm⟩
                      refine wi_copyJ ct_102_96 (Nat.le_of_ble_eq_true rfl) (tp_T hS hT6) (tp_T hS hO6) (tp_L hS hT6) (tp_L hS hO6) (i_cl (k := N27) hN27 (by omega)) (i_cl (k := N26) hN26 (by omega)) (i_cl (k := N25) hN25 (by omega)) ⟨by omega, by omega, by omega⟩ ⟨by omega, by omega⟩ ?_
                      refine wi_iload_5 ct_102_99 ?_
                      refine wi_iret ct_102_101 rfl (wk_i ?_)
                      refine wi_aload_2 ct_211_1325 ?_
                      refine wi_aloadT_0 ct_211_1326 ?_
                      refine wi_iload_3 ct_211_1327 ?_
                      refine wi_ic ct_211_1328 kc_1 ?_
                      refine wi_iadd ct_211_1329 rfl ?_
                      refine wi_ialdT (j := I + 1) (x := a1) ct_211_1330 (sL_SC hS) (i_in (i_add hi ki_1 (by omega)) (by omega)) (i_cl (i_add hi ki_1 (by omega)) (by omega)) (((hsc _).trans e1)) ?_
                      refine wi_aloadT_0 ct_211_1331 ?_
                      refine wi_iload_3 ct_211_1332 ?_
                      refine wi_ic ct_211_1333 kc_2 ?_
                      refine wi_iadd ct_211_1334 rfl ?_
                      refine wi_ialdT (j := I + 2) (x := a2) ct_211_1335 (sL_SC hS) (i_in (i_add hi ki_2 (by omega)) (by omega)) (i_cl (i_add hi ki_2 (by omega)) (by omega)) (((hsc _).trans e2)) ?_
                      refine wi_aloadT_0 ct_211_1336 ?_
                      refine wi_iload_3 ct_211_1337 ?_
                      refine wi_ic ct_211_1338 kc_3 ?_
                      refine wi_iadd ct_211_1339 rfl ?_
                      refine wi_ialdT (j := I + 3) (x := a3) ct_211_1340 (sL_SC hS) (i_in (i_add hi ki_3 (by omega)) (by omega)) (i_cl (i_add hi ki_3 (by omega)) (by omega)) (((hsc _).trans e3)) ?_
                      refine wi_aloadT_0 ct_211_1341 ?_
                      refine wi_iload_3 ct_211_1342 ?_
                      refine wi_ic ct_211_1343 kc_4 ?_
                      refine wi_iadd ct_211_1344 rfl ?_
                      refine wi_ialdT (j := I + 4) (x := a4) ct_211_1345 (sL_SC hS) (i_in (i_add hi ki_4 (by omega)) (by omega)) (i_cl (i_add hi ki_4 (by omega)) (by omega)) (((hsc _).trans e4)) ?_
                      refine wi_aloadT_0 ct_211_1346 ?_
                      refine wi_iload_3 ct_211_1347 ?_
                      refine wi_ic ct_211_1348 kc_5 ?_
                      refine wi_iadd ct_211_1349 rfl ?_
                      refine wi_ialdT (j := I + 5) (x := a5) ct_211_1350 (sL_SC hS) (i_in (i_add hi ki_5 (by omega)) (by omega)) (i_cl (i_add hi ki_5 (by omega)) (by omega)) (((hsc _).trans e5)) ?_
                      refine wi_cv5 (ls' := [some _, some _, some _, some _, some _, some _, none]) ct_211_1351 (Nat.le_of_ble_eq_true rfl) (by decide) (sT_31 hS) rfl (by decide) rfl rfl (Nat.le_of_ble_eq_true rfl) ?_
                      refine wi_aload_0 ct_199_0 ?_
                      refine wi_iload_1 ct_199_1 ?_
                      refine wi_cv1 (ls' := [some _, some _]) ct_199_2 (Nat.le_of_ble_eq_true rfl) (by decide) (sT_31 hS) rfl (by decide) rfl rfl (Nat.le_of_ble_eq_true rfl) ?_
                      refine wi_aload_0 ct_194_0 ?_
                      refine wi_iload_1 ct_194_1 ?_
                      refine wi_ic ct_194_2 kc_0 ?_
                      refine wi_ic ct_194_3 kc_5 ?_
                      refine wi_cv3 (ls' := [some _, some _, some _, some _]) ct_194_4 (Nat.le_of_ble_eq_true rfl) (by decide) (sT_31 hS) rfl (by decide) rfl rfl (Nat.le_of_ble_eq_true rfl) ?_
                      refine c_in hTn ki_0 ki_5 (fun _ => wk_i ?_) (fun h => absurd h (by omega))
                      refine wi_iret ct_194_7 (by decide) (wk_i ?_)
                      refine wi_ifeq_f ct_199_5 ki_1 (by decide) ?_
                      refine wi_aload_0 ct_199_8 ?_
                      refine wi_iload_3 ct_199_9 ?_
                      refine wi_cv1 (ls' := [some _, some _]) ct_199_10 (Nat.le_of_ble_eq_true rfl) (by decide) (sT_31 hS) rfl (by decide) rfl rfl (Nat.le_of_ble_eq_true rfl) ?_
                      refine wi_aload_0 ct_194_0 ?_
                      refine wi_iload_1 ct_194_1 ?_
                      refine wi_ic ct_194_2 kc_0 ?_
                      refine wi_ic ct_194_3 kc_5 ?_
                      refine wi_cv3 (ls' := [some _, some _, some _, some _]) ct_194_4 (Nat.le_of_ble_eq_true rfl) (by decide) (sT_31 hS) rfl (by decide) rfl rfl (Nat.le_of_ble_eq_true rfl) ?_
                      refine c_in hOn ki_0 ki_5 (fun _ => wk_i ?_) (fun h => absurd h (by omega))
                      refine wi_iret ct_194_7 (by decide) (wk_i ?_)
                      refine wi_ifne_t ct_199_13 ki_1 (by decide) ?_
                      refine wi_aload_0 ct_199_18 ?_
                      refine wi_gfr ct_199_19 (sT_31 hS) rfl (sR_31_67 hS) ?_
                      refine wi_iload_1 ct_199_22 ?_
                      refine wi_iald (x := fi 68 T) ct_199_23 (sT_68 hS) (sL_68 hS) (i_in hTn (by omega)) (i_cl (k := T) hTn (by omega)) rfl ?_
                      refine wi_iflt_f ct_199_24 rfl (by omega) ?_
                      refine wi_aload_0 ct_199_27 ?_
                      refine wi_gfr ct_199_28 (sT_31 hS) rfl (sR_31_67 hS) ?_
                      refine wi_iload_3 ct_199_31 ?_
                      refine wi_iald (x := fi 68 O) ct_199_32 (sT_68 hS) (sL_68 hS) (i_in hOn (by omega)) (i_cl (k := O) hOn (by omega)) rfl ?_
                      refine wi_ifge_t ct_199_33 rfl (by omega) ?_
                      refine wi_aload_0 ct_199_39 ?_
                      refine wi_gfr ct_199_40 (sT_31 hS) rfl (sR_31_67 hS) ?_
                      refine wi_iload_1 ct_199_43 ?_
                      refine wi_iald (x := fi 68 T) ct_199_44 (sT_68 hS) (sL_68 hS) (i_in hTn (by omega)) (i_cl (k := T) hTn (by omega)) rfl ?_
                      refine wi_aload_0 ct_199_45 ?_
                      refine wi_gfr ct_199_46 (sT_31 hS) rfl (sR_31_67 hS) ?_
                      refine wi_iload_3 ct_199_49 ?_
                      refine wi_iald (x := fi 68 O) ct_199_50 (sT_68 hS) (sL_68 hS) (i_in hOn (by omega)) (i_cl (k := O) hOn (by omega)) rfl ?_
                      refine wi_iceq_t ct_199_51 rfl rfl (by omega) ?_
                      refine wi_iload_5 ct_199_57 ?_
                      refine wi_iflt_f ct_199_59 hN25 (by omega) ?_
                      refine wi_iload_2 ct_199_62 ?_
                      refine wi_iflt_f ct_199_63 hN27 (by omega) ?_
                      refine wi_iload_4 ct_199_66 ?_
                      refine wi_iflt_f ct_199_68 hN26 (by omega) ?_
                      refine wi_iload_2 ct_199_71 ?_
                      refine wi_aload_0 ct_199_72 ?_
                      refine wi_gfr ct_199_73 (sT_31 hS) rfl (sR_31_68 hS) ?_
                      refine wi_iload_1 ct_199_76 ?_
                      refine wi_iald (x := fi 69 T) ct_199_77 (sT_69 hS) (sL_69 hS) (i_in hTn (by omega)) (i_cl (k := T) hTn (by omega)) rfl ?_
                      refine wi_iload_5 ct_199_78 ?_
                      refine wi_isub ct_199_80 rfl ?_
                      refine wi_icgt_f ct_199_81 hN27 (i_sub rfl hN25 (by omega)) (by omega) ?_
                      refine wi_iload_4 ct_199_84 ?_
                      refine wi_aload_0 ct_199_86 ?_
                      refine wi_gfr ct_199_87 (sT_31 hS) rfl (sR_31_68 hS) ?_
                      refine wi_iload_3 ct_199_90 ?_
                      refine wi_iald (x := fi 69 O) ct_199_91 (sT_69 hS) (sL_69 hS) (i_in hOn (by omega)) (i_cl (k := O) hOn (by omega)) rfl ?_
                      refine wi_iload_5 ct_199_92 ?_
                      refine wi_isub ct_199_94 rfl ?_
                      refine wi_icle_t ct_199_95 hN26 (i_sub rfl hN25 (by omega)) (by omega) ?_
                      refine wi_ic ct_199_101 kc_0 ?_
                      refine wi_istore_6 rfl ct_199_102 ?_
                      refine vl_shift1 hS hT6 hO6 hTn hN27 hOn hN26 hN25 (by omega) (by omega) (fun fm28 zim28 hm281 hm282 => ?_) N25 0 _ _ (by omega) (ki_0.trans rfl) (fun j hj => absurd hj (by omega)) (fun _ _ => rfl)
                      refine wi_ic ct_199_138 kc_0 ?_
                      refine wi_istore_6 rfl ct_199_139 ?_
                      refine vl_shift2 hS hT6 hO6 hTn hN27 hOn hN26 hN25 (by omega) (by omega) (fun fm29 zim29 hm291 hm292 hm293 => ?_) N25 0 _ _ (by omega) (ki_0.trans rfl) (fun j hj => absurd hj (by omega)) (fun _ _ => rfl) (fun _ _ => rfl)
                      refine wi_iload_5 ct_199_176 ?_
                      refine wi_iret ct_199_178 rfl (wk_i ?_)
                      refine wi_iceq_t ct_211_1354 hN25 hN25 (by omega) ?_
                      have hrow : ∀ q j, q ≠ 70 → q ≠ 71 → fm29 q j = (cp2 fl (25 + T) (25 + O) N27 N26 N25) q j := fun q j e1 e2 => (congrFun (hm292 q e1) j).trans (congrFun (hm282 q e2) j)
                      have h70 : ∀ j, ¬ (60 * O + N26 ≤ j ∧ j < 60 * O + N26 + N25) → fm29 70 j = fl 70 j := fun j e => (hm293 j e).trans ((congrFun (hm282 70 (by decide)) j).trans (cp2_nq (by omega)))
                      have hin : ∀ j, j < N25 → fm29 70 (60 * O + N26 + j) = fl 70 (60 * T + N27 + j) := fun j e => (hm291 j e).trans ((hm281 j e).trans (cp2_nq (by omega)))
                      refine kk own g fi _ (hR.tp (fun _ _ _ _ _ => rfl) (hP.put hO6 (fun t ht => ⟨rfl, rfl, rfl, rfl⟩) (fun t j ht hj hne => ⟨(hrow _ _ (by omega) (by omega)).trans (cp2_nq (by omega)), h70 _ (by omega)⟩) ⟨p22O, p23O, ⟨paO, pbO⟩, ⟨pcO, pdO⟩, pzO, fun k hk => ?_⟩)) (by omega) (by omega)
                      rw [hrow _ _ (by omega) (by omega)]
                      rcases Decidable.em (N26 ≤ k ∧ k < N26 + N25) with ek | ek
                      · obtain ⟨j, hj⟩ : ∃ j, k = N26 + j := ⟨k - N26, by omega⟩
                        rw [cp2_in ek, hj, ← Nat.add_assoc, hin j (by omega), Nat.add_assoc]
                        rw [show N27 + (N26 + j - N26) = N27 + j by omega]
                        exact tvT (N27 + j) (by omega)
                      · rw [cp2_nj ek, h70 _ (by omega)]
                        exact tvO k hk
                    · skip
                      refine wi_lcmp ct_116_20 (lcmp_eq (j_eq hla23 ((j_of (rfl : (fi 69 O).toInt = _)).trans hj24.symm))) ?_
                      refine wi_ifgt_f ct_116_21 ki_0 (by decide) ?_
                      refine wi_ic ct_116_24 kc_1 ?_
                      refine wi_goto ct_116_25 ?_
                      refine wi_iret ct_116_29 (by decide) (wk_i ?_)
                      refine wi_ifne_t ct_102_73 ki_1 (by decide) ?_
                      refine wi_aload_0 ct_102_79 ?_
                      refine wi_gfr ct_102_80 (sT_0 hS) rfl (sR_0_13 hS) ?_
                      refine wi_iload_1 ct_102_83 ?_
                      refine wi_aald ct_102_84 (sT_24 hS) (by decide) (sL_24 hS) (i_in hTn (by omega)) (i_cl (k := T) hTn (by omega)) (tp_R hS hT6) ?_
                      refine wi_iload_2 ct_102_85 ?_
                      refine wi_aload_0 ct_102_86 ?_
                      refine wi_gfr ct_102_87 (sT_0 hS) rfl (sR_0_13 hS) ?_
                      refine wi_iload_3 ct_102_90 ?_
                      refine wi_aald ct_102_91 (sT_24 hS) (by decide) (sL_24 hS) (i_in hOn (by omega)) (i_cl (k := O) hOn (by omega)) (tp_R hS hO6) ?_
                      refine wi_iload_4 ct_102_92 ?_
                      refine wi_iload_5 ct_102_94 ?_
                      obtain ⟨N30, hN30⟩ : ∃ k : Nat, (a5).toInt = (k : Int) := ⟨_, (i_cln (by omega)).symm⟩
                      obtain ⟨N31, hN31⟩ : ∃ k : Nat, (a4).toInt = (k : Int) := ⟨_, (i_cln (by omega)).symm⟩
                      obtain ⟨N32, hN32⟩ : ∃ k : Nat, (a2).toInt = (k : Int) := ⟨_, (i_cln (by omega)).symm⟩
                      refine wi_copyJ ct_102_96 (Nat.le_of_ble_eq_true rfl) (tp_T hS hT6) (tp_T hS hO6) (tp_L hS hT6) (tp_L hS hO6) (i_cl (k := N32) hN32 (by omega)) (i_cl (k := N31) hN31 (by omega)) (i_cl (k := N30) hN30 (by omega)) ⟨by omega, by omega, by omega⟩ ⟨by omega, by omega⟩ ?_
                      refine wi_iload_5 ct_102_99 ?_
                      refine wi_iret ct_102_101 rfl (wk_i ?_)
                      refine wi_aload_2 ct_211_1325 ?_
                      refine wi_aloadT_0 ct_211_1326 ?_
                      refine wi_iload_3 ct_211_1327 ?_
                      refine wi_ic ct_211_1328 kc_1 ?_
                      refine wi_iadd ct_211_1329 rfl ?_
                      refine wi_ialdT (j := I + 1) (x := a1) ct_211_1330 (sL_SC hS) (i_in (i_add hi ki_1 (by omega)) (by omega)) (i_cl (i_add hi ki_1 (by omega)) (by omega)) (((hsc _).trans e1)) ?_
                      refine wi_aloadT_0 ct_211_1331 ?_
                      refine wi_iload_3 ct_211_1332 ?_
                      refine wi_ic ct_211_1333 kc_2 ?_
                      refine wi_iadd ct_211_1334 rfl ?_
                      refine wi_ialdT (j := I + 2) (x := a2) ct_211_1335 (sL_SC hS) (i_in (i_add hi ki_2 (by omega)) (by omega)) (i_cl (i_add hi ki_2 (by omega)) (by omega)) (((hsc _).trans e2)) ?_
                      refine wi_aloadT_0 ct_211_1336 ?_
                      refine wi_iload_3 ct_211_1337 ?_
                      refine wi_ic ct_211_1338 kc_3 ?_
                      refine wi_iadd ct_211_1339 rfl ?_
                      refine wi_ialdT (j := I + 3) (x := a3) ct_211_1340 (sL_SC hS) (i_in (i_add hi ki_3 (by omega)) (by omega)) (i_cl (i_add hi ki_3 (by omega)) (by omega)) (((hsc _).trans e3)) ?_
                      refine wi_aloadT_0 ct_211_1341 ?_
                      refine wi_iload_3 ct_211_1342 ?_
                      refine wi_ic ct_211_1343 kc_4 ?_
                      refine wi_iadd ct_211_1344 rfl ?_
                      refine wi_ialdT (j := I + 4) (x := a4) ct_211_1345 (sL_SC hS) (i_in (i_add hi ki_4 (by omega)) (by omega)) (i_cl (i_add hi ki_4 (by omega)) (by omega)) (((hsc _).trans e4)) ?_
                      refine wi_aloadT_0 ct_211_1346 ?_
                      refine wi_iload_3 ct_211_1347 ?_
                      refine wi_ic ct_211_1348 kc_5 ?_
                      refine wi_iadd ct_211_1349 rfl ?_
                      refine wi_ialdT (j := I + 5) (x := a5) ct_211_1350 (sL_SC hS) (i_in (i_add hi ki_5 (by omega)) (by omega)) (i_cl (i_add hi ki_5 (by omega)) (by omega)) (((hsc _).trans e5)) ?_
                      refine wi_cv5 (ls' := [some _, some _, some _, some _, some _, some _, none]) ct_211_1351 (Nat.le_of_ble_eq_true rfl) (by decide) (sT_31 hS) rfl (by decide) rfl rfl (Nat.le_of_ble_eq_true rfl) ?_
                      refine wi_aload_0 ct_199_0 ?_
                      refine wi_iload_1 ct_199_1 ?_
                      refine wi_cv1 (ls' := [some _, some _]) ct_199_2 (Nat.le_of_ble_eq_true rfl) (by decide) (sT_31 hS) rfl (by decide) rfl rfl (Nat.le_of_ble_eq_true rfl) ?_
                      refine wi_aload_0 ct_194_0 ?_
                      refine wi_iload_1 ct_194_1 ?_
                      refine wi_ic ct_194_2 kc_0 ?_
                      refine wi_ic ct_194_3 kc_5 ?_
                      refine wi_cv3 (ls' := [some _, some _, some _, some _]) ct_194_4 (Nat.le_of_ble_eq_true rfl) (by decide) (sT_31 hS) rfl (by decide) rfl rfl (Nat.le_of_ble_eq_true rfl) ?_
                      refine c_in hTn ki_0 ki_5 (fun _ => wk_i ?_) (fun h => absurd h (by omega))
                      refine wi_iret ct_194_7 (by decide) (wk_i ?_)
                      refine wi_ifeq_f ct_199_5 ki_1 (by decide) ?_
                      refine wi_aload_0 ct_199_8 ?_
                      refine wi_iload_3 ct_199_9 ?_
                      refine wi_cv1 (ls' := [some _, some _]) ct_199_10 (Nat.le_of_ble_eq_true rfl) (by decide) (sT_31 hS) rfl (by decide) rfl rfl (Nat.le_of_ble_eq_true rfl) ?_
                      refine wi_aload_0 ct_194_0 ?_
                      refine wi_iload_1 ct_194_1 ?_
                      refine wi_ic ct_194_2 kc_0 ?_
                      refine wi_ic ct_194_3 kc_5 ?_
                      refine wi_cv3 (ls' := [some _, some _, some _, some _]) ct_194_4 (Nat.le_of_ble_eq_true rfl) (by decide) (sT_31 hS) rfl (by decide) rfl rfl (Nat.le_of_ble_eq_true rfl) ?_
                      refine c_in hOn ki_0 ki_5 (fun _ => wk_i ?_) (fun h => absurd h (by omega))
                      refine wi_iret ct_194_7 (by decide) (wk_i ?_)
                      refine wi_ifne_t ct_199_13 ki_1 (by decide) ?_
                      refine wi_aload_0 ct_199_18 ?_
                      refine wi_gfr ct_199_19 (sT_31 hS) rfl (sR_31_67 hS) ?_
                      refine wi_iload_1 ct_199_22 ?_
                      refine wi_iald (x := fi 68 T) ct_199_23 (sT_68 hS) (sL_68 hS) (i_in hTn (by omega)) (i_cl (k := T) hTn (by omega)) rfl ?_
                      refine wi_iflt_f ct_199_24 rfl (by omega) ?_
                      refine wi_aload_0 ct_199_27 ?_
                      refine wi_gfr ct_199_28 (sT_31 hS) rfl (sR_31_67 hS) ?_
                      refine wi_iload_3 ct_199_31 ?_
                      refine wi_iald (x := fi 68 O) ct_199_32 (sT_68 hS) (sL_68 hS) (i_in hOn (by omega)) (i_cl (k := O) hOn (by omega)) rfl ?_
                      refine wi_ifge_t ct_199_33 rfl (by omega) ?_
                      refine wi_aload_0 ct_199_39 ?_
                      refine wi_gfr ct_199_40 (sT_31 hS) rfl (sR_31_67 hS) ?_
                      refine wi_iload_1 ct_199_43 ?_
                      refine wi_iald (x := fi 68 T) ct_199_44 (sT_68 hS) (sL_68 hS) (i_in hTn (by omega)) (i_cl (k := T) hTn (by omega)) rfl ?_
                      refine wi_aload_0 ct_199_45 ?_
                      refine wi_gfr ct_199_46 (sT_31 hS) rfl (sR_31_67 hS) ?_
                      refine wi_iload_3 ct_199_49 ?_
                      refine wi_iald (x := fi 68 O) ct_199_50 (sT_68 hS) (sL_68 hS) (i_in hOn (by omega)) (i_cl (k := O) hOn (by omega)) rfl ?_
                      refine wi_iceq_t ct_199_51 rfl rfl (by omega) ?_
                      refine wi_iload_5 ct_199_57 ?_
                      refine wi_iflt_f ct_199_59 hN30 (by omega) ?_
                      refine wi_iload_2 ct_199_62 ?_
                      refine wi_iflt_f ct_199_63 hN32 (by omega) ?_
                      refine wi_iload_4 ct_199_66 ?_
                      refine wi_iflt_f ct_199_68 hN31 (by omega) ?_
                      refine wi_iload_2 ct_199_71 ?_
                      refine wi_aload_0 ct_199_72 ?_
                      refine wi_gfr ct_199_73 (sT_31 hS) rfl (sR_31_68 hS) ?_
                      refine wi_iload_1 ct_199_76 ?_
                      refine wi_iald (x := fi 69 T) ct_199_77 (sT_69 hS) (sL_69 hS) (i_in hTn (by omega)) (i_cl (k := T) hTn (by omega)) rfl ?_
                      refine wi_iload_5 ct_199_78 ?_
                      refine wi_isub ct_199_80 rfl ?_
                      refine wi_icgt_f ct_199_81 hN32 (i_sub rfl hN30 (by omega)) (by omega) ?_
                      refine wi_iload_4 ct_199_84 ?_
                      refine wi_aload_0 ct_199_86 ?_
                      refine wi_gfr ct_199_87 (sT_31 hS) rfl (sR_31_68 hS) ?_
                      refine wi_iload_3 ct_199_90 ?_
                      refine wi_iald (x := fi 69 O) ct_199_91 (sT_69 hS) (sL_69 hS) (i_in hOn (by omega)) (i_cl (k := O) hOn (by omega)) rfl ?_
                      refine wi_iload_5 ct_199_92 ?_
                      refine wi_isub ct_199_94 rfl ?_
                      refine wi_icle_t ct_199_95 hN31 (i_sub rfl hN30 (by omega)) (by omega) ?_
                      refine wi_ic ct_199_101 kc_0 ?_
                      refine wi_istore_6 rfl ct_199_102 ?_
                      refine vl_shift1 hS hT6 hO6 hTn hN32 hOn hN31 hN30 (by omega) (by omega) (fun fm33 zim33 hm331 hm332 => ?_) N30 0 _ _ (by omega) (ki_0.trans rfl) (fun j hj => absurd hj (by omega)) (fun _ _ => rfl)
                      refine wi_ic ct_199_138 kc_0 ?_
                      refine wi_istore_6 rfl ct_199_139 ?_
                      refine vl_shift2 hS hT6 hO6 hTn hN32 hOn hN31 hN30 (by omega) (by omega) (fun fm34 zim34 hm341 hm342 hm343 => ?_) N30 0 _ _ (by omega) (ki_0.trans rfl) (fun j hj => absurd hj (by omega)) (fun _ _ => rfl) (fun _ _ => rfl)
                      refine wi_iload_5 ct_199_176 ?_
                      refine wi_iret ct_199_178 rfl (wk_i ?_)
                      refine wi_iceq_t ct_211_1354 hN30 hN30 (by omega) ?_
                      have hrow : ∀ q j, q ≠ 70 → q ≠ 71 → fm34 q j = (cp2 fl (25 + T) (25 + O) N32 N31 N30) q j := fun q j e1 e2 => (congrFun (hm342 q e1) j).trans (congrFun (hm332 q e2) j)
                      have h70 : ∀ j, ¬ (60 * O + N31 ≤ j ∧ j < 60 * O + N31 + N30) → fm34 70 j = fl 70 j := fun j e => (hm343 j e).trans ((congrFun (hm332 70 (by decide)) j).trans (cp2_nq (by omega)))
                      have hin : ∀ j, j < N30 → fm34 70 (60 * O + N31 + j) = fl 70 (60 * T + N32 + j) := fun j e => (hm341 j e).trans ((hm331 j e).trans (cp2_nq (by omega)))
                      refine kk own g fi _ (hR.tp (fun _ _ _ _ _ => rfl) (hP.put hO6 (fun t ht => ⟨rfl, rfl, rfl, rfl⟩) (fun t j ht hj hne => ⟨(hrow _ _ (by omega) (by omega)).trans (cp2_nq (by omega)), h70 _ (by omega)⟩) ⟨p22O, p23O, ⟨paO, pbO⟩, ⟨pcO, pdO⟩, pzO, fun k hk => ?_⟩)) (by omega) (by omega)
                      rw [hrow _ _ (by omega) (by omega)]
                      rcases Decidable.em (N31 ≤ k ∧ k < N31 + N30) with ek | ek
                      · obtain ⟨j, hj⟩ : ∃ j, k = N31 + j := ⟨k - N31, by omega⟩
                        rw [cp2_in ek, hj, ← Nat.add_assoc, hin j (by omega), Nat.add_assoc]
                        rw [show N32 + (N31 + j - N31) = N32 + j by omega]
                        exact tvT (N32 + j) (by omega)
                      · rw [cp2_nj ek, h70 _ (by omega)]
                        exact tvO k hk
                    · skip
                      refine wi_lcmp ct_116_20 (lcmp_1 (hla23.trans rfl) ((j_of (rfl : (fi 69 O).toInt = _)).trans rfl) hj24) ?_
                      refine wi_ifgt_t ct_116_21 ki_1 (by decide) ?_
                      refine wi_ic ct_116_28 kc_0 ?_
                      refine wi_iret ct_116_29 (by decide) (wk_i ?_)
                      refine wi_ifne_f ct_102_73 ki_0 (by decide) ?_
                      refine wi_ic ct_102_76 kc_m13 ?_
                      refine wi_iret ct_102_78 rfl (wk_i ?_)
                      refine wi_aload_2 ct_211_1325 ?_
                      refine wi_aloadT_0 ct_211_1326 ?_
                      refine wi_iload_3 ct_211_1327 ?_
                      refine wi_ic ct_211_1328 kc_1 ?_
                      refine wi_iadd ct_211_1329 rfl ?_
                      refine wi_ialdT (j := I + 1) (x := a1) ct_211_1330 (sL_SC hS) (i_in (i_add hi ki_1 (by omega)) (by omega)) (i_cl (i_add hi ki_1 (by omega)) (by omega)) (((hsc _).trans e1)) ?_
                      refine wi_aloadT_0 ct_211_1331 ?_
                      refine wi_iload_3 ct_211_1332 ?_
                      refine wi_ic ct_211_1333 kc_2 ?_
                      refine wi_iadd ct_211_1334 rfl ?_
                      refine wi_ialdT (j := I + 2) (x := a2) ct_211_1335 (sL_SC hS) (i_in (i_add hi ki_2 (by omega)) (by omega)) (i_cl (i_add hi ki_2 (by omega)) (by omega)) (((hsc _).trans e2)) ?_
                      refine wi_aloadT_0 ct_211_1336 ?_
                      refine wi_iload_3 ct_211_1337 ?_
                      refine wi_ic ct_211_1338 kc_3 ?_
                      refine wi_iadd ct_211_1339 rfl ?_
                      refine wi_ialdT (j := I + 3) (x := a3) ct_211_1340 (sL_SC hS) (i_in (i_add hi ki_3 (by omega)) (by omega)) (i_cl (i_add hi ki_3 (by omega)) (by omega)) (((hsc _).trans e3)) ?_
                      refine wi_aloadT_0 ct_211_1341 ?_
                      refine wi_iload_3 ct_211_1342 ?_
                      refine wi_ic ct_211_1343 kc_4 ?_
                      refine wi_iadd ct_211_1344 rfl ?_
                      refine wi_ialdT (j := I + 4) (x := a4) ct_211_1345 (sL_SC hS) (i_in (i_add hi ki_4 (by omega)) (by omega)) (i_cl (i_add hi ki_4 (by omega)) (by omega)) (((hsc _).trans e4)) ?_
                      refine wi_aloadT_0 ct_211_1346 ?_
                      refine wi_iload_3 ct_211_1347 ?_
                      refine wi_ic ct_211_1348 kc_5 ?_
                      refine wi_iadd ct_211_1349 rfl ?_
                      refine wi_ialdT (j := I + 5) (x := a5) ct_211_1350 (sL_SC hS) (i_in (i_add hi ki_5 (by omega)) (by omega)) (i_cl (i_add hi ki_5 (by omega)) (by omega)) (((hsc _).trans e5)) ?_
                      refine wi_cv5 (ls' := [some _, some _, some _, some _, some _, some _, none]) ct_211_1351 (Nat.le_of_ble_eq_true rfl) (by decide) (sT_31 hS) rfl (by decide) rfl rfl (Nat.le_of_ble_eq_true rfl) ?_
                      refine wi_aload_0 ct_199_0 ?_
                      refine wi_iload_1 ct_199_1 ?_
                      refine wi_cv1 (ls' := [some _, some _]) ct_199_2 (Nat.le_of_ble_eq_true rfl) (by decide) (sT_31 hS) rfl (by decide) rfl rfl (Nat.le_of_ble_eq_true rfl) ?_
                      refine wi_aload_0 ct_194_0 ?_
                      refine wi_iload_1 ct_194_1 ?_
                      refine wi_ic ct_194_2 kc_0 ?_
                      refine wi_ic ct_194_3 kc_5 ?_
                      refine wi_cv3 (ls' := [some _, some _, some _, some _]) ct_194_4 (Nat.le_of_ble_eq_true rfl) (by decide) (sT_31 hS) rfl (by decide) rfl rfl (Nat.le_of_ble_eq_true rfl) ?_
                      refine c_in hTn ki_0 ki_5 (fun _ => wk_i ?_) (fun h => absurd h (by omega))
                      refine wi_iret ct_194_7 (by decide) (wk_i ?_)
                      refine wi_ifeq_f ct_199_5 ki_1 (by decide) ?_
                      refine wi_aload_0 ct_199_8 ?_
                      refine wi_iload_3 ct_199_9 ?_
                      refine wi_cv1 (ls' := [some _, some _]) ct_199_10 (Nat.le_of_ble_eq_true rfl) (by decide) (sT_31 hS) rfl (by decide) rfl rfl (Nat.le_of_ble_eq_true rfl) ?_
                      refine wi_aload_0 ct_194_0 ?_
                      refine wi_iload_1 ct_194_1 ?_
                      refine wi_ic ct_194_2 kc_0 ?_
                      refine wi_ic ct_194_3 kc_5 ?_
                      refine wi_cv3 (ls' := [some _, some _, some _, some _]) ct_194_4 (Nat.le_of_ble_eq_true rfl) (by decide) (sT_31 hS) rfl (by decide) rfl rfl (Nat.le_of_ble_eq_true rfl) ?_
                      refine c_in hOn ki_0 ki_5 (fun _ => wk_i ?_) (fun h => absurd h (by omega))
                      refine wi_iret ct_194_7 (by decide) (wk_i ?_)
                      refine wi_ifne_t ct_199_13 ki_1 (by decide) ?_
                      refine wi_aload_0 ct_199_18 ?_
                      refine wi_gfr ct_199_19 (sT_31 hS) rfl (sR_31_67 hS) ?_
                      refine wi_iload_1 ct_199_22 ?_
                      refine wi_iald (x := fi 68 T) ct_199_23 (sT_68 hS) (sL_68 hS) (i_in hTn (by omega)) (i_cl (k := T) hTn (by omega)) rfl ?_
                      refine wi_iflt_f ct_199_24 rfl (by omega) ?_
                      refine wi_aload_0 ct_199_27 ?_
                      refine wi_gfr ct_199_28 (sT_31 hS) rfl (sR_31_67 hS) ?_
                      refine wi_iload_3 ct_199_31 ?_
                      refine wi_iald (x := fi 68 O) ct_199_32 (sT_68 hS) (sL_68 hS) (i_in hOn (by omega)) (i_cl (k := O) hOn (by omega)) rfl ?_
                      refine wi_ifge_t ct_199_33 rfl (by omega) ?_
                      refine wi_aload_0 ct_199_39 ?_
                      refine wi_gfr ct_199_40 (sT_31 hS) rfl (sR_31_67 hS) ?_
                      refine wi_iload_1 ct_199_43 ?_
                      refine wi_iald (x := fi 68 T) ct_199_44 (sT_68 hS) (sL_68 hS) (i_in hTn (by omega)) (i_cl (k := T) hTn (by omega)) rfl ?_
                      refine wi_aload_0 ct_199_45 ?_
                      refine wi_gfr ct_199_46 (sT_31 hS) rfl (sR_31_67 hS) ?_
                      refine wi_iload_3 ct_199_49 ?_
                      refine wi_iald (x := fi 68 O) ct_199_50 (sT_68 hS) (sL_68 hS) (i_in hOn (by omega)) (i_cl (k := O) hOn (by omega)) rfl ?_
                      refine wi_iceq_t ct_199_51 rfl rfl (by omega) ?_
                      refine wi_iload_5 ct_199_57 ?_
                      refine wi_iflt_f ct_199_59 rfl (by omega) ?_
                      refine wi_iload_2 ct_199_62 ?_
                      refine wi_iflt_f ct_199_63 rfl (by omega) ?_
                      refine wi_iload_4 ct_199_66 ?_
                      refine wi_iflt_f ct_199_68 rfl (by omega) ?_
                      refine wi_iload_2 ct_199_71 ?_
                      refine wi_aload_0 ct_199_72 ?_
                      refine wi_gfr ct_199_73 (sT_31 hS) rfl (sR_31_68 hS) ?_
                      refine wi_iload_1 ct_199_76 ?_
                      refine wi_iald (x := fi 69 T) ct_199_77 (sT_69 hS) (sL_69 hS) (i_in hTn (by omega)) (i_cl (k := T) hTn (by omega)) rfl ?_
                      refine wi_iload_5 ct_199_78 ?_
                      refine wi_isub ct_199_80 rfl ?_
                      refine wi_icgt_f ct_199_81 rfl (i_sub rfl rfl (by omega)) (by omega) ?_
                      refine wi_iload_4 ct_199_84 ?_
                      refine wi_aload_0 ct_199_86 ?_
                      refine wi_gfr ct_199_87 (sT_31 hS) rfl (sR_31_68 hS) ?_
                      refine wi_iload_3 ct_199_90 ?_
                      refine wi_iald (x := fi 69 O) ct_199_91 (sT_69 hS) (sL_69 hS) (i_in hOn (by omega)) (i_cl (k := O) hOn (by omega)) rfl ?_
                      refine wi_iload_5 ct_199_92 ?_
                      refine wi_isub ct_199_94 rfl ?_
                      refine wi_icle_f ct_199_95 rfl (i_sub rfl rfl (by omega)) (by omega) ?_
                      refine wi_ic ct_199_98 kc_m13 ?_
                      refine wi_iret ct_199_100 rfl (wk_i ?_)
                      refine wi_iceq_t ct_211_1354 ki_m13 ki_m13 (by decide) ?_
                      exact kk own g fi fl hR (by omega) (by omega)
                · skip
                  refine wi_lcmp ct_116_20 (lcmp_1 (hla7.trans rfl) ((j_of (rfl : (fi 69 T).toInt = _)).trans rfl) hj8) ?_
                  refine wi_ifgt_t ct_116_21 ki_1 (by decide) ?_
                  refine wi_ic ct_116_28 kc_0 ?_
                  refine wi_iret ct_116_29 (by decide) (wk_i ?_)
                  refine wi_ifeq_t ct_102_61 ki_0 (by decide) ?_
                  refine wi_ic ct_102_76 kc_m13 ?_
                  refine wi_iret ct_102_78 rfl (wk_i ?_)
                  refine wi_aload_2 ct_211_1325 ?_
                  refine wi_aloadT_0 ct_211_1326 ?_
                  refine wi_iload_3 ct_211_1327 ?_
                  refine wi_ic ct_211_1328 kc_1 ?_
                  refine wi_iadd ct_211_1329 rfl ?_
                  refine wi_ialdT (j := I + 1) (x := a1) ct_211_1330 (sL_SC hS) (i_in (i_add hi ki_1 (by omega)) (by omega)) (i_cl (i_add hi ki_1 (by omega)) (by omega)) (((hsc _).trans e1)) ?_
                  refine wi_aloadT_0 ct_211_1331 ?_
                  refine wi_iload_3 ct_211_1332 ?_
                  refine wi_ic ct_211_1333 kc_2 ?_
                  refine wi_iadd ct_211_1334 rfl ?_
                  refine wi_ialdT (j := I + 2) (x := a2) ct_211_1335 (sL_SC hS) (i_in (i_add hi ki_2 (by omega)) (by omega)) (i_cl (i_add hi ki_2 (by omega)) (by omega)) (((hsc _).trans e2)) ?_
                  refine wi_aloadT_0 ct_211_1336 ?_
                  refine wi_iload_3 ct_211_1337 ?_
                  refine wi_ic ct_211_1338 kc_3 ?_
                  refine wi_iadd ct_211_1339 rfl ?_
                  refine wi_ialdT (j := I + 3) (x := a3) ct_211_1340 (sL_SC hS) (i_in (i_add hi ki_3 (by omega)) (by omega)) (i_cl (i_add hi ki_3 (by omega)) (by omega)) (((hsc _).trans e3)) ?_
                  refine wi_aloadT_0 ct_211_1341 ?_
                  refine wi_iload_3 ct_211_1342 ?_
                  refine wi_ic ct_211_1343 kc_4 ?_
                  refine wi_iadd ct_211_1344 rfl ?_
                  refine wi_ialdT (j := I + 4) (x := a4) ct_211_1345 (sL_SC hS) (i_in (i_add hi ki_4 (by omega)) (by omega)) (i_cl (i_add hi ki_4 (by omega)) (by omega)) (((hsc _).trans e4)) ?_
                  refine wi_aloadT_0 ct_211_1346 ?_
                  refine wi_iload_3 ct_211_1347 ?_
                  refine wi_ic ct_211_1348 kc_5 ?_
                  refine wi_iadd ct_211_1349 rfl ?_
                  refine wi_ialdT (j := I + 5) (x := a5) ct_211_1350 (sL_SC hS) (i_in (i_add hi ki_5 (by omega)) (by omega)) (i_cl (i_add hi ki_5 (by omega)) (by omega)) (((hsc _).trans e5)) ?_
                  refine wi_cv5 (ls' := [some _, some _, some _, some _, some _, some _, none]) ct_211_1351 (Nat.le_of_ble_eq_true rfl) (by decide) (sT_31 hS) rfl (by decide) rfl rfl (Nat.le_of_ble_eq_true rfl) ?_
                  refine wi_aload_0 ct_199_0 ?_
                  refine wi_iload_1 ct_199_1 ?_
                  refine wi_cv1 (ls' := [some _, some _]) ct_199_2 (Nat.le_of_ble_eq_true rfl) (by decide) (sT_31 hS) rfl (by decide) rfl rfl (Nat.le_of_ble_eq_true rfl) ?_
                  refine wi_aload_0 ct_194_0 ?_
                  refine wi_iload_1 ct_194_1 ?_
                  refine wi_ic ct_194_2 kc_0 ?_
                  refine wi_ic ct_194_3 kc_5 ?_
                  refine wi_cv3 (ls' := [some _, some _, some _, some _]) ct_194_4 (Nat.le_of_ble_eq_true rfl) (by decide) (sT_31 hS) rfl (by decide) rfl rfl (Nat.le_of_ble_eq_true rfl) ?_
                  refine c_in hTn ki_0 ki_5 (fun _ => wk_i ?_) (fun h => absurd h (by omega))
                  refine wi_iret ct_194_7 (by decide) (wk_i ?_)
                  refine wi_ifeq_f ct_199_5 ki_1 (by decide) ?_
                  refine wi_aload_0 ct_199_8 ?_
                  refine wi_iload_3 ct_199_9 ?_
                  refine wi_cv1 (ls' := [some _, some _]) ct_199_10 (Nat.le_of_ble_eq_true rfl) (by decide) (sT_31 hS) rfl (by decide) rfl rfl (Nat.le_of_ble_eq_true rfl) ?_
                  refine wi_aload_0 ct_194_0 ?_
                  refine wi_iload_1 ct_194_1 ?_
                  refine wi_ic ct_194_2 kc_0 ?_
                  refine wi_ic ct_194_3 kc_5 ?_
                  refine wi_cv3 (ls' := [some _, some _, some _, some _]) ct_194_4 (Nat.le_of_ble_eq_true rfl) (by decide) (sT_31 hS) rfl (by decide) rfl rfl (Nat.le_of_ble_eq_true rfl) ?_
                  refine c_in hOn ki_0 ki_5 (fun _ => wk_i ?_) (fun h => absurd h (by omega))
                  refine wi_iret ct_194_7 (by decide) (wk_i ?_)
                  refine wi_ifne_t ct_199_13 ki_1 (by decide) ?_
                  refine wi_aload_0 ct_199_18 ?_
                  refine wi_gfr ct_199_19 (sT_31 hS) rfl (sR_31_67 hS) ?_
                  refine wi_iload_1 ct_199_22 ?_
                  refine wi_iald (x := fi 68 T) ct_199_23 (sT_68 hS) (sL_68 hS) (i_in hTn (by omega)) (i_cl (k := T) hTn (by omega)) rfl ?_
                  refine wi_iflt_f ct_199_24 rfl (by omega) ?_
                  refine wi_aload_0 ct_199_27 ?_
                  refine wi_gfr ct_199_28 (sT_31 hS) rfl (sR_31_67 hS) ?_
                  refine wi_iload_3 ct_199_31 ?_
                  refine wi_iald (x := fi 68 O) ct_199_32 (sT_68 hS) (sL_68 hS) (i_in hOn (by omega)) (i_cl (k := O) hOn (by omega)) rfl ?_
                  refine wi_ifge_t ct_199_33 rfl (by omega) ?_
                  refine wi_aload_0 ct_199_39 ?_
                  refine wi_gfr ct_199_40 (sT_31 hS) rfl (sR_31_67 hS) ?_
                  refine wi_iload_1 ct_199_43 ?_
                  refine wi_iald (x := fi 68 T) ct_199_44 (sT_68 hS) (sL_68 hS) (i_in hTn (by omega)) (i_cl (k := T) hTn (by omega)) rfl ?_
                  refine wi_aload_0 ct_199_45 ?_
                  refine wi_gfr ct_199_46 (sT_31 hS) rfl (sR_31_67 hS) ?_
                  refine wi_iload_3 ct_199_49 ?_
                  refine wi_iald (x := fi 68 O) ct_199_50 (sT_68 hS) (sL_68 hS) (i_in hOn (by omega)) (i_cl (k := O) hOn (by omega)) rfl ?_
                  refine wi_iceq_t ct_199_51 rfl rfl (by omega) ?_
                  refine wi_iload_5 ct_199_57 ?_
                  refine wi_iflt_f ct_199_59 rfl (by omega) ?_
                  refine wi_iload_2 ct_199_62 ?_
                  refine wi_iflt_f ct_199_63 rfl (by omega) ?_
                  refine wi_iload_4 ct_199_66 ?_
                  refine wi_iflt ct_199_68 rfl (fun h35 => ?_) (fun h35 => ?_)
                  · skip
                    refine wi_ic ct_199_98 kc_m13 ?_
                    refine wi_iret ct_199_100 rfl (wk_i ?_)
                    refine wi_iceq_t ct_211_1354 ki_m13 ki_m13 (by decide) ?_
                    exact kk own g fi fl hR (by omega) (by omega)
                  · skip
                    refine wi_iload_2 ct_199_71 ?_
                    refine wi_aload_0 ct_199_72 ?_
                    refine wi_gfr ct_199_73 (sT_31 hS) rfl (sR_31_68 hS) ?_
                    refine wi_iload_1 ct_199_76 ?_
                    refine wi_iald (x := fi 69 T) ct_199_77 (sT_69 hS) (sL_69 hS) (i_in hTn (by omega)) (i_cl (k := T) hTn (by omega)) rfl ?_
                    refine wi_iload_5 ct_199_78 ?_
                    refine wi_isub ct_199_80 rfl ?_
                    refine wi_icgt_t ct_199_81 rfl (i_sub rfl rfl (by omega)) (by omega) ?_
                    refine wi_ic ct_199_98 kc_m13 ?_
                    refine wi_iret ct_199_100 rfl (wk_i ?_)
                    refine wi_iceq_t ct_211_1354 ki_m13 ki_m13 (by decide) ?_
                    exact kk own g fi fl hR (by omega) (by omega)
          · skip
            refine wi_ic ct_102_50 kc_m12 ?_
            refine wi_iret ct_102_52 rfl (wk_i ?_)
            refine wi_aload_2 ct_211_1325 ?_
            refine wi_aloadT_0 ct_211_1326 ?_
            refine wi_iload_3 ct_211_1327 ?_
            refine wi_ic ct_211_1328 kc_1 ?_
            refine wi_iadd ct_211_1329 rfl ?_
            refine wi_ialdT (j := I + 1) (x := a1) ct_211_1330 (sL_SC hS) (i_in (i_add hi ki_1 (by omega)) (by omega)) (i_cl (i_add hi ki_1 (by omega)) (by omega)) (((hsc _).trans e1)) ?_
            refine wi_aloadT_0 ct_211_1331 ?_
            refine wi_iload_3 ct_211_1332 ?_
            refine wi_ic ct_211_1333 kc_2 ?_
            refine wi_iadd ct_211_1334 rfl ?_
            refine wi_ialdT (j := I + 2) (x := a2) ct_211_1335 (sL_SC hS) (i_in (i_add hi ki_2 (by omega)) (by omega)) (i_cl (i_add hi ki_2 (by omega)) (by omega)) (((hsc _).trans e2)) ?_
            refine wi_aloadT_0 ct_211_1336 ?_
            refine wi_iload_3 ct_211_1337 ?_
            refine wi_ic ct_211_1338 kc_3 ?_
            refine wi_iadd ct_211_1339 rfl ?_
            refine wi_ialdT (j := I + 3) (x := a3) ct_211_1340 (sL_SC hS) (i_in (i_add hi ki_3 (by omega)) (by omega)) (i_cl (i_add hi ki_3 (by omega)) (by omega)) (((hsc _).trans e3)) ?_
            refine wi_aloadT_0 ct_211_1341 ?_
            refine wi_iload_3 ct_211_1342 ?_
            refine wi_ic ct_211_1343 kc_4 ?_
            refine wi_iadd ct_211_1344 rfl ?_
            refine wi_ialdT (j := I + 4) (x := a4) ct_211_1345 (sL_SC hS) (i_in (i_add hi ki_4 (by omega)) (by omega)) (i_cl (i_add hi ki_4 (by omega)) (by omega)) (((hsc _).trans e4)) ?_
            refine wi_aloadT_0 ct_211_1346 ?_
            refine wi_iload_3 ct_211_1347 ?_
            refine wi_ic ct_211_1348 kc_5 ?_
            refine wi_iadd ct_211_1349 rfl ?_
            refine wi_ialdT (j := I + 5) (x := a5) ct_211_1350 (sL_SC hS) (i_in (i_add hi ki_5 (by omega)) (by omega)) (i_cl (i_add hi ki_5 (by omega)) (by omega)) (((hsc _).trans e5)) ?_
            refine wi_cv5 (ls' := [some _, some _, some _, some _, some _, some _, none]) ct_211_1351 (Nat.le_of_ble_eq_true rfl) (by decide) (sT_31 hS) rfl (by decide) rfl rfl (Nat.le_of_ble_eq_true rfl) ?_
            refine wi_aload_0 ct_199_0 ?_
            refine wi_iload_1 ct_199_1 ?_
            refine wi_cv1 (ls' := [some _, some _]) ct_199_2 (Nat.le_of_ble_eq_true rfl) (by decide) (sT_31 hS) rfl (by decide) rfl rfl (Nat.le_of_ble_eq_true rfl) ?_
            refine wi_aload_0 ct_194_0 ?_
            refine wi_iload_1 ct_194_1 ?_
            refine wi_ic ct_194_2 kc_0 ?_
            refine wi_ic ct_194_3 kc_5 ?_
            refine wi_cv3 (ls' := [some _, some _, some _, some _]) ct_194_4 (Nat.le_of_ble_eq_true rfl) (by decide) (sT_31 hS) rfl (by decide) rfl rfl (Nat.le_of_ble_eq_true rfl) ?_
            refine c_in hTn ki_0 ki_5 (fun _ => wk_i ?_) (fun h => absurd h (by omega))
            refine wi_iret ct_194_7 (by decide) (wk_i ?_)
            refine wi_ifeq_f ct_199_5 ki_1 (by decide) ?_
            refine wi_aload_0 ct_199_8 ?_
            refine wi_iload_3 ct_199_9 ?_
            refine wi_cv1 (ls' := [some _, some _]) ct_199_10 (Nat.le_of_ble_eq_true rfl) (by decide) (sT_31 hS) rfl (by decide) rfl rfl (Nat.le_of_ble_eq_true rfl) ?_
            refine wi_aload_0 ct_194_0 ?_
            refine wi_iload_1 ct_194_1 ?_
            refine wi_ic ct_194_2 kc_0 ?_
            refine wi_ic ct_194_3 kc_5 ?_
            refine wi_cv3 (ls' := [some _, some _, some _, some _]) ct_194_4 (Nat.le_of_ble_eq_true rfl) (by decide) (sT_31 hS) rfl (by decide) rfl rfl (Nat.le_of_ble_eq_true rfl) ?_
            refine c_in hOn ki_0 ki_5 (fun _ => wk_i ?_) (fun h => absurd h (by omega))
            refine wi_iret ct_194_7 (by decide) (wk_i ?_)
            refine wi_ifne_t ct_199_13 ki_1 (by decide) ?_
            refine wi_aload_0 ct_199_18 ?_
            refine wi_gfr ct_199_19 (sT_31 hS) rfl (sR_31_67 hS) ?_
            refine wi_iload_1 ct_199_22 ?_
            refine wi_iald (x := fi 68 T) ct_199_23 (sT_68 hS) (sL_68 hS) (i_in hTn (by omega)) (i_cl (k := T) hTn (by omega)) rfl ?_
            refine wi_iflt_f ct_199_24 rfl (by omega) ?_
            refine wi_aload_0 ct_199_27 ?_
            refine wi_gfr ct_199_28 (sT_31 hS) rfl (sR_31_67 hS) ?_
            refine wi_iload_3 ct_199_31 ?_
            refine wi_iald (x := fi 68 O) ct_199_32 (sT_68 hS) (sL_68 hS) (i_in hOn (by omega)) (i_cl (k := O) hOn (by omega)) rfl ?_
            refine wi_ifge_t ct_199_33 rfl (by omega) ?_
            refine wi_aload_0 ct_199_39 ?_
            refine wi_gfr ct_199_40 (sT_31 hS) rfl (sR_31_67 hS) ?_
            refine wi_iload_1 ct_199_43 ?_
            refine wi_iald (x := fi 68 T) ct_199_44 (sT_68 hS) (sL_68 hS) (i_in hTn (by omega)) (i_cl (k := T) hTn (by omega)) rfl ?_
            refine wi_aload_0 ct_199_45 ?_
            refine wi_gfr ct_199_46 (sT_31 hS) rfl (sR_31_67 hS) ?_
            refine wi_iload_3 ct_199_49 ?_
            refine wi_iald (x := fi 68 O) ct_199_50 (sT_68 hS) (sL_68 hS) (i_in hOn (by omega)) (i_cl (k := O) hOn (by omega)) rfl ?_
            refine wi_iceq_f ct_199_51 rfl rfl (by omega) ?_
            refine wi_ic ct_199_54 kc_m12 ?_
            refine wi_iret ct_199_56 rfl (wk_i ?_)
            refine wi_iceq_t ct_211_1354 ki_m12 ki_m12 (by decide) ?_
            exact kk own g fi fl hR (by omega) (by omega)
    · skip
      refine wi_aload_1 ct_211_1296 ?_
      refine wi_aloadT_0 ct_211_1297 ?_
      refine wi_iload_3 ct_211_1298 ?_
      refine wi_ic ct_211_1299 kc_1 ?_
      refine wi_iadd ct_211_1300 rfl ?_
      refine wi_ialdT (j := I + 1) (x := a1) ct_211_1301 (sL_SC hS) (i_in (i_add hi ki_1 (by omega)) (by omega)) (i_cl (i_add hi ki_1 (by omega)) (by omega)) (((hsc _).trans e1)) ?_
      refine wi_aloadT_0 ct_211_1302 ?_
      refine wi_iload_3 ct_211_1303 ?_
      refine wi_ic ct_211_1304 kc_2 ?_
      refine wi_iadd ct_211_1305 rfl ?_
      refine wi_ialdT (j := I + 2) (x := a2) ct_211_1306 (sL_SC hS) (i_in (i_add hi ki_2 (by omega)) (by omega)) (i_cl (i_add hi ki_2 (by omega)) (by omega)) (((hsc _).trans e2)) ?_
      refine wi_aloadT_0 ct_211_1307 ?_
      refine wi_iload_3 ct_211_1308 ?_
      refine wi_ic ct_211_1309 kc_3 ?_
      refine wi_iadd ct_211_1310 rfl ?_
      refine wi_ialdT (j := I + 3) (x := a3) ct_211_1311 (sL_SC hS) (i_in (i_add hi ki_3 (by omega)) (by omega)) (i_cl (i_add hi ki_3 (by omega)) (by omega)) (((hsc _).trans e3)) ?_
      refine wi_aloadT_0 ct_211_1312 ?_
      refine wi_iload_3 ct_211_1313 ?_
      refine wi_ic ct_211_1314 kc_4 ?_
      refine wi_iadd ct_211_1315 rfl ?_
      refine wi_ialdT (j := I + 4) (x := a4) ct_211_1316 (sL_SC hS) (i_in (i_add hi ki_4 (by omega)) (by omega)) (i_cl (i_add hi ki_4 (by omega)) (by omega)) (((hsc _).trans e4)) ?_
      refine wi_aloadT_0 ct_211_1317 ?_
      refine wi_iload_3 ct_211_1318 ?_
      refine wi_ic ct_211_1319 kc_5 ?_
      refine wi_iadd ct_211_1320 rfl ?_
      refine wi_ialdT (j := I + 5) (x := a5) ct_211_1321 (sL_SC hS) (i_in (i_add hi ki_5 (by omega)) (by omega)) (i_cl (i_add hi ki_5 (by omega)) (by omega)) (((hsc _).trans e5)) ?_
      refine wi_cv5 (ls' := [some _, some _, some _, some _, some _, some _]) ct_211_1322 (Nat.le_of_ble_eq_true rfl) (by decide) (sT_0 hS) rfl (by decide) rfl rfl (Nat.le_of_ble_eq_true rfl) ?_
      refine wi_iload_1 ct_102_0 ?_
      refine wi_cs1 (ls' := [some _]) ct_102_1 (Nat.le_of_ble_eq_true rfl) rfl (Nat.le_of_ble_eq_true rfl) ?_
      refine wi_iload_0 ct_114_0 ?_
      refine wi_ic ct_114_1 kc_0 ?_
      refine wi_ic ct_114_2 kc_5 ?_
      refine wi_cs3 (ls' := [some _, some _, some _]) ct_114_3 (Nat.le_of_ble_eq_true rfl) rfl (Nat.le_of_ble_eq_true rfl) ?_
      refine c_within hTn ki_0 ki_5 (fun _ => wk_i ?_) (fun h => absurd h (by omega))
      refine wi_iret ct_114_6 (by decide) (wk_i ?_)
      refine wi_ifeq_f ct_102_4 ki_1 (by decide) ?_
      refine wi_iload_3 ct_102_7 ?_
      refine wi_cs1 (ls' := [some _]) ct_102_8 (Nat.le_of_ble_eq_true rfl) rfl (Nat.le_of_ble_eq_true rfl) ?_
      refine wi_iload_0 ct_114_0 ?_
      refine wi_ic ct_114_1 kc_0 ?_
      refine wi_ic ct_114_2 kc_5 ?_
      refine wi_cs3 (ls' := [some _, some _, some _]) ct_114_3 (Nat.le_of_ble_eq_true rfl) rfl (Nat.le_of_ble_eq_true rfl) ?_
      refine c_within rfl ki_0 ki_5 (fun h => absurd h (by omega)) (fun _ => wk_i ?_)
      refine wi_iret ct_114_6 (by decide) (wk_i ?_)
      refine wi_ifne_f ct_102_11 ki_0 (by decide) ?_
      refine wi_ic ct_102_14 kc_m1 ?_
      refine wi_iret ct_102_15 rfl (wk_i ?_)
      refine wi_aload_2 ct_211_1325 ?_
      refine wi_aloadT_0 ct_211_1326 ?_
      refine wi_iload_3 ct_211_1327 ?_
      refine wi_ic ct_211_1328 kc_1 ?_
      refine wi_iadd ct_211_1329 rfl ?_
      refine wi_ialdT (j := I + 1) (x := a1) ct_211_1330 (sL_SC hS) (i_in (i_add hi ki_1 (by omega)) (by omega)) (i_cl (i_add hi ki_1 (by omega)) (by omega)) (((hsc _).trans e1)) ?_
      refine wi_aloadT_0 ct_211_1331 ?_
      refine wi_iload_3 ct_211_1332 ?_
      refine wi_ic ct_211_1333 kc_2 ?_
      refine wi_iadd ct_211_1334 rfl ?_
      refine wi_ialdT (j := I + 2) (x := a2) ct_211_1335 (sL_SC hS) (i_in (i_add hi ki_2 (by omega)) (by omega)) (i_cl (i_add hi ki_2 (by omega)) (by omega)) (((hsc _).trans e2)) ?_
      refine wi_aloadT_0 ct_211_1336 ?_
      refine wi_iload_3 ct_211_1337 ?_
      refine wi_ic ct_211_1338 kc_3 ?_
      refine wi_iadd ct_211_1339 rfl ?_
      refine wi_ialdT (j := I + 3) (x := a3) ct_211_1340 (sL_SC hS) (i_in (i_add hi ki_3 (by omega)) (by omega)) (i_cl (i_add hi ki_3 (by omega)) (by omega)) (((hsc _).trans e3)) ?_
      refine wi_aloadT_0 ct_211_1341 ?_
      refine wi_iload_3 ct_211_1342 ?_
      refine wi_ic ct_211_1343 kc_4 ?_
      refine wi_iadd ct_211_1344 rfl ?_
      refine wi_ialdT (j := I + 4) (x := a4) ct_211_1345 (sL_SC hS) (i_in (i_add hi ki_4 (by omega)) (by omega)) (i_cl (i_add hi ki_4 (by omega)) (by omega)) (((hsc _).trans e4)) ?_
      refine wi_aloadT_0 ct_211_1346 ?_
      refine wi_iload_3 ct_211_1347 ?_
      refine wi_ic ct_211_1348 kc_5 ?_
      refine wi_iadd ct_211_1349 rfl ?_
      refine wi_ialdT (j := I + 5) (x := a5) ct_211_1350 (sL_SC hS) (i_in (i_add hi ki_5 (by omega)) (by omega)) (i_cl (i_add hi ki_5 (by omega)) (by omega)) (((hsc _).trans e5)) ?_
      refine wi_cv5 (ls' := [some _, some _, some _, some _, some _, some _, none]) ct_211_1351 (Nat.le_of_ble_eq_true rfl) (by decide) (sT_31 hS) rfl (by decide) rfl rfl (Nat.le_of_ble_eq_true rfl) ?_
      refine wi_aload_0 ct_199_0 ?_
      refine wi_iload_1 ct_199_1 ?_
      refine wi_cv1 (ls' := [some _, some _]) ct_199_2 (Nat.le_of_ble_eq_true rfl) (by decide) (sT_31 hS) rfl (by decide) rfl rfl (Nat.le_of_ble_eq_true rfl) ?_
      refine wi_aload_0 ct_194_0 ?_
      refine wi_iload_1 ct_194_1 ?_
      refine wi_ic ct_194_2 kc_0 ?_
      refine wi_ic ct_194_3 kc_5 ?_
      refine wi_cv3 (ls' := [some _, some _, some _, some _]) ct_194_4 (Nat.le_of_ble_eq_true rfl) (by decide) (sT_31 hS) rfl (by decide) rfl rfl (Nat.le_of_ble_eq_true rfl) ?_
      refine c_in hTn ki_0 ki_5 (fun _ => wk_i ?_) (fun h => absurd h (by omega))
      refine wi_iret ct_194_7 (by decide) (wk_i ?_)
      refine wi_ifeq_f ct_199_5 ki_1 (by decide) ?_
      refine wi_aload_0 ct_199_8 ?_
      refine wi_iload_3 ct_199_9 ?_
      refine wi_cv1 (ls' := [some _, some _]) ct_199_10 (Nat.le_of_ble_eq_true rfl) (by decide) (sT_31 hS) rfl (by decide) rfl rfl (Nat.le_of_ble_eq_true rfl) ?_
      refine wi_aload_0 ct_194_0 ?_
      refine wi_iload_1 ct_194_1 ?_
      refine wi_ic ct_194_2 kc_0 ?_
      refine wi_ic ct_194_3 kc_5 ?_
      refine wi_cv3 (ls' := [some _, some _, some _, some _]) ct_194_4 (Nat.le_of_ble_eq_true rfl) (by decide) (sT_31 hS) rfl (by decide) rfl rfl (Nat.le_of_ble_eq_true rfl) ?_
      refine c_in rfl ki_0 ki_5 (fun h => absurd h (by omega)) (fun _ => wk_i ?_)
      refine wi_iret ct_194_7 (by decide) (wk_i ?_)
      refine wi_ifne_f ct_199_13 ki_0 (by decide) ?_
      refine wi_ic ct_199_16 kc_m1 ?_
      refine wi_iret ct_199_17 rfl (wk_i ?_)
      refine wi_iceq_t ct_211_1354 ki_m1 ki_m1 (by decide) ?_
      exact kk own g fi fl hR (by omega) (by omega)
  · skip
    refine wi_aload_1 ct_211_1296 ?_
    refine wi_aloadT_0 ct_211_1297 ?_
    refine wi_iload_3 ct_211_1298 ?_
    refine wi_ic ct_211_1299 kc_1 ?_
    refine wi_iadd ct_211_1300 rfl ?_
    refine wi_ialdT (j := I + 1) (x := a1) ct_211_1301 (sL_SC hS) (i_in (i_add hi ki_1 (by omega)) (by omega)) (i_cl (i_add hi ki_1 (by omega)) (by omega)) (((hsc _).trans e1)) ?_
    refine wi_aloadT_0 ct_211_1302 ?_
    refine wi_iload_3 ct_211_1303 ?_
    refine wi_ic ct_211_1304 kc_2 ?_
    refine wi_iadd ct_211_1305 rfl ?_
    refine wi_ialdT (j := I + 2) (x := a2) ct_211_1306 (sL_SC hS) (i_in (i_add hi ki_2 (by omega)) (by omega)) (i_cl (i_add hi ki_2 (by omega)) (by omega)) (((hsc _).trans e2)) ?_
    refine wi_aloadT_0 ct_211_1307 ?_
    refine wi_iload_3 ct_211_1308 ?_
    refine wi_ic ct_211_1309 kc_3 ?_
    refine wi_iadd ct_211_1310 rfl ?_
    refine wi_ialdT (j := I + 3) (x := a3) ct_211_1311 (sL_SC hS) (i_in (i_add hi ki_3 (by omega)) (by omega)) (i_cl (i_add hi ki_3 (by omega)) (by omega)) (((hsc _).trans e3)) ?_
    refine wi_aloadT_0 ct_211_1312 ?_
    refine wi_iload_3 ct_211_1313 ?_
    refine wi_ic ct_211_1314 kc_4 ?_
    refine wi_iadd ct_211_1315 rfl ?_
    refine wi_ialdT (j := I + 4) (x := a4) ct_211_1316 (sL_SC hS) (i_in (i_add hi ki_4 (by omega)) (by omega)) (i_cl (i_add hi ki_4 (by omega)) (by omega)) (((hsc _).trans e4)) ?_
    refine wi_aloadT_0 ct_211_1317 ?_
    refine wi_iload_3 ct_211_1318 ?_
    refine wi_ic ct_211_1319 kc_5 ?_
    refine wi_iadd ct_211_1320 rfl ?_
    refine wi_ialdT (j := I + 5) (x := a5) ct_211_1321 (sL_SC hS) (i_in (i_add hi ki_5 (by omega)) (by omega)) (i_cl (i_add hi ki_5 (by omega)) (by omega)) (((hsc _).trans e5)) ?_
    refine wi_cv5 (ls' := [some _, some _, some _, some _, some _, some _]) ct_211_1322 (Nat.le_of_ble_eq_true rfl) (by decide) (sT_0 hS) rfl (by decide) rfl rfl (Nat.le_of_ble_eq_true rfl) ?_
    refine wi_iload_1 ct_102_0 ?_
    refine wi_cs1 (ls' := [some _]) ct_102_1 (Nat.le_of_ble_eq_true rfl) rfl (Nat.le_of_ble_eq_true rfl) ?_
    refine wi_iload_0 ct_114_0 ?_
    refine wi_ic ct_114_1 kc_0 ?_
    refine wi_ic ct_114_2 kc_5 ?_
    refine wi_cs3 (ls' := [some _, some _, some _]) ct_114_3 (Nat.le_of_ble_eq_true rfl) rfl (Nat.le_of_ble_eq_true rfl) ?_
    refine c_within rfl ki_0 ki_5 (fun h => absurd h (by omega)) (fun _ => wk_i ?_)
    refine wi_iret ct_114_6 (by decide) (wk_i ?_)
    refine wi_ifeq_t ct_102_4 ki_0 (by decide) ?_
    refine wi_ic ct_102_14 kc_m1 ?_
    refine wi_iret ct_102_15 rfl (wk_i ?_)
    refine wi_aload_2 ct_211_1325 ?_
    refine wi_aloadT_0 ct_211_1326 ?_
    refine wi_iload_3 ct_211_1327 ?_
    refine wi_ic ct_211_1328 kc_1 ?_
    refine wi_iadd ct_211_1329 rfl ?_
    refine wi_ialdT (j := I + 1) (x := a1) ct_211_1330 (sL_SC hS) (i_in (i_add hi ki_1 (by omega)) (by omega)) (i_cl (i_add hi ki_1 (by omega)) (by omega)) (((hsc _).trans e1)) ?_
    refine wi_aloadT_0 ct_211_1331 ?_
    refine wi_iload_3 ct_211_1332 ?_
    refine wi_ic ct_211_1333 kc_2 ?_
    refine wi_iadd ct_211_1334 rfl ?_
    refine wi_ialdT (j := I + 2) (x := a2) ct_211_1335 (sL_SC hS) (i_in (i_add hi ki_2 (by omega)) (by omega)) (i_cl (i_add hi ki_2 (by omega)) (by omega)) (((hsc _).trans e2)) ?_
    refine wi_aloadT_0 ct_211_1336 ?_
    refine wi_iload_3 ct_211_1337 ?_
    refine wi_ic ct_211_1338 kc_3 ?_
    refine wi_iadd ct_211_1339 rfl ?_
    refine wi_ialdT (j := I + 3) (x := a3) ct_211_1340 (sL_SC hS) (i_in (i_add hi ki_3 (by omega)) (by omega)) (i_cl (i_add hi ki_3 (by omega)) (by omega)) (((hsc _).trans e3)) ?_
    refine wi_aloadT_0 ct_211_1341 ?_
    refine wi_iload_3 ct_211_1342 ?_
    refine wi_ic ct_211_1343 kc_4 ?_
    refine wi_iadd ct_211_1344 rfl ?_
    refine wi_ialdT (j := I + 4) (x := a4) ct_211_1345 (sL_SC hS) (i_in (i_add hi ki_4 (by omega)) (by omega)) (i_cl (i_add hi ki_4 (by omega)) (by omega)) (((hsc _).trans e4)) ?_
    refine wi_aloadT_0 ct_211_1346 ?_
    refine wi_iload_3 ct_211_1347 ?_
    refine wi_ic ct_211_1348 kc_5 ?_
    refine wi_iadd ct_211_1349 rfl ?_
    refine wi_ialdT (j := I + 5) (x := a5) ct_211_1350 (sL_SC hS) (i_in (i_add hi ki_5 (by omega)) (by omega)) (i_cl (i_add hi ki_5 (by omega)) (by omega)) (((hsc _).trans e5)) ?_
    refine wi_cv5 (ls' := [some _, some _, some _, some _, some _, some _, none]) ct_211_1351 (Nat.le_of_ble_eq_true rfl) (by decide) (sT_31 hS) rfl (by decide) rfl rfl (Nat.le_of_ble_eq_true rfl) ?_
    refine wi_aload_0 ct_199_0 ?_
    refine wi_iload_1 ct_199_1 ?_
    refine wi_cv1 (ls' := [some _, some _]) ct_199_2 (Nat.le_of_ble_eq_true rfl) (by decide) (sT_31 hS) rfl (by decide) rfl rfl (Nat.le_of_ble_eq_true rfl) ?_
    refine wi_aload_0 ct_194_0 ?_
    refine wi_iload_1 ct_194_1 ?_
    refine wi_ic ct_194_2 kc_0 ?_
    refine wi_ic ct_194_3 kc_5 ?_
    refine wi_cv3 (ls' := [some _, some _, some _, some _]) ct_194_4 (Nat.le_of_ble_eq_true rfl) (by decide) (sT_31 hS) rfl (by decide) rfl rfl (Nat.le_of_ble_eq_true rfl) ?_
    refine c_in rfl ki_0 ki_5 (fun h => absurd h (by omega)) (fun _ => wk_i ?_)
    refine wi_iret ct_194_7 (by decide) (wk_i ?_)
    refine wi_ifeq_t ct_199_5 ki_0 (by decide) ?_
    refine wi_ic ct_199_16 kc_m1 ?_
    refine wi_iret ct_199_17 rfl (wk_i ?_)
    refine wi_iceq_t ct_211_1354 ki_m1 ki_m1 (by decide) ?_
    exact kk own g fi fl hR (by omega) (by omega)
