theorem bI_bd (b : Bool) : 0 ≤ (bI b).toInt ∧ (bI b).toInt ≤ 1 := by
  cases b <;> decide
set_option maxHeartbeats 2000000 in
theorem op_would {L I : Nat} {xs : Nat → Int32} {own : Nat → Nat} {d : Nat} {g : am_G} {fi : am_I} {fl : am_L} {P : Option Value → am_G → am_I → am_L → Prop} {i : Int32} (hi : i.toInt = (I : Int)) (hI6 : I + 6 ≤ L) (hL : L ≤ 3072) (hR : Rel L xs own g fi fl) (hnx : am_nx g ≤ 800000) (kk : ∀ own' g' fi' fl', Rel L xs own' g' fi' fl' → am_nx g' ≤ am_nx g + 30 → am_sl g' ≤ am_sl g + 1000 → WP (d + 60) 211 1359 [some (.retAddr 0), some (.ref 0), some (.ref 31), some (.int i)] [] g' fi' fl' P) : WP (d + 60) 211 502 [some (.retAddr 0), some (.ref 0), some (.ref 31), some (.int i)] [] g fi fl P := by
  obtain ⟨hS, hsc, hC, hK, hX, hV, hT, hP, hB, hN, hQ, hZ, hI⟩ := id hR
  obtain ⟨⟨c0, c0a, c0b⟩, ⟨c1, c1a, c1b⟩, ⟨c2, c2a, c2b⟩, ⟨c3, c3a, c3b⟩, ⟨c4, c4a, c4b⟩, ⟨c5, c5a, c5b⟩, ⟨c6, c6a, c6b⟩, ⟨c7, c7a, c7b⟩, c8, c9⟩ := id hC
  obtain ⟨a1, e1⟩ : ∃ a, xs (I + 1) = a := ⟨_, rfl⟩
  obtain ⟨a2, e2⟩ : ∃ a, xs (I + 2) = a := ⟨_, rfl⟩
  by_cases hA : 0 ≤ (a1).toInt ∧ (a1).toInt < (fi 31 0).toInt
  · skip
    obtain ⟨B, hBa⟩ : ∃ B : Nat, (a1).toInt = (B : Int) := ⟨(a1).toInt.toNat, by omega⟩
    have hBn := hBa
    obtain ⟨p, r, kd, v, cd, aim, co, row, hW⟩ := BLW.of hB c0b (B := B) (by omega)
    obtain ⟨sq, hsq, hsx⟩ := sq_of hR
    obtain ⟨hB5, hO, w32, w33, w34, w35, w36, w37, k6, v9, d9, a60, co9, r9⟩ := id hW
    obtain ⟨o0, ⟨o72, onx, oow⟩, ot, ok, on, ov, oc, oa, om, orw⟩ := id hO
    have kq := fun j (h : j < 3) => (hK j (by omega)).2
    have hk0 := kq 0 (by decide)
    have hk1 := kq 1 (by decide)
    have hk2 := kq 2 (by decide)
    replace hk0 := And.intro hk0.1 (hk0.2.2 (by decide))
    replace hk1 := And.intro hk1.1 (hk1.2.2 (by decide))
    replace hk2 := And.intro hk2.1 (hk2.2.2 (by decide))
    have hGb := goodV_bd hk0 hk1 hk2
    have hmb := MB.of hR hW hsq
    refine wi_aload_1 ct_211_502 ?_
    refine wi_aloadT_0 ct_211_503 ?_
    refine wi_iload_3 ct_211_504 ?_
    refine wi_ic ct_211_505 kc_1 ?_
    refine wi_iadd ct_211_506 rfl ?_
    refine wi_ialdT (j := I + 1) (x := a1) ct_211_507 (sL_SC hS) (i_in (i_add hi ki_1 (by omega)) (by omega)) (i_cl (i_add hi ki_1 (by omega)) (by omega)) (((hsc _).trans e1)) ?_
    refine wi_aloadT_0 ct_211_508 ?_
    refine wi_iload_3 ct_211_509 ?_
    refine wi_ic ct_211_510 kc_2 ?_
    refine wi_iadd ct_211_511 rfl ?_
    refine wi_ialdT (j := I + 2) (x := a2) ct_211_512 (sL_SC hS) (i_in (i_add hi ki_2 (by omega)) (by omega)) (i_cl (i_add hi ki_2 (by omega)) (by omega)) (((hsc _).trans e2)) ?_
    refine wi_cv2 (ls' := [some _, some _, some _, none]) ct_211_513 (Nat.le_of_ble_eq_true rfl) (by decide) (sT_0 hS) rfl (by decide) rfl rfl (Nat.le_of_ble_eq_true rfl) ?_
    refine wi_aload_0 ct_77_0 ?_
    refine wi_iload_1 ct_77_1 ?_
    refine wi_cv1 (ls' := [some _, some _]) ct_77_2 (Nat.le_of_ble_eq_true rfl) (by decide) (sT_0 hS) rfl (by decide) rfl rfl (Nat.le_of_ble_eq_true rfl) ?_
    refine wi_iload_1 ct_104_0 ?_
    refine wi_ic ct_104_1 kc_0 ?_
    refine wi_aload_0 ct_104_2 ?_
    refine wi_gfr ct_104_3 (sT_0 hS) rfl (sR_0_0 hS) ?_
    refine wi_gf (x := fi 31 0) ct_104_6 (sT_1 hS) rfl rfl c0 ?_
    refine wi_ic ct_104_9 kc_1 ?_
    refine wi_isub ct_104_10 rfl ?_
    refine wi_cs3 (ls' := [some _, some _, some _]) ct_104_11 (Nat.le_of_ble_eq_true rfl) rfl (Nat.le_of_ble_eq_true rfl) ?_
    refine c_within hBn ki_0 (i_sub rfl ki_1 (by omega)) (fun _ => wk_i ?_) (fun h => absurd h (by omega))
    refine wi_ifeq_f ct_104_14 ki_1 (by decide) ?_
    refine wi_aload_0 ct_104_17 ?_
    refine wi_gfr ct_104_18 (sT_0 hS) rfl (sR_0_0 hS) ?_
    refine wi_gfr ct_104_21 (sT_1 hS) rfl (sR_1_0 hS) ?_
    refine wi_iload_1 ct_104_24 ?_
    refine wi_aald ct_104_25 (sT_2 hS) (by decide) (sL_2 hS) (i_in hBn (by omega)) (i_cl (k := B) hBn (by omega)) o0 ?_
    refine wi_goto ct_104_26 ?_
    refine wi_aret ct_104_30 (wk_r ?_)
    refine wi_astore_3 rfl ct_77_5 ?_
    refine wi_aload_3 ct_77_6 ?_
    refine wi_ifnull_r ct_77_7 ?_
    refine wi_iload_2 ct_77_10 ?_
    refine wi_ic ct_77_11 kc_0 ?_
    refine wi_ic ct_77_12 kc_4 ?_
    refine wi_cs3 (ls' := [some _, some _, some _]) ct_77_13 (Nat.le_of_ble_eq_true rfl) rfl (Nat.le_of_ble_eq_true rfl) ?_
    refine c_within rfl ki_0 ki_4 (fun h1 => wk_i ?_) (fun h1 => wk_i ?_)
    · skip
      refine wi_ifne_t ct_77_16 ki_1 (by decide) ?_
      refine wi_aload_0 ct_77_21 ?_
      refine wi_aload_3 ct_77_22 ?_
      refine wi_cv1 (ls' := [some _, some _]) ct_77_23 (Nat.le_of_ble_eq_true rfl) (by decide) (sT_0 hS) rfl (by decide) rfl rfl (Nat.le_of_ble_eq_true rfl) ?_
      refine c_begin hR SCR.rfl hW hsq hsx (fun gb2 fb2 hsb2 hfb2 hkb2 hb2_1 hb2_2 hb2_3 hb2_4 hb2_5 hb2_6 => wk_v ?_)
      have hSb2 := (hR.scr hsb2).1
      refine wi_aload_0 ct_77_26 ?_
      refine wi_gfr ct_77_27 (sT_0 hSb2) rfl (sR_0_2 hSb2) ?_
      refine wi_aload_3 ct_77_30 ?_
      refine wi_cv1 (ls' := [some _, some _, none]) ct_77_31 (Nat.le_of_ble_eq_true rfl) (by decide) (sT_15 hSb2) rfl (by decide) rfl rfl (Nat.le_of_ble_eq_true rfl) ?_
      refine c_runR (cd2 := cd) (aim2 := aim) (G := (goodV (fi 38 0).toInt (fi 38 1).toInt (fi 38 2).toInt)) (m0 := (fi 31 1).toInt) (gust := 0) (calm := false) hR hsb2 hW hkb2 (hb2_1.trans (by omega)) (hb2_2.trans (by omega)) (hb2_3.trans (by omega)) ((congrArg Int32.toInt hb2_4).trans (by omega)) (((congrArg Int32.toInt hb2_5).trans ki_0).trans (by omega)) (hb2_6.trans rfl) (by omega) (by omega) (by omega) (by omega) (by omega) (fun Rr3 fr3 hr3_e hsr3 hr3_f hr3_7 hr3_11 hr3_12 hr3_10 hr3_4 hr3_13 hr3_j => wk_v ?_)
      have hSr3 := (hR.scr hsr3).1
      have hbdr3 := goR_bd (SQs_v hsq) (by omega) ((film_bd d9 hGb).2) hr3_e
      have htor3 := bI_bd (!Rr3.1)
      refine wi_iload_2 ct_77_34 ?_
      rcases Decidable.em ((a2).toInt = 0) with h4 | h4
      · refine wi_tsw (X := 0) (t := 64) ct_77_35 (by omega) rfl ?_
        refine wi_aload_0 ct_77_64 ?_
        refine wi_gfr ct_77_65 (sT_0 hSr3) rfl (sR_0_2 hSr3) ?_
        refine wi_gf (x := fr3 15 7) ct_77_68 (sT_15 hSr3) rfl rfl rfl ?_
        refine wi_iret ct_77_71 rfl (wk_i ?_)
        refine wi_aload_2 ct_211_516 ?_
        refine wi_aloadT_0 ct_211_517 ?_
        refine wi_iload_3 ct_211_518 ?_
        refine wi_ic ct_211_519 kc_1 ?_
        refine wi_iadd ct_211_520 rfl ?_
        refine wi_ialdT (j := I + 1) (x := a1) ct_211_521 (sL_SC hSr3) (i_in (i_add hi ki_1 (by omega)) (by omega)) (i_cl (i_add hi ki_1 (by omega)) (by omega)) ((Eq.trans (congrFun (hsr3.2.1 am_SC (by unfold am_SC; decide)) _) ((hsc _).trans e1))) ?_
        refine wi_aloadT_0 ct_211_522 ?_
        refine wi_iload_3 ct_211_523 ?_
        refine wi_ic ct_211_524 kc_2 ?_
        refine wi_iadd ct_211_525 rfl ?_
        refine wi_ialdT (j := I + 2) (x := a2) ct_211_526 (sL_SC hSr3) (i_in (i_add hi ki_2 (by omega)) (by omega)) (i_cl (i_add hi ki_2 (by omega)) (by omega)) ((Eq.trans (congrFun (hsr3.2.1 am_SC (by unfold am_SC; decide)) _) ((hsc _).trans e2))) ?_
        refine wi_cv2 (ls' := [some _, some _, some _]) ct_211_527 (Nat.le_of_ble_eq_true rfl) (by decide) (sT_31 hSr3) rfl (by decide) rfl rfl (Nat.le_of_ble_eq_true rfl) ?_
        refine wi_aload_0 ct_159_0 ?_
        refine wi_iload_1 ct_159_1 ?_
        refine wi_cv1 (ls' := [some _, some _]) ct_159_2 (Nat.le_of_ble_eq_true rfl) (by decide) (sT_31 hSr3) rfl (by decide) rfl rfl (Nat.le_of_ble_eq_true rfl) ?_
        refine wi_aload_0 ct_120_0 ?_
        refine wi_iload_1 ct_120_1 ?_
        refine wi_ic ct_120_2 kc_0 ?_
        refine wi_aload_0 ct_120_3 ?_
        refine wi_gf (x := fi 31 0) ct_120_4 (sT_31 hSr3) rfl rfl (hsr3.2.2.2 0 (by omega)) ?_
        refine wi_ic ct_120_7 kc_1 ?_
        refine wi_isub ct_120_8 rfl ?_
        refine wi_cv3 (ls' := [some _, some _, some _, some _]) ct_120_9 (Nat.le_of_ble_eq_true rfl) (by decide) (sT_31 hSr3) rfl (by decide) rfl rfl (Nat.le_of_ble_eq_true rfl) ?_
        refine c_in hBn ki_0 (i_sub rfl ki_1 (by omega)) (fun _ => wk_i ?_) (fun h => absurd h (by omega))
        refine wi_iret ct_120_12 (by decide) (wk_i ?_)
        refine wi_ifeq_f ct_159_5 ki_1 (by decide) ?_
        refine wi_aload_0 ct_159_8 ?_
        refine wi_iload_2 ct_159_9 ?_
        refine wi_ic ct_159_10 kc_0 ?_
        refine wi_ic ct_159_11 kc_4 ?_
        refine wi_cv3 (ls' := [some _, some _, some _, some _]) ct_159_12 (Nat.le_of_ble_eq_true rfl) (by decide) (sT_31 hSr3) rfl (by decide) rfl rfl (Nat.le_of_ble_eq_true rfl) ?_
        refine c_in rfl ki_0 ki_4 (fun _ => wk_i ?_) (fun h => absurd h (by omega))
        refine wi_ifne_t ct_159_15 ki_1 (by decide) ?_
        refine wi_aload_0 ct_159_20 ?_
        refine wi_iload_1 ct_159_21 ?_
        refine wi_aload_0 ct_159_22 ?_
        refine wi_gf (x := fi 31 1) ct_159_23 (sT_31 hSr3) rfl rfl (hsr3.2.2.2 1 (by omega)) ?_
        refine wi_cv2 (ls' := [some _, some _, some _, none, none, none, none]) ct_159_26 (Nat.le_of_ble_eq_true rfl) (by decide) (sT_31 hSr3) rfl (by decide) rfl rfl (Nat.le_of_ble_eq_true rfl) ?_
        refine c_goR (m0 := (fi 31 1).toInt) hSr3 hmb hsr3 hBn (by omega) (by omega) (fun Ro5 fo5 ho5_e hso5 ho5_f ho5_30 ho5_31 ho5_32 ho5_33 ho5_34 => wk_v ?_)
        have hbdo5 := goR_bd (SQs_v hsq) (by omega) ((film_bd d9 hGb).2) ho5_e
        have hRRo5 : Rr3 = Ro5 := hr3_e.trans ho5_e.symm
        subst hRRo5
        refine wi_iload_2 ct_159_29 ?_
        refine wi_tsw (X := 0) (t := 60) ct_159_30 (by omega) rfl ?_
        refine wi_aload_0 ct_159_60 ?_
        refine wi_gf (x := fo5 31 30) ct_159_61 (sT_31 hSr3) rfl rfl rfl ?_
        refine wi_iret ct_159_64 rfl (wk_i ?_)
        refine wi_iceq_t ct_211_530 hr3_7 ho5_30 (by omega) ?_
        exact kk own _ _ fl (hR.scr hso5) (by rw [hso5.nx]; omega) (by rw [hso5.sl]; omega)
      rcases Decidable.em ((a2).toInt = 1) with h7 | h7
      · refine wi_tsw (X := 1) (t := 72) ct_77_35 (by omega) rfl ?_
        refine wi_aload_0 ct_77_72 ?_
        refine wi_gfr ct_77_73 (sT_0 hSr3) rfl (sR_0_2 hSr3) ?_
        refine wi_gf (x := fr3 15 11) ct_77_76 (sT_15 hSr3) rfl rfl rfl ?_
        refine wi_iret ct_77_79 rfl (wk_i ?_)
        refine wi_aload_2 ct_211_516 ?_
        refine wi_aloadT_0 ct_211_517 ?_
        refine wi_iload_3 ct_211_518 ?_
        refine wi_ic ct_211_519 kc_1 ?_
        refine wi_iadd ct_211_520 rfl ?_
        refine wi_ialdT (j := I + 1) (x := a1) ct_211_521 (sL_SC hSr3) (i_in (i_add hi ki_1 (by omega)) (by omega)) (i_cl (i_add hi ki_1 (by omega)) (by omega)) ((Eq.trans (congrFun (hsr3.2.1 am_SC (by unfold am_SC; decide)) _) ((hsc _).trans e1))) ?_
        refine wi_aloadT_0 ct_211_522 ?_
        refine wi_iload_3 ct_211_523 ?_
        refine wi_ic ct_211_524 kc_2 ?_
        refine wi_iadd ct_211_525 rfl ?_
        refine wi_ialdT (j := I + 2) (x := a2) ct_211_526 (sL_SC hSr3) (i_in (i_add hi ki_2 (by omega)) (by omega)) (i_cl (i_add hi ki_2 (by omega)) (by omega)) ((Eq.trans (congrFun (hsr3.2.1 am_SC (by unfold am_SC; decide)) _) ((hsc _).trans e2))) ?_
        refine wi_cv2 (ls' := [some _, some _, some _]) ct_211_527 (Nat.le_of_ble_eq_true rfl) (by decide) (sT_31 hSr3) rfl (by decide) rfl rfl (Nat.le_of_ble_eq_true rfl) ?_
        refine wi_aload_0 ct_159_0 ?_
        refine wi_iload_1 ct_159_1 ?_
        refine wi_cv1 (ls' := [some _, some _]) ct_159_2 (Nat.le_of_ble_eq_true rfl) (by decide) (sT_31 hSr3) rfl (by decide) rfl rfl (Nat.le_of_ble_eq_true rfl) ?_
        refine wi_aload_0 ct_120_0 ?_
        refine wi_iload_1 ct_120_1 ?_
        refine wi_ic ct_120_2 kc_0 ?_
        refine wi_aload_0 ct_120_3 ?_
        refine wi_gf (x := fi 31 0) ct_120_4 (sT_31 hSr3) rfl rfl (hsr3.2.2.2 0 (by omega)) ?_
        refine wi_ic ct_120_7 kc_1 ?_
        refine wi_isub ct_120_8 rfl ?_
        refine wi_cv3 (ls' := [some _, some _, some _, some _]) ct_120_9 (Nat.le_of_ble_eq_true rfl) (by decide) (sT_31 hSr3) rfl (by decide) rfl rfl (Nat.le_of_ble_eq_true rfl) ?_
        refine c_in hBn ki_0 (i_sub rfl ki_1 (by omega)) (fun _ => wk_i ?_) (fun h => absurd h (by omega))
        refine wi_iret ct_120_12 (by decide) (wk_i ?_)
        refine wi_ifeq_f ct_159_5 ki_1 (by decide) ?_
        refine wi_aload_0 ct_159_8 ?_
        refine wi_iload_2 ct_159_9 ?_
        refine wi_ic ct_159_10 kc_0 ?_
        refine wi_ic ct_159_11 kc_4 ?_
        refine wi_cv3 (ls' := [some _, some _, some _, some _]) ct_159_12 (Nat.le_of_ble_eq_true rfl) (by decide) (sT_31 hSr3) rfl (by decide) rfl rfl (Nat.le_of_ble_eq_true rfl) ?_
        refine c_in rfl ki_0 ki_4 (fun _ => wk_i ?_) (fun h => absurd h (by omega))
        refine wi_ifne_t ct_159_15 ki_1 (by decide) ?_
        refine wi_aload_0 ct_159_20 ?_
        refine wi_iload_1 ct_159_21 ?_
        refine wi_aload_0 ct_159_22 ?_
        refine wi_gf (x := fi 31 1) ct_159_23 (sT_31 hSr3) rfl rfl (hsr3.2.2.2 1 (by omega)) ?_
        refine wi_cv2 (ls' := [some _, some _, some _, none, none, none, none]) ct_159_26 (Nat.le_of_ble_eq_true rfl) (by decide) (sT_31 hSr3) rfl (by decide) rfl rfl (Nat.le_of_ble_eq_true rfl) ?_
        refine c_goR (m0 := (fi 31 1).toInt) hSr3 hmb hsr3 hBn (by omega) (by omega) (fun Ro8 fo8 ho8_e hso8 ho8_f ho8_30 ho8_31 ho8_32 ho8_33 ho8_34 => wk_v ?_)
        have hbdo8 := goR_bd (SQs_v hsq) (by omega) ((film_bd d9 hGb).2) ho8_e
        have hRRo8 : Rr3 = Ro8 := hr3_e.trans ho8_e.symm
        subst hRRo8
        refine wi_iload_2 ct_159_29 ?_
        refine wi_tsw (X := 1) (t := 65) ct_159_30 (by omega) rfl ?_
        refine wi_aload_0 ct_159_65 ?_
        refine wi_gf (x := fo8 31 31) ct_159_66 (sT_31 hSr3) rfl rfl rfl ?_
        refine wi_iret ct_159_69 rfl (wk_i ?_)
        refine wi_iceq_t ct_211_530 hr3_11 ho8_31 (by omega) ?_
        exact kk own _ _ fl (hR.scr hso8) (by rw [hso8.nx]; omega) (by rw [hso8.sl]; omega)
      rcases Decidable.em ((a2).toInt = 2) with h10 | h10
      · refine wi_tsw (X := 2) (t := 80) ct_77_35 (by omega) rfl ?_
        refine wi_aload_0 ct_77_80 ?_
        refine wi_gfr ct_77_81 (sT_0 hSr3) rfl (sR_0_2 hSr3) ?_
        refine wi_gf (x := fr3 15 13) ct_77_84 (sT_15 hSr3) rfl rfl rfl ?_
        refine wi_ifeq ct_77_87 (congrArg Int32.toInt hr3_13) (fun h11 => ?_) (fun h11 => ?_)
        · skip
          refine wi_ic ct_77_94 kc_0 ?_
          refine wi_iret ct_77_95 rfl (wk_i ?_)
          refine wi_aload_2 ct_211_516 ?_
          refine wi_aloadT_0 ct_211_517 ?_
          refine wi_iload_3 ct_211_518 ?_
          refine wi_ic ct_211_519 kc_1 ?_
          refine wi_iadd ct_211_520 rfl ?_
          refine wi_ialdT (j := I + 1) (x := a1) ct_211_521 (sL_SC hSr3) (i_in (i_add hi ki_1 (by omega)) (by omega)) (i_cl (i_add hi ki_1 (by omega)) (by omega)) ((Eq.trans (congrFun (hsr3.2.1 am_SC (by unfold am_SC; decide)) _) ((hsc _).trans e1))) ?_
          refine wi_aloadT_0 ct_211_522 ?_
          refine wi_iload_3 ct_211_523 ?_
          refine wi_ic ct_211_524 kc_2 ?_
          refine wi_iadd ct_211_525 rfl ?_
          refine wi_ialdT (j := I + 2) (x := a2) ct_211_526 (sL_SC hSr3) (i_in (i_add hi ki_2 (by omega)) (by omega)) (i_cl (i_add hi ki_2 (by omega)) (by omega)) ((Eq.trans (congrFun (hsr3.2.1 am_SC (by unfold am_SC; decide)) _) ((hsc _).trans e2))) ?_
          refine wi_cv2 (ls' := [some _, some _, some _]) ct_211_527 (Nat.le_of_ble_eq_true rfl) (by decide) (sT_31 hSr3) rfl (by decide) rfl rfl (Nat.le_of_ble_eq_true rfl) ?_
          refine wi_aload_0 ct_159_0 ?_
          refine wi_iload_1 ct_159_1 ?_
          refine wi_cv1 (ls' := [some _, some _]) ct_159_2 (Nat.le_of_ble_eq_true rfl) (by decide) (sT_31 hSr3) rfl (by decide) rfl rfl (Nat.le_of_ble_eq_true rfl) ?_
          refine wi_aload_0 ct_120_0 ?_
          refine wi_iload_1 ct_120_1 ?_
          refine wi_ic ct_120_2 kc_0 ?_
          refine wi_aload_0 ct_120_3 ?_
          refine wi_gf (x := fi 31 0) ct_120_4 (sT_31 hSr3) rfl rfl (hsr3.2.2.2 0 (by omega)) ?_
          refine wi_ic ct_120_7 kc_1 ?_
          refine wi_isub ct_120_8 rfl ?_
          refine wi_cv3 (ls' := [some _, some _, some _, some _]) ct_120_9 (Nat.le_of_ble_eq_true rfl) (by decide) (sT_31 hSr3) rfl (by decide) rfl rfl (Nat.le_of_ble_eq_true rfl) ?_
          refine c_in hBn ki_0 (i_sub rfl ki_1 (by omega)) (fun _ => wk_i ?_) (fun h => absurd h (by omega))
          refine wi_iret ct_120_12 (by decide) (wk_i ?_)
          refine wi_ifeq_f ct_159_5 ki_1 (by decide) ?_
          refine wi_aload_0 ct_159_8 ?_
          refine wi_iload_2 ct_159_9 ?_
          refine wi_ic ct_159_10 kc_0 ?_
          refine wi_ic ct_159_11 kc_4 ?_
          refine wi_cv3 (ls' := [some _, some _, some _, some _]) ct_159_12 (Nat.le_of_ble_eq_true rfl) (by decide) (sT_31 hSr3) rfl (by decide) rfl rfl (Nat.le_of_ble_eq_true rfl) ?_
          refine c_in rfl ki_0 ki_4 (fun _ => wk_i ?_) (fun h => absurd h (by omega))
          refine wi_ifne_t ct_159_15 ki_1 (by decide) ?_
          refine wi_aload_0 ct_159_20 ?_
          refine wi_iload_1 ct_159_21 ?_
          refine wi_aload_0 ct_159_22 ?_
          refine wi_gf (x := fi 31 1) ct_159_23 (sT_31 hSr3) rfl rfl (hsr3.2.2.2 1 (by omega)) ?_
          refine wi_cv2 (ls' := [some _, some _, some _, none, none, none, none]) ct_159_26 (Nat.le_of_ble_eq_true rfl) (by decide) (sT_31 hSr3) rfl (by decide) rfl rfl (Nat.le_of_ble_eq_true rfl) ?_
          refine c_goR (m0 := (fi 31 1).toInt) hSr3 hmb hsr3 hBn (by omega) (by omega) (fun Ro12 fo12 ho12_e hso12 ho12_f ho12_30 ho12_31 ho12_32 ho12_33 ho12_34 => wk_v ?_)
          have hbdo12 := goR_bd (SQs_v hsq) (by omega) ((film_bd d9 hGb).2) ho12_e
          have hRRo12 : Rr3 = Ro12 := hr3_e.trans ho12_e.symm
          subst hRRo12
          refine wi_iload_2 ct_159_29 ?_
          refine wi_tsw (X := 2) (t := 70) ct_159_30 (by omega) rfl ?_
          refine wi_aload_0 ct_159_70 ?_
          refine wi_gf (x := fo12 31 34) ct_159_71 (sT_31 hSr3) rfl rfl rfl ?_
          refine wi_ifeq_t ct_159_74 (congrArg Int32.toInt ho12_34) (by omega) ?_
          refine wi_ic ct_159_81 kc_0 ?_
          refine wi_iret ct_159_82 rfl (wk_i ?_)
          refine wi_iceq_t ct_211_530 ki_0 ki_0 (by decide) ?_
          exact kk own _ _ fl (hR.scr hso12) (by rw [hso12.nx]; omega) (by rw [hso12.sl]; omega)
        · skip
          refine wi_ic ct_77_90 kc_1 ?_
          refine wi_goto ct_77_91 ?_
          refine wi_iret ct_77_95 rfl (wk_i ?_)
          refine wi_aload_2 ct_211_516 ?_
          refine wi_aloadT_0 ct_211_517 ?_
          refine wi_iload_3 ct_211_518 ?_
          refine wi_ic ct_211_519 kc_1 ?_
          refine wi_iadd ct_211_520 rfl ?_
          refine wi_ialdT (j := I + 1) (x := a1) ct_211_521 (sL_SC hSr3) (i_in (i_add hi ki_1 (by omega)) (by omega)) (i_cl (i_add hi ki_1 (by omega)) (by omega)) ((Eq.trans (congrFun (hsr3.2.1 am_SC (by unfold am_SC; decide)) _) ((hsc _).trans e1))) ?_
          refine wi_aloadT_0 ct_211_522 ?_
          refine wi_iload_3 ct_211_523 ?_
          refine wi_ic ct_211_524 kc_2 ?_
          refine wi_iadd ct_211_525 rfl ?_
          refine wi_ialdT (j := I + 2) (x := a2) ct_211_526 (sL_SC hSr3) (i_in (i_add hi ki_2 (by omega)) (by omega)) (i_cl (i_add hi ki_2 (by omega)) (by omega)) ((Eq.trans (congrFun (hsr3.2.1 am_SC (by unfold am_SC; decide)) _) ((hsc _).trans e2))) ?_
          refine wi_cv2 (ls' := [some _, some _, some _]) ct_211_527 (Nat.le_of_ble_eq_true rfl) (by decide) (sT_31 hSr3) rfl (by decide) rfl rfl (Nat.le_of_ble_eq_true rfl) ?_
          refine wi_aload_0 ct_159_0 ?_
          refine wi_iload_1 ct_159_1 ?_
          refine wi_cv1 (ls' := [some _, some _]) ct_159_2 (Nat.le_of_ble_eq_true rfl) (by decide) (sT_31 hSr3) rfl (by decide) rfl rfl (Nat.le_of_ble_eq_true rfl) ?_
          refine wi_aload_0 ct_120_0 ?_
          refine wi_iload_1 ct_120_1 ?_
          refine wi_ic ct_120_2 kc_0 ?_
          refine wi_aload_0 ct_120_3 ?_
          refine wi_gf (x := fi 31 0) ct_120_4 (sT_31 hSr3) rfl rfl (hsr3.2.2.2 0 (by omega)) ?_
          refine wi_ic ct_120_7 kc_1 ?_
          refine wi_isub ct_120_8 rfl ?_
          refine wi_cv3 (ls' := [some _, some _, some _, some _]) ct_120_9 (Nat.le_of_ble_eq_true rfl) (by decide) (sT_31 hSr3) rfl (by decide) rfl rfl (Nat.le_of_ble_eq_true rfl) ?_
          refine c_in hBn ki_0 (i_sub rfl ki_1 (by omega)) (fun _ => wk_i ?_) (fun h => absurd h (by omega))
          refine wi_iret ct_120_12 (by decide) (wk_i ?_)
          refine wi_ifeq_f ct_159_5 ki_1 (by decide) ?_
          refine wi_aload_0 ct_159_8 ?_
          refine wi_iload_2 ct_159_9 ?_
          refine wi_ic ct_159_10 kc_0 ?_
          refine wi_ic ct_159_11 kc_4 ?_
          refine wi_cv3 (ls' := [some _, some _, some _, some _]) ct_159_12 (Nat.le_of_ble_eq_true rfl) (by decide) (sT_31 hSr3) rfl (by decide) rfl rfl (Nat.le_of_ble_eq_true rfl) ?_
          refine c_in rfl ki_0 ki_4 (fun _ => wk_i ?_) (fun h => absurd h (by omega))
          refine wi_ifne_t ct_159_15 ki_1 (by decide) ?_
          refine wi_aload_0 ct_159_20 ?_
          refine wi_iload_1 ct_159_21 ?_
          refine wi_aload_0 ct_159_22 ?_
          refine wi_gf (x := fi 31 1) ct_159_23 (sT_31 hSr3) rfl rfl (hsr3.2.2.2 1 (by omega)) ?_
          refine wi_cv2 (ls' := [some _, some _, some _, none, none, none, none]) ct_159_26 (Nat.le_of_ble_eq_true rfl) (by decide) (sT_31 hSr3) rfl (by decide) rfl rfl (Nat.le_of_ble_eq_true rfl) ?_
          refine c_goR (m0 := (fi 31 1).toInt) hSr3 hmb hsr3 hBn (by omega) (by omega) (fun Ro14 fo14 ho14_e hso14 ho14_f ho14_30 ho14_31 ho14_32 ho14_33 ho14_34 => wk_v ?_)
          have hbdo14 := goR_bd (SQs_v hsq) (by omega) ((film_bd d9 hGb).2) ho14_e
          have hRRo14 : Rr3 = Ro14 := hr3_e.trans ho14_e.symm
          subst hRRo14
          refine wi_iload_2 ct_159_29 ?_
          refine wi_tsw (X := 2) (t := 70) ct_159_30 (by omega) rfl ?_
          refine wi_aload_0 ct_159_70 ?_
          refine wi_gf (x := fo14 31 34) ct_159_71 (sT_31 hSr3) rfl rfl rfl ?_
          refine wi_ifeq_f ct_159_74 (congrArg Int32.toInt ho14_34) (by omega) ?_
          refine wi_ic ct_159_77 kc_1 ?_
          refine wi_goto ct_159_78 ?_
          refine wi_iret ct_159_82 rfl (wk_i ?_)
          refine wi_iceq_t ct_211_530 ki_1 ki_1 (by decide) ?_
          exact kk own _ _ fl (hR.scr hso14) (by rw [hso14.nx]; omega) (by rw [hso14.sl]; omega)
      rcases Decidable.em ((a2).toInt = 3) with h16 | h16
      · refine wi_tsw (X := 3) (t := 96) ct_77_35 (by omega) rfl ?_
        refine wi_aload_0 ct_77_96 ?_
        refine wi_gfr ct_77_97 (sT_0 hSr3) rfl (sR_0_2 hSr3) ?_
        refine wi_gf (x := fr3 15 12) ct_77_100 (sT_15 hSr3) rfl rfl rfl ?_
        refine wi_iret ct_77_103 rfl (wk_i ?_)
        refine wi_aload_2 ct_211_516 ?_
        refine wi_aloadT_0 ct_211_517 ?_
        refine wi_iload_3 ct_211_518 ?_
        refine wi_ic ct_211_519 kc_1 ?_
        refine wi_iadd ct_211_520 rfl ?_
        refine wi_ialdT (j := I + 1) (x := a1) ct_211_521 (sL_SC hSr3) (i_in (i_add hi ki_1 (by omega)) (by omega)) (i_cl (i_add hi ki_1 (by omega)) (by omega)) ((Eq.trans (congrFun (hsr3.2.1 am_SC (by unfold am_SC; decide)) _) ((hsc _).trans e1))) ?_
        refine wi_aloadT_0 ct_211_522 ?_
        refine wi_iload_3 ct_211_523 ?_
        refine wi_ic ct_211_524 kc_2 ?_
        refine wi_iadd ct_211_525 rfl ?_
        refine wi_ialdT (j := I + 2) (x := a2) ct_211_526 (sL_SC hSr3) (i_in (i_add hi ki_2 (by omega)) (by omega)) (i_cl (i_add hi ki_2 (by omega)) (by omega)) ((Eq.trans (congrFun (hsr3.2.1 am_SC (by unfold am_SC; decide)) _) ((hsc _).trans e2))) ?_
        refine wi_cv2 (ls' := [some _, some _, some _]) ct_211_527 (Nat.le_of_ble_eq_true rfl) (by decide) (sT_31 hSr3) rfl (by decide) rfl rfl (Nat.le_of_ble_eq_true rfl) ?_
        refine wi_aload_0 ct_159_0 ?_
        refine wi_iload_1 ct_159_1 ?_
        refine wi_cv1 (ls' := [some _, some _]) ct_159_2 (Nat.le_of_ble_eq_true rfl) (by decide) (sT_31 hSr3) rfl (by decide) rfl rfl (Nat.le_of_ble_eq_true rfl) ?_
        refine wi_aload_0 ct_120_0 ?_
        refine wi_iload_1 ct_120_1 ?_
        refine wi_ic ct_120_2 kc_0 ?_
        refine wi_aload_0 ct_120_3 ?_
        refine wi_gf (x := fi 31 0) ct_120_4 (sT_31 hSr3) rfl rfl (hsr3.2.2.2 0 (by omega)) ?_
        refine wi_ic ct_120_7 kc_1 ?_
        refine wi_isub ct_120_8 rfl ?_
        refine wi_cv3 (ls' := [some _, some _, some _, some _]) ct_120_9 (Nat.le_of_ble_eq_true rfl) (by decide) (sT_31 hSr3) rfl (by decide) rfl rfl (Nat.le_of_ble_eq_true rfl) ?_
        refine c_in hBn ki_0 (i_sub rfl ki_1 (by omega)) (fun _ => wk_i ?_) (fun h => absurd h (by omega))
        refine wi_iret ct_120_12 (by decide) (wk_i ?_)
        refine wi_ifeq_f ct_159_5 ki_1 (by decide) ?_
        refine wi_aload_0 ct_159_8 ?_
        refine wi_iload_2 ct_159_9 ?_
        refine wi_ic ct_159_10 kc_0 ?_
        refine wi_ic ct_159_11 kc_4 ?_
        refine wi_cv3 (ls' := [some _, some _, some _, some _]) ct_159_12 (Nat.le_of_ble_eq_true rfl) (by decide) (sT_31 hSr3) rfl (by decide) rfl rfl (Nat.le_of_ble_eq_true rfl) ?_
        refine c_in rfl ki_0 ki_4 (fun _ => wk_i ?_) (fun h => absurd h (by omega))
        refine wi_ifne_t ct_159_15 ki_1 (by decide) ?_
        refine wi_aload_0 ct_159_20 ?_
        refine wi_iload_1 ct_159_21 ?_
        refine wi_aload_0 ct_159_22 ?_
        refine wi_gf (x := fi 31 1) ct_159_23 (sT_31 hSr3) rfl rfl (hsr3.2.2.2 1 (by omega)) ?_
        refine wi_cv2 (ls' := [some _, some _, some _, none, none, none, none]) ct_159_26 (Nat.le_of_ble_eq_true rfl) (by decide) (sT_31 hSr3) rfl (by decide) rfl rfl (Nat.le_of_ble_eq_true rfl) ?_
        refine c_goR (m0 := (fi 31 1).toInt) hSr3 hmb hsr3 hBn (by omega) (by omega) (fun Ro17 fo17 ho17_e hso17 ho17_f ho17_30 ho17_31 ho17_32 ho17_33 ho17_34 => wk_v ?_)
        have hbdo17 := goR_bd (SQs_v hsq) (by omega) ((film_bd d9 hGb).2) ho17_e
        have hRRo17 : Rr3 = Ro17 := hr3_e.trans ho17_e.symm
        subst hRRo17
        refine wi_iload_2 ct_159_29 ?_
        refine wi_tsw (X := 3) (t := 83) ct_159_30 (by omega) rfl ?_
        refine wi_aload_0 ct_159_83 ?_
        refine wi_gf (x := fo17 31 32) ct_159_84 (sT_31 hSr3) rfl rfl rfl ?_
        refine wi_iret ct_159_87 rfl (wk_i ?_)
        refine wi_iceq_t ct_211_530 hr3_12 ho17_32 (by omega) ?_
        exact kk own _ _ fl (hR.scr hso17) (by rw [hso17.nx]; omega) (by rw [hso17.sl]; omega)
      refine wi_tsw (t := 104) ct_77_35 rfl ((am_tswD (by omega)).trans rfl) ?_
      refine wi_aload_0 ct_77_104 ?_
      refine wi_gfr ct_77_105 (sT_0 hSr3) rfl (sR_0_2 hSr3) ?_
      refine wi_gf (x := fr3 15 10) ct_77_108 (sT_15 hSr3) rfl rfl rfl ?_
      refine wi_iret ct_77_111 rfl (wk_i ?_)
      refine wi_aload_2 ct_211_516 ?_
      refine wi_aloadT_0 ct_211_517 ?_
      refine wi_iload_3 ct_211_518 ?_
      refine wi_ic ct_211_519 kc_1 ?_
      refine wi_iadd ct_211_520 rfl ?_
      refine wi_ialdT (j := I + 1) (x := a1) ct_211_521 (sL_SC hSr3) (i_in (i_add hi ki_1 (by omega)) (by omega)) (i_cl (i_add hi ki_1 (by omega)) (by omega)) ((Eq.trans (congrFun (hsr3.2.1 am_SC (by unfold am_SC; decide)) _) ((hsc _).trans e1))) ?_
      refine wi_aloadT_0 ct_211_522 ?_
      refine wi_iload_3 ct_211_523 ?_
      refine wi_ic ct_211_524 kc_2 ?_
      refine wi_iadd ct_211_525 rfl ?_
      refine wi_ialdT (j := I + 2) (x := a2) ct_211_526 (sL_SC hSr3) (i_in (i_add hi ki_2 (by omega)) (by omega)) (i_cl (i_add hi ki_2 (by omega)) (by omega)) ((Eq.trans (congrFun (hsr3.2.1 am_SC (by unfold am_SC; decide)) _) ((hsc _).trans e2))) ?_
      refine wi_cv2 (ls' := [some _, some _, some _]) ct_211_527 (Nat.le_of_ble_eq_true rfl) (by decide) (sT_31 hSr3) rfl (by decide) rfl rfl (Nat.le_of_ble_eq_true rfl) ?_
      refine wi_aload_0 ct_159_0 ?_
      refine wi_iload_1 ct_159_1 ?_
      refine wi_cv1 (ls' := [some _, some _]) ct_159_2 (Nat.le_of_ble_eq_true rfl) (by decide) (sT_31 hSr3) rfl (by decide) rfl rfl (Nat.le_of_ble_eq_true rfl) ?_
      refine wi_aload_0 ct_120_0 ?_
      refine wi_iload_1 ct_120_1 ?_
      refine wi_ic ct_120_2 kc_0 ?_
      refine wi_aload_0 ct_120_3 ?_
      refine wi_gf (x := fi 31 0) ct_120_4 (sT_31 hSr3) rfl rfl (hsr3.2.2.2 0 (by omega)) ?_
      refine wi_ic ct_120_7 kc_1 ?_
      refine wi_isub ct_120_8 rfl ?_
      refine wi_cv3 (ls' := [some _, some _, some _, some _]) ct_120_9 (Nat.le_of_ble_eq_true rfl) (by decide) (sT_31 hSr3) rfl (by decide) rfl rfl (Nat.le_of_ble_eq_true rfl) ?_
      refine c_in hBn ki_0 (i_sub rfl ki_1 (by omega)) (fun _ => wk_i ?_) (fun h => absurd h (by omega))
      refine wi_iret ct_120_12 (by decide) (wk_i ?_)
      refine wi_ifeq_f ct_159_5 ki_1 (by decide) ?_
      refine wi_aload_0 ct_159_8 ?_
      refine wi_iload_2 ct_159_9 ?_
      refine wi_ic ct_159_10 kc_0 ?_
      refine wi_ic ct_159_11 kc_4 ?_
      refine wi_cv3 (ls' := [some _, some _, some _, some _]) ct_159_12 (Nat.le_of_ble_eq_true rfl) (by decide) (sT_31 hSr3) rfl (by decide) rfl rfl (Nat.le_of_ble_eq_true rfl) ?_
      refine c_in rfl ki_0 ki_4 (fun _ => wk_i ?_) (fun h => absurd h (by omega))
      refine wi_ifne_t ct_159_15 ki_1 (by decide) ?_
      refine wi_aload_0 ct_159_20 ?_
      refine wi_iload_1 ct_159_21 ?_
      refine wi_aload_0 ct_159_22 ?_
      refine wi_gf (x := fi 31 1) ct_159_23 (sT_31 hSr3) rfl rfl (hsr3.2.2.2 1 (by omega)) ?_
      refine wi_cv2 (ls' := [some _, some _, some _, none, none, none, none]) ct_159_26 (Nat.le_of_ble_eq_true rfl) (by decide) (sT_31 hSr3) rfl (by decide) rfl rfl (Nat.le_of_ble_eq_true rfl) ?_
      refine c_goR (m0 := (fi 31 1).toInt) hSr3 hmb hsr3 hBn (by omega) (by omega) (fun Ro19 fo19 ho19_e hso19 ho19_f ho19_30 ho19_31 ho19_32 ho19_33 ho19_34 => wk_v ?_)
      have hbdo19 := goR_bd (SQs_v hsq) (by omega) ((film_bd d9 hGb).2) ho19_e
      have hRRo19 : Rr3 = Ro19 := hr3_e.trans ho19_e.symm
      subst hRRo19
      refine wi_iload_2 ct_159_29 ?_
      refine wi_tsw (t := 88) ct_159_30 rfl ((am_tswD (by omega)).trans rfl) ?_
      refine wi_aload_0 ct_159_88 ?_
      refine wi_gf (x := fo19 31 33) ct_159_89 (sT_31 hSr3) rfl rfl rfl ?_
      refine wi_iret ct_159_92 rfl (wk_i ?_)
      refine wi_iceq_t ct_211_530 hr3_10 ho19_33 (by omega) ?_
      exact kk own _ _ fl (hR.scr hso19) (by rw [hso19.nx]; omega) (by rw [hso19.sl]; omega)
    · skip
      refine wi_ifne_f ct_77_16 ki_0 (by decide) ?_
      refine wi_ic ct_77_19 kc_m1 ?_
      refine wi_iret ct_77_20 rfl (wk_i ?_)
      refine wi_aload_2 ct_211_516 ?_
      refine wi_aloadT_0 ct_211_517 ?_
      refine wi_iload_3 ct_211_518 ?_
      refine wi_ic ct_211_519 kc_1 ?_
      refine wi_iadd ct_211_520 rfl ?_
      refine wi_ialdT (j := I + 1) (x := a1) ct_211_521 (sL_SC hS) (i_in (i_add hi ki_1 (by omega)) (by omega)) (i_cl (i_add hi ki_1 (by omega)) (by omega)) (((hsc _).trans e1)) ?_
      refine wi_aloadT_0 ct_211_522 ?_
      refine wi_iload_3 ct_211_523 ?_
      refine wi_ic ct_211_524 kc_2 ?_
      refine wi_iadd ct_211_525 rfl ?_
      refine wi_ialdT (j := I + 2) (x := a2) ct_211_526 (sL_SC hS) (i_in (i_add hi ki_2 (by omega)) (by omega)) (i_cl (i_add hi ki_2 (by omega)) (by omega)) (((hsc _).trans e2)) ?_
      refine wi_cv2 (ls' := [some _, some _, some _]) ct_211_527 (Nat.le_of_ble_eq_true rfl) (by decide) (sT_31 hS) rfl (by decide) rfl rfl (Nat.le_of_ble_eq_true rfl) ?_
      refine wi_aload_0 ct_159_0 ?_
      refine wi_iload_1 ct_159_1 ?_
      refine wi_cv1 (ls' := [some _, some _]) ct_159_2 (Nat.le_of_ble_eq_true rfl) (by decide) (sT_31 hS) rfl (by decide) rfl rfl (Nat.le_of_ble_eq_true rfl) ?_
      refine wi_aload_0 ct_120_0 ?_
      refine wi_iload_1 ct_120_1 ?_
      refine wi_ic ct_120_2 kc_0 ?_
      refine wi_aload_0 ct_120_3 ?_
      refine wi_gf (x := fi 31 0) ct_120_4 (sT_31 hS) rfl rfl rfl ?_
      refine wi_ic ct_120_7 kc_1 ?_
      refine wi_isub ct_120_8 rfl ?_
      refine wi_cv3 (ls' := [some _, some _, some _, some _]) ct_120_9 (Nat.le_of_ble_eq_true rfl) (by decide) (sT_31 hS) rfl (by decide) rfl rfl (Nat.le_of_ble_eq_true rfl) ?_
      refine c_in hBn ki_0 (i_sub rfl ki_1 (by omega)) (fun _ => wk_i ?_) (fun h => absurd h (by omega))
      refine wi_iret ct_120_12 (by decide) (wk_i ?_)
      refine wi_ifeq_f ct_159_5 ki_1 (by decide) ?_
      refine wi_aload_0 ct_159_8 ?_
      refine wi_iload_2 ct_159_9 ?_
      refine wi_ic ct_159_10 kc_0 ?_
      refine wi_ic ct_159_11 kc_4 ?_
      refine wi_cv3 (ls' := [some _, some _, some _, some _]) ct_159_12 (Nat.le_of_ble_eq_true rfl) (by decide) (sT_31 hS) rfl (by decide) rfl rfl (Nat.le_of_ble_eq_true rfl) ?_
      refine c_in rfl ki_0 ki_4 (fun h => absurd h (by omega)) (fun _ => wk_i ?_)
      refine wi_ifne_f ct_159_15 ki_0 (by decide) ?_
      refine wi_ic ct_159_18 kc_m1 ?_
      refine wi_iret ct_159_19 rfl (wk_i ?_)
      refine wi_iceq_t ct_211_530 ki_m1 ki_m1 (by decide) ?_
      exact kk own g fi fl hR (by omega) (by omega)
  · skip
    refine wi_aload_1 ct_211_502 ?_
    refine wi_aloadT_0 ct_211_503 ?_
    refine wi_iload_3 ct_211_504 ?_
    refine wi_ic ct_211_505 kc_1 ?_
    refine wi_iadd ct_211_506 rfl ?_
    refine wi_ialdT (j := I + 1) (x := a1) ct_211_507 (sL_SC hS) (i_in (i_add hi ki_1 (by omega)) (by omega)) (i_cl (i_add hi ki_1 (by omega)) (by omega)) (((hsc _).trans e1)) ?_
    refine wi_aloadT_0 ct_211_508 ?_
    refine wi_iload_3 ct_211_509 ?_
    refine wi_ic ct_211_510 kc_2 ?_
    refine wi_iadd ct_211_511 rfl ?_
    refine wi_ialdT (j := I + 2) (x := a2) ct_211_512 (sL_SC hS) (i_in (i_add hi ki_2 (by omega)) (by omega)) (i_cl (i_add hi ki_2 (by omega)) (by omega)) (((hsc _).trans e2)) ?_
    refine wi_cv2 (ls' := [some _, some _, some _, none]) ct_211_513 (Nat.le_of_ble_eq_true rfl) (by decide) (sT_0 hS) rfl (by decide) rfl rfl (Nat.le_of_ble_eq_true rfl) ?_
    refine wi_aload_0 ct_77_0 ?_
    refine wi_iload_1 ct_77_1 ?_
    refine wi_cv1 (ls' := [some _, some _]) ct_77_2 (Nat.le_of_ble_eq_true rfl) (by decide) (sT_0 hS) rfl (by decide) rfl rfl (Nat.le_of_ble_eq_true rfl) ?_
    refine wi_iload_1 ct_104_0 ?_
    refine wi_ic ct_104_1 kc_0 ?_
    refine wi_aload_0 ct_104_2 ?_
    refine wi_gfr ct_104_3 (sT_0 hS) rfl (sR_0_0 hS) ?_
    refine wi_gf (x := fi 31 0) ct_104_6 (sT_1 hS) rfl rfl c0 ?_
    refine wi_ic ct_104_9 kc_1 ?_
    refine wi_isub ct_104_10 rfl ?_
    refine wi_cs3 (ls' := [some _, some _, some _]) ct_104_11 (Nat.le_of_ble_eq_true rfl) rfl (Nat.le_of_ble_eq_true rfl) ?_
    refine c_within rfl ki_0 (i_sub rfl ki_1 (by omega)) (fun h => absurd h (by omega)) (fun _ => wk_i ?_)
    refine wi_ifeq_t ct_104_14 ki_0 (by decide) ?_
    refine wi_null ct_104_29 ?_
    refine wi_aretn ct_104_30 (wk_n ?_)
    refine wi_astoreN_3 rfl ct_77_5 ?_
    refine wi_aloadN_3 ct_77_6 ?_
    refine wi_ifnull_n ct_77_7 ?_
    refine wi_ic ct_77_19 kc_m1 ?_
    refine wi_iret ct_77_20 rfl (wk_i ?_)
    refine wi_aload_2 ct_211_516 ?_
    refine wi_aloadT_0 ct_211_517 ?_
    refine wi_iload_3 ct_211_518 ?_
    refine wi_ic ct_211_519 kc_1 ?_
    refine wi_iadd ct_211_520 rfl ?_
    refine wi_ialdT (j := I + 1) (x := a1) ct_211_521 (sL_SC hS) (i_in (i_add hi ki_1 (by omega)) (by omega)) (i_cl (i_add hi ki_1 (by omega)) (by omega)) (((hsc _).trans e1)) ?_
    refine wi_aloadT_0 ct_211_522 ?_
    refine wi_iload_3 ct_211_523 ?_
    refine wi_ic ct_211_524 kc_2 ?_
    refine wi_iadd ct_211_525 rfl ?_
    refine wi_ialdT (j := I + 2) (x := a2) ct_211_526 (sL_SC hS) (i_in (i_add hi ki_2 (by omega)) (by omega)) (i_cl (i_add hi ki_2 (by omega)) (by omega)) (((hsc _).trans e2)) ?_
    refine wi_cv2 (ls' := [some _, some _, some _]) ct_211_527 (Nat.le_of_ble_eq_true rfl) (by decide) (sT_31 hS) rfl (by decide) rfl rfl (Nat.le_of_ble_eq_true rfl) ?_
    refine wi_aload_0 ct_159_0 ?_
    refine wi_iload_1 ct_159_1 ?_
    refine wi_cv1 (ls' := [some _, some _]) ct_159_2 (Nat.le_of_ble_eq_true rfl) (by decide) (sT_31 hS) rfl (by decide) rfl rfl (Nat.le_of_ble_eq_true rfl) ?_
    refine wi_aload_0 ct_120_0 ?_
    refine wi_iload_1 ct_120_1 ?_
    refine wi_ic ct_120_2 kc_0 ?_
    refine wi_aload_0 ct_120_3 ?_
    refine wi_gf (x := fi 31 0) ct_120_4 (sT_31 hS) rfl rfl rfl ?_
    refine wi_ic ct_120_7 kc_1 ?_
    refine wi_isub ct_120_8 rfl ?_
    refine wi_cv3 (ls' := [some _, some _, some _, some _]) ct_120_9 (Nat.le_of_ble_eq_true rfl) (by decide) (sT_31 hS) rfl (by decide) rfl rfl (Nat.le_of_ble_eq_true rfl) ?_
    refine c_in rfl ki_0 (i_sub rfl ki_1 (by omega)) (fun h => absurd h (by omega)) (fun _ => wk_i ?_)
    refine wi_iret ct_120_12 (by decide) (wk_i ?_)
    refine wi_ifeq_t ct_159_5 ki_0 (by decide) ?_
    refine wi_ic ct_159_18 kc_m1 ?_
    refine wi_iret ct_159_19 rfl (wk_i ?_)
    refine wi_iceq_t ct_211_530 ki_m1 ki_m1 (by decide) ?_
    exact kk own g fi fl hR (by omega) (by omega)
set_option maxHeartbeats 2000000 in
theorem op_calm {L I : Nat} {xs : Nat → Int32} {own : Nat → Nat} {d : Nat} {g : am_G} {fi : am_I} {fl : am_L} {P : Option Value → am_G → am_I → am_L → Prop} {i : Int32} (hi : i.toInt = (I : Int)) (hI6 : I + 6 ≤ L) (hL : L ≤ 3072) (hR : Rel L xs own g fi fl) (hnx : am_nx g ≤ 800000) (kk : ∀ own' g' fi' fl', Rel L xs own' g' fi' fl' → am_nx g' ≤ am_nx g + 30 → am_sl g' ≤ am_sl g + 1000 → WP (d + 60) 211 1359 [some (.retAddr 0), some (.ref 0), some (.ref 31), some (.int i)] [] g' fi' fl' P) : WP (d + 60) 211 812 [some (.retAddr 0), some (.ref 0), some (.ref 31), some (.int i)] [] g fi fl P := by
  obtain ⟨hS, hsc, hC, hK, hX, hV, hT, hP, hB, hN, hQ, hZ, hI⟩ := id hR
  obtain ⟨⟨c0, c0a, c0b⟩, ⟨c1, c1a, c1b⟩, ⟨c2, c2a, c2b⟩, ⟨c3, c3a, c3b⟩, ⟨c4, c4a, c4b⟩, ⟨c5, c5a, c5b⟩, ⟨c6, c6a, c6b⟩, ⟨c7, c7a, c7b⟩, c8, c9⟩ := id hC
  obtain ⟨a1, e1⟩ : ∃ a, xs (I + 1) = a := ⟨_, rfl⟩
  by_cases hA : 0 ≤ (a1).toInt ∧ (a1).toInt < (fi 31 0).toInt
  · skip
    obtain ⟨B, hBa⟩ : ∃ B : Nat, (a1).toInt = (B : Int) := ⟨(a1).toInt.toNat, by omega⟩
    have hBn := hBa
    obtain ⟨p, r, kd, v, cd, aim, co, row, hW⟩ := BLW.of hB c0b (B := B) (by omega)
    obtain ⟨sq, hsq, hsx⟩ := sq_of hR
    obtain ⟨hB5, hO, w32, w33, w34, w35, w36, w37, k6, v9, d9, a60, co9, r9⟩ := id hW
    obtain ⟨o0, ⟨o72, onx, oow⟩, ot, ok, on, ov, oc, oa, om, orw⟩ := id hO
    have kq := fun j (h : j < 3) => (hK j (by omega)).2
    have hk0 := kq 0 (by decide)
    have hk1 := kq 1 (by decide)
    have hk2 := kq 2 (by decide)
    replace hk0 := And.intro hk0.1 (hk0.2.2 (by decide))
    replace hk1 := And.intro hk1.1 (hk1.2.2 (by decide))
    replace hk2 := And.intro hk2.1 (hk2.2.2 (by decide))
    have hGb := goodV_bd hk0 hk1 hk2
    have hmb := MB.of hR hW hsq
    refine wi_aload_1 ct_211_812 ?_
    refine wi_aloadT_0 ct_211_813 ?_
    refine wi_iload_3 ct_211_814 ?_
    refine wi_ic ct_211_815 kc_1 ?_
    refine wi_iadd ct_211_816 rfl ?_
    refine wi_ialdT (j := I + 1) (x := a1) ct_211_817 (sL_SC hS) (i_in (i_add hi ki_1 (by omega)) (by omega)) (i_cl (i_add hi ki_1 (by omega)) (by omega)) (((hsc _).trans e1)) ?_
    refine wi_cv1 (ls' := [some _, some _, none, none]) ct_211_818 (Nat.le_of_ble_eq_true rfl) (by decide) (sT_0 hS) rfl (by decide) rfl rfl (Nat.le_of_ble_eq_true rfl) ?_
    refine wi_aload_0 ct_87_0 ?_
    refine wi_iload_1 ct_87_1 ?_
    refine wi_cv1 (ls' := [some _, some _]) ct_87_2 (Nat.le_of_ble_eq_true rfl) (by decide) (sT_0 hS) rfl (by decide) rfl rfl (Nat.le_of_ble_eq_true rfl) ?_
    refine wi_iload_1 ct_104_0 ?_
    refine wi_ic ct_104_1 kc_0 ?_
    refine wi_aload_0 ct_104_2 ?_
    refine wi_gfr ct_104_3 (sT_0 hS) rfl (sR_0_0 hS) ?_
    refine wi_gf (x := fi 31 0) ct_104_6 (sT_1 hS) rfl rfl c0 ?_
    refine wi_ic ct_104_9 kc_1 ?_
    refine wi_isub ct_104_10 rfl ?_
    refine wi_cs3 (ls' := [some _, some _, some _]) ct_104_11 (Nat.le_of_ble_eq_true rfl) rfl (Nat.le_of_ble_eq_true rfl) ?_
    refine c_within hBn ki_0 (i_sub rfl ki_1 (by omega)) (fun _ => wk_i ?_) (fun h => absurd h (by omega))
    refine wi_ifeq_f ct_104_14 ki_1 (by decide) ?_
    refine wi_aload_0 ct_104_17 ?_
    refine wi_gfr ct_104_18 (sT_0 hS) rfl (sR_0_0 hS) ?_
    refine wi_gfr ct_104_21 (sT_1 hS) rfl (sR_1_0 hS) ?_
    refine wi_iload_1 ct_104_24 ?_
    refine wi_aald ct_104_25 (sT_2 hS) (by decide) (sL_2 hS) (i_in hBn (by omega)) (i_cl (k := B) hBn (by omega)) o0 ?_
    refine wi_goto ct_104_26 ?_
    refine wi_aret ct_104_30 (wk_r ?_)
    refine wi_astore_2 rfl ct_87_5 ?_
    refine wi_aload_2 ct_87_6 ?_
    refine wi_ifnonnull_r ct_87_7 ?_
    refine wi_aload_0 ct_87_13 ?_
    refine wi_aload_2 ct_87_14 ?_
    refine wi_cv1 (ls' := [some _, some _]) ct_87_15 (Nat.le_of_ble_eq_true rfl) (by decide) (sT_0 hS) rfl (by decide) rfl rfl (Nat.le_of_ble_eq_true rfl) ?_
    refine c_begin hR SCR.rfl hW hsq hsx (fun gb1 fb1 hsb1 hfb1 hkb1 hb1_1 hb1_2 hb1_3 hb1_4 hb1_5 hb1_6 => wk_v ?_)
    have hSb1 := (hR.scr hsb1).1
    refine wi_aload_0 ct_87_18 ?_
    refine wi_gfr ct_87_19 (sT_0 hSb1) rfl (sR_0_2 hSb1) ?_
    refine wi_aload_2 ct_87_22 ?_
    refine wi_cv1 (ls' := [some _, some _, none]) ct_87_23 (Nat.le_of_ble_eq_true rfl) (by decide) (sT_15 hSb1) rfl (by decide) rfl rfl (Nat.le_of_ble_eq_true rfl) ?_
    refine c_runR (cd2 := cd) (aim2 := aim) (G := (goodV (fi 38 0).toInt (fi 38 1).toInt (fi 38 2).toInt)) (m0 := (fi 31 1).toInt) (gust := 0) (calm := false) hR hsb1 hW hkb1 (hb1_1.trans (by omega)) (hb1_2.trans (by omega)) (hb1_3.trans (by omega)) ((congrArg Int32.toInt hb1_4).trans (by omega)) (((congrArg Int32.toInt hb1_5).trans ki_0).trans (by omega)) (hb1_6.trans rfl) (by omega) (by omega) (by omega) (by omega) (by omega) (fun Rr2 fr2 hr2_e hsr2 hr2_f hr2_7 hr2_11 hr2_12 hr2_10 hr2_4 hr2_13 hr2_j => wk_v ?_)
    have hSr2 := (hR.scr hsr2).1
    have hbdr2 := goR_bd (SQs_v hsq) (by omega) ((film_bd d9 hGb).2) hr2_e
    have htor2 := bI_bd (!Rr2.1)
    refine wi_aload_0 ct_87_26 ?_
    refine wi_gfr ct_87_27 (sT_0 hSr2) rfl (sR_0_2 hSr2) ?_
    refine wi_gf (x := fr2 15 12) ct_87_30 (sT_15 hSr2) rfl rfl rfl ?_
    refine wi_istore_3 rfl ct_87_33 ?_
    refine wi_aload_0 ct_87_34 ?_
    refine wi_aload_2 ct_87_35 ?_
    refine wi_cv1 (ls' := [some _, some _]) ct_87_36 (Nat.le_of_ble_eq_true rfl) (by decide) (sT_0 hSr2) rfl (by decide) rfl rfl (Nat.le_of_ble_eq_true rfl) ?_
    refine c_begin hR hsr2 hW hsq hsx (fun gb3 fb3 hsb3 hfb3 hkb3 hb3_1 hb3_2 hb3_3 hb3_4 hb3_5 hb3_6 => wk_v ?_)
    have hSb3 := (hR.scr hsb3).1
    refine wi_aload_0 ct_87_39 ?_
    refine wi_gfr ct_87_40 (sT_0 hSb3) rfl (sR_0_2 hSb3) ?_
    refine wi_ic ct_87_43 kc_1 ?_
    refine wi_pfz ct_87_44 (sT_15 hSb3) rfl (by decide) ?_
    refine wi_aload_0 ct_87_47 ?_
    refine wi_gfr ct_87_48 (sT_0 hSb3) rfl (sR_0_2 hSb3) ?_
    refine wi_aload_2 ct_87_51 ?_
    refine wi_cv1 (ls' := [some _, some _, none]) ct_87_52 (Nat.le_of_ble_eq_true rfl) (by decide) (sT_15 hSb3) rfl (by decide) rfl rfl (Nat.le_of_ble_eq_true rfl) ?_
    refine c_runR (cd2 := cd) (aim2 := aim) (G := (goodV (fi 38 0).toInt (fi 38 1).toInt (fi 38 2).toInt)) (m0 := (fi 31 1).toInt) (gust := 0) (calm := true) hR (hsb3.w (by omega)) hW (hkb3.fr (fun q hq => (funext fun _ => up2_nq (by omega)))) (((congrArg Int32.toInt (up2_nj (by decide))).trans hb3_1).trans (by omega)) (((congrArg Int32.toInt (up2_nj (by decide))).trans hb3_2).trans (by omega)) (((congrArg Int32.toInt (up2_nj (by decide))).trans hb3_3).trans (by omega)) ((congrArg Int32.toInt (Eq.trans (up2_nj (by decide)) hb3_4)).trans (by omega)) (((congrArg Int32.toInt (Eq.trans (up2_nj (by decide)) hb3_5)).trans ki_0).trans (by omega)) (up2_eq.trans rfl) (by omega) (by omega) (by omega) (by omega) (by omega) (fun Rr4 fr4 hr4_e hsr4 hr4_f hr4_7 hr4_11 hr4_12 hr4_10 hr4_4 hr4_13 hr4_j => wk_v ?_)
    have hSr4 := (hR.scr hsr4).1
    have hbdr4 := goR_bd (SQs_v hsq) (by omega) ((film_bd d9 hGb).2) hr4_e
    have htor4 := bI_bd (!Rr4.1)
    refine wi_aload_0 ct_87_55 ?_
    refine wi_gfr ct_87_56 (sT_0 hSr4) rfl (sR_0_2 hSr4) ?_
    refine wi_gf (x := fr4 15 12) ct_87_59 (sT_15 hSr4) rfl rfl rfl ?_
    refine wi_iload_3 ct_87_62 ?_
    refine wi_isub ct_87_63 rfl ?_
    refine wi_iret ct_87_64 rfl (wk_i ?_)
    refine wi_aload_2 ct_211_821 ?_
    refine wi_aloadT_0 ct_211_822 ?_
    refine wi_iload_3 ct_211_823 ?_
    refine wi_ic ct_211_824 kc_1 ?_
    refine wi_iadd ct_211_825 rfl ?_
    refine wi_ialdT (j := I + 1) (x := a1) ct_211_826 (sL_SC hSr4) (i_in (i_add hi ki_1 (by omega)) (by omega)) (i_cl (i_add hi ki_1 (by omega)) (by omega)) ((Eq.trans (congrFun (hsr4.2.1 am_SC (by unfold am_SC; decide)) _) ((hsc _).trans e1))) ?_
    refine wi_cv1 (ls' := [some _, some _, none]) ct_211_827 (Nat.le_of_ble_eq_true rfl) (by decide) (sT_31 hSr4) rfl (by decide) rfl rfl (Nat.le_of_ble_eq_true rfl) ?_
    refine wi_aload_0 ct_172_0 ?_
    refine wi_iload_1 ct_172_1 ?_
    refine wi_cv1 (ls' := [some _, some _]) ct_172_2 (Nat.le_of_ble_eq_true rfl) (by decide) (sT_31 hSr4) rfl (by decide) rfl rfl (Nat.le_of_ble_eq_true rfl) ?_
    refine wi_aload_0 ct_120_0 ?_
    refine wi_iload_1 ct_120_1 ?_
    refine wi_ic ct_120_2 kc_0 ?_
    refine wi_aload_0 ct_120_3 ?_
    refine wi_gf (x := fi 31 0) ct_120_4 (sT_31 hSr4) rfl rfl (hsr4.2.2.2 0 (by omega)) ?_
    refine wi_ic ct_120_7 kc_1 ?_
    refine wi_isub ct_120_8 rfl ?_
    refine wi_cv3 (ls' := [some _, some _, some _, some _]) ct_120_9 (Nat.le_of_ble_eq_true rfl) (by decide) (sT_31 hSr4) rfl (by decide) rfl rfl (Nat.le_of_ble_eq_true rfl) ?_
    refine c_in hBn ki_0 (i_sub rfl ki_1 (by omega)) (fun _ => wk_i ?_) (fun h => absurd h (by omega))
    refine wi_iret ct_120_12 (by decide) (wk_i ?_)
    refine wi_ifne_t ct_172_5 ki_1 (by decide) ?_
    refine wi_aload_0 ct_172_12 ?_
    refine wi_ic ct_172_13 kc_1 ?_
    refine wi_pfz ct_172_14 (sT_31 hSr4) rfl (by decide) ?_
    refine wi_aload_0 ct_172_17 ?_
    refine wi_iload_1 ct_172_18 ?_
    refine wi_aload_0 ct_172_19 ?_
    refine wi_gf (x := fi 31 1) ct_172_20 (sT_31 hSr4) rfl rfl (Eq.trans (up2_nj (by decide)) (hsr4.2.2.2 1 (by omega))) ?_
    refine wi_cv2 (ls' := [some _, some _, some _]) ct_172_23 (Nat.le_of_ble_eq_true rfl) (by decide) (sT_31 hSr4) rfl (by decide) rfl rfl (Nat.le_of_ble_eq_true rfl) ?_
    refine wi_aload_0 ct_160_0 ?_
    refine wi_iload_1 ct_160_1 ?_
    refine wi_iload_2 ct_160_2 ?_
    refine wi_cv2 (ls' := [some _, some _, some _, none, none, none, none]) ct_160_3 (Nat.le_of_ble_eq_true rfl) (by decide) (sT_31 hSr4) rfl (by decide) rfl rfl (Nat.le_of_ble_eq_true rfl) ?_
    refine c_goR (m0 := (fi 31 1).toInt) hSr4 (hmb.calmq (x := 1) (c := true) rfl) (SCR.ww hsr4) hBn (by omega) (by omega) (fun Ro5 fo5 ho5_e hso5 ho5_f ho5_30 ho5_31 ho5_32 ho5_33 ho5_34 => wk_v ?_)
    have hbdo5 := goR_bd (SQs_v hsq) (by omega) ((film_bd d9 hGb).2) ho5_e
    have hRRo5 : Rr4 = Ro5 := hr4_e.trans ho5_e.symm
    subst hRRo5
    refine wi_aload_0 ct_160_6 ?_
    refine wi_gf (x := fo5 31 32) ct_160_7 (sT_31 hSr4) rfl rfl rfl ?_
    refine wi_iret ct_160_10 rfl (wk_i ?_)
    refine wi_istore_2 rfl ct_172_26 ?_
    refine wi_aload_0 ct_172_27 ?_
    refine wi_ic ct_172_28 kc_0 ?_
    refine wi_pfz ct_172_29 (sT_31 hSr4) rfl (by decide) ?_
    refine wi_iload_2 ct_172_32 ?_
    refine wi_aload_0 ct_172_33 ?_
    refine wi_iload_1 ct_172_34 ?_
    refine wi_aload_0 ct_172_35 ?_
    refine wi_gf (x := fi 31 1) ct_172_36 (sT_31 hSr4) rfl rfl (Eq.trans (up2_nj (by decide)) (Eq.trans (hso5.2.2.2 1 (by omega)) (up2_nj (by decide)))) ?_
    refine wi_cv2 (ls' := [some _, some _, some _]) ct_172_39 (Nat.le_of_ble_eq_true rfl) (by decide) (sT_31 hSr4) rfl (by decide) rfl rfl (Nat.le_of_ble_eq_true rfl) ?_
    refine wi_aload_0 ct_160_0 ?_
    refine wi_iload_1 ct_160_1 ?_
    refine wi_iload_2 ct_160_2 ?_
    refine wi_cv2 (ls' := [some _, some _, some _, none, none, none, none]) ct_160_3 (Nat.le_of_ble_eq_true rfl) (by decide) (sT_31 hSr4) rfl (by decide) rfl rfl (Nat.le_of_ble_eq_true rfl) ?_
    refine c_goR (m0 := (fi 31 1).toInt) hSr4 hmb (hso5.wr c8) hBn (by omega) (by omega) (fun Ro6 fo6 ho6_e hso6 ho6_f ho6_30 ho6_31 ho6_32 ho6_33 ho6_34 => wk_v ?_)
    have hbdo6 := goR_bd (SQs_v hsq) (by omega) ((film_bd d9 hGb).2) ho6_e
    have hRRo6 : Rr2 = Ro6 := hr2_e.trans ho6_e.symm
    subst hRRo6
    refine wi_aload_0 ct_160_6 ?_
    refine wi_gf (x := fo6 31 32) ct_160_7 (sT_31 hSr4) rfl rfl rfl ?_
    refine wi_iret ct_160_10 rfl (wk_i ?_)
    refine wi_isub ct_172_42 rfl ?_
    refine wi_iret ct_172_43 rfl (wk_i ?_)
    refine wi_iceq_t ct_211_830 (i_sub hr4_12 hr2_12 (by omega)) (i_sub ho5_32 ho6_32 (by omega)) (by omega) ?_
    exact kk own _ _ fl (hR.scr hso6) (by rw [hso6.nx]; omega) (by rw [hso6.sl]; omega)
  · skip
    refine wi_aload_1 ct_211_812 ?_
    refine wi_aloadT_0 ct_211_813 ?_
    refine wi_iload_3 ct_211_814 ?_
    refine wi_ic ct_211_815 kc_1 ?_
    refine wi_iadd ct_211_816 rfl ?_
    refine wi_ialdT (j := I + 1) (x := a1) ct_211_817 (sL_SC hS) (i_in (i_add hi ki_1 (by omega)) (by omega)) (i_cl (i_add hi ki_1 (by omega)) (by omega)) (((hsc _).trans e1)) ?_
    refine wi_cv1 (ls' := [some _, some _, none, none]) ct_211_818 (Nat.le_of_ble_eq_true rfl) (by decide) (sT_0 hS) rfl (by decide) rfl rfl (Nat.le_of_ble_eq_true rfl) ?_
    refine wi_aload_0 ct_87_0 ?_
    refine wi_iload_1 ct_87_1 ?_
    refine wi_cv1 (ls' := [some _, some _]) ct_87_2 (Nat.le_of_ble_eq_true rfl) (by decide) (sT_0 hS) rfl (by decide) rfl rfl (Nat.le_of_ble_eq_true rfl) ?_
    refine wi_iload_1 ct_104_0 ?_
    refine wi_ic ct_104_1 kc_0 ?_
    refine wi_aload_0 ct_104_2 ?_
    refine wi_gfr ct_104_3 (sT_0 hS) rfl (sR_0_0 hS) ?_
    refine wi_gf (x := fi 31 0) ct_104_6 (sT_1 hS) rfl rfl c0 ?_
    refine wi_ic ct_104_9 kc_1 ?_
    refine wi_isub ct_104_10 rfl ?_
    refine wi_cs3 (ls' := [some _, some _, some _]) ct_104_11 (Nat.le_of_ble_eq_true rfl) rfl (Nat.le_of_ble_eq_true rfl) ?_
    refine c_within rfl ki_0 (i_sub rfl ki_1 (by omega)) (fun h => absurd h (by omega)) (fun _ => wk_i ?_)
    refine wi_ifeq_t ct_104_14 ki_0 (by decide) ?_
    refine wi_null ct_104_29 ?_
    refine wi_aretn ct_104_30 (wk_n ?_)
    refine wi_astoreN_2 rfl ct_87_5 ?_
    refine wi_aloadN_2 ct_87_6 ?_
    refine wi_ifnonnull_n ct_87_7 ?_
    refine wi_ic ct_87_10 kc_m1000001 ?_
    refine wi_iret ct_87_12 rfl (wk_i ?_)
    refine wi_aload_2 ct_211_821 ?_
    refine wi_aloadT_0 ct_211_822 ?_
    refine wi_iload_3 ct_211_823 ?_
    refine wi_ic ct_211_824 kc_1 ?_
    refine wi_iadd ct_211_825 rfl ?_
    refine wi_ialdT (j := I + 1) (x := a1) ct_211_826 (sL_SC hS) (i_in (i_add hi ki_1 (by omega)) (by omega)) (i_cl (i_add hi ki_1 (by omega)) (by omega)) (((hsc _).trans e1)) ?_
    refine wi_cv1 (ls' := [some _, some _, none]) ct_211_827 (Nat.le_of_ble_eq_true rfl) (by decide) (sT_31 hS) rfl (by decide) rfl rfl (Nat.le_of_ble_eq_true rfl) ?_
    refine wi_aload_0 ct_172_0 ?_
    refine wi_iload_1 ct_172_1 ?_
    refine wi_cv1 (ls' := [some _, some _]) ct_172_2 (Nat.le_of_ble_eq_true rfl) (by decide) (sT_31 hS) rfl (by decide) rfl rfl (Nat.le_of_ble_eq_true rfl) ?_
    refine wi_aload_0 ct_120_0 ?_
    refine wi_iload_1 ct_120_1 ?_
    refine wi_ic ct_120_2 kc_0 ?_
    refine wi_aload_0 ct_120_3 ?_
    refine wi_gf (x := fi 31 0) ct_120_4 (sT_31 hS) rfl rfl rfl ?_
    refine wi_ic ct_120_7 kc_1 ?_
    refine wi_isub ct_120_8 rfl ?_
    refine wi_cv3 (ls' := [some _, some _, some _, some _]) ct_120_9 (Nat.le_of_ble_eq_true rfl) (by decide) (sT_31 hS) rfl (by decide) rfl rfl (Nat.le_of_ble_eq_true rfl) ?_
    refine c_in rfl ki_0 (i_sub rfl ki_1 (by omega)) (fun h => absurd h (by omega)) (fun _ => wk_i ?_)
    refine wi_iret ct_120_12 (by decide) (wk_i ?_)
    refine wi_ifne_f ct_172_5 ki_0 (by decide) ?_
    refine wi_ic ct_172_8 kc_m1000001 ?_
    refine wi_iret ct_172_11 rfl (wk_i ?_)
    refine wi_iceq_t ct_211_830 ki_m1000001 ki_m1000001 (by decide) ?_
    exact kk own g fi fl hR (by omega) (by omega)
