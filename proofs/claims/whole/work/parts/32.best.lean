set_option maxHeartbeats 2000000 in
theorem op_aim {L I : Nat} {xs : Nat → Int32} {own : Nat → Nat} {d : Nat} {g : am_G} {fi : am_I} {fl : am_L} {P : Option Value → am_G → am_I → am_L → Prop} {i : Int32} (hi : i.toInt = (I : Int)) (hI6 : I + 6 ≤ L) (hL : L ≤ 3072) (hR : Rel L xs own g fi fl) (hnx : am_nx g ≤ 800000) (kk : ∀ own' g' fi' fl', Rel L xs own' g' fi' fl' → am_nx g' ≤ am_nx g + 30 → am_sl g' ≤ am_sl g + 1000 → WP (d + 60) 211 1359 [some (.retAddr 0), some (.ref 0), some (.ref 31), some (.int i)] [] g' fi' fl' P) : WP (d + 60) 211 535 [some (.retAddr 0), some (.ref 0), some (.ref 31), some (.int i)] [] g fi fl P := by
  obtain ⟨hS, hsc, hC, hK, hX, hV, hT, hP, hB, hN, hQ, hZ, hI⟩ := id hR
  obtain ⟨⟨c0, c0a, c0b⟩, ⟨c1, c1a, c1b⟩, ⟨c2, c2a, c2b⟩, ⟨c3, c3a, c3b⟩, ⟨c4, c4a, c4b⟩, ⟨c5, c5a, c5b⟩, ⟨c6, c6a, c6b⟩, ⟨c7, c7a, c7b⟩, c8, c9⟩ := id hC
  obtain ⟨a1, e1⟩ : ∃ a, xs (I + 1) = a := ⟨_, rfl⟩
  obtain ⟨a2, e2⟩ : ∃ a, xs (I + 2) = a := ⟨_, rfl⟩
  by_cases hA : 0 ≤ (a1).toInt ∧ (a1).toInt < (fi 31 0).toInt
  · skip
    obtain ⟨B, hBa⟩ : ∃ B : Nat, (a1).toInt = (B : Int) := ⟨(a1).toInt.toNat, by omega⟩
    have hBn := hBa
    obtain ⟨p, r, kd, v, cd, aim, co, row, hW⟩ := BLW.of hB c0b (B := B) (by omega)
    obtain ⟨sq, hsq, hsx⟩ := sq_of hR
    obtain ⟨hB5, hO, w32, w33, w34, w35, w36, w37, k6, v9, d9, a60, co9, r9⟩ := id hW
    obtain ⟨o0, ⟨o72, onx, oow⟩, ot, ok, on, ov, oc, oa, om, orw⟩ := id hO
    have kq := fun j (h : j < 3) => (hK j (by omega)).2
    have hk0 := kq 0 (by decide)
    have hk1 := kq 1 (by decide)
    have hk2 := kq 2 (by decide)
    replace hk0 := And.intro hk0.1 (hk0.2.2 (by decide))
    replace hk1 := And.intro hk1.1 (hk1.2.2 (by decide))
    replace hk2 := And.intro hk2.1 (hk2.2.2 (by decide))
    have hGb := goodV_bd hk0 hk1 hk2
    obtain ⟨f, hf⟩ : ∃ f : Nat → Int, ∀ k : Nat, f k = gBr (mkLk sq B kd v) (goL (mkLk sq B kd v) kd v k row 0 false 30 0 ((fi 31 1).toInt) 0 (cd * (goodV (fi 38 0).toInt (fi 38 1).toInt (fi 38 2).toInt))) := ⟨fun k => gBr (mkLk sq B kd v) (goL (mkLk sq B kd v) kd v k row 0 false 30 0 ((fi 31 1).toInt) 0 (cd * (goodV (fi 38 0).toInt (fi 38 1).toInt (fi 38 2).toInt))), fun k => rfl⟩
    have hf0 : 0 ≤ f 1 := by
      rw [hf]
      exact (goR_bd (SQs_v hsq) (by decide) (film_bd d9 hGb).2 rfl).2.2.1.1
    refine wi_aload_1 ct_211_535 ?_
    refine wi_aloadT_0 ct_211_536 ?_
    refine wi_iload_3 ct_211_537 ?_
    refine wi_ic ct_211_538 kc_1 ?_
    refine wi_iadd ct_211_539 rfl ?_
    refine wi_ialdT (j := I + 1) (x := a1) ct_211_540 (sL_SC hS) (i_in (i_add hi ki_1 (by omega)) (by omega)) (i_cl (i_add hi ki_1 (by omega)) (by omega)) (((hsc _).trans e1)) ?_
    refine wi_aloadT_0 ct_211_541 ?_
    refine wi_iload_3 ct_211_542 ?_
    refine wi_ic ct_211_543 kc_2 ?_
    refine wi_iadd ct_211_544 rfl ?_
    refine wi_ialdT (j := I + 2) (x := a2) ct_211_545 (sL_SC hS) (i_in (i_add hi ki_2 (by omega)) (by omega)) (i_cl (i_add hi ki_2 (by omega)) (by omega)) (((hsc _).trans e2)) ?_
    refine wi_cv2 (ls' := [some _, some _, some _]) ct_211_546 (Nat.le_of_ble_eq_true rfl) (by decide) (sT_0 hS) rfl (by decide) rfl rfl (Nat.le_of_ble_eq_true rfl) ?_
    refine wi_aload_0 ct_78_0 ?_
    refine wi_ic ct_78_1 kc_0 ?_
    refine wi_ic ct_78_2 kc_1 ?_
    refine wi_ic ct_78_3 kc_60 ?_
    refine wi_iload_1 ct_78_5 ?_
    refine wi_iload_2 ct_78_6 ?_
    refine wi_cv5 (ls' := [some _, some _, some _, some _, some _, some _, none, none, none, none]) ct_78_7 (Nat.le_of_ble_eq_true rfl) (by decide) (sT_0 hS) rfl (by decide) rfl rfl (Nat.le_of_ble_eq_true rfl) ?_
    refine wi_aload_0 ct_109_0 ?_
    refine wi_iload_4 ct_109_1 ?_
    refine wi_cv1 (ls' := [some _, some _]) ct_109_3 (Nat.le_of_ble_eq_true rfl) (by decide) (sT_0 hS) rfl (by decide) rfl rfl (Nat.le_of_ble_eq_true rfl) ?_
    refine wi_iload_1 ct_104_0 ?_
    refine wi_ic ct_104_1 kc_0 ?_
    refine wi_aload_0 ct_104_2 ?_
    refine wi_gfr ct_104_3 (sT_0 hS) rfl (sR_0_0 hS) ?_
    refine wi_gf (x := fi 31 0) ct_104_6 (sT_1 hS) rfl rfl c0 ?_
    refine wi_ic ct_104_9 kc_1 ?_
    refine wi_isub ct_104_10 rfl ?_
    refine wi_cs3 (ls' := [some _, some _, some _]) ct_104_11 (Nat.le_of_ble_eq_true rfl) rfl (Nat.le_of_ble_eq_true rfl) ?_
    refine c_within hBn ki_0 (i_sub rfl ki_1 (by omega)) (fun _ => wk_i ?_) (fun h => absurd h (by omega))
    refine wi_ifeq_f ct_104_14 ki_1 (by decide) ?_
    refine wi_aload_0 ct_104_17 ?_
    refine wi_gfr ct_104_18 (sT_0 hS) rfl (sR_0_0 hS) ?_
    refine wi_gfr ct_104_21 (sT_1 hS) rfl (sR_1_0 hS) ?_
    refine wi_iload_1 ct_104_24 ?_
    refine wi_aald ct_104_25 (sT_2 hS) (by decide) (sL_2 hS) (i_in hBn (by omega)) (i_cl (k := B) hBn (by omega)) o0 ?_
    refine wi_goto ct_104_26 ?_
    refine wi_aret ct_104_30 (wk_r ?_)
    refine wi_astore_6 rfl ct_109_6 ?_
    refine wi_aload_6 ct_109_8 ?_
    refine wi_ifnull_r ct_109_10 ?_
    refine wi_iload_5 ct_109_13 ?_
    refine wi_ic ct_109_15 kc_0 ?_
    refine wi_ic ct_109_16 kc_1 ?_
    refine wi_cs3 (ls' := [some _, some _, some _]) ct_109_17 (Nat.le_of_ble_eq_true rfl) rfl (Nat.le_of_ble_eq_true rfl) ?_
    refine c_within rfl ki_0 ki_1 (fun h1 => wk_i ?_) (fun h1 => wk_i ?_)
    · skip
      refine wi_ifne_t ct_109_20 ki_1 (by decide) ?_
      refine wi_iload_2 ct_109_25 ?_
      refine wi_istore_7 rfl ct_109_26 ?_
      refine wi_ic ct_109_28 kc_m1 ?_
      refine wi_istore_8 rfl ct_109_29 ?_
      refine wi_iload_2 ct_109_31 ?_
      refine wi_istore_9 rfl ct_109_32 ?_
      refine vl_caim hR hW hsq hsx hf (w := a2) rfl (by omega) 60 1 (1) (-1) _ _ _ _ _ (by omega) (by decide) SCR.rfl (ki_1.trans rfl) ki_1 ki_m1 (fun zc2 gc2 fc2 hzc2 hsc2 => wk_i ?_)
      have hSc2 := (hR.scr hsc2).1
      refine wi_iret ct_78_10 rfl (wk_i ?_)
      refine wi_aload_2 ct_211_549 ?_
      refine wi_aloadT_0 ct_211_550 ?_
      refine wi_iload_3 ct_211_551 ?_
      refine wi_ic ct_211_552 kc_1 ?_
      refine wi_iadd ct_211_553 rfl ?_
      refine wi_ialdT (j := I + 1) (x := a1) ct_211_554 (sL_SC hSc2) (i_in (i_add hi ki_1 (by omega)) (by omega)) (i_cl (i_add hi ki_1 (by omega)) (by omega)) ((Eq.trans (congrFun (hsc2.2.1 am_SC (by unfold am_SC; decide)) _) ((hsc _).trans e1))) ?_
      refine wi_aloadT_0 ct_211_555 ?_
      refine wi_iload_3 ct_211_556 ?_
      refine wi_ic ct_211_557 kc_2 ?_
      refine wi_iadd ct_211_558 rfl ?_
      refine wi_ialdT (j := I + 2) (x := a2) ct_211_559 (sL_SC hSc2) (i_in (i_add hi ki_2 (by omega)) (by omega)) (i_cl (i_add hi ki_2 (by omega)) (by omega)) ((Eq.trans (congrFun (hsc2.2.1 am_SC (by unfold am_SC; decide)) _) ((hsc _).trans e2))) ?_
      refine wi_cv2 (ls' := [some _, some _, some _, none, none, none, none, none]) ct_211_560 (Nat.le_of_ble_eq_true rfl) (by decide) (sT_31 hSc2) rfl (by decide) rfl rfl (Nat.le_of_ble_eq_true rfl) ?_
      refine wi_aload_0 ct_161_0 ?_
      refine wi_iload_1 ct_161_1 ?_
      refine wi_cv1 (ls' := [some _, some _]) ct_161_2 (Nat.le_of_ble_eq_true rfl) (by decide) (sT_31 hSc2) rfl (by decide) rfl rfl (Nat.le_of_ble_eq_true rfl) ?_
      refine wi_aload_0 ct_120_0 ?_
      refine wi_iload_1 ct_120_1 ?_
      refine wi_ic ct_120_2 kc_0 ?_
      refine wi_aload_0 ct_120_3 ?_
      refine wi_gf (x := fi 31 0) ct_120_4 (sT_31 hSc2) rfl rfl (hsc2.2.2.2 0 (by omega)) ?_
      refine wi_ic ct_120_7 kc_1 ?_
      refine wi_isub ct_120_8 rfl ?_
      refine wi_cv3 (ls' := [some _, some _, some _, some _]) ct_120_9 (Nat.le_of_ble_eq_true rfl) (by decide) (sT_31 hSc2) rfl (by decide) rfl rfl (Nat.le_of_ble_eq_true rfl) ?_
      refine c_in hBn ki_0 (i_sub rfl ki_1 (by omega)) (fun _ => wk_i ?_) (fun h => absurd h (by omega))
      refine wi_iret ct_120_12 (by decide) (wk_i ?_)
      refine wi_ifeq_f ct_161_5 ki_1 (by decide) ?_
      refine wi_aload_0 ct_161_8 ?_
      refine wi_iload_2 ct_161_9 ?_
      refine wi_ic ct_161_10 kc_0 ?_
      refine wi_ic ct_161_11 kc_1 ?_
      refine wi_cv3 (ls' := [some _, some _, some _, some _]) ct_161_12 (Nat.le_of_ble_eq_true rfl) (by decide) (sT_31 hSc2) rfl (by decide) rfl rfl (Nat.le_of_ble_eq_true rfl) ?_
      refine c_in rfl ki_0 ki_1 (fun _ => wk_i ?_) (fun h => absurd h (by omega))
      refine wi_ifne_t ct_161_15 ki_1 (by decide) ?_
      refine wi_aload_0 ct_161_20 ?_
      refine wi_gfr ct_161_21 (sT_31 hSc2) rfl (sR_31_5 hSc2) ?_
      refine wi_iload_1 ct_161_24 ?_
      refine wi_iald (x := fi 35 B) ct_161_25 (sT_35 hSc2) (sL_35 hSc2) (i_in hBn (by omega)) (i_cl (k := B) hBn (by omega)) (congrFun (hsc2.2.1 35 (by omega)) _) ?_
      refine wi_istore_3 rfl ct_161_26 ?_
      refine wi_ic ct_161_27 kc_0 ?_
      refine wi_istore_4 rfl ct_161_28 ?_
      refine wi_ic ct_161_30 kc_m1 ?_
      refine wi_istore_5 rfl ct_161_31 ?_
      refine wi_ic ct_161_33 kc_1 ?_
      refine wi_istore_6 rfl ct_161_34 ?_
      refine vl_maim (was2 := 0) hR hW hsq hf (w := a2) rfl (by omega) hBa rfl 60 1 (0) (-1) _ _ _ _ _ _ 0 none (by omega) (by decide) (SCR.wi hsc2) (ki_1.trans rfl) ki_0 ki_m1 rfl (fun zm3 fm3 hzm3 hsm3 => wk_i ?_)
      rw [show bst f 60 1 0 (-1) = bst f 60 1 1 (-1) from bst_b hf0] at hzm3
      refine wi_iceq_t ct_211_563 hzc2 hzm3 (by omega) ?_
      exact kk own _ _ fl (hR.scr hsm3) (by rw [hsm3.nx]; omega) (by rw [hsm3.sl]; omega)
    · skip
      refine wi_ifne_f ct_109_20 ki_0 (by decide) ?_
      refine wi_ic ct_109_23 kc_m1 ?_
      refine wi_iret ct_109_24 rfl (wk_i ?_)
      refine wi_iret ct_78_10 rfl (wk_i ?_)
      refine wi_aload_2 ct_211_549 ?_
      refine wi_aloadT_0 ct_211_550 ?_
      refine wi_iload_3 ct_211_551 ?_
      refine wi_ic ct_211_552 kc_1 ?_
      refine wi_iadd ct_211_553 rfl ?_
      refine wi_ialdT (j := I + 1) (x := a1) ct_211_554 (sL_SC hS) (i_in (i_add hi ki_1 (by omega)) (by omega)) (i_cl (i_add hi ki_1 (by omega)) (by omega)) (((hsc _).trans e1)) ?_
      refine wi_aloadT_0 ct_211_555 ?_
      refine wi_iload_3 ct_211_556 ?_
      refine wi_ic ct_211_557 kc_2 ?_
      refine wi_iadd ct_211_558 rfl ?_
      refine wi_ialdT (j := I + 2) (x := a2) ct_211_559 (sL_SC hS) (i_in (i_add hi ki_2 (by omega)) (by omega)) (i_cl (i_add hi ki_2 (by omega)) (by omega)) (((hsc _).trans e2)) ?_
      refine wi_cv2 (ls' := [some _, some _, some _, none, none, none, none, none]) ct_211_560 (Nat.le_of_ble_eq_true rfl) (by decide) (sT_31 hS) rfl (by decide) rfl rfl (Nat.le_of_ble_eq_true rfl) ?_
      refine wi_aload_0 ct_161_0 ?_
      refine wi_iload_1 ct_161_1 ?_
      refine wi_cv1 (ls' := [some _, some _]) ct_161_2 (Nat.le_of_ble_eq_true rfl) (by decide) (sT_31 hS) rfl (by decide) rfl rfl (Nat.le_of_ble_eq_true rfl) ?_
      refine wi_aload_0 ct_120_0 ?_
      refine wi_iload_1 ct_120_1 ?_
      refine wi_ic ct_120_2 kc_0 ?_
      refine wi_aload_0 ct_120_3 ?_
      refine wi_gf (x := fi 31 0) ct_120_4 (sT_31 hS) rfl rfl rfl ?_
      refine wi_ic ct_120_7 kc_1 ?_
      refine wi_isub ct_120_8 rfl ?_
      refine wi_cv3 (ls' := [some _, some _, some _, some _]) ct_120_9 (Nat.le_of_ble_eq_true rfl) (by decide) (sT_31 hS) rfl (by decide) rfl rfl (Nat.le_of_ble_eq_true rfl) ?_
      refine c_in hBn ki_0 (i_sub rfl ki_1 (by omega)) (fun _ => wk_i ?_) (fun h => absurd h (by omega))
      refine wi_iret ct_120_12 (by decide) (wk_i ?_)
      refine wi_ifeq_f ct_161_5 ki_1 (by decide) ?_
      refine wi_aload_0 ct_161_8 ?_
      refine wi_iload_2 ct_161_9 ?_
      refine wi_ic ct_161_10 kc_0 ?_
      refine wi_ic ct_161_11 kc_1 ?_
      refine wi_cv3 (ls' := [some _, some _, some _, some _]) ct_161_12 (Nat.le_of_ble_eq_true rfl) (by decide) (sT_31 hS) rfl (by decide) rfl rfl (Nat.le_of_ble_eq_true rfl) ?_
      refine c_in rfl ki_0 ki_1 (fun h => absurd h (by omega)) (fun _ => wk_i ?_)
      refine wi_ifne_f ct_161_15 ki_0 (by decide) ?_
      refine wi_ic ct_161_18 kc_m1 ?_
      refine wi_iret ct_161_19 rfl (wk_i ?_)
      refine wi_iceq_t ct_211_563 ki_m1 ki_m1 (by decide) ?_
      exact kk own g fi fl hR (by omega) (by omega)
  · skip
    refine wi_aload_1 ct_211_535 ?_
    refine wi_aloadT_0 ct_211_536 ?_
    refine wi_iload_3 ct_211_537 ?_
    refine wi_ic ct_211_538 kc_1 ?_
    refine wi_iadd ct_211_539 rfl ?_
    refine wi_ialdT (j := I + 1) (x := a1) ct_211_540 (sL_SC hS) (i_in (i_add hi ki_1 (by omega)) (by omega)) (i_cl (i_add hi ki_1 (by omega)) (by omega)) (((hsc _).trans e1)) ?_
    refine wi_aloadT_0 ct_211_541 ?_
    refine wi_iload_3 ct_211_542 ?_
    refine wi_ic ct_211_543 kc_2 ?_
    refine wi_iadd ct_211_544 rfl ?_
    refine wi_ialdT (j := I + 2) (x := a2) ct_211_545 (sL_SC hS) (i_in (i_add hi ki_2 (by omega)) (by omega)) (i_cl (i_add hi ki_2 (by omega)) (by omega)) (((hsc _).trans e2)) ?_
    refine wi_cv2 (ls' := [some _, some _, some _]) ct_211_546 (Nat.le_of_ble_eq_true rfl) (by decide) (sT_0 hS) rfl (by decide) rfl rfl (Nat.le_of_ble_eq_true rfl) ?_
    refine wi_aload_0 ct_78_0 ?_
    refine wi_ic ct_78_1 kc_0 ?_
    refine wi_ic ct_78_2 kc_1 ?_
    refine wi_ic ct_78_3 kc_60 ?_
    refine wi_iload_1 ct_78_5 ?_
    refine wi_iload_2 ct_78_6 ?_
    refine wi_cv5 (ls' := [some _, some _, some _, some _, some _, some _, none, none, none, none]) ct_78_7 (Nat.le_of_ble_eq_true rfl) (by decide) (sT_0 hS) rfl (by decide) rfl rfl (Nat.le_of_ble_eq_true rfl) ?_
    refine wi_aload_0 ct_109_0 ?_
    refine wi_iload_4 ct_109_1 ?_
    refine wi_cv1 (ls' := [some _, some _]) ct_109_3 (Nat.le_of_ble_eq_true rfl) (by decide) (sT_0 hS) rfl (by decide) rfl rfl (Nat.le_of_ble_eq_true rfl) ?_
    refine wi_iload_1 ct_104_0 ?_
    refine wi_ic ct_104_1 kc_0 ?_
    refine wi_aload_0 ct_104_2 ?_
    refine wi_gfr ct_104_3 (sT_0 hS) rfl (sR_0_0 hS) ?_
    refine wi_gf (x := fi 31 0) ct_104_6 (sT_1 hS) rfl rfl c0 ?_
    refine wi_ic ct_104_9 kc_1 ?_
    refine wi_isub ct_104_10 rfl ?_
    refine wi_cs3 (ls' := [some _, some _, some _]) ct_104_11 (Nat.le_of_ble_eq_true rfl) rfl (Nat.le_of_ble_eq_true rfl) ?_
    refine c_within rfl ki_0 (i_sub rfl ki_1 (by omega)) (fun h => absurd h (by omega)) (fun _ => wk_i ?_)
    refine wi_ifeq_t ct_104_14 ki_0 (by decide) ?_
    refine wi_null ct_104_29 ?_
    refine wi_aretn ct_104_30 (wk_n ?_)
    refine wi_astoreN_6 rfl ct_109_6 ?_
    refine wi_aloadN_6 ct_109_8 ?_
    refine wi_ifnull_n ct_109_10 ?_
    refine wi_ic ct_109_23 kc_m1 ?_
    refine wi_iret ct_109_24 rfl (wk_i ?_)
    refine wi_iret ct_78_10 rfl (wk_i ?_)
    refine wi_aload_2 ct_211_549 ?_
    refine wi_aloadT_0 ct_211_550 ?_
    refine wi_iload_3 ct_211_551 ?_
    refine wi_ic ct_211_552 kc_1 ?_
    refine wi_iadd ct_211_553 rfl ?_
    refine wi_ialdT (j := I + 1) (x := a1) ct_211_554 (sL_SC hS) (i_in (i_add hi ki_1 (by omega)) (by omega)) (i_cl (i_add hi ki_1 (by omega)) (by omega)) (((hsc _).trans e1)) ?_
    refine wi_aloadT_0 ct_211_555 ?_
    refine wi_iload_3 ct_211_556 ?_
    refine wi_ic ct_211_557 kc_2 ?_
    refine wi_iadd ct_211_558 rfl ?_
    refine wi_ialdT (j := I + 2) (x := a2) ct_211_559 (sL_SC hS) (i_in (i_add hi ki_2 (by omega)) (by omega)) (i_cl (i_add hi ki_2 (by omega)) (by omega)) (((hsc _).trans e2)) ?_
    refine wi_cv2 (ls' := [some _, some _, some _, none, none, none, none, none]) ct_211_560 (Nat.le_of_ble_eq_true rfl) (by decide) (sT_31 hS) rfl (by decide) rfl rfl (Nat.le_of_ble_eq_true rfl) ?_
    refine wi_aload_0 ct_161_0 ?_
    refine wi_iload_1 ct_161_1 ?_
    refine wi_cv1 (ls' := [some _, some _]) ct_161_2 (Nat.le_of_ble_eq_true rfl) (by decide) (sT_31 hS) rfl (by decide) rfl rfl (Nat.le_of_ble_eq_true rfl) ?_
    refine wi_aload_0 ct_120_0 ?_
    refine wi_iload_1 ct_120_1 ?_
    refine wi_ic ct_120_2 kc_0 ?_
    refine wi_aload_0 ct_120_3 ?_
    refine wi_gf (x := fi 31 0) ct_120_4 (sT_31 hS) rfl rfl rfl ?_
    refine wi_ic ct_120_7 kc_1 ?_
    refine wi_isub ct_120_8 rfl ?_
    refine wi_cv3 (ls' := [some _, some _, some _, some _]) ct_120_9 (Nat.le_of_ble_eq_true rfl) (by decide) (sT_31 hS) rfl (by decide) rfl rfl (Nat.le_of_ble_eq_true rfl) ?_
    refine c_in rfl ki_0 (i_sub rfl ki_1 (by omega)) (fun h => absurd h (by omega)) (fun _ => wk_i ?_)
    refine wi_iret ct_120_12 (by decide) (wk_i ?_)
    refine wi_ifeq_t ct_161_5 ki_0 (by decide) ?_
    refine wi_ic ct_161_18 kc_m1 ?_
    refine wi_iret ct_161_19 rfl (wk_i ?_)
    refine wi_iceq_t ct_211_563 ki_m1 ki_m1 (by decide) ?_
    exact kk own g fi fl hR (by omega) (by omega)
set_option maxHeartbeats 2000000 in
theorem op_cord {L I : Nat} {xs : Nat → Int32} {own : Nat → Nat} {d : Nat} {g : am_G} {fi : am_I} {fl : am_L} {P : Option Value → am_G → am_I → am_L → Prop} {i : Int32} (hi : i.toInt = (I : Int)) (hI6 : I + 6 ≤ L) (hL : L ≤ 3072) (hR : Rel L xs own g fi fl) (hnx : am_nx g ≤ 800000) (kk : ∀ own' g' fi' fl', Rel L xs own' g' fi' fl' → am_nx g' ≤ am_nx g + 30 → am_sl g' ≤ am_sl g + 1000 → WP (d + 60) 211 1359 [some (.retAddr 0), some (.ref 0), some (.ref 31), some (.int i)] [] g' fi' fl' P) : WP (d + 60) 211 568 [some (.retAddr 0), some (.ref 0), some (.ref 31), some (.int i)] [] g fi fl P := by
  obtain ⟨hS, hsc, hC, hK, hX, hV, hT, hP, hB, hN, hQ, hZ, hI⟩ := id hR
  obtain ⟨⟨c0, c0a, c0b⟩, ⟨c1, c1a, c1b⟩, ⟨c2, c2a, c2b⟩, ⟨c3, c3a, c3b⟩, ⟨c4, c4a, c4b⟩, ⟨c5, c5a, c5b⟩, ⟨c6, c6a, c6b⟩, ⟨c7, c7a, c7b⟩, c8, c9⟩ := id hC
  obtain ⟨a1, e1⟩ : ∃ a, xs (I + 1) = a := ⟨_, rfl⟩
  obtain ⟨a2, e2⟩ : ∃ a, xs (I + 2) = a := ⟨_, rfl⟩
  by_cases hA : 0 ≤ (a1).toInt ∧ (a1).toInt < (fi 31 0).toInt
  · skip
    obtain ⟨B, hBa⟩ : ∃ B : Nat, (a1).toInt = (B : Int) := ⟨(a1).toInt.toNat, by omega⟩
    have hBn := hBa
    obtain ⟨p, r, kd, v, cd, aim, co, row, hW⟩ := BLW.of hB c0b (B := B) (by omega)
    obtain ⟨sq, hsq, hsx⟩ := sq_of hR
    obtain ⟨hB5, hO, w32, w33, w34, w35, w36, w37, k6, v9, d9, a60, co9, r9⟩ := id hW
    obtain ⟨o0, ⟨o72, onx, oow⟩, ot, ok, on, ov, oc, oa, om, orw⟩ := id hO
    have kq := fun j (h : j < 3) => (hK j (by omega)).2
    have hk0 := kq 0 (by decide)
    have hk1 := kq 1 (by decide)
    have hk2 := kq 2 (by decide)
    replace hk0 := And.intro hk0.1 (hk0.2.2 (by decide))
    replace hk1 := And.intro hk1.1 (hk1.2.2 (by decide))
    replace hk2 := And.intro hk2.1 (hk2.2.2 (by decide))
    have hGb := goodV_bd hk0 hk1 hk2
    obtain ⟨f, hf⟩ : ∃ f : Nat → Int, ∀ k : Nat, f k = gBr (mkLk sq B kd v) (goL (mkLk sq B kd v) kd v aim row 0 false 30 0 ((fi 31 1).toInt) 0 (k * (goodV (fi 38 0).toInt (fi 38 1).toInt (fi 38 2).toInt))) := ⟨fun k => gBr (mkLk sq B kd v) (goL (mkLk sq B kd v) kd v aim row 0 false 30 0 ((fi 31 1).toInt) 0 (k * (goodV (fi 38 0).toInt (fi 38 1).toInt (fi 38 2).toInt))), fun k => rfl⟩
    have hf0 : 0 ≤ f 1 := by
      rw [hf]
      exact (goR_bd (SQs_v hsq) (by decide) (film_bd (c := ((1 : Nat) : Int)) (by decide) hGb).2 rfl).2.2.1.1
    refine wi_aload_1 ct_211_568 ?_
    refine wi_aloadT_0 ct_211_569 ?_
    refine wi_iload_3 ct_211_570 ?_
    refine wi_ic ct_211_571 kc_1 ?_
    refine wi_iadd ct_211_572 rfl ?_
    refine wi_ialdT (j := I + 1) (x := a1) ct_211_573 (sL_SC hS) (i_in (i_add hi ki_1 (by omega)) (by omega)) (i_cl (i_add hi ki_1 (by omega)) (by omega)) (((hsc _).trans e1)) ?_
    refine wi_aloadT_0 ct_211_574 ?_
    refine wi_iload_3 ct_211_575 ?_
    refine wi_ic ct_211_576 kc_2 ?_
    refine wi_iadd ct_211_577 rfl ?_
    refine wi_ialdT (j := I + 2) (x := a2) ct_211_578 (sL_SC hS) (i_in (i_add hi ki_2 (by omega)) (by omega)) (i_cl (i_add hi ki_2 (by omega)) (by omega)) (((hsc _).trans e2)) ?_
    refine wi_cv2 (ls' := [some _, some _, some _]) ct_211_579 (Nat.le_of_ble_eq_true rfl) (by decide) (sT_0 hS) rfl (by decide) rfl rfl (Nat.le_of_ble_eq_true rfl) ?_
    refine wi_aload_0 ct_79_0 ?_
    refine wi_ic ct_79_1 kc_1 ?_
    refine wi_ic ct_79_2 kc_1 ?_
    refine wi_ic ct_79_3 kc_9 ?_
    refine wi_iload_1 ct_79_5 ?_
    refine wi_iload_2 ct_79_6 ?_
    refine wi_cv5 (ls' := [some _, some _, some _, some _, some _, some _, none, none, none, none]) ct_79_7 (Nat.le_of_ble_eq_true rfl) (by decide) (sT_0 hS) rfl (by decide) rfl rfl (Nat.le_of_ble_eq_true rfl) ?_
    refine wi_aload_0 ct_109_0 ?_
    refine wi_iload_4 ct_109_1 ?_
    refine wi_cv1 (ls' := [some _, some _]) ct_109_3 (Nat.le_of_ble_eq_true rfl) (by decide) (sT_0 hS) rfl (by decide) rfl rfl (Nat.le_of_ble_eq_true rfl) ?_
    refine wi_iload_1 ct_104_0 ?_
    refine wi_ic ct_104_1 kc_0 ?_
    refine wi_aload_0 ct_104_2 ?_
    refine wi_gfr ct_104_3 (sT_0 hS) rfl (sR_0_0 hS) ?_
    refine wi_gf (x := fi 31 0) ct_104_6 (sT_1 hS) rfl rfl c0 ?_
    refine wi_ic ct_104_9 kc_1 ?_
    refine wi_isub ct_104_10 rfl ?_
    refine wi_cs3 (ls' := [some _, some _, some _]) ct_104_11 (Nat.le_of_ble_eq_true rfl) rfl (Nat.le_of_ble_eq_true rfl) ?_
    refine c_within hBn ki_0 (i_sub rfl ki_1 (by omega)) (fun _ => wk_i ?_) (fun h => absurd h (by omega))
    refine wi_ifeq_f ct_104_14 ki_1 (by decide) ?_
    refine wi_aload_0 ct_104_17 ?_
    refine wi_gfr ct_104_18 (sT_0 hS) rfl (sR_0_0 hS) ?_
    refine wi_gfr ct_104_21 (sT_1 hS) rfl (sR_1_0 hS) ?_
    refine wi_iload_1 ct_104_24 ?_
    refine wi_aald ct_104_25 (sT_2 hS) (by decide) (sL_2 hS) (i_in hBn (by omega)) (i_cl (k := B) hBn (by omega)) o0 ?_
    refine wi_goto ct_104_26 ?_
    refine wi_aret ct_104_30 (wk_r ?_)
    refine wi_astore_6 rfl ct_109_6 ?_
    refine wi_aload_6 ct_109_8 ?_
    refine wi_ifnull_r ct_109_10 ?_
    refine wi_iload_5 ct_109_13 ?_
    refine wi_ic ct_109_15 kc_0 ?_
    refine wi_ic ct_109_16 kc_1 ?_
    refine wi_cs3 (ls' := [some _, some _, some _]) ct_109_17 (Nat.le_of_ble_eq_true rfl) rfl (Nat.le_of_ble_eq_true rfl) ?_
    refine c_within rfl ki_0 ki_1 (fun h1 => wk_i ?_) (fun h1 => wk_i ?_)
    · skip
      refine wi_ifne_t ct_109_20 ki_1 (by decide) ?_
      refine wi_iload_2 ct_109_25 ?_
      refine wi_istore_7 rfl ct_109_26 ?_
      refine wi_ic ct_109_28 kc_m1 ?_
      refine wi_istore_8 rfl ct_109_29 ?_
      refine wi_iload_2 ct_109_31 ?_
      refine wi_istore_9 rfl ct_109_32 ?_
      refine vl_ccord hR hW hsq hsx hf (w := a2) rfl (by omega) 9 1 (1) (-1) _ _ _ _ _ (by omega) (by decide) SCR.rfl (ki_1.trans rfl) ki_1 ki_m1 (fun zc2 gc2 fc2 hzc2 hsc2 => wk_i ?_)
      have hSc2 := (hR.scr hsc2).1
      refine wi_iret ct_79_10 rfl (wk_i ?_)
      refine wi_aload_2 ct_211_582 ?_
      refine wi_aloadT_0 ct_211_583 ?_
      refine wi_iload_3 ct_211_584 ?_
      refine wi_ic ct_211_585 kc_1 ?_
      refine wi_iadd ct_211_586 rfl ?_
      refine wi_ialdT (j := I + 1) (x := a1) ct_211_587 (sL_SC hSc2) (i_in (i_add hi ki_1 (by omega)) (by omega)) (i_cl (i_add hi ki_1 (by omega)) (by omega)) ((Eq.trans (congrFun (hsc2.2.1 am_SC (by unfold am_SC; decide)) _) ((hsc _).trans e1))) ?_
      refine wi_aloadT_0 ct_211_588 ?_
      refine wi_iload_3 ct_211_589 ?_
      refine wi_ic ct_211_590 kc_2 ?_
      refine wi_iadd ct_211_591 rfl ?_
      refine wi_ialdT (j := I + 2) (x := a2) ct_211_592 (sL_SC hSc2) (i_in (i_add hi ki_2 (by omega)) (by omega)) (i_cl (i_add hi ki_2 (by omega)) (by omega)) ((Eq.trans (congrFun (hsc2.2.1 am_SC (by unfold am_SC; decide)) _) ((hsc _).trans e2))) ?_
      refine wi_cv2 (ls' := [some _, some _, some _, none, none, none, none, none]) ct_211_593 (Nat.le_of_ble_eq_true rfl) (by decide) (sT_31 hSc2) rfl (by decide) rfl rfl (Nat.le_of_ble_eq_true rfl) ?_
      refine wi_aload_0 ct_162_0 ?_
      refine wi_iload_1 ct_162_1 ?_
      refine wi_cv1 (ls' := [some _, some _]) ct_162_2 (Nat.le_of_ble_eq_true rfl) (by decide) (sT_31 hSc2) rfl (by decide) rfl rfl (Nat.le_of_ble_eq_true rfl) ?_
      refine wi_aload_0 ct_120_0 ?_
      refine wi_iload_1 ct_120_1 ?_
      refine wi_ic ct_120_2 kc_0 ?_
      refine wi_aload_0 ct_120_3 ?_
      refine wi_gf (x := fi 31 0) ct_120_4 (sT_31 hSc2) rfl rfl (hsc2.2.2.2 0 (by omega)) ?_
      refine wi_ic ct_120_7 kc_1 ?_
      refine wi_isub ct_120_8 rfl ?_
      refine wi_cv3 (ls' := [some _, some _, some _, some _]) ct_120_9 (Nat.le_of_ble_eq_true rfl) (by decide) (sT_31 hSc2) rfl (by decide) rfl rfl (Nat.le_of_ble_eq_true rfl) ?_
      refine c_in hBn ki_0 (i_sub rfl ki_1 (by omega)) (fun _ => wk_i ?_) (fun h => absurd h (by omega))
      refine wi_iret ct_120_12 (by decide) (wk_i ?_)
      refine wi_ifeq_f ct_162_5 ki_1 (by decide) ?_
      refine wi_aload_0 ct_162_8 ?_
      refine wi_iload_2 ct_162_9 ?_
      refine wi_ic ct_162_10 kc_0 ?_
      refine wi_ic ct_162_11 kc_1 ?_
      refine wi_cv3 (ls' := [some _, some _, some _, some _]) ct_162_12 (Nat.le_of_ble_eq_true rfl) (by decide) (sT_31 hSc2) rfl (by decide) rfl rfl (Nat.le_of_ble_eq_true rfl) ?_
      refine c_in rfl ki_0 ki_1 (fun _ => wk_i ?_) (fun h => absurd h (by omega))
      refine wi_ifne_t ct_162_15 ki_1 (by decide) ?_
      refine wi_aload_0 ct_162_20 ?_
      refine wi_gfr ct_162_21 (sT_31 hSc2) rfl (sR_31_4 hSc2) ?_
      refine wi_iload_1 ct_162_24 ?_
      refine wi_iald (x := fi 34 B) ct_162_25 (sT_34 hSc2) (sL_34 hSc2) (i_in hBn (by omega)) (i_cl (k := B) hBn (by omega)) (congrFun (hsc2.2.1 34 (by omega)) _) ?_
      refine wi_istore_3 rfl ct_162_26 ?_
      refine wi_ic ct_162_27 kc_0 ?_
      refine wi_istore_4 rfl ct_162_28 ?_
      refine wi_ic ct_162_30 kc_m1 ?_
      refine wi_istore_5 rfl ct_162_31 ?_
      refine wi_ic ct_162_33 kc_1 ?_
      refine wi_istore_6 rfl ct_162_34 ?_
      refine vl_mcord (was2 := 0) hR hW hsq hf (w := a2) rfl (by omega) hBa rfl 9 1 (0) (-1) _ _ _ _ _ _ 0 none (by omega) (by decide) (SCR.wi hsc2) (ki_1.trans rfl) ki_0 ki_m1 rfl (fun zm3 fm3 hzm3 hsm3 => wk_i ?_)
      rw [show bst f 9 1 0 (-1) = bst f 9 1 1 (-1) from bst_b hf0] at hzm3
      refine wi_iceq_t ct_211_596 hzc2 hzm3 (by omega) ?_
      exact kk own _ _ fl (hR.scr hsm3) (by rw [hsm3.nx]; omega) (by rw [hsm3.sl]; omega)
    · skip
      refine wi_ifne_f ct_109_20 ki_0 (by decide) ?_
      refine wi_ic ct_109_23 kc_m1 ?_
      refine wi_iret ct_109_24 rfl (wk_i ?_)
      refine wi_iret ct_79_10 rfl (wk_i ?_)
      refine wi_aload_2 ct_211_582 ?_
      refine wi_aloadT_0 ct_211_583 ?_
      refine wi_iload_3 ct_211_584 ?_
      refine wi_ic ct_211_585 kc_1 ?_
      refine wi_iadd ct_211_586 rfl ?_
      refine wi_ialdT (j := I + 1) (x := a1) ct_211_587 (sL_SC hS) (i_in (i_add hi ki_1 (by omega)) (by omega)) (i_cl (i_add hi ki_1 (by omega)) (by omega)) (((hsc _).trans e1)) ?_
      refine wi_aloadT_0 ct_211_588 ?_
      refine wi_iload_3 ct_211_589 ?_
      refine wi_ic ct_211_590 kc_2 ?_
      refine wi_iadd ct_211_591 rfl ?_
      refine wi_ialdT (j := I + 2) (x := a2) ct_211_592 (sL_SC hS) (i_in (i_add hi ki_2 (by omega)) (by omega)) (i_cl (i_add hi ki_2 (by omega)) (by omega)) (((hsc _).trans e2)) ?_
      refine wi_cv2 (ls' := [some _, some _, some _, none, none, none, none, none]) ct_211_593 (Nat.le_of_ble_eq_true rfl) (by decide) (sT_31 hS) rfl (by decide) rfl rfl (Nat.le_of_ble_eq_true rfl) ?_
      refine wi_aload_0 ct_162_0 ?_
      refine wi_iload_1 ct_162_1 ?_
      refine wi_cv1 (ls' := [some _, some _]) ct_162_2 (Nat.le_of_ble_eq_true rfl) (by decide) (sT_31 hS) rfl (by decide) rfl rfl (Nat.le_of_ble_eq_true rfl) ?_
      refine wi_aload_0 ct_120_0 ?_
      refine wi_iload_1 ct_120_1 ?_
      refine wi_ic ct_120_2 kc_0 ?_
      refine wi_aload_0 ct_120_3 ?_
      refine wi_gf (x := fi 31 0) ct_120_4 (sT_31 hS) rfl rfl rfl ?_
      refine wi_ic ct_120_7 kc_1 ?_
      refine wi_isub ct_120_8 rfl ?_
      refine wi_cv3 (ls' := [some _, some _, some _, some _]) ct_120_9 (Nat.le_of_ble_eq_true rfl) (by decide) (sT_31 hS) rfl (by decide) rfl rfl (Nat.le_of_ble_eq_true rfl) ?_
      refine c_in hBn ki_0 (i_sub rfl ki_1 (by omega)) (fun _ => wk_i ?_) (fun h => absurd h (by omega))
      refine wi_iret ct_120_12 (by decide) (wk_i ?_)
      refine wi_ifeq_f ct_162_5 ki_1 (by decide) ?_
      refine wi_aload_0 ct_162_8 ?_
      refine wi_iload_2 ct_162_9 ?_
      refine wi_ic ct_162_10 kc_0 ?_
      refine wi_ic ct_162_11 kc_1 ?_
      refine wi_cv3 (ls' := [some _, some _, some _, some _]) ct_162_12 (Nat.le_of_ble_eq_true rfl) (by decide) (sT_31 hS) rfl (by decide) rfl rfl (Nat.le_of_ble_eq_true rfl) ?_
      refine c_in rfl ki_0 ki_1 (fun h => absurd h (by omega)) (fun _ => wk_i ?_)
      refine wi_ifne_f ct_162_15 ki_0 (by decide) ?_
      refine wi_ic ct_162_18 kc_m1 ?_
      refine wi_iret ct_162_19 rfl (wk_i ?_)
      refine wi_iceq_t ct_211_596 ki_m1 ki_m1 (by decide) ?_
      exact kk own g fi fl hR (by omega) (by omega)
  · skip
    refine wi_aload_1 ct_211_568 ?_
    refine wi_aloadT_0 ct_211_569 ?_
    refine wi_iload_3 ct_211_570 ?_
    refine wi_ic ct_211_571 kc_1 ?_
    refine wi_iadd ct_211_572 rfl ?_
    refine wi_ialdT (j := I + 1) (x := a1) ct_211_573 (sL_SC hS) (i_in (i_add hi ki_1 (by omega)) (by omega)) (i_cl (i_add hi ki_1 (by omega)) (by omega)) (((hsc _).trans e1)) ?_
    refine wi_aloadT_0 ct_211_574 ?_
    refine wi_iload_3 ct_211_575 ?_
    refine wi_ic ct_211_576 kc_2 ?_
    refine wi_iadd ct_211_577 rfl ?_
    refine wi_ialdT (j := I + 2) (x := a2) ct_211_578 (sL_SC hS) (i_in (i_add hi ki_2 (by omega)) (by omega)) (i_cl (i_add hi ki_2 (by omega)) (by omega)) (((hsc _).trans e2)) ?_
    refine wi_cv2 (ls' := [some _, some _, some _]) ct_211_579 (Nat.le_of_ble_eq_true rfl) (by decide) (sT_0 hS) rfl (by decide) rfl rfl (Nat.le_of_ble_eq_true rfl) ?_
    refine wi_aload_0 ct_79_0 ?_
    refine wi_ic ct_79_1 kc_1 ?_
    refine wi_ic ct_79_2 kc_1 ?_
    refine wi_ic ct_79_3 kc_9 ?_
    refine wi_iload_1 ct_79_5 ?_
    refine wi_iload_2 ct_79_6 ?_
    refine wi_cv5 (ls' := [some _, some _, some _, some _, some _, some _, none, none, none, none]) ct_79_7 (Nat.le_of_ble_eq_true rfl) (by decide) (sT_0 hS) rfl (by decide) rfl rfl (Nat.le_of_ble_eq_true rfl) ?_
    refine wi_aload_0 ct_109_0 ?_
    refine wi_iload_4 ct_109_1 ?_
    refine wi_cv1 (ls' := [some _, some _]) ct_109_3 (Nat.le_of_ble_eq_true rfl) (by decide) (sT_0 hS) rfl (by decide) rfl rfl (Nat.le_of_ble_eq_true rfl) ?_
    refine wi_iload_1 ct_104_0 ?_
    refine wi_ic ct_104_1 kc_0 ?_
    refine wi_aload_0 ct_104_2 ?_
    refine wi_gfr ct_104_3 (sT_0 hS) rfl (sR_0_0 hS) ?_
    refine wi_gf (x := fi 31 0) ct_104_6 (sT_1 hS) rfl rfl c0 ?_
    refine wi_ic ct_104_9 kc_1 ?_
    refine wi_isub ct_104_10 rfl ?_
    refine wi_cs3 (ls' := [some _, some _, some _]) ct_104_11 (Nat.le_of_ble_eq_true rfl) rfl (Nat.le_of_ble_eq_true rfl) ?_
    refine c_within rfl ki_0 (i_sub rfl ki_1 (by omega)) (fun h => absurd h (by omega)) (fun _ => wk_i ?_)
    refine wi_ifeq_t ct_104_14 ki_0 (by decide) ?_
    refine wi_null ct_104_29 ?_
    refine wi_aretn ct_104_30 (wk_n ?_)
    refine wi_astoreN_6 rfl ct_109_6 ?_
    refine wi_aloadN_6 ct_109_8 ?_
    refine wi_ifnull_n ct_109_10 ?_
    refine wi_ic ct_109_23 kc_m1 ?_
    refine wi_iret ct_109_24 rfl (wk_i ?_)
    refine wi_iret ct_79_10 rfl (wk_i ?_)
    refine wi_aload_2 ct_211_582 ?_
    refine wi_aloadT_0 ct_211_583 ?_
    refine wi_iload_3 ct_211_584 ?_
    refine wi_ic ct_211_585 kc_1 ?_
    refine wi_iadd ct_211_586 rfl ?_
    refine wi_ialdT (j := I + 1) (x := a1) ct_211_587 (sL_SC hS) (i_in (i_add hi ki_1 (by omega)) (by omega)) (i_cl (i_add hi ki_1 (by omega)) (by omega)) (((hsc _).trans e1)) ?_
    refine wi_aloadT_0 ct_211_588 ?_
    refine wi_iload_3 ct_211_589 ?_
    refine wi_ic ct_211_590 kc_2 ?_
    refine wi_iadd ct_211_591 rfl ?_
    refine wi_ialdT (j := I + 2) (x := a2) ct_211_592 (sL_SC hS) (i_in (i_add hi ki_2 (by omega)) (by omega)) (i_cl (i_add hi ki_2 (by omega)) (by omega)) (((hsc _).trans e2)) ?_
    refine wi_cv2 (ls' := [some _, some _, some _, none, none, none, none, none]) ct_211_593 (Nat.le_of_ble_eq_true rfl) (by decide) (sT_31 hS) rfl (by decide) rfl rfl (Nat.le_of_ble_eq_true rfl) ?_
    refine wi_aload_0 ct_162_0 ?_
    refine wi_iload_1 ct_162_1 ?_
    refine wi_cv1 (ls' := [some _, some _]) ct_162_2 (Nat.le_of_ble_eq_true rfl) (by decide) (sT_31 hS) rfl (by decide) rfl rfl (Nat.le_of_ble_eq_true rfl) ?_
    refine wi_aload_0 ct_120_0 ?_
    refine wi_iload_1 ct_120_1 ?_
    refine wi_ic ct_120_2 kc_0 ?_
    refine wi_aload_0 ct_120_3 ?_
    refine wi_gf (x := fi 31 0) ct_120_4 (sT_31 hS) rfl rfl rfl ?_
    refine wi_ic ct_120_7 kc_1 ?_
    refine wi_isub ct_120_8 rfl ?_
    refine wi_cv3 (ls' := [some _, some _, some _, some _]) ct_120_9 (Nat.le_of_ble_eq_true rfl) (by decide) (sT_31 hS) rfl (by decide) rfl rfl (Nat.le_of_ble_eq_true rfl) ?_
    refine c_in rfl ki_0 (i_sub rfl ki_1 (by omega)) (fun h => absurd h (by omega)) (fun _ => wk_i ?_)
    refine wi_iret ct_120_12 (by decide) (wk_i ?_)
    refine wi_ifeq_t ct_162_5 ki_0 (by decide) ?_
    refine wi_ic ct_162_18 kc_m1 ?_
    refine wi_iret ct_162_19 rfl (wk_i ?_)
    refine wi_iceq_t ct_211_596 ki_m1 ki_m1 (by decide) ?_
    exact kk own g fi fl hR (by omega) (by omega)
set_option maxHeartbeats 2000000 in
theorem op_best {L I : Nat} {xs : Nat → Int32} {own : Nat → Nat} {d : Nat} {g : am_G} {fi : am_I} {fl : am_L} {P : Option Value → am_G → am_I → am_L → Prop} {i : Int32} (hi : i.toInt = (I : Int)) (hI6 : I + 6 ≤ L) (hL : L ≤ 3072) (hR : Rel L xs own g fi fl) (hnx : am_nx g ≤ 800000) (kk : ∀ own' g' fi' fl', Rel L xs own' g' fi' fl' → am_nx g' ≤ am_nx g + 30 → am_sl g' ≤ am_sl g + 1000 → WP (d + 60) 211 1359 [some (.retAddr 0), some (.ref 0), some (.ref 31), some (.int i)] [] g' fi' fl' P) : WP (d + 60) 211 601 [some (.retAddr 0), some (.ref 0), some (.ref 31), some (.int i)] [] g fi fl P := by
  obtain ⟨hS, hsc, hC, hK, hX, hV, hT, hP, hB, hN, hQ, hZ, hI⟩ := id hR
  obtain ⟨⟨c0, c0a, c0b⟩, ⟨c1, c1a, c1b⟩, ⟨c2, c2a, c2b⟩, ⟨c3, c3a, c3b⟩, ⟨c4, c4a, c4b⟩, ⟨c5, c5a, c5b⟩, ⟨c6, c6a, c6b⟩, ⟨c7, c7a, c7b⟩, c8, c9⟩ := id hC
  obtain ⟨a1, e1⟩ : ∃ a, xs (I + 1) = a := ⟨_, rfl⟩
  obtain ⟨a2, e2⟩ : ∃ a, xs (I + 2) = a := ⟨_, rfl⟩
  by_cases hA : 0 ≤ (a1).toInt ∧ (a1).toInt < (fi 31 0).toInt
  · skip
    obtain ⟨B, hBa⟩ : ∃ B : Nat, (a1).toInt = (B : Int) := ⟨(a1).toInt.toNat, by omega⟩
    have hBn := hBa
    obtain ⟨p, r, kd, v, cd, aim, co, row, hW⟩ := BLW.of hB c0b (B := B) (by omega)
    obtain ⟨sq, hsq, hsx⟩ := sq_of hR
    obtain ⟨hB5, hO, w32, w33, w34, w35, w36, w37, k6, v9, d9, a60, co9, r9⟩ := id hW
    obtain ⟨o0, ⟨o72, onx, oow⟩, ot, ok, on, ov, oc, oa, om, orw⟩ := id hO
    have kq := fun j (h : j < 3) => (hK j (by omega)).2
    have hk0 := kq 0 (by decide)
    have hk1 := kq 1 (by decide)
    have hk2 := kq 2 (by decide)
    replace hk0 := And.intro hk0.1 (hk0.2.2 (by decide))
    replace hk1 := And.intro hk1.1 (hk1.2.2 (by decide))
    replace hk2 := And.intro hk2.1 (hk2.2.2 (by decide))
    have hGb := goodV_bd hk0 hk1 hk2
    obtain ⟨f, hf⟩ : ∃ f : Nat → Int, ∀ k : Nat, f k = gBr (mkLk sq B kd v) (goL (mkLk sq B kd v) kd v aim row 0 false 30 0 ((fi 31 1).toInt) 0 (cd * (goodV ((k : Int) / 10) ((k : Int) % 10) (fi 38 2).toInt))) := ⟨fun k => gBr (mkLk sq B kd v) (goL (mkLk sq B kd v) kd v aim row 0 false 30 0 ((fi 31 1).toInt) 0 (cd * (goodV ((k : Int) / 10) ((k : Int) % 10) (fi 38 2).toInt))), fun k => rfl⟩
    refine wi_aload_1 ct_211_601 ?_
    refine wi_aloadT_0 ct_211_602 ?_
    refine wi_iload_3 ct_211_603 ?_
    refine wi_ic ct_211_604 kc_1 ?_
    refine wi_iadd ct_211_605 rfl ?_
    refine wi_ialdT (j := I + 1) (x := a1) ct_211_606 (sL_SC hS) (i_in (i_add hi ki_1 (by omega)) (by omega)) (i_cl (i_add hi ki_1 (by omega)) (by omega)) (((hsc _).trans e1)) ?_
    refine wi_aloadT_0 ct_211_607 ?_
    refine wi_iload_3 ct_211_608 ?_
    refine wi_ic ct_211_609 kc_2 ?_
    refine wi_iadd ct_211_610 rfl ?_
    refine wi_ialdT (j := I + 2) (x := a2) ct_211_611 (sL_SC hS) (i_in (i_add hi ki_2 (by omega)) (by omega)) (i_cl (i_add hi ki_2 (by omega)) (by omega)) (((hsc _).trans e2)) ?_
    refine wi_cv2 (ls' := [some _, some _, some _]) ct_211_612 (Nat.le_of_ble_eq_true rfl) (by decide) (sT_0 hS) rfl (by decide) rfl rfl (Nat.le_of_ble_eq_true rfl) ?_
    refine wi_aload_0 ct_80_0 ?_
    refine wi_ic ct_80_1 kc_2 ?_
    refine wi_ic ct_80_2 kc_0 ?_
    refine wi_ic ct_80_3 kc_99 ?_
    refine wi_iload_1 ct_80_5 ?_
    refine wi_iload_2 ct_80_6 ?_
    refine wi_cv5 (ls' := [some _, some _, some _, some _, some _, some _, none, none, none, none]) ct_80_7 (Nat.le_of_ble_eq_true rfl) (by decide) (sT_0 hS) rfl (by decide) rfl rfl (Nat.le_of_ble_eq_true rfl) ?_
    refine wi_aload_0 ct_109_0 ?_
    refine wi_iload_4 ct_109_1 ?_
    refine wi_cv1 (ls' := [some _, some _]) ct_109_3 (Nat.le_of_ble_eq_true rfl) (by decide) (sT_0 hS) rfl (by decide) rfl rfl (Nat.le_of_ble_eq_true rfl) ?_
    refine wi_iload_1 ct_104_0 ?_
    refine wi_ic ct_104_1 kc_0 ?_
    refine wi_aload_0 ct_104_2 ?_
    refine wi_gfr ct_104_3 (sT_0 hS) rfl (sR_0_0 hS) ?_
    refine wi_gf (x := fi 31 0) ct_104_6 (sT_1 hS) rfl rfl c0 ?_
    refine wi_ic ct_104_9 kc_1 ?_
    refine wi_isub ct_104_10 rfl ?_
    refine wi_cs3 (ls' := [some _, some _, some _]) ct_104_11 (Nat.le_of_ble_eq_true rfl) rfl (Nat.le_of_ble_eq_true rfl) ?_
    refine c_within hBn ki_0 (i_sub rfl ki_1 (by omega)) (fun _ => wk_i ?_) (fun h => absurd h (by omega))
    refine wi_ifeq_f ct_104_14 ki_1 (by decide) ?_
    refine wi_aload_0 ct_104_17 ?_
    refine wi_gfr ct_104_18 (sT_0 hS) rfl (sR_0_0 hS) ?_
    refine wi_gfr ct_104_21 (sT_1 hS) rfl (sR_1_0 hS) ?_
    refine wi_iload_1 ct_104_24 ?_
    refine wi_aald ct_104_25 (sT_2 hS) (by decide) (sL_2 hS) (i_in hBn (by omega)) (i_cl (k := B) hBn (by omega)) o0 ?_
    refine wi_goto ct_104_26 ?_
    refine wi_aret ct_104_30 (wk_r ?_)
    refine wi_astore_6 rfl ct_109_6 ?_
    refine wi_aload_6 ct_109_8 ?_
    refine wi_ifnull_r ct_109_10 ?_
    refine wi_iload_5 ct_109_13 ?_
    refine wi_ic ct_109_15 kc_0 ?_
    refine wi_ic ct_109_16 kc_1 ?_
    refine wi_cs3 (ls' := [some _, some _, some _]) ct_109_17 (Nat.le_of_ble_eq_true rfl) rfl (Nat.le_of_ble_eq_true rfl) ?_
    refine c_within rfl ki_0 ki_1 (fun h1 => wk_i ?_) (fun h1 => wk_i ?_)
    · skip
      refine wi_ifne_t ct_109_20 ki_1 (by decide) ?_
      refine wi_iload_2 ct_109_25 ?_
      refine wi_istore_7 rfl ct_109_26 ?_
      refine wi_ic ct_109_28 kc_m1 ?_
      refine wi_istore_8 rfl ct_109_29 ?_
      refine wi_iload_2 ct_109_31 ?_
      refine wi_istore_9 rfl ct_109_32 ?_
      refine vl_cmix hR hW hsq hsx hf (w := a2) rfl (by omega) 100 0 (0) (-1) _ _ _ _ _ (by omega) (by decide) SCR.rfl (ki_0.trans rfl) ki_0 ki_m1 (fun zc2 gc2 fc2 hzc2 hsc2 => wk_i ?_)
      have hSc2 := (hR.scr hsc2).1
      refine wi_iret ct_80_10 rfl (wk_i ?_)
      refine wi_aload_2 ct_211_615 ?_
      refine wi_aloadT_0 ct_211_616 ?_
      refine wi_iload_3 ct_211_617 ?_
      refine wi_ic ct_211_618 kc_1 ?_
      refine wi_iadd ct_211_619 rfl ?_
      refine wi_ialdT (j := I + 1) (x := a1) ct_211_620 (sL_SC hSc2) (i_in (i_add hi ki_1 (by omega)) (by omega)) (i_cl (i_add hi ki_1 (by omega)) (by omega)) ((Eq.trans (congrFun (hsc2.2.1 am_SC (by unfold am_SC; decide)) _) ((hsc _).trans e1))) ?_
      refine wi_aloadT_0 ct_211_621 ?_
      refine wi_iload_3 ct_211_622 ?_
      refine wi_ic ct_211_623 kc_2 ?_
      refine wi_iadd ct_211_624 rfl ?_
      refine wi_ialdT (j := I + 2) (x := a2) ct_211_625 (sL_SC hSc2) (i_in (i_add hi ki_2 (by omega)) (by omega)) (i_cl (i_add hi ki_2 (by omega)) (by omega)) ((Eq.trans (congrFun (hsc2.2.1 am_SC (by unfold am_SC; decide)) _) ((hsc _).trans e2))) ?_
      refine wi_cv2 (ls' := [some _, some _, some _, none, none, none, none, none, none]) ct_211_626 (Nat.le_of_ble_eq_true rfl) (by decide) (sT_31 hSc2) rfl (by decide) rfl rfl (Nat.le_of_ble_eq_true rfl) ?_
      refine wi_aload_0 ct_163_0 ?_
      refine wi_iload_1 ct_163_1 ?_
      refine wi_cv1 (ls' := [some _, some _]) ct_163_2 (Nat.le_of_ble_eq_true rfl) (by decide) (sT_31 hSc2) rfl (by decide) rfl rfl (Nat.le_of_ble_eq_true rfl) ?_
      refine wi_aload_0 ct_120_0 ?_
      refine wi_iload_1 ct_120_1 ?_
      refine wi_ic ct_120_2 kc_0 ?_
      refine wi_aload_0 ct_120_3 ?_
      refine wi_gf (x := fi 31 0) ct_120_4 (sT_31 hSc2) rfl rfl (hsc2.2.2.2 0 (by omega)) ?_
      refine wi_ic ct_120_7 kc_1 ?_
      refine wi_isub ct_120_8 rfl ?_
      refine wi_cv3 (ls' := [some _, some _, some _, some _]) ct_120_9 (Nat.le_of_ble_eq_true rfl) (by decide) (sT_31 hSc2) rfl (by decide) rfl rfl (Nat.le_of_ble_eq_true rfl) ?_
      refine c_in hBn ki_0 (i_sub rfl ki_1 (by omega)) (fun _ => wk_i ?_) (fun h => absurd h (by omega))
      refine wi_iret ct_120_12 (by decide) (wk_i ?_)
      refine wi_ifeq_f ct_163_5 ki_1 (by decide) ?_
      refine wi_aload_0 ct_163_8 ?_
      refine wi_iload_2 ct_163_9 ?_
      refine wi_ic ct_163_10 kc_0 ?_
      refine wi_ic ct_163_11 kc_1 ?_
      refine wi_cv3 (ls' := [some _, some _, some _, some _]) ct_163_12 (Nat.le_of_ble_eq_true rfl) (by decide) (sT_31 hSc2) rfl (by decide) rfl rfl (Nat.le_of_ble_eq_true rfl) ?_
      refine c_in rfl ki_0 ki_1 (fun _ => wk_i ?_) (fun h => absurd h (by omega))
      refine wi_ifne_t ct_163_15 ki_1 (by decide) ?_
      refine wi_aload_0 ct_163_20 ?_
      refine wi_gfr ct_163_21 (sT_31 hSc2) rfl (sR_31_8 hSc2) ?_
      refine wi_ic ct_163_24 kc_0 ?_
      refine wi_iald (x := fi 38 0) ct_163_25 (sT_38 hSc2) (sL_38 hSc2) (by decide) kn_c0 (congrFun (hsc2.2.1 38 (by omega)) _) ?_
      refine wi_istore_3 rfl ct_163_26 ?_
      refine wi_aload_0 ct_163_27 ?_
      refine wi_gfr ct_163_28 (sT_31 hSc2) rfl (sR_31_8 hSc2) ?_
      refine wi_ic ct_163_31 kc_1 ?_
      refine wi_iald (x := fi 38 1) ct_163_32 (sT_38 hSc2) (sL_38 hSc2) (by decide) kn_c1 (congrFun (hsc2.2.1 38 (by omega)) _) ?_
      refine wi_istore_4 rfl ct_163_33 ?_
      refine wi_ic ct_163_35 kc_0 ?_
      refine wi_istore_5 rfl ct_163_36 ?_
      refine wi_ic ct_163_38 kc_m1 ?_
      refine wi_istore_6 rfl ct_163_39 ?_
      refine wi_ic ct_163_41 kc_0 ?_
      refine wi_istore_7 rfl ct_163_42 ?_
      refine vl_mmix hR hW hsq hf (w := a2) rfl (by omega) hBa rfl rfl 100 0 (0) (-1) _ _ _ _ _ _ _ none (by omega) (by decide) (SCR.wi2 hsc2) (ki_0.trans rfl) ki_0 ki_m1 rfl (fun zm3 fm3 hzm3 hsm3 => wk_i ?_)
      refine wi_iceq_t ct_211_629 hzc2 hzm3 (by omega) ?_
      exact kk own _ _ fl (hR.scr hsm3) (by rw [hsm3.nx]; omega) (by rw [hsm3.sl]; omega)
    · skip
      refine wi_ifne_f ct_109_20 ki_0 (by decide) ?_
      refine wi_ic ct_109_23 kc_m1 ?_
      refine wi_iret ct_109_24 rfl (wk_i ?_)
      refine wi_iret ct_80_10 rfl (wk_i ?_)
      refine wi_aload_2 ct_211_615 ?_
      refine wi_aloadT_0 ct_211_616 ?_
      refine wi_iload_3 ct_211_617 ?_
      refine wi_ic ct_211_618 kc_1 ?_
      refine wi_iadd ct_211_619 rfl ?_
      refine wi_ialdT (j := I + 1) (x := a1) ct_211_620 (sL_SC hS) (i_in (i_add hi ki_1 (by omega)) (by omega)) (i_cl (i_add hi ki_1 (by omega)) (by omega)) (((hsc _).trans e1)) ?_
      refine wi_aloadT_0 ct_211_621 ?_
      refine wi_iload_3 ct_211_622 ?_
      refine wi_ic ct_211_623 kc_2 ?_
      refine wi_iadd ct_211_624 rfl ?_
      refine wi_ialdT (j := I + 2) (x := a2) ct_211_625 (sL_SC hS) (i_in (i_add hi ki_2 (by omega)) (by omega)) (i_cl (i_add hi ki_2 (by omega)) (by omega)) (((hsc _).trans e2)) ?_
      refine wi_cv2 (ls' := [some _, some _, some _, none, none, none, none, none, none]) ct_211_626 (Nat.le_of_ble_eq_true rfl) (by decide) (sT_31 hS) rfl (by decide) rfl rfl (Nat.le_of_ble_eq_true rfl) ?_
      refine wi_aload_0 ct_163_0 ?_
      refine wi_iload_1 ct_163_1 ?_
      refine wi_cv1 (ls' := [some _, some _]) ct_163_2 (Nat.le_of_ble_eq_true rfl) (by decide) (sT_31 hS) rfl (by decide) rfl rfl (Nat.le_of_ble_eq_true rfl) ?_
      refine wi_aload_0 ct_120_0 ?_
      refine wi_iload_1 ct_120_1 ?_
      refine wi_ic ct_120_2 kc_0 ?_
      refine wi_aload_0 ct_120_3 ?_
      refine wi_gf (x := fi 31 0) ct_120_4 (sT_31 hS) rfl rfl rfl ?_
      refine wi_ic ct_120_7 kc_1 ?_
      refine wi_isub ct_120_8 rfl ?_
      refine wi_cv3 (ls' := [some _, some _, some _, some _]) ct_120_9 (Nat.le_of_ble_eq_true rfl) (by decide) (sT_31 hS) rfl (by decide) rfl rfl (Nat.le_of_ble_eq_true rfl) ?_
      refine c_in hBn ki_0 (i_sub rfl ki_1 (by omega)) (fun _ => wk_i ?_) (fun h => absurd h (by omega))
      refine wi_iret ct_120_12 (by decide) (wk_i ?_)
      refine wi_ifeq_f ct_163_5 ki_1 (by decide) ?_
      refine wi_aload_0 ct_163_8 ?_
      refine wi_iload_2 ct_163_9 ?_
      refine wi_ic ct_163_10 kc_0 ?_
      refine wi_ic ct_163_11 kc_1 ?_
      refine wi_cv3 (ls' := [some _, some _, some _, some _]) ct_163_12 (Nat.le_of_ble_eq_true rfl) (by decide) (sT_31 hS) rfl (by decide) rfl rfl (Nat.le_of_ble_eq_true rfl) ?_
      refine c_in rfl ki_0 ki_1 (fun h => absurd h (by omega)) (fun _ => wk_i ?_)
      refine wi_ifne_f ct_163_15 ki_0 (by decide) ?_
      refine wi_ic ct_163_18 kc_m1 ?_
      refine wi_iret ct_163_19 rfl (wk_i ?_)
      refine wi_iceq_t ct_211_629 ki_m1 ki_m1 (by decide) ?_
      exact kk own g fi fl hR (by omega) (by omega)
  · skip
    refine wi_aload_1 ct_211_601 ?_
    refine wi_aloadT_0 ct_211_602 ?_
    refine wi_iload_3 ct_211_603 ?_
    refine wi_ic ct_211_604 kc_1 ?_
    refine wi_iadd ct_211_605 rfl ?_
    refine wi_ialdT (j := I + 1) (x := a1) ct_211_606 (sL_SC hS) (i_in (i_add hi ki_1 (by omega)) (by omega)) (i_cl (i_add hi ki_1 (by omega)) (by omega)) (((hsc _).trans e1)) ?_
    refine wi_aloadT_0 ct_211_607 ?_
    refine wi_iload_3 ct_211_608 ?_
    refine wi_ic ct_211_609 kc_2 ?_
    refine wi_iadd ct_211_610 rfl ?_
    refine wi_ialdT (j := I + 2) (x := a2) ct_211_611 (sL_SC hS) (i_in (i_add hi ki_2 (by omega)) (by omega)) (i_cl (i_add hi ki_2 (by omega)) (by omega)) (((hsc _).trans e2)) ?_
    refine wi_cv2 (ls' := [some _, some _, some _]) ct_211_612 (Nat.le_of_ble_eq_true rfl) (by decide) (sT_0 hS) rfl (by decide) rfl rfl (Nat.le_of_ble_eq_true rfl) ?_
    refine wi_aload_0 ct_80_0 ?_
    refine wi_ic ct_80_1 kc_2 ?_
    refine wi_ic ct_80_2 kc_0 ?_
    refine wi_ic ct_80_3 kc_99 ?_
    refine wi_iload_1 ct_80_5 ?_
    refine wi_iload_2 ct_80_6 ?_
    refine wi_cv5 (ls' := [some _, some _, some _, some _, some _, some _, none, none, none, none]) ct_80_7 (Nat.le_of_ble_eq_true rfl) (by decide) (sT_0 hS) rfl (by decide) rfl rfl (Nat.le_of_ble_eq_true rfl) ?_
    refine wi_aload_0 ct_109_0 ?_
    refine wi_iload_4 ct_109_1 ?_
    refine wi_cv1 (ls' := [some _, some _]) ct_109_3 (Nat.le_of_ble_eq_true rfl) (by decide) (sT_0 hS) rfl (by decide) rfl rfl (Nat.le_of_ble_eq_true rfl) ?_
    refine wi_iload_1 ct_104_0 ?_
    refine wi_ic ct_104_1 kc_0 ?_
    refine wi_aload_0 ct_104_2 ?_
    refine wi_gfr ct_104_3 (sT_0 hS) rfl (sR_0_0 hS) ?_
    refine wi_gf (x := fi 31 0) ct_104_6 (sT_1 hS) rfl rfl c0 ?_
    refine wi_ic ct_104_9 kc_1 ?_
    refine wi_isub ct_104_10 rfl ?_
    refine wi_cs3 (ls' := [some _, some _, some _]) ct_104_11 (Nat.le_of_ble_eq_true rfl) rfl (Nat.le_of_ble_eq_true rfl) ?_
    refine c_within rfl ki_0 (i_sub rfl ki_1 (by omega)) (fun h => absurd h (by omega)) (fun _ => wk_i ?_)
    refine wi_ifeq_t ct_104_14 ki_0 (by decide) ?_
    refine wi_null ct_104_29 ?_
    refine wi_aretn ct_104_30 (wk_n ?_)
    refine wi_astoreN_6 rfl ct_109_6 ?_
    refine wi_aloadN_6 ct_109_8 ?_
    refine wi_ifnull_n ct_109_10 ?_
    refine wi_ic ct_109_23 kc_m1 ?_
    refine wi_iret ct_109_24 rfl (wk_i ?_)
    refine wi_iret ct_80_10 rfl (wk_i ?_)
    refine wi_aload_2 ct_211_615 ?_
    refine wi_aloadT_0 ct_211_616 ?_
    refine wi_iload_3 ct_211_617 ?_
    refine wi_ic ct_211_618 kc_1 ?_
    refine wi_iadd ct_211_619 rfl ?_
    refine wi_ialdT (j := I + 1) (x := a1) ct_211_620 (sL_SC hS) (i_in (i_add hi ki_1 (by omega)) (by omega)) (i_cl (i_add hi ki_1 (by omega)) (by omega)) (((hsc _).trans e1)) ?_
    refine wi_aloadT_0 ct_211_621 ?_
    refine wi_iload_3 ct_211_622 ?_
    refine wi_ic ct_211_623 kc_2 ?_
    refine wi_iadd ct_211_624 rfl ?_
    refine wi_ialdT (j := I + 2) (x := a2) ct_211_625 (sL_SC hS) (i_in (i_add hi ki_2 (by omega)) (by omega)) (i_cl (i_add hi ki_2 (by omega)) (by omega)) (((hsc _).trans e2)) ?_
    refine wi_cv2 (ls' := [some _, some _, some _, none, none, none, none, none, none]) ct_211_626 (Nat.le_of_ble_eq_true rfl) (by decide) (sT_31 hS) rfl (by decide) rfl rfl (Nat.le_of_ble_eq_true rfl) ?_
    refine wi_aload_0 ct_163_0 ?_
    refine wi_iload_1 ct_163_1 ?_
    refine wi_cv1 (ls' := [some _, some _]) ct_163_2 (Nat.le_of_ble_eq_true rfl) (by decide) (sT_31 hS) rfl (by decide) rfl rfl (Nat.le_of_ble_eq_true rfl) ?_
    refine wi_aload_0 ct_120_0 ?_
    refine wi_iload_1 ct_120_1 ?_
    refine wi_ic ct_120_2 kc_0 ?_
    refine wi_aload_0 ct_120_3 ?_
    refine wi_gf (x := fi 31 0) ct_120_4 (sT_31 hS) rfl rfl rfl ?_
    refine wi_ic ct_120_7 kc_1 ?_
    refine wi_isub ct_120_8 rfl ?_
    refine wi_cv3 (ls' := [some _, some _, some _, some _]) ct_120_9 (Nat.le_of_ble_eq_true rfl) (by decide) (sT_31 hS) rfl (by decide) rfl rfl (Nat.le_of_ble_eq_true rfl) ?_
    refine c_in rfl ki_0 (i_sub rfl ki_1 (by omega)) (fun h => absurd h (by omega)) (fun _ => wk_i ?_)
    refine wi_iret ct_120_12 (by decide) (wk_i ?_)
    refine wi_ifeq_t ct_163_5 ki_0 (by decide) ?_
    refine wi_ic ct_163_18 kc_m1 ?_
    refine wi_iret ct_163_19 rfl (wk_i ?_)
    refine wi_iceq_t ct_211_629 ki_m1 ki_m1 (by decide) ?_
    exact kk own g fi fl hR (by omega) (by omega)
set_option maxHeartbeats 2000000 in
theorem op_when {L I : Nat} {xs : Nat → Int32} {own : Nat → Nat} {d : Nat} {g : am_G} {fi : am_I} {fl : am_L} {P : Option Value → am_G → am_I → am_L → Prop} {i : Int32} (hi : i.toInt = (I : Int)) (hI6 : I + 6 ≤ L) (hL : L ≤ 3072) (hR : Rel L xs own g fi fl) (hnx : am_nx g ≤ 800000) (kk : ∀ own' g' fi' fl', Rel L xs own' g' fi' fl' → am_nx g' ≤ am_nx g + 30 → am_sl g' ≤ am_sl g + 1000 → WP (d + 60) 211 1359 [some (.retAddr 0), some (.ref 0), some (.ref 31), some (.int i)] [] g' fi' fl' P) : WP (d + 60) 211 634 [some (.retAddr 0), some (.ref 0), some (.ref 31), some (.int i)] [] g fi fl P := by
  obtain ⟨hS, hsc, hC, hK, hX, hV, hT, hP, hB, hN, hQ, hZ, hI⟩ := id hR
  obtain ⟨⟨c0, c0a, c0b⟩, ⟨c1, c1a, c1b⟩, ⟨c2, c2a, c2b⟩, ⟨c3, c3a, c3b⟩, ⟨c4, c4a, c4b⟩, ⟨c5, c5a, c5b⟩, ⟨c6, c6a, c6b⟩, ⟨c7, c7a, c7b⟩, c8, c9⟩ := id hC
  obtain ⟨a1, e1⟩ : ∃ a, xs (I + 1) = a := ⟨_, rfl⟩
  obtain ⟨a2, e2⟩ : ∃ a, xs (I + 2) = a := ⟨_, rfl⟩
  by_cases hA : 0 ≤ (a1).toInt ∧ (a1).toInt < (fi 31 0).toInt
  · skip
    obtain ⟨B, hBa⟩ : ∃ B : Nat, (a1).toInt = (B : Int) := ⟨(a1).toInt.toNat, by omega⟩
    have hBn := hBa
    obtain ⟨p, r, kd, v, cd, aim, co, row, hW⟩ := BLW.of hB c0b (B := B) (by omega)
    obtain ⟨sq, hsq, hsx⟩ := sq_of hR
    obtain ⟨hB5, hO, w32, w33, w34, w35, w36, w37, k6, v9, d9, a60, co9, r9⟩ := id hW
    obtain ⟨o0, ⟨o72, onx, oow⟩, ot, ok, on, ov, oc, oa, om, orw⟩ := id hO
    have kq := fun j (h : j < 3) => (hK j (by omega)).2
    have hk0 := kq 0 (by decide)
    have hk1 := kq 1 (by decide)
    have hk2 := kq 2 (by decide)
    replace hk0 := And.intro hk0.1 (hk0.2.2 (by decide))
    replace hk1 := And.intro hk1.1 (hk1.2.2 (by decide))
    replace hk2 := And.intro hk2.1 (hk2.2.2 (by decide))
    have hGb := goodV_bd hk0 hk1 hk2
    obtain ⟨f, hf⟩ : ∃ f : Nat → Int, ∀ k : Nat, f k = gBr (mkLk sq B kd v) (goL (mkLk sq B kd v) kd v aim row 0 false 30 0 ((fi 31 1).toInt + k) 0 (cd * (goodV (fi 38 0).toInt (fi 38 1).toInt (fi 38 2).toInt))) := ⟨fun k => gBr (mkLk sq B kd v) (goL (mkLk sq B kd v) kd v aim row 0 false 30 0 ((fi 31 1).toInt + k) 0 (cd * (goodV (fi 38 0).toInt (fi 38 1).toInt (fi 38 2).toInt))), fun k => rfl⟩
    refine wi_aload_1 ct_211_634 ?_
    refine wi_aloadT_0 ct_211_635 ?_
    refine wi_iload_3 ct_211_636 ?_
    refine wi_ic ct_211_637 kc_1 ?_
    refine wi_iadd ct_211_638 rfl ?_
    refine wi_ialdT (j := I + 1) (x := a1) ct_211_639 (sL_SC hS) (i_in (i_add hi ki_1 (by omega)) (by omega)) (i_cl (i_add hi ki_1 (by omega)) (by omega)) (((hsc _).trans e1)) ?_
    refine wi_aloadT_0 ct_211_640 ?_
    refine wi_iload_3 ct_211_641 ?_
    refine wi_ic ct_211_642 kc_2 ?_
    refine wi_iadd ct_211_643 rfl ?_
    refine wi_ialdT (j := I + 2) (x := a2) ct_211_644 (sL_SC hS) (i_in (i_add hi ki_2 (by omega)) (by omega)) (i_cl (i_add hi ki_2 (by omega)) (by omega)) (((hsc _).trans e2)) ?_
    refine wi_cv2 (ls' := [some _, some _, some _]) ct_211_645 (Nat.le_of_ble_eq_true rfl) (by decide) (sT_0 hS) rfl (by decide) rfl rfl (Nat.le_of_ble_eq_true rfl) ?_
    refine wi_aload_0 ct_81_0 ?_
    refine wi_ic ct_81_1 kc_3 ?_
    refine wi_ic ct_81_2 kc_0 ?_
    refine wi_ic ct_81_3 kc_23 ?_
    refine wi_iload_1 ct_81_5 ?_
    refine wi_iload_2 ct_81_6 ?_
    refine wi_cv5 (ls' := [some _, some _, some _, some _, some _, some _, none, none, none, none]) ct_81_7 (Nat.le_of_ble_eq_true rfl) (by decide) (sT_0 hS) rfl (by decide) rfl rfl (Nat.le_of_ble_eq_true rfl) ?_
    refine wi_aload_0 ct_109_0 ?_
    refine wi_iload_4 ct_109_1 ?_
    refine wi_cv1 (ls' := [some _, some _]) ct_109_3 (Nat.le_of_ble_eq_true rfl) (by decide) (sT_0 hS) rfl (by decide) rfl rfl (Nat.le_of_ble_eq_true rfl) ?_
    refine wi_iload_1 ct_104_0 ?_
    refine wi_ic ct_104_1 kc_0 ?_
    refine wi_aload_0 ct_104_2 ?_
    refine wi_gfr ct_104_3 (sT_0 hS) rfl (sR_0_0 hS) ?_
    refine wi_gf (x := fi 31 0) ct_104_6 (sT_1 hS) rfl rfl c0 ?_
    refine wi_ic ct_104_9 kc_1 ?_
    refine wi_isub ct_104_10 rfl ?_
    refine wi_cs3 (ls' := [some _, some _, some _]) ct_104_11 (Nat.le_of_ble_eq_true rfl) rfl (Nat.le_of_ble_eq_true rfl) ?_
    refine c_within hBn ki_0 (i_sub rfl ki_1 (by omega)) (fun _ => wk_i ?_) (fun h => absurd h (by omega))
    refine wi_ifeq_f ct_104_14 ki_1 (by decide) ?_
    refine wi_aload_0 ct_104_17 ?_
    refine wi_gfr ct_104_18 (sT_0 hS) rfl (sR_0_0 hS) ?_
    refine wi_gfr ct_104_21 (sT_1 hS) rfl (sR_1_0 hS) ?_
    refine wi_iload_1 ct_104_24 ?_
    refine wi_aald ct_104_25 (sT_2 hS) (by decide) (sL_2 hS) (i_in hBn (by omega)) (i_cl (k := B) hBn (by omega)) o0 ?_
    refine wi_goto ct_104_26 ?_
    refine wi_aret ct_104_30 (wk_r ?_)
    refine wi_astore_6 rfl ct_109_6 ?_
    refine wi_aload_6 ct_109_8 ?_
    refine wi_ifnull_r ct_109_10 ?_
    refine wi_iload_5 ct_109_13 ?_
    refine wi_ic ct_109_15 kc_0 ?_
    refine wi_ic ct_109_16 kc_1 ?_
    refine wi_cs3 (ls' := [some _, some _, some _]) ct_109_17 (Nat.le_of_ble_eq_true rfl) rfl (Nat.le_of_ble_eq_true rfl) ?_
    refine c_within rfl ki_0 ki_1 (fun h1 => wk_i ?_) (fun h1 => wk_i ?_)
    · skip
      refine wi_ifne_t ct_109_20 ki_1 (by decide) ?_
      refine wi_iload_2 ct_109_25 ?_
      refine wi_istore_7 rfl ct_109_26 ?_
      refine wi_ic ct_109_28 kc_m1 ?_
      refine wi_istore_8 rfl ct_109_29 ?_
      refine wi_iload_2 ct_109_31 ?_
      refine wi_istore_9 rfl ct_109_32 ?_
      refine vl_cwhen hR hW hsq hsx hf (w := a2) rfl (by omega) 24 0 (0) (-1) _ _ _ _ _ (by omega) (by decide) SCR.rfl (ki_0.trans rfl) ki_0 ki_m1 (fun zc2 gc2 fc2 hzc2 hsc2 => wk_i ?_)
      have hSc2 := (hR.scr hsc2).1
      refine wi_iret ct_81_10 rfl (wk_i ?_)
      refine wi_aload_2 ct_211_648 ?_
      refine wi_aloadT_0 ct_211_649 ?_
      refine wi_iload_3 ct_211_650 ?_
      refine wi_ic ct_211_651 kc_1 ?_
      refine wi_iadd ct_211_652 rfl ?_
      refine wi_ialdT (j := I + 1) (x := a1) ct_211_653 (sL_SC hSc2) (i_in (i_add hi ki_1 (by omega)) (by omega)) (i_cl (i_add hi ki_1 (by omega)) (by omega)) ((Eq.trans (congrFun (hsc2.2.1 am_SC (by unfold am_SC; decide)) _) ((hsc _).trans e1))) ?_
      refine wi_aloadT_0 ct_211_654 ?_
      refine wi_iload_3 ct_211_655 ?_
      refine wi_ic ct_211_656 kc_2 ?_
      refine wi_iadd ct_211_657 rfl ?_
      refine wi_ialdT (j := I + 2) (x := a2) ct_211_658 (sL_SC hSc2) (i_in (i_add hi ki_2 (by omega)) (by omega)) (i_cl (i_add hi ki_2 (by omega)) (by omega)) ((Eq.trans (congrFun (hsc2.2.1 am_SC (by unfold am_SC; decide)) _) ((hsc _).trans e2))) ?_
      refine wi_cv2 (ls' := [some _, some _, some _, none, none, none, none]) ct_211_659 (Nat.le_of_ble_eq_true rfl) (by decide) (sT_31 hSc2) rfl (by decide) rfl rfl (Nat.le_of_ble_eq_true rfl) ?_
      refine wi_aload_0 ct_164_0 ?_
      refine wi_iload_1 ct_164_1 ?_
      refine wi_cv1 (ls' := [some _, some _]) ct_164_2 (Nat.le_of_ble_eq_true rfl) (by decide) (sT_31 hSc2) rfl (by decide) rfl rfl (Nat.le_of_ble_eq_true rfl) ?_
      refine wi_aload_0 ct_120_0 ?_
      refine wi_iload_1 ct_120_1 ?_
      refine wi_ic ct_120_2 kc_0 ?_
      refine wi_aload_0 ct_120_3 ?_
      refine wi_gf (x := fi 31 0) ct_120_4 (sT_31 hSc2) rfl rfl (hsc2.2.2.2 0 (by omega)) ?_
      refine wi_ic ct_120_7 kc_1 ?_
      refine wi_isub ct_120_8 rfl ?_
      refine wi_cv3 (ls' := [some _, some _, some _, some _]) ct_120_9 (Nat.le_of_ble_eq_true rfl) (by decide) (sT_31 hSc2) rfl (by decide) rfl rfl (Nat.le_of_ble_eq_true rfl) ?_
      refine c_in hBn ki_0 (i_sub rfl ki_1 (by omega)) (fun _ => wk_i ?_) (fun h => absurd h (by omega))
      refine wi_iret ct_120_12 (by decide) (wk_i ?_)
      refine wi_ifeq_f ct_164_5 ki_1 (by decide) ?_
      refine wi_aload_0 ct_164_8 ?_
      refine wi_iload_2 ct_164_9 ?_
      refine wi_ic ct_164_10 kc_0 ?_
      refine wi_ic ct_164_11 kc_1 ?_
      refine wi_cv3 (ls' := [some _, some _, some _, some _]) ct_164_12 (Nat.le_of_ble_eq_true rfl) (by decide) (sT_31 hSc2) rfl (by decide) rfl rfl (Nat.le_of_ble_eq_true rfl) ?_
      refine c_in rfl ki_0 ki_1 (fun _ => wk_i ?_) (fun h => absurd h (by omega))
      refine wi_ifne_t ct_164_15 ki_1 (by decide) ?_
      refine wi_ic ct_164_20 kc_0 ?_
      refine wi_istore_3 rfl ct_164_21 ?_
      refine wi_ic ct_164_22 kc_m1 ?_
      refine wi_istore_4 rfl ct_164_23 ?_
      refine wi_ic ct_164_25 kc_0 ?_
      refine wi_istore_5 rfl ct_164_26 ?_
      refine vl_mwhen (was := 0) (was2 := 0) hR hW hsq hf (w := a2) rfl (by omega) hBa 24 0 (0) (-1) _ _ _ _ _ 0 0 none (by omega) (by decide) hsc2 (ki_0.trans rfl) ki_0 ki_m1 rfl (fun zm3 fm3 hzm3 hsm3 => wk_i ?_)
      refine wi_iceq_t ct_211_662 hzc2 hzm3 (by omega) ?_
      exact kk own _ _ fl (hR.scr hsm3) (by rw [hsm3.nx]; omega) (by rw [hsm3.sl]; omega)
    · skip
      refine wi_ifne_f ct_109_20 ki_0 (by decide) ?_
      refine wi_ic ct_109_23 kc_m1 ?_
      refine wi_iret ct_109_24 rfl (wk_i ?_)
      refine wi_iret ct_81_10 rfl (wk_i ?_)
      refine wi_aload_2 ct_211_648 ?_
      refine wi_aloadT_0 ct_211_649 ?_
      refine wi_iload_3 ct_211_650 ?_
      refine wi_ic ct_211_651 kc_1 ?_
      refine wi_iadd ct_211_652 rfl ?_
      refine wi_ialdT (j := I + 1) (x := a1) ct_211_653 (sL_SC hS) (i_in (i_add hi ki_1 (by omega)) (by omega)) (i_cl (i_add hi ki_1 (by omega)) (by omega)) (((hsc _).trans e1)) ?_
      refine wi_aloadT_0 ct_211_654 ?_
      refine wi_iload_3 ct_211_655 ?_
      refine wi_ic ct_211_656 kc_2 ?_
      refine wi_iadd ct_211_657 rfl ?_
      refine wi_ialdT (j := I + 2) (x := a2) ct_211_658 (sL_SC hS) (i_in (i_add hi ki_2 (by omega)) (by omega)) (i_cl (i_add hi ki_2 (by omega)) (by omega)) (((hsc _).trans e2)) ?_
      refine wi_cv2 (ls' := [some _, some _, some _, none, none, none, none]) ct_211_659 (Nat.le_of_ble_eq_true rfl) (by decide) (sT_31 hS) rfl (by decide) rfl rfl (Nat.le_of_ble_eq_true rfl) ?_
      refine wi_aload_0 ct_164_0 ?_
      refine wi_iload_1 ct_164_1 ?_
      refine wi_cv1 (ls' := [some _, some _]) ct_164_2 (Nat.le_of_ble_eq_true rfl) (by decide) (sT_31 hS) rfl (by decide) rfl rfl (Nat.le_of_ble_eq_true rfl) ?_
      refine wi_aload_0 ct_120_0 ?_
      refine wi_iload_1 ct_120_1 ?_
      refine wi_ic ct_120_2 kc_0 ?_
      refine wi_aload_0 ct_120_3 ?_
      refine wi_gf (x := fi 31 0) ct_120_4 (sT_31 hS) rfl rfl rfl ?_
      refine wi_ic ct_120_7 kc_1 ?_
      refine wi_isub ct_120_8 rfl ?_
      refine wi_cv3 (ls' := [some _, some _, some _, some _]) ct_120_9 (Nat.le_of_ble_eq_true rfl) (by decide) (sT_31 hS) rfl (by decide) rfl rfl (Nat.le_of_ble_eq_true rfl) ?_
      refine c_in hBn ki_0 (i_sub rfl ki_1 (by omega)) (fun _ => wk_i ?_) (fun h => absurd h (by omega))
      refine wi_iret ct_120_12 (by decide) (wk_i ?_)
      refine wi_ifeq_f ct_164_5 ki_1 (by decide) ?_
      refine wi_aload_0 ct_164_8 ?_
      refine wi_iload_2 ct_164_9 ?_
      refine wi_ic ct_164_10 kc_0 ?_
      refine wi_ic ct_164_11 kc_1 ?_
      refine wi_cv3 (ls' := [some _, some _, some _, some _]) ct_164_12 (Nat.le_of_ble_eq_true rfl) (by decide) (sT_31 hS) rfl (by decide) rfl rfl (Nat.le_of_ble_eq_true rfl) ?_
      refine c_in rfl ki_0 ki_1 (fun h => absurd h (by omega)) (fun _ => wk_i ?_)
      refine wi_ifne_f ct_164_15 ki_0 (by decide) ?_
      refine wi_ic ct_164_18 kc_m1 ?_
      refine wi_iret ct_164_19 rfl (wk_i ?_)
      refine wi_iceq_t ct_211_662 ki_m1 ki_m1 (by decide) ?_
      exact kk own g fi fl hR (by omega) (by omega)
  · skip
    refine wi_aload_1 ct_211_634 ?_
    refine wi_aloadT_0 ct_211_635 ?_
    refine wi_iload_3 ct_211_636 ?_
    refine wi_ic ct_211_637 kc_1 ?_
    refine wi_iadd ct_211_638 rfl ?_
    refine wi_ialdT (j := I + 1) (x := a1) ct_211_639 (sL_SC hS) (i_in (i_add hi ki_1 (by omega)) (by omega)) (i_cl (i_add hi ki_1 (by omega)) (by omega)) (((hsc _).trans e1)) ?_
    refine wi_aloadT_0 ct_211_640 ?_
    refine wi_iload_3 ct_211_641 ?_
    refine wi_ic ct_211_642 kc_2 ?_
    refine wi_iadd ct_211_643 rfl ?_
    refine wi_ialdT (j := I + 2) (x := a2) ct_211_644 (sL_SC hS) (i_in (i_add hi ki_2 (by omega)) (by omega)) (i_cl (i_add hi ki_2 (by omega)) (by omega)) (((hsc _).trans e2)) ?_
    refine wi_cv2 (ls' := [some _, some _, some _]) ct_211_645 (Nat.le_of_ble_eq_true rfl) (by decide) (sT_0 hS) rfl (by decide) rfl rfl (Nat.le_of_ble_eq_true rfl) ?_
    refine wi_aload_0 ct_81_0 ?_
    refine wi_ic ct_81_1 kc_3 ?_
    refine wi_ic ct_81_2 kc_0 ?_
    refine wi_ic ct_81_3 kc_23 ?_
    refine wi_iload_1 ct_81_5 ?_
    refine wi_iload_2 ct_81_6 ?_
    refine wi_cv5 (ls' := [some _, some _, some _, some _, some _, some _, none, none, none, none]) ct_81_7 (Nat.le_of_ble_eq_true rfl) (by decide) (sT_0 hS) rfl (by decide) rfl rfl (Nat.le_of_ble_eq_true rfl) ?_
    refine wi_aload_0 ct_109_0 ?_
    refine wi_iload_4 ct_109_1 ?_
    refine wi_cv1 (ls' := [some _, some _]) ct_109_3 (Nat.le_of_ble_eq_true rfl) (by decide) (sT_0 hS) rfl (by decide) rfl rfl (Nat.le_of_ble_eq_true rfl) ?_
    refine wi_iload_1 ct_104_0 ?_
    refine wi_ic ct_104_1 kc_0 ?_
    refine wi_aload_0 ct_104_2 ?_
    refine wi_gfr ct_104_3 (sT_0 hS) rfl (sR_0_0 hS) ?_
    refine wi_gf (x := fi 31 0) ct_104_6 (sT_1 hS) rfl rfl c0 ?_
    refine wi_ic ct_104_9 kc_1 ?_
    refine wi_isub ct_104_10 rfl ?_
    refine wi_cs3 (ls' := [some _, some _, some _]) ct_104_11 (Nat.le_of_ble_eq_true rfl) rfl (Nat.le_of_ble_eq_true rfl) ?_
    refine c_within rfl ki_0 (i_sub rfl ki_1 (by omega)) (fun h => absurd h (by omega)) (fun _ => wk_i ?_)
    refine wi_ifeq_t ct_104_14 ki_0 (by decide) ?_
    refine wi_null ct_104_29 ?_
    refine wi_aretn ct_104_30 (wk_n ?_)
    refine wi_astoreN_6 rfl ct_109_6 ?_
    refine wi_aloadN_6 ct_109_8 ?_
    refine wi_ifnull_n ct_109_10 ?_
    refine wi_ic ct_109_23 kc_m1 ?_
    refine wi_iret ct_109_24 rfl (wk_i ?_)
    refine wi_iret ct_81_10 rfl (wk_i ?_)
    refine wi_aload_2 ct_211_648 ?_
    refine wi_aloadT_0 ct_211_649 ?_
    refine wi_iload_3 ct_211_650 ?_
    refine wi_ic ct_211_651 kc_1 ?_
    refine wi_iadd ct_211_652 rfl ?_
    refine wi_ialdT (j := I + 1) (x := a1) ct_211_653 (sL_SC hS) (i_in (i_add hi ki_1 (by omega)) (by omega)) (i_cl (i_add hi ki_1 (by omega)) (by omega)) (((hsc _).trans e1)) ?_
    refine wi_aloadT_0 ct_211_654 ?_
    refine wi_iload_3 ct_211_655 ?_
    refine wi_ic ct_211_656 kc_2 ?_
    refine wi_iadd ct_211_657 rfl ?_
    refine wi_ialdT (j := I + 2) (x := a2) ct_211_658 (sL_SC hS) (i_in (i_add hi ki_2 (by omega)) (by omega)) (i_cl (i_add hi ki_2 (by omega)) (by omega)) (((hsc _).trans e2)) ?_
    refine wi_cv2 (ls' := [some _, some _, some _, none, none, none, none]) ct_211_659 (Nat.le_of_ble_eq_true rfl) (by decide) (sT_31 hS) rfl (by decide) rfl rfl (Nat.le_of_ble_eq_true rfl) ?_
    refine wi_aload_0 ct_164_0 ?_
    refine wi_iload_1 ct_164_1 ?_
    refine wi_cv1 (ls' := [some _, some _]) ct_164_2 (Nat.le_of_ble_eq_true rfl) (by decide) (sT_31 hS) rfl (by decide) rfl rfl (Nat.le_of_ble_eq_true rfl) ?_
    refine wi_aload_0 ct_120_0 ?_
    refine wi_iload_1 ct_120_1 ?_
    refine wi_ic ct_120_2 kc_0 ?_
    refine wi_aload_0 ct_120_3 ?_
    refine wi_gf (x := fi 31 0) ct_120_4 (sT_31 hS) rfl rfl rfl ?_
    refine wi_ic ct_120_7 kc_1 ?_
    refine wi_isub ct_120_8 rfl ?_
    refine wi_cv3 (ls' := [some _, some _, some _, some _]) ct_120_9 (Nat.le_of_ble_eq_true rfl) (by decide) (sT_31 hS) rfl (by decide) rfl rfl (Nat.le_of_ble_eq_true rfl) ?_
    refine c_in rfl ki_0 (i_sub rfl ki_1 (by omega)) (fun h => absurd h (by omega)) (fun _ => wk_i ?_)
    refine wi_iret ct_120_12 (by decide) (wk_i ?_)
    refine wi_ifeq_t ct_164_5 ki_0 (by decide) ?_
    refine wi_ic ct_164_18 kc_m1 ?_
    refine wi_iret ct_164_19 rfl (wk_i ?_)
    refine wi_iceq_t ct_211_662 ki_m1 ki_m1 (by decide) ?_
    exact kk own g fi fl hR (by omega) (by omega)
set_option maxHeartbeats 2000000 in
theorem op_longest {L I : Nat} {xs : Nat → Int32} {own : Nat → Nat} {d : Nat} {g : am_G} {fi : am_I} {fl : am_L} {P : Option Value → am_G → am_I → am_L → Prop} {i : Int32} (hi : i.toInt = (I : Int)) (hI6 : I + 6 ≤ L) (hL : L ≤ 3072) (hR : Rel L xs own g fi fl) (hnx : am_nx g ≤ 800000) (kk : ∀ own' g' fi' fl', Rel L xs own' g' fi' fl' → am_nx g' ≤ am_nx g + 30 → am_sl g' ≤ am_sl g + 1000 → WP (d + 60) 211 1359 [some (.retAddr 0), some (.ref 0), some (.ref 31), some (.int i)] [] g' fi' fl' P) : WP (d + 60) 211 723 [some (.retAddr 0), some (.ref 0), some (.ref 31), some (.int i)] [] g fi fl P := by
  obtain ⟨hS, hsc, hC, hK, hX, hV, hT, hP, hB, hN, hQ, hZ, hI⟩ := id hR
  obtain ⟨⟨c0, c0a, c0b⟩, ⟨c1, c1a, c1b⟩, ⟨c2, c2a, c2b⟩, ⟨c3, c3a, c3b⟩, ⟨c4, c4a, c4b⟩, ⟨c5, c5a, c5b⟩, ⟨c6, c6a, c6b⟩, ⟨c7, c7a, c7b⟩, c8, c9⟩ := id hC
  obtain ⟨a1, e1⟩ : ∃ a, xs (I + 1) = a := ⟨_, rfl⟩
  obtain ⟨a2, e2⟩ : ∃ a, xs (I + 2) = a := ⟨_, rfl⟩
  by_cases hA : 0 ≤ (a1).toInt ∧ (a1).toInt < (fi 31 0).toInt
  · skip
    obtain ⟨B, hBa⟩ : ∃ B : Nat, (a1).toInt = (B : Int) := ⟨(a1).toInt.toNat, by omega⟩
    have hBn := hBa
    obtain ⟨p, r, kd, v, cd, aim, co, row, hW⟩ := BLW.of hB c0b (B := B) (by omega)
    obtain ⟨sq, hsq, hsx⟩ := sq_of hR
    obtain ⟨hB5, hO, w32, w33, w34, w35, w36, w37, k6, v9, d9, a60, co9, r9⟩ := id hW
    obtain ⟨o0, ⟨o72, onx, oow⟩, ot, ok, on, ov, oc, oa, om, orw⟩ := id hO
    have kq := fun j (h : j < 3) => (hK j (by omega)).2
    have hk0 := kq 0 (by decide)
    have hk1 := kq 1 (by decide)
    have hk2 := kq 2 (by decide)
    replace hk0 := And.intro hk0.1 (hk0.2.2 (by decide))
    replace hk1 := And.intro hk1.1 (hk1.2.2 (by decide))
    replace hk2 := And.intro hk2.1 (hk2.2.2 (by decide))
    have hGb := goodV_bd hk0 hk1 hk2
    obtain ⟨f, hf⟩ : ∃ f : Nat → Int, ∀ k : Nat, f k = gLf (mkLk sq B kd v) (goL (mkLk sq B kd v) kd v aim row 0 false 30 0 ((fi 31 1).toInt + k) 0 (cd * (goodV (fi 38 0).toInt (fi 38 1).toInt (fi 38 2).toInt))) := ⟨fun k => gLf (mkLk sq B kd v) (goL (mkLk sq B kd v) kd v aim row 0 false 30 0 ((fi 31 1).toInt + k) 0 (cd * (goodV (fi 38 0).toInt (fi 38 1).toInt (fi 38 2).toInt))), fun k => rfl⟩
    refine wi_aload_1 ct_211_723 ?_
    refine wi_aloadT_0 ct_211_724 ?_
    refine wi_iload_3 ct_211_725 ?_
    refine wi_ic ct_211_726 kc_1 ?_
    refine wi_iadd ct_211_727 rfl ?_
    refine wi_ialdT (j := I + 1) (x := a1) ct_211_728 (sL_SC hS) (i_in (i_add hi ki_1 (by omega)) (by omega)) (i_cl (i_add hi ki_1 (by omega)) (by omega)) (((hsc _).trans e1)) ?_
    refine wi_aloadT_0 ct_211_729 ?_
    refine wi_iload_3 ct_211_730 ?_
    refine wi_ic ct_211_731 kc_2 ?_
    refine wi_iadd ct_211_732 rfl ?_
    refine wi_ialdT (j := I + 2) (x := a2) ct_211_733 (sL_SC hS) (i_in (i_add hi ki_2 (by omega)) (by omega)) (i_cl (i_add hi ki_2 (by omega)) (by omega)) (((hsc _).trans e2)) ?_
    refine wi_cv2 (ls' := [some _, some _, some _, none, none, none, none]) ct_211_734 (Nat.le_of_ble_eq_true rfl) (by decide) (sT_0 hS) rfl (by decide) rfl rfl (Nat.le_of_ble_eq_true rfl) ?_
    refine wi_aload_0 ct_84_0 ?_
    refine wi_iload_1 ct_84_1 ?_
    refine wi_cv1 (ls' := [some _, some _]) ct_84_2 (Nat.le_of_ble_eq_true rfl) (by decide) (sT_0 hS) rfl (by decide) rfl rfl (Nat.le_of_ble_eq_true rfl) ?_
    refine wi_iload_1 ct_104_0 ?_
    refine wi_ic ct_104_1 kc_0 ?_
    refine wi_aload_0 ct_104_2 ?_
    refine wi_gfr ct_104_3 (sT_0 hS) rfl (sR_0_0 hS) ?_
    refine wi_gf (x := fi 31 0) ct_104_6 (sT_1 hS) rfl rfl c0 ?_
    refine wi_ic ct_104_9 kc_1 ?_
    refine wi_isub ct_104_10 rfl ?_
    refine wi_cs3 (ls' := [some _, some _, some _]) ct_104_11 (Nat.le_of_ble_eq_true rfl) rfl (Nat.le_of_ble_eq_true rfl) ?_
    refine c_within hBn ki_0 (i_sub rfl ki_1 (by omega)) (fun _ => wk_i ?_) (fun h => absurd h (by omega))
    refine wi_ifeq_f ct_104_14 ki_1 (by decide) ?_
    refine wi_aload_0 ct_104_17 ?_
    refine wi_gfr ct_104_18 (sT_0 hS) rfl (sR_0_0 hS) ?_
    refine wi_gfr ct_104_21 (sT_1 hS) rfl (sR_1_0 hS) ?_
    refine wi_iload_1 ct_104_24 ?_
    refine wi_aald ct_104_25 (sT_2 hS) (by decide) (sL_2 hS) (i_in hBn (by omega)) (i_cl (k := B) hBn (by omega)) o0 ?_
    refine wi_goto ct_104_26 ?_
    refine wi_aret ct_104_30 (wk_r ?_)
    refine wi_astore_3 rfl ct_84_5 ?_
    refine wi_aload_3 ct_84_6 ?_
    refine wi_ifnull_r ct_84_7 ?_
    refine wi_iload_2 ct_84_10 ?_
    refine wi_ic ct_84_11 kc_0 ?_
    refine wi_ic ct_84_12 kc_1 ?_
    refine wi_cs3 (ls' := [some _, some _, some _]) ct_84_13 (Nat.le_of_ble_eq_true rfl) rfl (Nat.le_of_ble_eq_true rfl) ?_
    refine c_within rfl ki_0 ki_1 (fun h1 => wk_i ?_) (fun h1 => wk_i ?_)
    · skip
      refine wi_ifne_t ct_84_16 ki_1 (by decide) ?_
      refine wi_ic ct_84_21 kc_0 ?_
      refine wi_istore_4 rfl ct_84_22 ?_
      refine wi_ic ct_84_24 kc_m5 ?_
      refine wi_istore_5 rfl ct_84_26 ?_
      refine wi_ic ct_84_28 kc_0 ?_
      refine wi_istore_6 rfl ct_84_29 ?_
      refine vl_clong hR hW hsq hsx hf (w := a2) rfl (by omega) 12 0 (-5) (0) _ _ _ _ _ (by omega) (by decide) SCR.rfl (ki_0.trans rfl) ki_m5 ki_0 (fun zc2 gc2 fc2 hzc2 hsc2 => wk_i ?_)
      have hSc2 := (hR.scr hsc2).1
      refine wi_aload_2 ct_211_737 ?_
      refine wi_aloadT_0 ct_211_738 ?_
      refine wi_iload_3 ct_211_739 ?_
      refine wi_ic ct_211_740 kc_1 ?_
      refine wi_iadd ct_211_741 rfl ?_
      refine wi_ialdT (j := I + 1) (x := a1) ct_211_742 (sL_SC hSc2) (i_in (i_add hi ki_1 (by omega)) (by omega)) (i_cl (i_add hi ki_1 (by omega)) (by omega)) ((Eq.trans (congrFun (hsc2.2.1 am_SC (by unfold am_SC; decide)) _) ((hsc _).trans e1))) ?_
      refine wi_aloadT_0 ct_211_743 ?_
      refine wi_iload_3 ct_211_744 ?_
      refine wi_ic ct_211_745 kc_2 ?_
      refine wi_iadd ct_211_746 rfl ?_
      refine wi_ialdT (j := I + 2) (x := a2) ct_211_747 (sL_SC hSc2) (i_in (i_add hi ki_2 (by omega)) (by omega)) (i_cl (i_add hi ki_2 (by omega)) (by omega)) ((Eq.trans (congrFun (hsc2.2.1 am_SC (by unfold am_SC; decide)) _) ((hsc _).trans e2))) ?_
      refine wi_cv2 (ls' := [some _, some _, some _, none, none, none]) ct_211_748 (Nat.le_of_ble_eq_true rfl) (by decide) (sT_31 hSc2) rfl (by decide) rfl rfl (Nat.le_of_ble_eq_true rfl) ?_
      refine wi_aload_0 ct_168_0 ?_
      refine wi_iload_1 ct_168_1 ?_
      refine wi_cv1 (ls' := [some _, some _]) ct_168_2 (Nat.le_of_ble_eq_true rfl) (by decide) (sT_31 hSc2) rfl (by decide) rfl rfl (Nat.le_of_ble_eq_true rfl) ?_
      refine wi_aload_0 ct_120_0 ?_
      refine wi_iload_1 ct_120_1 ?_
      refine wi_ic ct_120_2 kc_0 ?_
      refine wi_aload_0 ct_120_3 ?_
      refine wi_gf (x := fi 31 0) ct_120_4 (sT_31 hSc2) rfl rfl (hsc2.2.2.2 0 (by omega)) ?_
      refine wi_ic ct_120_7 kc_1 ?_
      refine wi_isub ct_120_8 rfl ?_
      refine wi_cv3 (ls' := [some _, some _, some _, some _]) ct_120_9 (Nat.le_of_ble_eq_true rfl) (by decide) (sT_31 hSc2) rfl (by decide) rfl rfl (Nat.le_of_ble_eq_true rfl) ?_
      refine c_in hBn ki_0 (i_sub rfl ki_1 (by omega)) (fun _ => wk_i ?_) (fun h => absurd h (by omega))
      refine wi_iret ct_120_12 (by decide) (wk_i ?_)
      refine wi_ifeq_f ct_168_5 ki_1 (by decide) ?_
      refine wi_aload_0 ct_168_8 ?_
      refine wi_iload_2 ct_168_9 ?_
      refine wi_ic ct_168_10 kc_0 ?_
      refine wi_ic ct_168_11 kc_1 ?_
      refine wi_cv3 (ls' := [some _, some _, some _, some _]) ct_168_12 (Nat.le_of_ble_eq_true rfl) (by decide) (sT_31 hSc2) rfl (by decide) rfl rfl (Nat.le_of_ble_eq_true rfl) ?_
      refine c_in rfl ki_0 ki_1 (fun _ => wk_i ?_) (fun h => absurd h (by omega))
      refine wi_ifne_t ct_168_15 ki_1 (by decide) ?_
      refine wi_ic ct_168_20 kc_m5 ?_
      refine wi_istore_3 rfl ct_168_22 ?_
      refine wi_ic ct_168_23 kc_0 ?_
      refine wi_istore_4 rfl ct_168_24 ?_
      refine wi_ic ct_168_26 kc_0 ?_
      refine wi_istore_5 rfl ct_168_27 ?_
      refine vl_mlong (was := 0) (was2 := 0) hR hW hsq hf (w := a2) rfl (by omega) hBa 12 0 (-5) (0) _ _ _ _ _ 0 0 (by omega) (by decide) hsc2 (ki_0.trans rfl) ki_m5 ki_0 (fun zm3 fm3 hzm3 hsm3 => wk_i ?_)
      refine wi_iceq_t ct_211_751 hzc2 hzm3 (by omega) ?_
      exact kk own _ _ fl (hR.scr hsm3) (by rw [hsm3.nx]; omega) (by rw [hsm3.sl]; omega)
    · skip
      refine wi_ifne_f ct_84_16 ki_0 (by decide) ?_
      refine wi_ic ct_84_19 kc_m1 ?_
      refine wi_iret ct_84_20 rfl (wk_i ?_)
      refine wi_aload_2 ct_211_737 ?_
      refine wi_aloadT_0 ct_211_738 ?_
      refine wi_iload_3 ct_211_739 ?_
      refine wi_ic ct_211_740 kc_1 ?_
      refine wi_iadd ct_211_741 rfl ?_
      refine wi_ialdT (j := I + 1) (x := a1) ct_211_742 (sL_SC hS) (i_in (i_add hi ki_1 (by omega)) (by omega)) (i_cl (i_add hi ki_1 (by omega)) (by omega)) (((hsc _).trans e1)) ?_
      refine wi_aloadT_0 ct_211_743 ?_
      refine wi_iload_3 ct_211_744 ?_
      refine wi_ic ct_211_745 kc_2 ?_
      refine wi_iadd ct_211_746 rfl ?_
      refine wi_ialdT (j := I + 2) (x := a2) ct_211_747 (sL_SC hS) (i_in (i_add hi ki_2 (by omega)) (by omega)) (i_cl (i_add hi ki_2 (by omega)) (by omega)) (((hsc _).trans e2)) ?_
      refine wi_cv2 (ls' := [some _, some _, some _, none, none, none]) ct_211_748 (Nat.le_of_ble_eq_true rfl) (by decide) (sT_31 hS) rfl (by decide) rfl rfl (Nat.le_of_ble_eq_true rfl) ?_
      refine wi_aload_0 ct_168_0 ?_
      refine wi_iload_1 ct_168_1 ?_
      refine wi_cv1 (ls' := [some _, some _]) ct_168_2 (Nat.le_of_ble_eq_true rfl) (by decide) (sT_31 hS) rfl (by decide) rfl rfl (Nat.le_of_ble_eq_true rfl) ?_
      refine wi_aload_0 ct_120_0 ?_
      refine wi_iload_1 ct_120_1 ?_
      refine wi_ic ct_120_2 kc_0 ?_
      refine wi_aload_0 ct_120_3 ?_
      refine wi_gf (x := fi 31 0) ct_120_4 (sT_31 hS) rfl rfl rfl ?_
      refine wi_ic ct_120_7 kc_1 ?_
      refine wi_isub ct_120_8 rfl ?_
      refine wi_cv3 (ls' := [some _, some _, some _, some _]) ct_120_9 (Nat.le_of_ble_eq_true rfl) (by decide) (sT_31 hS) rfl (by decide) rfl rfl (Nat.le_of_ble_eq_true rfl) ?_
      refine c_in hBn ki_0 (i_sub rfl ki_1 (by omega)) (fun _ => wk_i ?_) (fun h => absurd h (by omega))
      refine wi_iret ct_120_12 (by decide) (wk_i ?_)
      refine wi_ifeq_f ct_168_5 ki_1 (by decide) ?_
      refine wi_aload_0 ct_168_8 ?_
      refine wi_iload_2 ct_168_9 ?_
      refine wi_ic ct_168_10 kc_0 ?_
      refine wi_ic ct_168_11 kc_1 ?_
      refine wi_cv3 (ls' := [some _, some _, some _, some _]) ct_168_12 (Nat.le_of_ble_eq_true rfl) (by decide) (sT_31 hS) rfl (by decide) rfl rfl (Nat.le_of_ble_eq_true rfl) ?_
      refine c_in rfl ki_0 ki_1 (fun h => absurd h (by omega)) (fun _ => wk_i ?_)
      refine wi_ifne_f ct_168_15 ki_0 (by decide) ?_
      refine wi_ic ct_168_18 kc_m1 ?_
      refine wi_iret ct_168_19 rfl (wk_i ?_)
      refine wi_iceq_t ct_211_751 ki_m1 ki_m1 (by decide) ?_
      exact kk own g fi fl hR (by omega) (by omega)
  · skip
    refine wi_aload_1 ct_211_723 ?_
    refine wi_aloadT_0 ct_211_724 ?_
    refine wi_iload_3 ct_211_725 ?_
    refine wi_ic ct_211_726 kc_1 ?_
    refine wi_iadd ct_211_727 rfl ?_
    refine wi_ialdT (j := I + 1) (x := a1) ct_211_728 (sL_SC hS) (i_in (i_add hi ki_1 (by omega)) (by omega)) (i_cl (i_add hi ki_1 (by omega)) (by omega)) (((hsc _).trans e1)) ?_
    refine wi_aloadT_0 ct_211_729 ?_
    refine wi_iload_3 ct_211_730 ?_
    refine wi_ic ct_211_731 kc_2 ?_
    refine wi_iadd ct_211_732 rfl ?_
    refine wi_ialdT (j := I + 2) (x := a2) ct_211_733 (sL_SC hS) (i_in (i_add hi ki_2 (by omega)) (by omega)) (i_cl (i_add hi ki_2 (by omega)) (by omega)) (((hsc _).trans e2)) ?_
    refine wi_cv2 (ls' := [some _, some _, some _, none, none, none, none]) ct_211_734 (Nat.le_of_ble_eq_true rfl) (by decide) (sT_0 hS) rfl (by decide) rfl rfl (Nat.le_of_ble_eq_true rfl) ?_
    refine wi_aload_0 ct_84_0 ?_
    refine wi_iload_1 ct_84_1 ?_
    refine wi_cv1 (ls' := [some _, some _]) ct_84_2 (Nat.le_of_ble_eq_true rfl) (by decide) (sT_0 hS) rfl (by decide) rfl rfl (Nat.le_of_ble_eq_true rfl) ?_
    refine wi_iload_1 ct_104_0 ?_
    refine wi_ic ct_104_1 kc_0 ?_
    refine wi_aload_0 ct_104_2 ?_
    refine wi_gfr ct_104_3 (sT_0 hS) rfl (sR_0_0 hS) ?_
    refine wi_gf (x := fi 31 0) ct_104_6 (sT_1 hS) rfl rfl c0 ?_
    refine wi_ic ct_104_9 kc_1 ?_
    refine wi_isub ct_104_10 rfl ?_
    refine wi_cs3 (ls' := [some _, some _, some _]) ct_104_11 (Nat.le_of_ble_eq_true rfl) rfl (Nat.le_of_ble_eq_true rfl) ?_
    refine c_within rfl ki_0 (i_sub rfl ki_1 (by omega)) (fun h => absurd h (by omega)) (fun _ => wk_i ?_)
    refine wi_ifeq_t ct_104_14 ki_0 (by decide) ?_
    refine wi_null ct_104_29 ?_
    refine wi_aretn ct_104_30 (wk_n ?_)
    refine wi_astoreN_3 rfl ct_84_5 ?_
    refine wi_aloadN_3 ct_84_6 ?_
    refine wi_ifnull_n ct_84_7 ?_
    refine wi_ic ct_84_19 kc_m1 ?_
    refine wi_iret ct_84_20 rfl (wk_i ?_)
    refine wi_aload_2 ct_211_737 ?_
    refine wi_aloadT_0 ct_211_738 ?_
    refine wi_iload_3 ct_211_739 ?_
    refine wi_ic ct_211_740 kc_1 ?_
    refine wi_iadd ct_211_741 rfl ?_
    refine wi_ialdT (j := I + 1) (x := a1) ct_211_742 (sL_SC hS) (i_in (i_add hi ki_1 (by omega)) (by omega)) (i_cl (i_add hi ki_1 (by omega)) (by omega)) (((hsc _).trans e1)) ?_
    refine wi_aloadT_0 ct_211_743 ?_
    refine wi_iload_3 ct_211_744 ?_
    refine wi_ic ct_211_745 kc_2 ?_
    refine wi_iadd ct_211_746 rfl ?_
    refine wi_ialdT (j := I + 2) (x := a2) ct_211_747 (sL_SC hS) (i_in (i_add hi ki_2 (by omega)) (by omega)) (i_cl (i_add hi ki_2 (by omega)) (by omega)) (((hsc _).trans e2)) ?_
    refine wi_cv2 (ls' := [some _, some _, some _, none, none, none]) ct_211_748 (Nat.le_of_ble_eq_true rfl) (by decide) (sT_31 hS) rfl (by decide) rfl rfl (Nat.le_of_ble_eq_true rfl) ?_
    refine wi_aload_0 ct_168_0 ?_
    refine wi_iload_1 ct_168_1 ?_
    refine wi_cv1 (ls' := [some _, some _]) ct_168_2 (Nat.le_of_ble_eq_true rfl) (by decide) (sT_31 hS) rfl (by decide) rfl rfl (Nat.le_of_ble_eq_true rfl) ?_
    refine wi_aload_0 ct_120_0 ?_
    refine wi_iload_1 ct_120_1 ?_
    refine wi_ic ct_120_2 kc_0 ?_
    refine wi_aload_0 ct_120_3 ?_
    refine wi_gf (x := fi 31 0) ct_120_4 (sT_31 hS) rfl rfl rfl ?_
    refine wi_ic ct_120_7 kc_1 ?_
    refine wi_isub ct_120_8 rfl ?_
    refine wi_cv3 (ls' := [some _, some _, some _, some _]) ct_120_9 (Nat.le_of_ble_eq_true rfl) (by decide) (sT_31 hS) rfl (by decide) rfl rfl (Nat.le_of_ble_eq_true rfl) ?_
    refine c_in rfl ki_0 (i_sub rfl ki_1 (by omega)) (fun h => absurd h (by omega)) (fun _ => wk_i ?_)
    refine wi_iret ct_120_12 (by decide) (wk_i ?_)
    refine wi_ifeq_t ct_168_5 ki_0 (by decide) ?_
    refine wi_ic ct_168_18 kc_m1 ?_
    refine wi_iret ct_168_19 rfl (wk_i ?_)
    refine wi_iceq_t ct_211_751 ki_m1 ki_m1 (by decide) ?_
    exact kk own g fi fl hR (by omega) (by omega)
