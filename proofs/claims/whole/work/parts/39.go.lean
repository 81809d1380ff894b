set_option maxHeartbeats 2000000 in
theorem op_go {L I : Nat} {xs : Nat → Int32} {own : Nat → Nat} {d : Nat} {g : am_G} {fi : am_I} {fl : am_L} {P : Option Value → am_G → am_I → am_L → Prop} {i : Int32} (hi : i.toInt = (I : Int)) (hI6 : I + 6 ≤ L) (hL : L ≤ 3072) (hR : Rel L xs own g fi fl) (hnx : am_nx g ≤ 800000) (kk : ∀ own' g' fi' fl', Rel L xs own' g' fi' fl' → am_nx g' ≤ am_nx g + 30 → am_sl g' ≤ am_sl g + 1000 → WP (d + 60) 211 1359 [some (.retAddr 0), some (.ref 0), some (.ref 31), some (.int i)] [] g' fi' fl' P) : WP (d + 60) 211 479 [some (.retAddr 0), some (.ref 0), some (.ref 31), some (.int i)] [] g fi fl P := by
  obtain ⟨hS, hsc, hC, hK, hX, hV, hT, hP, hB, hN, hQ, hZ, hI⟩ := id hR
  obtain ⟨⟨c0, c0a, c0b⟩, ⟨c1, c1a, c1b⟩, ⟨c2, c2a, c2b⟩, ⟨c3, c3a, c3b⟩, ⟨c4, c4a, c4b⟩, ⟨c5, c5a, c5b⟩, ⟨c6, c6a, c6b⟩, ⟨c7, c7a, c7b⟩, c8, c9⟩ := id hC
  obtain ⟨a1, e1⟩ : ∃ a, xs (I + 1) = a := ⟨_, rfl⟩
  by_cases hA : 0 ≤ (a1).toInt ∧ (a1).toInt < (fi 31 0).toInt
  · skip
    obtain ⟨B, hBa⟩ : ∃ B : Nat, (a1).toInt = (B : Int) := ⟨(a1).toInt.toNat, by omega⟩
    have hBn := hBa
    obtain ⟨p, r, kd, v, cd, aim, co, row, hW⟩ := BLW.of hB c0b (B := B) (by omega)
    obtain ⟨sq, hsq, hsx⟩ := sq_of hR
    obtain ⟨hB5, hO, w32, w33, w34, w35, w36, w37, k6, v9, d9, a60, co9, r9⟩ := id hW
    obtain ⟨o0, ⟨o72, onx, oow⟩, ot, ok, on, ov, oc, oa, om, orw⟩ := id hO
    have kq := fun j (h : j < 3) => (hK j (by omega)).2
    have hk0 := kq 0 (by decide)
    have hk1 := kq 1 (by decide)
    have hk2 := kq 2 (by decide)
    replace hk0 := And.intro hk0.1 (hk0.2.2 (by decide))
    replace hk1 := And.intro hk1.1 (hk1.2.2 (by decide))
    replace hk2 := And.intro hk2.1 (hk2.2.2 (by decide))
    have hGb := goodV_bd hk0 hk1 hk2
    have hmb := MB.of hR hW hsq
    obtain ⟨-, kz1, kz2, -⟩ := hK 3 (by decide)
    refine wi_aload_1 ct_211_479 ?_
    refine wi_aloadT_0 ct_211_480 ?_
    refine wi_iload_3 ct_211_481 ?_
    refine wi_ic ct_211_482 kc_1 ?_
    refine wi_iadd ct_211_483 rfl ?_
    refine wi_ialdT (j := I + 1) (x := a1) ct_211_484 (sL_SC hS) (i_in (i_add hi ki_1 (by omega)) (by omega)) (i_cl (i_add hi ki_1 (by omega)) (by omega)) (((hsc _).trans e1)) ?_
    refine wi_cv1 (ls' := [some _, some _, none]) ct_211_485 (Nat.le_of_ble_eq_true rfl) (by decide) (sT_0 hS) rfl (by decide) rfl rfl (Nat.le_of_ble_eq_true rfl) ?_
    refine wi_aload_0 ct_76_0 ?_
    refine wi_iload_1 ct_76_1 ?_
    refine wi_cv1 (ls' := [some _, some _]) ct_76_2 (Nat.le_of_ble_eq_true rfl) (by decide) (sT_0 hS) rfl (by decide) rfl rfl (Nat.le_of_ble_eq_true rfl) ?_
    refine wi_iload_1 ct_104_0 ?_
    refine wi_ic ct_104_1 kc_0 ?_
    refine wi_aload_0 ct_104_2 ?_
    refine wi_gfr ct_104_3 (sT_0 hS) rfl (sR_0_0 hS) ?_
    refine wi_gf (x := fi 31 0) ct_104_6 (sT_1 hS) rfl rfl c0 ?_
    refine wi_ic ct_104_9 kc_1 ?_
    refine wi_isub ct_104_10 rfl ?_
    refine wi_cs3 (ls' := [some _, some _, some _]) ct_104_11 (Nat.le_of_ble_eq_true rfl) rfl (Nat.le_of_ble_eq_true rfl) ?_
    refine c_within hBn ki_0 (i_sub rfl ki_1 (by omega)) (fun _ => wk_i ?_) (fun h => absurd h (by omega))
    refine wi_ifeq_f ct_104_14 ki_1 (by decide) ?_
    refine wi_aload_0 ct_104_17 ?_
    refine wi_gfr ct_104_18 (sT_0 hS) rfl (sR_0_0 hS) ?_
    refine wi_gfr ct_104_21 (sT_1 hS) rfl (sR_1_0 hS) ?_
    refine wi_iload_1 ct_104_24 ?_
    refine wi_aald ct_104_25 (sT_2 hS) (by decide) (sL_2 hS) (i_in hBn (by omega)) (i_cl (k := B) hBn (by omega)) o0 ?_
    refine wi_goto ct_104_26 ?_
    refine wi_aret ct_104_30 (wk_r ?_)
    refine wi_astore_2 rfl ct_76_5 ?_
    refine wi_aload_2 ct_76_6 ?_
    refine wi_ifnonnull_r ct_76_7 ?_
    refine wi_aload_0 ct_76_12 ?_
    refine wi_gfr ct_76_13 (sT_0 hS) rfl (sR_0_0 hS) ?_
    refine wi_gfr ct_76_16 (sT_1 hS) rfl (sR_1_2 hS) ?_
    refine wi_ic ct_76_19 kc_3 ?_
    refine wi_iald (x := fi 38 3) ct_76_20 (sT_3 hS) (sL_3 hS) (by decide) kn_c3 (hK 3 (by decide)).1 ?_
    refine wi_ic ct_76_21 kc_1 ?_
    refine wi_iclt ct_76_22 rfl ki_1 (fun h1 => ?_) (fun h1 => ?_)
    · skip
      refine wi_ic ct_76_38 kc_m3 ?_
      refine wi_iret ct_76_40 rfl (wk_i ?_)
      refine wi_aload_2 ct_211_488 ?_
      refine wi_aloadT_0 ct_211_489 ?_
      refine wi_iload_3 ct_211_490 ?_
      refine wi_ic ct_211_491 kc_1 ?_
      refine wi_iadd ct_211_492 rfl ?_
      refine wi_ialdT (j := I + 1) (x := a1) ct_211_493 (sL_SC hS) (i_in (i_add hi ki_1 (by omega)) (by omega)) (i_cl (i_add hi ki_1 (by omega)) (by omega)) (((hsc _).trans e1)) ?_
      refine wi_cv1 (ls' := [some _, some _]) ct_211_494 (Nat.le_of_ble_eq_true rfl) (by decide) (sT_31 hS) rfl (by decide) rfl rfl (Nat.le_of_ble_eq_true rfl) ?_
      refine wi_aload_0 ct_158_0 ?_
      refine wi_iload_1 ct_158_1 ?_
      refine wi_cv1 (ls' := [some _, some _]) ct_158_2 (Nat.le_of_ble_eq_true rfl) (by decide) (sT_31 hS) rfl (by decide) rfl rfl (Nat.le_of_ble_eq_true rfl) ?_
      refine wi_aload_0 ct_120_0 ?_
      refine wi_iload_1 ct_120_1 ?_
      refine wi_ic ct_120_2 kc_0 ?_
      refine wi_aload_0 ct_120_3 ?_
      refine wi_gf (x := fi 31 0) ct_120_4 (sT_31 hS) rfl rfl rfl ?_
      refine wi_ic ct_120_7 kc_1 ?_
      refine wi_isub ct_120_8 rfl ?_
      refine wi_cv3 (ls' := [some _, some _, some _, some _]) ct_120_9 (Nat.le_of_ble_eq_true rfl) (by decide) (sT_31 hS) rfl (by decide) rfl rfl (Nat.le_of_ble_eq_true rfl) ?_
      refine c_in hBn ki_0 (i_sub rfl ki_1 (by omega)) (fun _ => wk_i ?_) (fun h => absurd h (by omega))
      refine wi_iret ct_120_12 (by decide) (wk_i ?_)
      refine wi_ifne_t ct_158_5 ki_1 (by decide) ?_
      refine wi_aload_0 ct_158_10 ?_
      refine wi_gfr ct_158_11 (sT_31 hS) rfl (sR_31_8 hS) ?_
      refine wi_ic ct_158_14 kc_3 ?_
      refine wi_iald (x := fi 38 3) ct_158_15 (sT_38 hS) (sL_38 hS) (by decide) kn_c3 rfl ?_
      refine wi_ifeq_t ct_158_16 rfl (by omega) ?_
      refine wi_ic ct_158_29 kc_m3 ?_
      refine wi_iret ct_158_31 rfl (wk_i ?_)
      refine wi_iceq_t ct_211_497 ki_m3 ki_m3 (by decide) ?_
      exact kk own g fi fl hR (by omega) (by omega)
    · skip
      refine wi_aload_0 ct_76_25 ?_
      refine wi_gfr ct_76_26 (sT_0 hS) rfl (sR_0_0 hS) ?_
      refine wi_gf (x := fi 31 1) ct_76_29 (sT_1 hS) rfl rfl c1 ?_
      refine wi_ic ct_76_32 kc_9900 ?_
      refine wi_icle ct_76_35 rfl ki_9900 (fun h2 => ?_) (fun h2 => ?_)
      · skip
        refine wi_aload_0 ct_76_41 ?_
        refine wi_aload_2 ct_76_42 ?_
        refine wi_cv1 (ls' := [some _, some _]) ct_76_43 (Nat.le_of_ble_eq_true rfl) (by decide) (sT_0 hS) rfl (by decide) rfl rfl (Nat.le_of_ble_eq_true rfl) ?_
        refine c_begin hR SCR.rfl hW hsq hsx (fun gb3 fb3 hsb3 hfb3 hkb3 hb3_1 hb3_2 hb3_3 hb3_4 hb3_5 hb3_6 => wk_v ?_)
        have hSb3 := (hR.scr hsb3).1
        refine wi_aload_0 ct_76_46 ?_
        refine wi_gfr ct_76_47 (sT_0 hSb3) rfl (sR_0_2 hSb3) ?_
        refine wi_aload_2 ct_76_50 ?_
        refine wi_cv1 (ls' := [some _, some _, none]) ct_76_51 (Nat.le_of_ble_eq_true rfl) (by decide) (sT_15 hSb3) rfl (by decide) rfl rfl (Nat.le_of_ble_eq_true rfl) ?_
        refine c_runR (cd2 := cd) (aim2 := aim) (G := (goodV (fi 38 0).toInt (fi 38 1).toInt (fi 38 2).toInt)) (m0 := (fi 31 1).toInt) (gust := 0) (calm := false) hR hsb3 hW hkb3 (hb3_1.trans (by omega)) (hb3_2.trans (by omega)) (hb3_3.trans (by omega)) ((congrArg Int32.toInt hb3_4).trans (by omega)) (((congrArg Int32.toInt hb3_5).trans ki_0).trans (by omega)) (hb3_6.trans rfl) (by omega) (by omega) (by omega) (by omega) (by omega) (fun Rr4 fr4 hr4_e hsr4 hr4_f hr4_7 hr4_11 hr4_12 hr4_10 hr4_4 hr4_13 hr4_j => wk_v ?_)
        have hSr4 := (hR.scr hsr4).1
        have hbdr4 := goR_bd (SQs_v hsq) (by omega) ((film_bd d9 hGb).2) hr4_e
        have htor4 := bI_bd (!Rr4.1)
        refine wi_aload_0 ct_76_54 ?_
        refine wi_gfr ct_76_55 (sT_0 hSr4) rfl (sR_0_0 hSr4) ?_
        refine wi_gfr ct_76_58 (sT_1 hSr4) rfl (sR_1_2 hSr4) ?_
        refine wi_ic ct_76_61 kc_3 ?_
        refine wi_dup2 ct_76_62 rfl rfl ?_
        refine wi_iald (x := fi 38 3) ct_76_63 (sT_3 hSr4) (sL_3 hSr4) (by decide) kn_c3 (Eq.trans (congrFun (hsr4.2.1 3 (by omega)) _) (hK 3 (by decide)).1) ?_
        refine wi_ic ct_76_64 kc_1 ?_
        refine wi_isub ct_76_65 rfl ?_
        refine wi_iast ct_76_66 (sT_3 hSr4) (sL_3 hSr4) (by decide) kn_c3 ?_
        refine wi_aload_0 ct_76_67 ?_
        refine wi_gfr ct_76_68 (sT_0 hSr4) rfl (sR_0_0 hSr4) ?_
        refine wi_aload_0 ct_76_71 ?_
        refine wi_gfr ct_76_72 (sT_0 hSr4) rfl (sR_0_2 hSr4) ?_
        refine wi_gf (x := fr4 15 4) ct_76_75 (sT_15 hSr4) rfl rfl (up2_nq (by decide)) ?_
        refine wi_pf ct_76_78 (sT_1 hSr4) rfl ?_
        refine wi_aload_2 ct_76_81 ?_
        refine wi_aload_2 ct_76_82 ?_
        refine wi_gf (x := fi 36 B) ct_76_83 ((congrFun hsr4.1.1 _).trans ot) (am_ktb _) rfl (Eq.trans (up2_nq (dn o72 (by decide))) (Eq.trans (up2_nq (dn o72 (by decide))) (Eq.trans (congrFun (hsr4.2.1 p (by omega)) _) om))) ?_
        refine wi_aload_0 ct_76_86 ?_
        refine wi_gfr ct_76_87 (sT_0 hSr4) rfl (sR_0_2 hSr4) ?_
        refine wi_gf (x := fr4 15 12) ct_76_90 (sT_15 hSr4) rfl rfl (Eq.trans (up2_nq (by decide)) (up2_nq (by decide))) ?_
        refine wi_iadd ct_76_93 rfl ?_
        refine wi_ic ct_76_94 kc_999999 ?_
        refine wi_cs2 (ls' := [some _, some _]) ct_76_96 (Nat.le_of_ble_eq_true rfl) rfl (Nat.le_of_ble_eq_true rfl) ?_
        refine c_min (i_add rfl hr4_12 (by omega)) ki_999999 (fun z5 hz5 => wk_i ?_)
        refine wi_pf ct_76_99 ((congrFun hsr4.1.1 _).trans ot) (am_ktb _) ?_
        refine wi_aload_0 ct_76_102 ?_
        refine wi_gfr ct_76_103 (sT_0 hSr4) rfl (sR_0_2 hSr4) ?_
        refine wi_gf (x := fr4 15 7) ct_76_106 (sT_15 hSr4) rfl rfl (Eq.trans (up2_nq (nd o72 (by decide))) (Eq.trans (up2_nq (by decide)) (up2_nq (by decide)))) ?_
        refine wi_iret ct_76_109 rfl (wk_i ?_)
        refine wi_aload_2 ct_211_488 ?_
        refine wi_aloadT_0 ct_211_489 ?_
        refine wi_iload_3 ct_211_490 ?_
        refine wi_ic ct_211_491 kc_1 ?_
        refine wi_iadd ct_211_492 rfl ?_
        refine wi_ialdT (j := I + 1) (x := a1) ct_211_493 (sL_SC hSr4) (i_in (i_add hi ki_1 (by omega)) (by omega)) (i_cl (i_add hi ki_1 (by omega)) (by omega)) ((Eq.trans (up2_nq (sc_nd (by omega))) (Eq.trans (up2_nq (by decide)) (Eq.trans (up2_nq (by decide)) (Eq.trans (congrFun (hsr4.2.1 am_SC (by unfold am_SC; decide)) _) ((hsc _).trans e1)))))) ?_
        refine wi_cv1 (ls' := [some _, some _]) ct_211_494 (Nat.le_of_ble_eq_true rfl) (by decide) (sT_31 hSr4) rfl (by decide) rfl rfl (Nat.le_of_ble_eq_true rfl) ?_
        refine wi_aload_0 ct_158_0 ?_
        refine wi_iload_1 ct_158_1 ?_
        refine wi_cv1 (ls' := [some _, some _]) ct_158_2 (Nat.le_of_ble_eq_true rfl) (by decide) (sT_31 hSr4) rfl (by decide) rfl rfl (Nat.le_of_ble_eq_true rfl) ?_
        refine wi_aload_0 ct_120_0 ?_
        refine wi_iload_1 ct_120_1 ?_
        refine wi_ic ct_120_2 kc_0 ?_
        refine wi_aload_0 ct_120_3 ?_
        refine wi_gf (x := fi 31 0) ct_120_4 (sT_31 hSr4) rfl rfl (Eq.trans (up2_nq (nd o72 (by decide))) (Eq.trans (up2_nq (by decide)) (Eq.trans (up2_nq (by decide)) (hsr4.2.2.2 0 (by omega))))) ?_
        refine wi_ic ct_120_7 kc_1 ?_
        refine wi_isub ct_120_8 rfl ?_
        refine wi_cv3 (ls' := [some _, some _, some _, some _]) ct_120_9 (Nat.le_of_ble_eq_true rfl) (by decide) (sT_31 hSr4) rfl (by decide) rfl rfl (Nat.le_of_ble_eq_true rfl) ?_
        refine c_in hBn ki_0 (i_sub rfl ki_1 (by omega)) (fun _ => wk_i ?_) (fun h => absurd h (by omega))
        refine wi_iret ct_120_12 (by decide) (wk_i ?_)
        refine wi_ifne_t ct_158_5 ki_1 (by decide) ?_
        refine wi_aload_0 ct_158_10 ?_
        refine wi_gfr ct_158_11 (sT_31 hSr4) rfl (sR_31_8 hSr4) ?_
        refine wi_ic ct_158_14 kc_3 ?_
        refine wi_iald (x := fi 38 3) ct_158_15 (sT_38 hSr4) (sL_38 hSr4) (by decide) kn_c3 (Eq.trans (up2_nq (nd o72 (by decide))) (Eq.trans (up2_nq (by decide)) (Eq.trans (up2_nq (by decide)) (congrFun (hsr4.2.1 38 (by omega)) _)))) ?_
        refine wi_ifeq_f ct_158_16 rfl (by omega) ?_
        refine wi_aload_0 ct_158_19 ?_
        refine wi_gf (x := fi 31 1) ct_158_20 (sT_31 hSr4) rfl rfl (Eq.trans (up2_nq (nd o72 (by decide))) (Eq.trans (up2_nq (by decide)) (Eq.trans (up2_nq (by decide)) (hsr4.2.2.2 1 (by omega))))) ?_
        refine wi_ic ct_158_23 kc_9900 ?_
        refine wi_icle_t ct_158_26 rfl ki_9900 (by omega) ?_
        refine wi_aload_0 ct_158_32 ?_
        refine wi_iload_1 ct_158_33 ?_
        refine wi_aload_0 ct_158_34 ?_
        refine wi_gf (x := fi 31 1) ct_158_35 (sT_31 hSr4) rfl rfl (Eq.trans (up2_nq (nd o72 (by decide))) (Eq.trans (up2_nq (by decide)) (Eq.trans (up2_nq (by decide)) (hsr4.2.2.2 1 (by omega))))) ?_
        refine wi_cv2 (ls' := [some _, some _, some _, none, none, none, none]) ct_158_38 (Nat.le_of_ble_eq_true rfl) (by decide) (sT_31 hSr4) rfl (by decide) rfl rfl (Nat.le_of_ble_eq_true rfl) ?_
        have hsq6 : SCR g _ (up2 (up2 (up2 fi 3 3 ((fi 38 3 - 1))) 1 3 (fr4 15 4)) p 5 (z5)) (up2 (up2 (up2 fr4 3 3 ((fi 38 3 - 1))) 1 3 (fr4 15 4)) p 5 (z5)) := ((hsr4.ww).ww).ww
        have hmq : MB (up2 (up2 (up2 fi 3 3 ((fi 38 3 - 1))) 1 3 (fr4 15 4)) p 5 (z5)) sq B kd v cd aim row (fi 38 0).toInt (fi 38 1).toInt (fi 38 2).toInt 0 false := hmb.fr (fun q hq => (Eq.trans (funext fun _ => up2_nq (by omega)) (Eq.trans (funext fun _ => up2_nq (by omega)) (funext fun _ => up2_nq (by omega)))))
        refine c_goR (m0 := (fi 31 1).toInt) hSr4 hmq hsq6 hBn (by omega) (by omega) (fun Ro7 fo7 ho7_e hso7 ho7_f ho7_30 ho7_31 ho7_32 ho7_33 ho7_34 => wk_v ?_)
        have hRRo7 : Rr4 = Ro7 := hr4_e.trans ho7_e.symm
        subst hRRo7
        refine wi_aload_0 ct_158_41 ?_
        refine wi_gfr ct_158_42 (sT_31 hSr4) rfl (sR_31_8 hSr4) ?_
        refine wi_ic ct_158_45 kc_3 ?_
        refine wi_dup2 ct_158_46 rfl rfl ?_
        refine wi_iald (x := fi 38 3) ct_158_47 (sT_38 hSr4) (sL_38 hSr4) (by decide) kn_c3 (Eq.trans (congrFun (hso7.2.1 38 (by omega)) _) (Eq.trans (up2_nq (by omega)) (Eq.trans (up2_nq (by omega)) (up2_nq (by omega))))) ?_
        refine wi_ic ct_158_48 kc_1 ?_
        refine wi_isub ct_158_49 rfl ?_
        refine wi_iast ct_158_50 (sT_38 hSr4) (sL_38 hSr4) (by decide) kn_c3 ?_
        refine wi_aload_0 ct_158_51 ?_
        refine wi_dup ct_158_52 rfl ?_
        refine wi_gf (x := fi 31 1) ct_158_53 (sT_31 hSr4) rfl rfl (Eq.trans (up2_nq (by decide)) (Eq.trans (hso7.2.2.2 1 (by omega)) (Eq.trans (up2_nq (by omega)) (Eq.trans (up2_nq (by omega)) (up2_nq (by omega)))))) ?_
        refine wi_aload_0 ct_158_56 ?_
        refine wi_gf (x := fo7 31 33) ct_158_57 (sT_31 hSr4) rfl rfl (up2_nq (by decide)) ?_
        refine wi_iadd ct_158_60 rfl ?_
        refine wi_pf ct_158_61 (sT_31 hSr4) rfl ?_
        refine wi_aload_0 ct_158_64 ?_
        refine wi_gfr ct_158_65 (sT_31 hSr4) rfl (sR_31_6 hSr4) ?_
        refine wi_iload_1 ct_158_68 ?_
        refine wi_aload_0 ct_158_69 ?_
        refine wi_ic ct_158_70 kc_999999 ?_
        refine wi_aload_0 ct_158_73 ?_
        refine wi_gfr ct_158_74 (sT_31 hSr4) rfl (sR_31_6 hSr4) ?_
        refine wi_iload_1 ct_158_77 ?_
        refine wi_iald (x := fi 36 B) ct_158_78 (sT_36 hSr4) (sL_36 hSr4) (i_in hBn (by omega)) (i_cl (k := B) hBn (by omega)) (Eq.trans (up2_nq (by decide)) (Eq.trans (up2_nq (by decide)) (Eq.trans (congrFun (hso7.2.1 36 (by omega)) _) (Eq.trans (up2_nq (by omega)) (Eq.trans (up2_nq (by omega)) (up2_nq (by omega))))))) ?_
        refine wi_aload_0 ct_158_79 ?_
        refine wi_gf (x := fo7 31 32) ct_158_80 (sT_31 hSr4) rfl rfl (Eq.trans (up2_nj (by decide)) (up2_nq (by decide))) ?_
        refine wi_iadd ct_158_83 rfl ?_
        refine wi_cv2 (ls' := [some _, some _, some _]) ct_158_84 (Nat.le_of_ble_eq_true rfl) (by decide) (sT_31 hSr4) rfl (by decide) rfl rfl (Nat.le_of_ble_eq_true rfl) ?_
        refine c_least ki_999999 (i_add rfl ho7_32 (by omega)) (fun z8 hz8 => wk_i ?_)
        refine wi_iast ct_158_87 (sT_36 hSr4) (sL_36 hSr4) (i_in hBn (by omega)) (i_cl (k := B) hBn (by omega)) ?_
        refine wi_aload_0 ct_158_88 ?_
        refine wi_gf (x := fo7 31 30) ct_158_89 (sT_31 hSr4) rfl rfl (Eq.trans (up2_nq (by decide)) (Eq.trans (up2_nj (by decide)) (up2_nq (by decide)))) ?_
        refine wi_iret ct_158_92 rfl (wk_i ?_)
        refine wi_iceq_t ct_211_497 hr4_7 ho7_30 (by omega) ?_
        have hco : z5 = z8 := i_eq hz5 hz8 (by omega)
        have hmi : fr4 15 4 = (fi 31 1 + fo7 31 33) := i_eq hr4_4 (i_add rfl ho7_33 (by omega)) (by omega)
        have hdi : (fi 38 3 - 1) = (fi 38 3 - 1) := i_eq (i_sub rfl ki_1 (by omega)) (i_sub rfl ki_1 (by omega)) (by omega)
        have hd9 : ((fi 38 3 - 1)).toInt = (fi 38 3).toInt + (-1) := Eq.trans ((i_sub rfl ki_1 (by omega))) (by omega)
        have hm9 : ((fi 31 1 + fo7 31 33)).toInt = gMn Rr4 + (fi 31 1).toInt := Eq.trans ((i_add rfl ho7_33 (by omega))) (by omega)
        have hc9 : (z8).toInt = min (999999) (gBr (mkLk sq B kd v) Rr4 + (fi 36 B).toInt) := Eq.trans (hz8) (by omega)
        have hRp : Rel L xs own g (up2 (up2 (up2 (up2 (up2 (up2 fi 3 3 ((fi 38 3 - 1))) 1 3 (fr4 15 4)) p 5 (z5)) 38 3 ((fi 38 3 - 1))) 31 1 ((fi 31 1 + fo7 31 33))) 36 B (z8)) fl := by
          refine hR.put (B := B) hB5 (fun q h1 h2 h3 h4 => (Eq.trans (funext fun _ => up2_nq (by omega)) (Eq.trans (funext fun _ => up2_nq (by omega)) (Eq.trans (funext fun _ => up2_nq (by omega)) (Eq.trans (funext fun _ => up2_nq (fun e => by rw [e, oow] at h3 h4; omega)) (Eq.trans (funext fun _ => up2_nq (by omega)) (funext fun _ => up2_nq (by omega)))))))) ((Eq.trans (funext fun _ => up2_nq (by have : am_SC = 1000000 := rfl; omega)) (Eq.trans (funext fun _ => up2_nq (by have : am_SC = 1000000 := rfl; omega)) (Eq.trans (funext fun _ => up2_nq (by have : am_SC = 1000000 := rfl; omega)) (Eq.trans (funext fun _ => up2_nq (by have : am_SC = 1000000 := rfl; omega)) (Eq.trans (funext fun _ => up2_nq (by have : am_SC = 1000000 := rfl; omega)) (funext fun _ => up2_nq (by have : am_SC = 1000000 := rfl; omega)))))))) (fun q h1 h2 => (Eq.trans (funext fun _ => up2_nq (by omega)) (Eq.trans (funext fun _ => up2_nq (by omega)) (Eq.trans (funext fun _ => up2_nq (by omega)) (Eq.trans (funext fun _ => up2_nq (by omega)) (Eq.trans (funext fun _ => up2_nq (by omega)) (funext fun _ => up2_nq (by omega)))))))) (fun j hj => (Eq.trans (up2_nq (by omega)) (Eq.trans (up2_nq (by omega)) (Eq.trans (up2_nq (by omega)) (Eq.trans (up2_nq (by omega)) (Eq.trans (up2_nj hj) (up2_nq (by omega)))))))) (fun j hj => (Eq.trans (up2_nq (by omega)) (Eq.trans (up2_nj hj) (Eq.trans (up2_nq (by omega)) (Eq.trans (up2_nq (by omega)) (Eq.trans (up2_nq (by omega)) (up2_nq (by omega)))))))) ?_ ?_ (fun b hb => (Eq.trans (up2_nq (by omega)) (Eq.trans (up2_nq (by omega)) (Eq.trans (up2_nq (by omega)) (Eq.trans (up2_nq (by omega)) (Eq.trans (up2_nq (by omega)) (up2_nq (by omega)))))))) (fun b hb => (Eq.trans (up2_nq (by omega)) (Eq.trans (up2_nq (by omega)) (Eq.trans (up2_nq (by omega)) (Eq.trans (up2_nq (by omega)) (Eq.trans (up2_nq (by omega)) (up2_nq (by omega)))))))) (fun b hb => (Eq.trans (up2_nj hb) (Eq.trans (up2_nq (by omega)) (Eq.trans (up2_nq (by omega)) (Eq.trans (up2_nq (by omega)) (Eq.trans (up2_nq (by omega)) (up2_nq (by omega)))))))) (fun b j hb hj => (Eq.trans (up2_nq (by omega)) (Eq.trans (up2_nq (by omega)) (Eq.trans (up2_nq (by omega)) (Eq.trans (up2_nq (by omega)) (Eq.trans (up2_nq (by omega)) (up2_nq (by omega)))))))) ⟨?_, p, r, ?_⟩
          · have A1 : (up2 (up2 (up2 (up2 (up2 (up2 fi 3 3 ((fi 38 3 - 1))) 1 3 (fr4 15 4)) p 5 (z5)) 38 3 ((fi 38 3 - 1))) 31 1 ((fi 31 1 + fo7 31 33))) 36 B (z8)) 1 3 = fr4 15 4 := (Eq.trans (up2_nq (by decide)) (Eq.trans (up2_nq (by decide)) (Eq.trans (up2_nq (by decide)) (Eq.trans (up2_nq (nd o72 (by decide))) up2_eq))))
            have A2 : (up2 (up2 (up2 (up2 (up2 (up2 fi 3 3 ((fi 38 3 - 1))) 1 3 (fr4 15 4)) p 5 (z5)) 38 3 ((fi 38 3 - 1))) 31 1 ((fi 31 1 + fo7 31 33))) 36 B (z8)) 31 1 = (fi 31 1 + fo7 31 33) := (Eq.trans (up2_nq (by decide)) up2_eq)
            rw [A1, A2]
            exact ⟨hmi, by omega, by omega⟩
          · intro j hj
            rcases Decidable.em (j = 3) with ej | ej
            · rw [ej, show (up2 (up2 (up2 (up2 (up2 (up2 fi 3 3 ((fi 38 3 - 1))) 1 3 (fr4 15 4)) p 5 (z5)) 38 3 ((fi 38 3 - 1))) 31 1 ((fi 31 1 + fo7 31 33))) 36 B (z8)) 3 3 = (fi 38 3 - 1) from (Eq.trans (up2_nq (by decide)) (Eq.trans (up2_nq (by decide)) (Eq.trans (up2_nq (by decide)) (Eq.trans (up2_nq (nd o72 (by decide))) (Eq.trans (up2_nq (by decide)) up2_eq))))), show (up2 (up2 (up2 (up2 (up2 (up2 fi 3 3 ((fi 38 3 - 1))) 1 3 (fr4 15 4)) p 5 (z5)) 38 3 ((fi 38 3 - 1))) 31 1 ((fi 31 1 + fo7 31 33))) 36 B (z8)) 38 3 = (fi 38 3 - 1) from (Eq.trans (up2_nq (by decide)) (Eq.trans (up2_nq (by decide)) up2_eq))]
              exact ⟨hdi, by omega, by omega, fun h => absurd h (by decide)⟩
            · rw [show (up2 (up2 (up2 (up2 (up2 (up2 fi 3 3 ((fi 38 3 - 1))) 1 3 (fr4 15 4)) p 5 (z5)) 38 3 ((fi 38 3 - 1))) 31 1 ((fi 31 1 + fo7 31 33))) 36 B (z8)) 3 j = fi 3 j from (Eq.trans (up2_nq (by omega)) (Eq.trans (up2_nq (by omega)) (Eq.trans (up2_nq (by omega)) (Eq.trans (up2_nq (by omega)) (Eq.trans (up2_nq (by omega)) (up2_nj ej)))))), show (up2 (up2 (up2 (up2 (up2 (up2 fi 3 3 ((fi 38 3 - 1))) 1 3 (fr4 15 4)) p 5 (z5)) 38 3 ((fi 38 3 - 1))) 31 1 ((fi 31 1 + fo7 31 33))) 36 B (z8)) 38 j = fi 38 j from (Eq.trans (up2_nq (by omega)) (Eq.trans (up2_nq (by omega)) (Eq.trans (up2_nj ej) (Eq.trans (up2_nq (by omega)) (Eq.trans (up2_nq (by omega)) (up2_nq (by omega)))))))]
              exact hK j hj
          · unfold RM
            rw [show (up2 (up2 (up2 (up2 (up2 (up2 fi 3 3 ((fi 38 3 - 1))) 1 3 (fr4 15 4)) p 5 (z5)) 38 3 ((fi 38 3 - 1))) 31 1 ((fi 31 1 + fo7 31 33))) 36 B (z8)) 32 B = fi 32 B from (Eq.trans (up2_nq (by decide)) (Eq.trans (up2_nq (by decide)) (Eq.trans (up2_nq (by decide)) (Eq.trans (up2_nq (nd o72 (by decide))) (Eq.trans (up2_nq (by decide)) (up2_nq (by decide)))))))]
            rw [show (up2 (up2 (up2 (up2 (up2 (up2 fi 3 3 ((fi 38 3 - 1))) 1 3 (fr4 15 4)) p 5 (z5)) 38 3 ((fi 38 3 - 1))) 31 1 ((fi 31 1 + fo7 31 33))) 36 B (z8)) 33 B = fi 33 B from (Eq.trans (up2_nq (by decide)) (Eq.trans (up2_nq (by decide)) (Eq.trans (up2_nq (by decide)) (Eq.trans (up2_nq (nd o72 (by decide))) (Eq.trans (up2_nq (by decide)) (up2_nq (by decide)))))))]
            rw [show (up2 (up2 (up2 (up2 (up2 (up2 fi 3 3 ((fi 38 3 - 1))) 1 3 (fr4 15 4)) p 5 (z5)) 38 3 ((fi 38 3 - 1))) 31 1 ((fi 31 1 + fo7 31 33))) 36 B (z8)) 34 B = fi 34 B from (Eq.trans (up2_nq (by decide)) (Eq.trans (up2_nq (by decide)) (Eq.trans (up2_nq (by decide)) (Eq.trans (up2_nq (nd o72 (by decide))) (Eq.trans (up2_nq (by decide)) (up2_nq (by decide)))))))]
            rw [show (up2 (up2 (up2 (up2 (up2 (up2 fi 3 3 ((fi 38 3 - 1))) 1 3 (fr4 15 4)) p 5 (z5)) 38 3 ((fi 38 3 - 1))) 31 1 ((fi 31 1 + fo7 31 33))) 36 B (z8)) 35 B = fi 35 B from (Eq.trans (up2_nq (by decide)) (Eq.trans (up2_nq (by decide)) (Eq.trans (up2_nq (by decide)) (Eq.trans (up2_nq (nd o72 (by decide))) (Eq.trans (up2_nq (by decide)) (up2_nq (by decide)))))))]
            rw [show (up2 (up2 (up2 (up2 (up2 (up2 fi 3 3 ((fi 38 3 - 1))) 1 3 (fr4 15 4)) p 5 (z5)) 38 3 ((fi 38 3 - 1))) 31 1 ((fi 31 1 + fo7 31 33))) 36 B (z8)) 36 B = z8 from up2_eq]
            refine ⟨by omega, by omega, by omega, by omega, by omega, fun j hj => ?_⟩
            rw [show (up2 (up2 (up2 (up2 (up2 (up2 fi 3 3 ((fi 38 3 - 1))) 1 3 (fr4 15 4)) p 5 (z5)) 38 3 ((fi 38 3 - 1))) 31 1 ((fi 31 1 + fo7 31 33))) 36 B (z8)) 37 (4 * B + j) = fi 37 (4 * B + j) from (Eq.trans (up2_nq (by omega)) (Eq.trans (up2_nq (by omega)) (Eq.trans (up2_nq (by omega)) (Eq.trans (up2_nq (by omega)) (Eq.trans (up2_nq (by omega)) (up2_nq (by omega))))))), w37 j hj]
            exact r9 j hj
          · unfold RO
            rw [show (up2 (up2 (up2 (up2 (up2 (up2 fi 3 3 ((fi 38 3 - 1))) 1 3 (fr4 15 4)) p 5 (z5)) 38 3 ((fi 38 3 - 1))) 31 1 ((fi 31 1 + fo7 31 33))) 36 B (z8)) 32 B = fi 32 B from (Eq.trans (up2_nq (by decide)) (Eq.trans (up2_nq (by decide)) (Eq.trans (up2_nq (by decide)) (Eq.trans (up2_nq (nd o72 (by decide))) (Eq.trans (up2_nq (by decide)) (up2_nq (by decide)))))))]
            rw [show (up2 (up2 (up2 (up2 (up2 (up2 fi 3 3 ((fi 38 3 - 1))) 1 3 (fr4 15 4)) p 5 (z5)) 38 3 ((fi 38 3 - 1))) 31 1 ((fi 31 1 + fo7 31 33))) 36 B (z8)) 33 B = fi 33 B from (Eq.trans (up2_nq (by decide)) (Eq.trans (up2_nq (by decide)) (Eq.trans (up2_nq (by decide)) (Eq.trans (up2_nq (nd o72 (by decide))) (Eq.trans (up2_nq (by decide)) (up2_nq (by decide)))))))]
            rw [show (up2 (up2 (up2 (up2 (up2 (up2 fi 3 3 ((fi 38 3 - 1))) 1 3 (fr4 15 4)) p 5 (z5)) 38 3 ((fi 38 3 - 1))) 31 1 ((fi 31 1 + fo7 31 33))) 36 B (z8)) 34 B = fi 34 B from (Eq.trans (up2_nq (by decide)) (Eq.trans (up2_nq (by decide)) (Eq.trans (up2_nq (by decide)) (Eq.trans (up2_nq (nd o72 (by decide))) (Eq.trans (up2_nq (by decide)) (up2_nq (by decide)))))))]
            rw [show (up2 (up2 (up2 (up2 (up2 (up2 fi 3 3 ((fi 38 3 - 1))) 1 3 (fr4 15 4)) p 5 (z5)) 38 3 ((fi 38 3 - 1))) 31 1 ((fi 31 1 + fo7 31 33))) 36 B (z8)) 35 B = fi 35 B from (Eq.trans (up2_nq (by decide)) (Eq.trans (up2_nq (by decide)) (Eq.trans (up2_nq (by decide)) (Eq.trans (up2_nq (nd o72 (by decide))) (Eq.trans (up2_nq (by decide)) (up2_nq (by decide)))))))]
            rw [show (up2 (up2 (up2 (up2 (up2 (up2 fi 3 3 ((fi 38 3 - 1))) 1 3 (fr4 15 4)) p 5 (z5)) 38 3 ((fi 38 3 - 1))) 31 1 ((fi 31 1 + fo7 31 33))) 36 B (z8)) 36 B = z8 from up2_eq]
            refine ⟨o0, ⟨o72, onx, oow⟩, ot, (Eq.trans (up2_nq (by omega)) (Eq.trans (up2_nq (by omega)) (Eq.trans (up2_nq (by omega)) (Eq.trans (up2_nj (by decide)) (Eq.trans (up2_nq (by omega)) (Eq.trans (up2_nq (by omega)) ok)))))), ((congrArg Int32.toInt ((Eq.trans (up2_nq (by omega)) (Eq.trans (up2_nq (by omega)) (Eq.trans (up2_nq (by omega)) (Eq.trans (up2_nj (by decide)) (Eq.trans (up2_nq (by omega)) (up2_nq (by omega))))))))).trans on), (Eq.trans (up2_nq (by omega)) (Eq.trans (up2_nq (by omega)) (Eq.trans (up2_nq (by omega)) (Eq.trans (up2_nj (by decide)) (Eq.trans (up2_nq (by omega)) (Eq.trans (up2_nq (by omega)) ov)))))), (Eq.trans (up2_nq (by omega)) (Eq.trans (up2_nq (by omega)) (Eq.trans (up2_nq (by omega)) (Eq.trans (up2_nj (by decide)) (Eq.trans (up2_nq (by omega)) (Eq.trans (up2_nq (by omega)) oc)))))), (Eq.trans (up2_nq (by omega)) (Eq.trans (up2_nq (by omega)) (Eq.trans (up2_nq (by omega)) (Eq.trans (up2_nj (by decide)) (Eq.trans (up2_nq (by omega)) (Eq.trans (up2_nq (by omega)) oa)))))), ((Eq.trans (up2_nq (by omega)) (Eq.trans (up2_nq (by omega)) (Eq.trans (up2_nq (by omega)) up2_eq))).trans hco), fun hk6 => ?_⟩
            obtain ⟨x1, x2, x3, x4, x5⟩ := orw hk6
            have hrp : r ≠ p := fun e => by have := x2.2.2; rw [e, oow] at this; omega
            have hr72 := x2.1
            refine ⟨x1, x2, x3, x4, fun j hj => ?_⟩
            exact ((Eq.trans (up2_nq (by omega)) (Eq.trans (up2_nq (by omega)) (Eq.trans (up2_nq (by omega)) (Eq.trans (up2_nq hrp) (Eq.trans (up2_nq (by omega)) (up2_nq (by omega)))))))).trans ((x5 j hj).trans ((Eq.trans (up2_nq (by omega)) (Eq.trans (up2_nq (by omega)) (Eq.trans (up2_nq (by omega)) (Eq.trans (up2_nq (by omega)) (Eq.trans (up2_nq (by omega)) (up2_nq (by omega)))))))).symm)
        exact kk own _ _ fl (hRp.scr (((hso7.ww).ww).ww)) (by rw [hso7.nx]; omega) (by rw [hso7.sl]; omega)
      · skip
        refine wi_ic ct_76_38 kc_m3 ?_
        refine wi_iret ct_76_40 rfl (wk_i ?_)
        refine wi_aload_2 ct_211_488 ?_
        refine wi_aloadT_0 ct_211_489 ?_
        refine wi_iload_3 ct_211_490 ?_
        refine wi_ic ct_211_491 kc_1 ?_
        refine wi_iadd ct_211_492 rfl ?_
        refine wi_ialdT (j := I + 1) (x := a1) ct_211_493 (sL_SC hS) (i_in (i_add hi ki_1 (by omega)) (by omega)) (i_cl (i_add hi ki_1 (by omega)) (by omega)) (((hsc _).trans e1)) ?_
        refine wi_cv1 (ls' := [some _, some _]) ct_211_494 (Nat.le_of_ble_eq_true rfl) (by decide) (sT_31 hS) rfl (by decide) rfl rfl (Nat.le_of_ble_eq_true rfl) ?_
        refine wi_aload_0 ct_158_0 ?_
        refine wi_iload_1 ct_158_1 ?_
        refine wi_cv1 (ls' := [some _, some _]) ct_158_2 (Nat.le_of_ble_eq_true rfl) (by decide) (sT_31 hS) rfl (by decide) rfl rfl (Nat.le_of_ble_eq_true rfl) ?_
        refine wi_aload_0 ct_120_0 ?_
        refine wi_iload_1 ct_120_1 ?_
        refine wi_ic ct_120_2 kc_0 ?_
        refine wi_aload_0 ct_120_3 ?_
        refine wi_gf (x := fi 31 0) ct_120_4 (sT_31 hS) rfl rfl rfl ?_
        refine wi_ic ct_120_7 kc_1 ?_
        refine wi_isub ct_120_8 rfl ?_
        refine wi_cv3 (ls' := [some _, some _, some _, some _]) ct_120_9 (Nat.le_of_ble_eq_true rfl) (by decide) (sT_31 hS) rfl (by decide) rfl rfl (Nat.le_of_ble_eq_true rfl) ?_
        refine c_in hBn ki_0 (i_sub rfl ki_1 (by omega)) (fun _ => wk_i ?_) (fun h => absurd h (by omega))
        refine wi_iret ct_120_12 (by decide) (wk_i ?_)
        refine wi_ifne_t ct_158_5 ki_1 (by decide) ?_
        refine wi_aload_0 ct_158_10 ?_
        refine wi_gfr ct_158_11 (sT_31 hS) rfl (sR_31_8 hS) ?_
        refine wi_ic ct_158_14 kc_3 ?_
        refine wi_iald (x := fi 38 3) ct_158_15 (sT_38 hS) (sL_38 hS) (by decide) kn_c3 rfl ?_
        refine wi_ifeq_f ct_158_16 rfl (by omega) ?_
        refine wi_aload_0 ct_158_19 ?_
        refine wi_gf (x := fi 31 1) ct_158_20 (sT_31 hS) rfl rfl rfl ?_
        refine wi_ic ct_158_23 kc_9900 ?_
        refine wi_icle_f ct_158_26 rfl ki_9900 (by omega) ?_
        refine wi_ic ct_158_29 kc_m3 ?_
        refine wi_iret ct_158_31 rfl (wk_i ?_)
        refine wi_iceq_t ct_211_497 ki_m3 ki_m3 (by decide) ?_
        exact kk own g fi fl hR (by omega) (by omega)
  · skip
    refine wi_aload_1 ct_211_479 ?_
    refine wi_aloadT_0 ct_211_480 ?_
    refine wi_iload_3 ct_211_481 ?_
    refine wi_ic ct_211_482 kc_1 ?_
    refine wi_iadd ct_211_483 rfl ?_
    refine wi_ialdT (j := I + 1) (x := a1) ct_211_484 (sL_SC hS) (i_in (i_add hi ki_1 (by omega)) (by omega)) (i_cl (i_add hi ki_1 (by omega)) (by omega)) (((hsc _).trans e1)) ?_
    refine wi_cv1 (ls' := [some _, some _, none]) ct_211_485 (Nat.le_of_ble_eq_true rfl) (by decide) (sT_0 hS) rfl (by decide) rfl rfl (Nat.le_of_ble_eq_true rfl) ?_
    refine wi_aload_0 ct_76_0 ?_
    refine wi_iload_1 ct_76_1 ?_
    refine wi_cv1 (ls' := [some _, some _]) ct_76_2 (Nat.le_of_ble_eq_true rfl) (by decide) (sT_0 hS) rfl (by decide) rfl rfl (Nat.le_of_ble_eq_true rfl) ?_
    refine wi_iload_1 ct_104_0 ?_
    refine wi_ic ct_104_1 kc_0 ?_
    refine wi_aload_0 ct_104_2 ?_
    refine wi_gfr ct_104_3 (sT_0 hS) rfl (sR_0_0 hS) ?_
    refine wi_gf (x := fi 31 0) ct_104_6 (sT_1 hS) rfl rfl c0 ?_
    refine wi_ic ct_104_9 kc_1 ?_
    refine wi_isub ct_104_10 rfl ?_
    refine wi_cs3 (ls' := [some _, some _, some _]) ct_104_11 (Nat.le_of_ble_eq_true rfl) rfl (Nat.le_of_ble_eq_true rfl) ?_
    refine c_within rfl ki_0 (i_sub rfl ki_1 (by omega)) (fun h => absurd h (by omega)) (fun _ => wk_i ?_)
    refine wi_ifeq_t ct_104_14 ki_0 (by decide) ?_
    refine wi_null ct_104_29 ?_
    refine wi_aretn ct_104_30 (wk_n ?_)
    refine wi_astoreN_2 rfl ct_76_5 ?_
    refine wi_aloadN_2 ct_76_6 ?_
    refine wi_ifnonnull_n ct_76_7 ?_
    refine wi_ic ct_76_10 kc_m1 ?_
    refine wi_iret ct_76_11 rfl (wk_i ?_)
    refine wi_aload_2 ct_211_488 ?_
    refine wi_aloadT_0 ct_211_489 ?_
    refine wi_iload_3 ct_211_490 ?_
    refine wi_ic ct_211_491 kc_1 ?_
    refine wi_iadd ct_211_492 rfl ?_
    refine wi_ialdT (j := I + 1) (x := a1) ct_211_493 (sL_SC hS) (i_in (i_add hi ki_1 (by omega)) (by omega)) (i_cl (i_add hi ki_1 (by omega)) (by omega)) (((hsc _).trans e1)) ?_
    refine wi_cv1 (ls' := [some _, some _]) ct_211_494 (Nat.le_of_ble_eq_true rfl) (by decide) (sT_31 hS) rfl (by decide) rfl rfl (Nat.le_of_ble_eq_true rfl) ?_
    refine wi_aload_0 ct_158_0 ?_
    refine wi_iload_1 ct_158_1 ?_
    refine wi_cv1 (ls' := [some _, some _]) ct_158_2 (Nat.le_of_ble_eq_true rfl) (by decide) (sT_31 hS) rfl (by decide) rfl rfl (Nat.le_of_ble_eq_true rfl) ?_
    refine wi_aload_0 ct_120_0 ?_
    refine wi_iload_1 ct_120_1 ?_
    refine wi_ic ct_120_2 kc_0 ?_
    refine wi_aload_0 ct_120_3 ?_
    refine wi_gf (x := fi 31 0) ct_120_4 (sT_31 hS) rfl rfl rfl ?_
    refine wi_ic ct_120_7 kc_1 ?_
    refine wi_isub ct_120_8 rfl ?_
    refine wi_cv3 (ls' := [some _, some _, some _, some _]) ct_120_9 (Nat.le_of_ble_eq_true rfl) (by decide) (sT_31 hS) rfl (by decide) rfl rfl (Nat.le_of_ble_eq_true rfl) ?_
    refine c_in rfl ki_0 (i_sub rfl ki_1 (by omega)) (fun h => absurd h (by omega)) (fun _ => wk_i ?_)
    refine wi_iret ct_120_12 (by decide) (wk_i ?_)
    refine wi_ifne_f ct_158_5 ki_0 (by decide) ?_
    refine wi_ic ct_158_8 kc_m1 ?_
    refine wi_iret ct_158_9 rfl (wk_i ?_)
    refine wi_iceq_t ct_211_497 ki_m1 ki_m1 (by decide) ?_
    exact kk own g fi fl hR (by omega) (by omega)
