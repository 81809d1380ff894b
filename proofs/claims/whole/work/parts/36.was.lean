def seenB (fi : am_I) (sq : Option sq_T) (S : Int) (j : Nat) : Bool := decide (gSz (goF fi sq (fi 50 j).toInt.toNat (goodV S (fi 38 1).toInt (fi 38 2).toInt) ((fi 31 1).toInt + (fi 51 j).toInt)) = (fi 52 j).toInt)
set_option maxHeartbeats 2000000 in
theorem vl_cseen {L : Nat} {xs : Nat → Int32} {own : Nat → Nat} {d : Nat} {g : am_G} {fi : am_I} {fl : am_L} {P : Option Value → am_G → am_I → am_L → Prop} {sq : Option sq_T} {S : Int} {N : Nat} {zs : Int32} (hR : Rel L xs own g fi fl) (hsq : SQs fi sq) (hsx : SQx g fi sq) (hzs : zs.toInt = S) (hS9 : 0 ≤ S ∧ S ≤ 9) (hNb : (fi 31 40).toInt = (N : Int)) : ∀ (n k : Nat) (g2 : am_G) (fi2 : am_I) (zi : Int32) (l3 : Option Value), k + n = N → SCR g g2 fi fi2 → zi.toInt = (k : Int) → am_nl l3 = true → (∀ g3 fi3, SCR g g3 fi fi3 → P (some (.int (bI (allB (seenB fi sq S) n k)))) g3 fi3 fl) → WP (d + 9) 112 2 [some (.ref 0), some (.int zs), some (.int zi), l3] [] g2 fi2 fl P := by
  obtain ⟨hS, hsc, hC, hK, hX, hV, hT, hP, hB, hN, hQ, hZ, hI⟩ := id hR
  obtain ⟨⟨c0, c0a, c0b⟩, ⟨c1, c1a, c1b⟩, ⟨c2, c2a, c2b⟩, ⟨c3, c3a, c3b⟩, ⟨c4, c4a, c4b⟩, ⟨c5, c5a, c5b⟩, ⟨c6, c6a, c6b⟩, ⟨c7, c7a, c7b⟩, c8, c9⟩ := id hC
  intro n
  induction n with
  | zero =>
    intro k g2 fi2 zi l3 hkn hs hzi h3 kk
    have hS2 := (hR.scr hs).1
    refine wi_iload_2 ct_112_2 ?_
    refine wi_aload_0 ct_112_3 ?_
    refine wi_gfr ct_112_4 (sT_0 hS2) rfl (sR_0_0 hS2) ?_
    refine wi_gf (x := fi 31 40) ct_112_7 (sT_1 hS2) rfl rfl (Eq.trans (congrFun (hs.2.1 1 (by omega)) _) c5) ?_
    refine wi_icge_t ct_112_10 hzi hNb (by omega) ?_
    refine wi_ic ct_112_123 kc_1 ?_
    refine wi_iret ct_112_124 (by decide) ?_
    exact kk _ _ hs
  | succ n ih =>
    intro k g2 fi2 zi l3 hkn hs hzi h3 kk
    have hS2 := (hR.scr hs).1
    obtain ⟨b1, b2, b3, ⟨b4a, b4b⟩, b5a, b5b⟩ := hV.1 k (by omega)
    obtain ⟨B, hB0⟩ : ∃ B : Nat, (fi 50 k).toInt = (B : Int) := ⟨(fi 50 k).toInt.toNat, by omega⟩
    have hBn := hB0
    obtain ⟨p, r, hW⟩ := BLW.at hB c0b (B := B) (by omega)
    obtain ⟨hB5, hO, w32, w33, w34, w35, w36, w37, k6, v9, d9, a60, co9, r9⟩ := id hW
    obtain ⟨o0, ⟨o72, onx, oow⟩, ot, ok, on, ov, oc, oa, om, orw⟩ := id hO
    have kq := fun j (h : j < 3) => (hK j (by omega)).2
    have hk0 := kq 0 (by decide)
    have hk1 := kq 1 (by decide)
    have hk2 := kq 2 (by decide)
    replace hk0 := And.intro hk0.1 (hk0.2.2 (by decide))
    replace hk1 := And.intro hk1.1 (hk1.2.2 (by decide))
    replace hk2 := And.intro hk2.1 (hk2.2.2 (by decide))
    have hGb := goodV_bd hk0 hk1 hk2
    have hwk : (fi 50 k).toInt.toNat = B := by omega
    have hGk := goodV_bd (X := S) (Y := (fi 38 1).toInt) (Z := (fi 38 2).toInt) (by omega) hk1 hk2
    refine wi_iload_2 ct_112_2 ?_
    refine wi_aload_0 ct_112_3 ?_
    refine wi_gfr ct_112_4 (sT_0 hS2) rfl (sR_0_0 hS2) ?_
    refine wi_gf (x := fi 31 40) ct_112_7 (sT_1 hS2) rfl rfl (Eq.trans (congrFun (hs.2.1 1 (by omega)) _) c5) ?_
    refine wi_icge_f ct_112_10 hzi hNb (by omega) ?_
    refine wi_aload_0 ct_112_13 ?_
    refine wi_aload_0 ct_112_14 ?_
    refine wi_gfr ct_112_15 (sT_0 hS2) rfl (sR_0_0 hS2) ?_
    refine wi_gfr ct_112_18 (sT_1 hS2) rfl (sR_1_5 hS2) ?_
    refine wi_iload_2 ct_112_21 ?_
    refine wi_iald (x := fi 50 k) ct_112_22 (sT_4 hS2) (sL_4 hS2) (i_in hzi (by omega)) (i_cl (k := k) hzi (by omega)) (Eq.trans (congrFun (hs.2.1 4 (by omega)) _) b1) ?_
    refine wi_cv1 (ls' := [some _, some _]) ct_112_23 (Nat.le_of_ble_eq_true rfl) (by decide) (sT_0 hS2) rfl (by decide) rfl rfl (Nat.le_of_ble_eq_true rfl) ?_
    refine wi_iload_1 ct_104_0 ?_
    refine wi_ic ct_104_1 kc_0 ?_
    refine wi_aload_0 ct_104_2 ?_
    refine wi_gfr ct_104_3 (sT_0 hS2) rfl (sR_0_0 hS2) ?_
    refine wi_gf (x := fi 31 0) ct_104_6 (sT_1 hS2) rfl rfl (Eq.trans (congrFun (hs.2.1 1 (by omega)) _) c0) ?_
    refine wi_ic ct_104_9 kc_1 ?_
    refine wi_isub ct_104_10 rfl ?_
    refine wi_cs3 (ls' := [some _, some _, some _]) ct_104_11 (Nat.le_of_ble_eq_true rfl) rfl (Nat.le_of_ble_eq_true rfl) ?_
    refine c_within hBn ki_0 (i_sub rfl ki_1 (by omega)) (fun _ => wk_i ?_) (fun h => absurd h (by omega))
    refine wi_ifeq_f ct_104_14 ki_1 (by decide) ?_
    refine wi_aload_0 ct_104_17 ?_
    refine wi_gfr ct_104_18 (sT_0 hS2) rfl (sR_0_0 hS2) ?_
    refine wi_gfr ct_104_21 (sT_1 hS2) rfl (sR_1_0 hS2) ?_
    refine wi_iload_1 ct_104_24 ?_
    refine wi_aald ct_104_25 (sT_2 hS2) (by decide) (sL_2 hS2) (i_in hBn (by omega)) (i_cl (k := B) hBn (by omega)) ((hs.1.2.2.2 2 B (by omega)).trans o0) ?_
    refine wi_goto ct_104_26 ?_
    refine wi_aret ct_104_30 (wk_r ?_)
    refine wi_astore_3 rfl ct_112_26 ?_
    refine wi_aload_3 ct_112_27 ?_
    refine wi_ifnonnull_r ct_112_28 ?_
    refine wi_aload_0 ct_112_33 ?_
    refine wi_aload_3 ct_112_34 ?_
    refine wi_cv1 (ls' := [some _, some _]) ct_112_35 (Nat.le_of_ble_eq_true rfl) (by decide) (sT_0 hS2) rfl (by decide) rfl rfl (Nat.le_of_ble_eq_true rfl) ?_
    refine c_begin hR hs hW hsq hsx (fun gb1 fb1 hsb1 hfb1 hkb1 hb1_1 hb1_2 hb1_3 hb1_4 hb1_5 hb1_6 => wk_v ?_)
    have hSb1 := (hR.scr hsb1).1
    refine wi_aload_0 ct_112_38 ?_
    refine wi_gfr ct_112_39 (sT_0 hSb1) rfl (sR_0_2 hSb1) ?_
    refine wi_iload_1 ct_112_42 ?_
    refine wi_aload_0 ct_112_43 ?_
    refine wi_gfr ct_112_44 (sT_0 hSb1) rfl (sR_0_0 hSb1) ?_
    refine wi_gfr ct_112_47 (sT_1 hSb1) rfl (sR_1_2 hSb1) ?_
    refine wi_ic ct_112_50 kc_1 ?_
    refine wi_iald (x := fi 38 1) ct_112_51 (sT_3 hSb1) (sL_3 hSb1) (by decide) kn_c1 (Eq.trans (congrFun (hsb1.2.1 3 (by omega)) _) (hK 1 (by decide)).1) ?_
    refine wi_aload_0 ct_112_52 ?_
    refine wi_gfr ct_112_53 (sT_0 hSb1) rfl (sR_0_0 hSb1) ?_
    refine wi_gfr ct_112_56 (sT_1 hSb1) rfl (sR_1_2 hSb1) ?_
    refine wi_ic ct_112_59 kc_2 ?_
    refine wi_iald (x := fi 38 2) ct_112_60 (sT_3 hSb1) (sL_3 hSb1) (by decide) kn_c2 (Eq.trans (congrFun (hsb1.2.1 3 (by omega)) _) (hK 2 (by decide)).1) ?_
    refine wi_cs3 (ls' := [some _, some _, some _]) ct_112_61 (Nat.le_of_ble_eq_true rfl) rfl (Nat.le_of_ble_eq_true rfl) ?_
    refine c_goodOf hzs rfl rfl (by omega) (by omega) (by omega) (fun zg2 hzg2 => wk_i ?_)
    refine wi_pf ct_112_64 (sT_15 hSb1) rfl ?_
    refine wi_aload_0 ct_112_67 ?_
    refine wi_gfr ct_112_68 (sT_0 hSb1) rfl (sR_0_2 hSb1) ?_
    refine wi_dup ct_112_71 rfl ?_
    refine wi_gf (x := fi 31 1) ct_112_72 (sT_15 hSb1) rfl rfl (Eq.trans (up2_nj (by decide)) hb1_4) ?_
    refine wi_aload_0 ct_112_75 ?_
    refine wi_gfr ct_112_76 (sT_0 hSb1) rfl (sR_0_0 hSb1) ?_
    refine wi_gfr ct_112_79 (sT_1 hSb1) rfl (sR_1_6 hSb1) ?_
    refine wi_iload_2 ct_112_82 ?_
    refine wi_iald (x := fi 51 k) ct_112_83 (sT_5 hSb1) (sL_5 hSb1) (i_in hzi (by omega)) (i_cl (k := k) hzi (by omega)) (Eq.trans (up2_nq (by decide)) (Eq.trans (congrFun (hsb1.2.1 5 (by omega)) _) b2)) ?_
    refine wi_iadd ct_112_84 rfl ?_
    refine wi_pf ct_112_85 (sT_15 hSb1) rfl ?_
    refine wi_aload_0 ct_112_88 ?_
    refine wi_gfr ct_112_89 (sT_0 hSb1) rfl (sR_0_2 hSb1) ?_
    refine wi_aload_3 ct_112_92 ?_
    refine wi_cv1 (ls' := [some _, some _, none]) ct_112_93 (Nat.le_of_ble_eq_true rfl) (by decide) (sT_15 hSb1) rfl (by decide) rfl rfl (Nat.le_of_ble_eq_true rfl) ?_
    refine c_runR (cd2 := (fi 34 B).toInt) (aim2 := (fi 35 B).toInt) (G := (goodV S (fi 38 1).toInt (fi 38 2).toInt)) (m0 := (fi 31 1).toInt + (fi 51 k).toInt) (gust := 0) (calm := false) hR ((hsb1.w (by omega)).w (by omega)) hW (hkb1.fr (fun q hq => (Eq.trans (funext fun _ => up2_nq (by omega)) (funext fun _ => up2_nq (by omega))))) (((congrArg Int32.toInt (Eq.trans (up2_nj (by decide)) (up2_nj (by decide)))).trans hb1_1).trans (by omega)) (((congrArg Int32.toInt (Eq.trans (up2_nj (by decide)) (up2_nj (by decide)))).trans hb1_2).trans (by omega)) (((congrArg Int32.toInt (Eq.trans (up2_nj (by decide)) up2_eq)).trans hzg2).trans (by omega)) (((congrArg Int32.toInt up2_eq).trans (i_add rfl rfl (by omega))).trans (by omega)) (((congrArg Int32.toInt (Eq.trans (up2_nj (by decide)) (Eq.trans (up2_nj (by decide)) hb1_5))).trans ki_0).trans (by omega)) ((Eq.trans (up2_nj (by decide)) (Eq.trans (up2_nj (by decide)) hb1_6)).trans rfl) (by omega) (by omega) (by omega) (by omega) (by omega) (fun Rr3 fr3 hr3_e hsr3 hr3_f hr3_7 hr3_11 hr3_12 hr3_10 hr3_4 hr3_13 hr3_j => wk_v ?_)
    have hSr3 := (hR.scr hsr3).1
    have hbdr3 := goR_bd (SQs_v hsq) (by omega) ((film_bd d9 hGk).2) hr3_e
    have her3 : Rr3 = goF fi sq B (goodV S (fi 38 1).toInt (fi 38 2).toInt) ((fi 31 1).toInt + (fi 51 k).toInt) := hr3_e
    have hSz : seenB fi sq S k = decide (gSz Rr3 = (fi 52 k).toInt) := by unfold seenB; rw [hwk, ← her3]
    refine wi_aload_0 ct_112_96 ?_
    refine wi_gfr ct_112_97 (sT_0 hSr3) rfl (sR_0_2 hSr3) ?_
    refine wi_gf (x := fr3 15 7) ct_112_100 (sT_15 hSr3) rfl rfl rfl ?_
    refine wi_aload_0 ct_112_103 ?_
    refine wi_gfr ct_112_104 (sT_0 hSr3) rfl (sR_0_0 hSr3) ?_
    refine wi_gfr ct_112_107 (sT_1 hSr3) rfl (sR_1_7 hSr3) ?_
    refine wi_iload_2 ct_112_110 ?_
    refine wi_iald (x := fi 52 k) ct_112_111 (sT_6 hSr3) (sL_6 hSr3) (i_in hzi (by omega)) (i_cl (k := k) hzi (by omega)) (Eq.trans (congrFun (hsr3.2.1 6 (by omega)) _) b3) ?_
    refine wi_iceq ct_112_112 hr3_7 rfl (fun h4 => ?_) (fun h4 => ?_)
    · skip
      refine wi_iinc_2 rfl (z := (zi + 1)) ct_112_117 (by rw [kc_1]) ?_
      refine wi_goto ct_112_120 ?_
      have hf : seenB fi sq S k = true := hSz.trans (decide_eq_true (by omega))
      rw [allB_t hf] at kk
      exact ih (k + 1) _ _ _ _ (by omega) hsr3 ((i_add hzi ki_1 (by omega)).trans (by omega)) rfl kk
    · skip
      refine wi_ic ct_112_115 kc_0 ?_
      refine wi_iret ct_112_116 (by decide) ?_
      have hf : seenB fi sq S k = false := hSz.trans (decide_eq_false (by omega))
      rw [allB_f hf] at kk
      exact kk _ _ hsr3
set_option maxHeartbeats 2000000 in
theorem vl_mseen {L : Nat} {xs : Nat → Int32} {own : Nat → Nat} {d : Nat} {g : am_G} {fi : am_I} {fl : am_L} {P : Option Value → am_G → am_I → am_L → Prop} {sq : Option sq_T} {S : Int} {N : Nat} {zo zt zn x : Int32} (hR : Rel L xs own g fi fl) (hsq : SQs fi sq) (hx : x.toInt = S) (hS9 : 0 ≤ S ∧ S ≤ 9) (hNb : (fi 31 40).toInt = (N : Int)) : ∀ (n k : Nat) (g2 : am_G) (fi2 : am_I) (zi : Int32), k + n = N → SCR g g2 (up2 fi 38 0 x) fi2 → zi.toInt = (k : Int) → (∀ fi3 zi, SCR g g2 (up2 fi 38 0 x) fi3 → WP (d + 9) 171 58 [some (.ref 31), some (.int zo), some (.int zt), some (.int zn), some (.int (bI (allB (seenB fi sq S) n k))), some (.int zi)] [] g2 fi3 fl P) → WP (d + 9) 171 30 [some (.ref 31), some (.int zo), some (.int zt), some (.int zn), some (.int 1), some (.int zi)] [] g2 fi2 fl P := by
  obtain ⟨hS, hsc, hC, hK, hX, hV, hT, hP, hB, hN, hQ, hZ, hI⟩ := id hR
  obtain ⟨⟨c0, c0a, c0b⟩, ⟨c1, c1a, c1b⟩, ⟨c2, c2a, c2b⟩, ⟨c3, c3a, c3b⟩, ⟨c4, c4a, c4b⟩, ⟨c5, c5a, c5b⟩, ⟨c6, c6a, c6b⟩, ⟨c7, c7a, c7b⟩, c8, c9⟩ := id hC
  intro n
  induction n with
  | zero =>
    intro k g2 fi2 zi hkn hs hzi kk
    have hS2 := hs.1.SF hS
    refine wi_iload_5 ct_171_30 ?_
    refine wi_aload_0 ct_171_32 ?_
    refine wi_gf (x := fi 31 40) ct_171_33 (sT_31 hS2) rfl rfl (Eq.trans (hs.2.2.2 40 (by omega)) (up2_nq (by decide))) ?_
    refine wi_icge_t ct_171_36 hzi hNb (by omega) ?_
    exact kk _ _ hs
  | succ n ih =>
    intro k g2 fi2 zi hkn hs hzi kk
    have hS2 := hs.1.SF hS
    obtain ⟨b1, b2, b3, ⟨b4a, b4b⟩, b5a, b5b⟩ := hV.1 k (by omega)
    obtain ⟨B, hB0⟩ : ∃ B : Nat, (fi 50 k).toInt = (B : Int) := ⟨(fi 50 k).toInt.toNat, by omega⟩
    have hBn := hB0
    obtain ⟨p, r, hW⟩ := BLW.at hB c0b (B := B) (by omega)
    obtain ⟨hB5, hO, w32, w33, w34, w35, w36, w37, k6, v9, d9, a60, co9, r9⟩ := id hW
    obtain ⟨o0, ⟨o72, onx, oow⟩, ot, ok, on, ov, oc, oa, om, orw⟩ := id hO
    have kq := fun j (h : j < 3) => (hK j (by omega)).2
    have hk0 := kq 0 (by decide)
    have hk1 := kq 1 (by decide)
    have hk2 := kq 2 (by decide)
    replace hk0 := And.intro hk0.1 (hk0.2.2 (by decide))
    replace hk1 := And.intro hk1.1 (hk1.2.2 (by decide))
    replace hk2 := And.intro hk2.1 (hk2.2.2 (by decide))
    have hGb := goodV_bd hk0 hk1 hk2
    have hwk : (fi 50 k).toInt.toNat = B := by omega
    have hGk := goodV_bd (X := S) (Y := (fi 38 1).toInt) (Z := (fi 38 2).toInt) (by omega) hk1 hk2
    have hmb := (MB.of hR hW hsq).soap hx hS9
    refine wi_iload_5 ct_171_30 ?_
    refine wi_aload_0 ct_171_32 ?_
    refine wi_gf (x := fi 31 40) ct_171_33 (sT_31 hS2) rfl rfl (Eq.trans (hs.2.2.2 40 (by omega)) (up2_nq (by decide))) ?_
    refine wi_icge_f ct_171_36 hzi hNb (by omega) ?_
    refine wi_iload_4 ct_171_39 ?_
    refine wi_ifeq_f ct_171_41 ki_1 (by decide) ?_
    refine wi_aload_0 ct_171_44 ?_
    refine wi_iload_5 ct_171_45 ?_
    refine wi_cv1 (ls' := [some _, some _]) ct_171_47 (Nat.le_of_ble_eq_true rfl) (by decide) (sT_31 hS2) rfl (by decide) rfl rfl (Nat.le_of_ble_eq_true rfl) ?_
    refine wi_aload_0 ct_170_0 ?_
    refine wi_aload_0 ct_170_1 ?_
    refine wi_gfr ct_170_2 (sT_31 hS2) rfl (sR_31_41 hS2) ?_
    refine wi_iload_1 ct_170_5 ?_
    refine wi_iald (x := fi 50 k) ct_170_6 (sT_50 hS2) (sL_50 hS2) (i_in hzi (by omega)) (i_cl (k := k) hzi (by omega)) (Eq.trans (congrFun (hs.2.1 50 (by omega)) _) (up2_nq (by decide))) ?_
    refine wi_aload_0 ct_170_7 ?_
    refine wi_gf (x := fi 31 1) ct_170_8 (sT_31 hS2) rfl rfl (Eq.trans (hs.2.2.2 1 (by omega)) (up2_nq (by decide))) ?_
    refine wi_aload_0 ct_170_11 ?_
    refine wi_gfr ct_170_12 (sT_31 hS2) rfl (sR_31_42 hS2) ?_
    refine wi_iload_1 ct_170_15 ?_
    refine wi_iald (x := fi 51 k) ct_170_16 (sT_51 hS2) (sL_51 hS2) (i_in hzi (by omega)) (i_cl (k := k) hzi (by omega)) (Eq.trans (congrFun (hs.2.1 51 (by omega)) _) (up2_nq (by decide))) ?_
    refine wi_iadd ct_170_17 rfl ?_
    refine wi_cv2 (ls' := [some _, some _, some _, none, none, none, none]) ct_170_18 (Nat.le_of_ble_eq_true rfl) (by decide) (sT_31 hS2) rfl (by decide) rfl rfl (Nat.le_of_ble_eq_true rfl) ?_
    refine c_goR (m0 := (fi 31 1).toInt + (fi 51 k).toInt) hS2 hmb hs hBn ((i_add rfl rfl (by omega)).trans (by omega)) (by omega) (fun Ro1 fo1 ho1_e hso1 ho1_f ho1_30 ho1_31 ho1_32 ho1_33 ho1_34 => wk_v ?_)
    have hbdo1 := goR_bd (SQs_v hsq) (by omega) ((film_bd d9 hGk).2) ho1_e
    have heo1 : Ro1 = goF fi sq B (goodV S (fi 38 1).toInt (fi 38 2).toInt) ((fi 31 1).toInt + (fi 51 k).toInt) := ho1_e
    have hSz : seenB fi sq S k = decide (gSz Ro1 = (fi 52 k).toInt) := by unfold seenB; rw [hwk, ← heo1]
    refine wi_aload_0 ct_170_21 ?_
    refine wi_gf (x := fo1 31 30) ct_170_22 (sT_31 hS2) rfl rfl rfl ?_
    refine wi_aload_0 ct_170_25 ?_
    refine wi_gfr ct_170_26 (sT_31 hS2) rfl (sR_31_43 hS2) ?_
    refine wi_iload_1 ct_170_29 ?_
    refine wi_iald (x := fi 52 k) ct_170_30 (sT_52 hS2) (sL_52 hS2) (i_in hzi (by omega)) (i_cl (k := k) hzi (by omega)) (Eq.trans (congrFun (hso1.2.1 52 (by omega)) _) (up2_nq (by decide))) ?_
    refine wi_icne ct_170_31 ho1_30 rfl (fun h2 => ?_) (fun h2 => ?_)
    · skip
      refine wi_ic ct_170_38 kc_0 ?_
      refine wi_iret ct_170_39 (by decide) (wk_i ?_)
      refine wi_istore_4 rfl ct_171_50 ?_
      refine wi_iinc_5 rfl (z := (zi + 1)) ct_171_52 (by rw [kc_1]) ?_
      refine wi_goto ct_171_55 ?_
      refine wi_iload_5 ct_171_30 ?_
      refine wi_aload_0 ct_171_32 ?_
      refine wi_gf (x := fi 31 40) ct_171_33 (sT_31 hS2) rfl rfl (Eq.trans (hso1.2.2.2 40 (by omega)) (up2_nq (by decide))) ?_
      refine wi_icge ct_171_36 (i_add hzi ki_1 (by omega)) hNb (fun h3 => ?_) (fun h3 => ?_)
      · skip
        have hf : seenB fi sq S k = false := hSz.trans (decide_eq_false (by omega))
        rw [allB_f hf] at kk
        exact kk _ _ hso1
      · skip
        refine wi_iload_4 ct_171_39 ?_
        refine wi_ifeq_t ct_171_41 ki_0 (by decide) ?_
        have hf : seenB fi sq S k = false := hSz.trans (decide_eq_false (by omega))
        rw [allB_f hf] at kk
        exact kk _ _ hso1
    · skip
      refine wi_ic ct_170_34 kc_1 ?_
      refine wi_goto ct_170_35 ?_
      refine wi_iret ct_170_39 (by decide) (wk_i ?_)
      refine wi_istore_4 rfl ct_171_50 ?_
      refine wi_iinc_5 rfl (z := (zi + 1)) ct_171_52 (by rw [kc_1]) ?_
      refine wi_goto ct_171_55 ?_
      have hf : seenB fi sq S k = true := hSz.trans (decide_eq_true (by omega))
      rw [allB_t hf] at kk
      exact ih (k + 1) _ _ _ (by omega) hso1 ((i_add hzi ki_1 (by omega)).trans (by omega)) kk
set_option maxHeartbeats 2000000 in
theorem vl_cwas {L : Nat} {xs : Nat → Int32} {own : Nat → Nat} {d : Nat} {g : am_G} {fi : am_I} {fl : am_L} {P : Option Value → am_G → am_I → am_L → Prop} {sq : Option sq_T} (hR : Rel L xs own g fi fl) (hsq : SQs fi sq) (hsx : SQx g fi sq) {N : Nat} {H : Nat → Bool} (hNb : (fi 31 40).toInt = (N : Int)) (hH : ∀ k : Nat, H k = allB (seenB fi sq (k : Int)) N 0) : ∀ (n k : Nat) (g2 : am_G) (fi2 : am_I) (zx zi : Int32), k + n = 10 → SCR g g2 fi fi2 → zi.toInt = (k : Int) → (∀ g3 fi3, SCR g g3 fi fi3 → P (some (.int (bitV H n k zi zx))) g3 fi3 fl) → WP (d + 11) 86 4 [some (.ref 0), some (.int zx), some (.int zi)] [] g2 fi2 fl P := by
  obtain ⟨hS, hsc, hC, hK, hX, hV, hT, hP, hB, hN, hQ, hZ, hI⟩ := id hR
  obtain ⟨⟨c0, c0a, c0b⟩, ⟨c1, c1a, c1b⟩, ⟨c2, c2a, c2b⟩, ⟨c3, c3a, c3b⟩, ⟨c4, c4a, c4b⟩, ⟨c5, c5a, c5b⟩, ⟨c6, c6a, c6b⟩, ⟨c7, c7a, c7b⟩, c8, c9⟩ := id hC
  intro n
  induction n with
  | zero =>
    intro k g2 fi2 zx zi hkn hs hzi kk
    have hS2 := (hR.scr hs).1
    refine wi_iload_2 ct_86_4 ?_
    refine wi_ic ct_86_5 kc_9 ?_
    refine wi_icgt_t ct_86_7 hzi ki_9 (by omega) ?_
    refine wi_iload_1 ct_86_30 ?_
    refine wi_iret ct_86_31 rfl ?_
    exact kk _ _ hs
  | succ n ih =>
    intro k g2 fi2 zx zi hkn hs hzi kk
    have hS2 := (hR.scr hs).1
    refine wi_iload_2 ct_86_4 ?_
    refine wi_ic ct_86_5 kc_9 ?_
    refine wi_icgt_f ct_86_7 hzi ki_9 (by omega) ?_
    refine wi_aload_0 ct_86_10 ?_
    refine wi_iload_2 ct_86_11 ?_
    refine wi_cv1 (ls' := [some _, some _, none, none]) ct_86_12 (Nat.le_of_ble_eq_true rfl) (by decide) (sT_0 hS2) rfl (by decide) rfl rfl (Nat.le_of_ble_eq_true rfl) ?_
    refine wi_ic ct_112_0 kc_0 ?_
    refine wi_istore_2 rfl ct_112_1 ?_
    refine vl_cseen hR hsq hsx hzi (by omega) hNb N 0 _ _ _ none (by omega) hs (ki_0.trans rfl) rfl (fun gc1 fc1 hsc1 => wk_i ?_)
    have hSc1 := (hR.scr hsc1).1
    rw [show allB (seenB fi sq (k : Int)) N 0 = H k from (hH k).symm]
    cases hb : H k
    · skip
      refine wi_ifeq_t ct_86_15 (show (bI false).toInt = 0 from rfl) (by decide) ?_
      refine wi_iinc_2 rfl (z := (zi + 1)) ct_86_24 (by rw [kc_1]) ?_
      refine wi_goto ct_86_27 ?_
      rw [bitV_f hb] at kk
      exact ih (k + 1) _ _ _ _ (by omega) hsc1 ((i_add hzi ki_1 (by omega)).trans (by omega)) kk
    · skip
      refine wi_ifeq_f ct_86_15 (show (bI true).toInt = 1 from rfl) (by decide) ?_
      refine wi_iload_1 ct_86_18 ?_
      refine wi_ic ct_86_19 kc_1 ?_
      refine wi_iload_2 ct_86_20 ?_
      refine wi_ishl ct_86_21 rfl ?_
      refine wi_ior ct_86_22 rfl ?_
      refine wi_istore_1 rfl ct_86_23 ?_
      refine wi_iinc_2 rfl (z := (zi + 1)) ct_86_24 (by rw [kc_1]) ?_
      refine wi_goto ct_86_27 ?_
      rw [bitV_t hb] at kk
      exact ih (k + 1) _ _ _ _ (by omega) hsc1 ((i_add hzi ki_1 (by omega)).trans (by omega)) kk
set_option maxHeartbeats 2000000 in
theorem vl_mwas {L : Nat} {xs : Nat → Int32} {own : Nat → Nat} {d : Nat} {g : am_G} {fi : am_I} {fl : am_L} {P : Option Value → am_G → am_I → am_L → Prop} {sq : Option sq_T} {zo : Int32} (hR : Rel L xs own g fi fl) (hsq : SQs fi sq) {N : Nat} {H : Nat → Bool} (hNb : (fi 31 40).toInt = (N : Int)) (hH : ∀ k : Nat, H k = allB (seenB fi sq (k : Int)) N 0) (hwas : fi 38 0 = zo) : ∀ (n k : Nat) (g2 : am_G) (fi2 : am_I) (x zx zi : Int32) (l4 l5 : Option Value), k + n = 10 → SCR g g2 (up2 fi 38 0 x) fi2 → zi.toInt = (k : Int) → am_nl l4 = true → am_nl l5 = true → (∀ fi3, SCR g g2 fi fi3 → P (some (.int (bitV H n k zi zx))) g2 fi3 fl) → WP (d + 11) 171 11 [some (.ref 31), some (.int zo), some (.int zx), some (.int zi), l4, l5] [] g2 fi2 fl P := by
  obtain ⟨hS, hsc, hC, hK, hX, hV, hT, hP, hB, hN, hQ, hZ, hI⟩ := id hR
  obtain ⟨⟨c0, c0a, c0b⟩, ⟨c1, c1a, c1b⟩, ⟨c2, c2a, c2b⟩, ⟨c3, c3a, c3b⟩, ⟨c4, c4a, c4b⟩, ⟨c5, c5a, c5b⟩, ⟨c6, c6a, c6b⟩, ⟨c7, c7a, c7b⟩, c8, c9⟩ := id hC
  intro n
  induction n with
  | zero =>
    intro k g2 fi2 x zx zi l4 l5 hkn hs hzi h4 h5 kk
    have hS2 := hs.1.SF hS
    refine wi_iload_3 ct_171_11 ?_
    refine wi_ic ct_171_12 kc_10 ?_
    refine wi_icge_t ct_171_14 hzi ki_10 (by omega) ?_
    refine wi_aload_0 ct_171_79 ?_
    refine wi_gfr ct_171_80 (sT_31 hS2) rfl (sR_31_8 hS2) ?_
    refine wi_ic ct_171_83 kc_0 ?_
    refine wi_iload_1 ct_171_84 ?_
    refine wi_iast ct_171_85 (sT_38 hS2) (sL_38 hS2) (by decide) kn_c0 ?_
    refine wi_iload_2 ct_171_86 ?_
    refine wi_iret ct_171_87 rfl ?_
    exact kk _ (hs.wr hwas)
  | succ n ih =>
    intro k g2 fi2 x zx zi l4 l5 hkn hs hzi h4 h5 kk
    have hS2 := hs.1.SF hS
    refine wi_iload_3 ct_171_11 ?_
    refine wi_ic ct_171_12 kc_10 ?_
    refine wi_icge_f ct_171_14 hzi ki_10 (by omega) ?_
    refine wi_aload_0 ct_171_17 ?_
    refine wi_gfr ct_171_18 (sT_31 hS2) rfl (sR_31_8 hS2) ?_
    refine wi_ic ct_171_21 kc_0 ?_
    refine wi_iload_3 ct_171_22 ?_
    refine wi_iast ct_171_23 (sT_38 hS2) (sL_38 hS2) (by decide) kn_c0 ?_
    refine wi_ic ct_171_24 kc_1 ?_
    refine wi_istore_4 rfl ct_171_25 ?_
    refine wi_ic ct_171_27 kc_0 ?_
    refine wi_istore_5 rfl ct_171_28 ?_
    refine vl_mseen hR hsq hzi (by omega) hNb N 0 _ _ _ (by omega) hs.wx (ki_0.trans rfl) (fun fm1 zim1 hsm1 => ?_)
    rw [show allB (seenB fi sq (k : Int)) N 0 = H k from (hH k).symm]
    cases hb : H k
    · skip
      refine wi_iload_2 ct_171_58 ?_
      refine wi_iload_4 ct_171_59 ?_
      refine wi_ifeq_t ct_171_61 (show (bI false).toInt = 0 from rfl) (by decide) ?_
      refine wi_ic ct_171_70 kc_0 ?_
      refine wi_ior ct_171_71 rfl ?_
      refine wi_istore_2 rfl ct_171_72 ?_
      refine wi_iinc_3 rfl (z := (zi + 1)) ct_171_73 (by rw [kc_1]) ?_
      refine wi_goto ct_171_76 ?_
      rw [bitV_f hb] at kk
      rw [or_0]
      exact ih (k + 1) _ _ _ _ _ _ _ (by omega) hsm1 ((i_add hzi ki_1 (by omega)).trans (by omega)) rfl rfl kk
    · skip
      refine wi_iload_2 ct_171_58 ?_
      refine wi_iload_4 ct_171_59 ?_
      refine wi_ifeq_f ct_171_61 (show (bI true).toInt = 1 from rfl) (by decide) ?_
      refine wi_ic ct_171_64 kc_1 ?_
      refine wi_iload_3 ct_171_65 ?_
      refine wi_ishl ct_171_66 rfl ?_
      refine wi_goto ct_171_67 ?_
      refine wi_ior ct_171_71 rfl ?_
      refine wi_istore_2 rfl ct_171_72 ?_
      refine wi_iinc_3 rfl (z := (zi + 1)) ct_171_73 (by rw [kc_1]) ?_
      refine wi_goto ct_171_76 ?_
      rw [bitV_t hb] at kk
      exact ih (k + 1) _ _ _ _ _ _ _ (by omega) hsm1 ((i_add hzi ki_1 (by omega)).trans (by omega)) rfl rfl kk
set_option maxHeartbeats 2000000 in
theorem op_was {L I : Nat} {xs : Nat → Int32} {own : Nat → Nat} {d : Nat} {g : am_G} {fi : am_I} {fl : am_L} {P : Option Value → am_G → am_I → am_L → Prop} {i : Int32} (hi : i.toInt = (I : Int)) (hI6 : I + 6 ≤ L) (hL : L ≤ 3072) (hR : Rel L xs own g fi fl) (hnx : am_nx g ≤ 800000) (kk : ∀ own' g' fi' fl', Rel L xs own' g' fi' fl' → am_nx g' ≤ am_nx g + 30 → am_sl g' ≤ am_sl g + 1000 → WP (d + 60) 211 1359 [some (.retAddr 0), some (.ref 0), some (.ref 31), some (.int i)] [] g' fi' fl' P) : WP (d + 60) 211 799 [some (.retAddr 0), some (.ref 0), some (.ref 31), some (.int i)] [] g fi fl P := by
  obtain ⟨hS, hsc, hC, hK, hX, hV, hT, hP, hB, hN, hQ, hZ, hI⟩ := id hR
  obtain ⟨⟨c0, c0a, c0b⟩, ⟨c1, c1a, c1b⟩, ⟨c2, c2a, c2b⟩, ⟨c3, c3a, c3b⟩, ⟨c4, c4a, c4b⟩, ⟨c5, c5a, c5b⟩, ⟨c6, c6a, c6b⟩, ⟨c7, c7a, c7b⟩, c8, c9⟩ := id hC
  obtain ⟨sq, hsq, hsx⟩ := sq_of hR
  obtain ⟨N, hNb⟩ : ∃ N : Nat, (fi 31 40).toInt = (N : Int) := ⟨(fi 31 40).toInt.toNat, by omega⟩
  obtain ⟨H, hH⟩ : ∃ H : Nat → Bool, ∀ k : Nat, H k = allB (seenB fi sq (k : Int)) N 0 := ⟨_, fun _ => rfl⟩
  refine wi_aload_1 ct_211_799 ?_
  refine wi_cv0 (ls' := [some _, none, none]) ct_211_800 (Nat.le_of_ble_eq_true rfl) (by decide) (sT_0 hS) rfl (by decide) rfl rfl (Nat.le_of_ble_eq_true rfl) ?_
  refine wi_ic ct_86_0 kc_0 ?_
  refine wi_istore_1 rfl ct_86_1 ?_
  refine wi_ic ct_86_2 kc_0 ?_
  refine wi_istore_2 rfl ct_86_3 ?_
  refine vl_cwas hR hsq hsx hNb hH 10 0 _ _ _ _ (by omega) SCR.rfl (ki_0.trans rfl) (fun gc1 fc1 hsc1 => wk_i ?_)
  have hSc1 := (hR.scr hsc1).1
  refine wi_aload_2 ct_211_803 ?_
  refine wi_cv0 (ls' := [some _, none, none, none, none, none]) ct_211_804 (Nat.le_of_ble_eq_true rfl) (by decide) (sT_31 hSc1) rfl (by decide) rfl rfl (Nat.le_of_ble_eq_true rfl) ?_
  refine wi_aload_0 ct_171_0 ?_
  refine wi_gfr ct_171_1 (sT_31 hSc1) rfl (sR_31_8 hSc1) ?_
  refine wi_ic ct_171_4 kc_0 ?_
  refine wi_iald (x := fi 38 0) ct_171_5 (sT_38 hSc1) (sL_38 hSc1) (by decide) kn_c0 (congrFun (hsc1.2.1 38 (by omega)) _) ?_
  refine wi_istore_1 rfl ct_171_6 ?_
  refine wi_ic ct_171_7 kc_0 ?_
  refine wi_istore_2 rfl ct_171_8 ?_
  refine wi_ic ct_171_9 kc_0 ?_
  refine wi_istore_3 rfl ct_171_10 ?_
  refine vl_mwas hR hsq hNb hH rfl 10 0 _ _ _ _ _ none none (by omega) (SCR.wi hsc1) (ki_0.trans rfl) rfl rfl (fun fm2 hsm2 => wk_i ?_)
  refine wi_iceq_t ct_211_807 rfl rfl (by omega) ?_
  exact kk own _ _ fl (hR.scr hsm2) (by rw [hsm2.nx]; omega) (by rw [hsm2.sl]; omega)
