theorem Rel.act {L : Nat} {xs : Nat → Int32} {own : Nat → Nat} {g : am_G} {fi fi2 : am_I} {fl : am_L} (hR : Rel L xs own g fi fl) (hw : ∀ q, q ≠ 21 → q ≠ 31 → q ≠ 67 → fi2 q = fi q) (m : ∀ j, j ≠ 65 → fi2 31 j = fi 31 j) (hc : fi2 21 0 = fi2 31 65 ∧ 0 ≤ (fi2 31 65).toInt ∧ (fi2 31 65).toInt ≤ 60) (ht : RT fi2) : Rel L xs own g fi2 fl := by
  obtain ⟨hS, hsc, hC, hK, hX, hV, hT, hP, hB, hN, hQ, hZ, hI⟩ := hR
  have h5 := hC.1.2.2
  have w := hw
  have hf : rl_fr (fun _ => True) own own g g fi fi2 := am_frL (fun q hq => w q (by omega) (by omega) (by omega))
  refine ⟨hS, fun j => (congrFun (w am_SC (by unfold am_SC; decide) (by unfold am_SC; decide) (by unfold am_SC; decide)) j).trans (hsc j), ?_, ?_, ?_, ?_, ht, ?_, ?_, hN, ?_, hZ, ?_⟩
  · unfold RC
    rw [w 1 (by decide) (by decide) (by decide), w 0 (by decide) (by decide) (by decide), w 17 (by decide) (by decide) (by decide), m 0 (by decide), m 1 (by decide), m 10 (by decide), m 9 (by decide), m 11 (by decide), m 40 (by decide), m 44 (by decide), m 35 (by decide), m 36 (by decide)]
    obtain ⟨c0, c1, c2, c3, c4, c5, c6, c7, c8⟩ := hC
    exact ⟨c0, c1, c2, c3, c4, c5, c6, hc, c8⟩
  · unfold RK
    rw [w 3 (by decide) (by decide) (by decide), w 38 (by decide) (by decide) (by decide)]
    exact hK
  · unfold RX RL
    rw [w 18 (by decide) (by decide) (by decide), w 39 (by decide) (by decide) (by decide), w 47 (by decide) (by decide) (by decide), m 11 (by decide)]
    exact hX
  · unfold RV
    rw [w 4 (by decide) (by decide) (by decide), w 5 (by decide) (by decide) (by decide), w 6 (by decide) (by decide) (by decide), w 7 (by decide) (by decide) (by decide), w 8 (by decide) (by decide) (by decide), w 50 (by decide) (by decide) (by decide), w 51 (by decide) (by decide) (by decide), w 52 (by decide) (by decide) (by decide), w 53 (by decide) (by decide) (by decide), w 54 (by decide) (by decide) (by decide), m 0 (by decide), m 40 (by decide), m 44 (by decide)]
    exact hV
  · unfold RP
    rw [w 22 (by decide) (by decide) (by decide), w 23 (by decide) (by decide) (by decide), w 68 (by decide) (by decide) (by decide), w 69 (by decide) (by decide) (by decide)]
    exact hP
  · exact hB.fr h5 hf (fun _ _ => trivial) (m 0 (by decide)) rfl (w 32 (by decide) (by decide) (by decide)) (w 33 (by decide) (by decide) (by decide)) (w 34 (by decide) (by decide) (by decide)) (w 35 (by decide) (by decide) (by decide)) (w 36 (by decide) (by decide) (by decide)) (w 37 (by decide) (by decide) (by decide))
  · exact hQ.fr hf trivial (m 9 (by decide)) rfl (w 40 (by decide) (by decide) (by decide)) (w 41 (by decide) (by decide) (by decide)) (w 42 (by decide) (by decide) (by decide)) (w 43 (by decide) (by decide) (by decide)) (w 44 (by decide) (by decide) (by decide)) (w 45 (by decide) (by decide) (by decide))
  · exact hI.fr h5 hf (fun _ _ _ => trivial) (fun _ _ => rfl) rfl (fun _ _ => rfl) (Int.le_of_eq (by rw [m 0 (by decide)])) (Int.le_of_eq (by rw [m 9 (by decide)])) (m 47 (by decide)) (m 48 (by decide)) (m 49 (by decide)) (m 50 (by decide)) (m 51 (by decide)) (m 52 (by decide)) (fun b _ => congrFun (w 32 (by decide) (by decide) (by decide)) b) (fun b _ => congrFun (w 33 (by decide) (by decide) (by decide)) b) (w 55 (by decide) (by decide) (by decide)) (w 56 (by decide) (by decide) (by decide)) (w 57 (by decide) (by decide) (by decide)) (w 58 (by decide) (by decide) (by decide)) (w 59 (by decide) (by decide) (by decide)) (w 60 (by decide) (by decide) (by decide)) (w 61 (by decide) (by decide) (by decide)) (w 62 (by decide) (by decide) (by decide)) (w 63 (by decide) (by decide) (by decide)) (w 64 (by decide) (by decide) (by decide)) (w 65 (by decide) (by decide) (by decide)) (w 66 (by decide) (by decide) (by decide))
set_option maxHeartbeats 2000000 in
theorem op_act {L I : Nat} {xs : Nat → Int32} {own : Nat → Nat} {d : Nat} {g : am_G} {fi : am_I} {fl : am_L} {P : Option Value → am_G → am_I → am_L → Prop} {i : Int32} (hi : i.toInt = (I : Int)) (hI6 : I + 6 ≤ L) (hL : L ≤ 3072) (hR : Rel L xs own g fi fl) (hnx : am_nx g ≤ 800000) (kk : ∀ own' g' fi' fl', Rel L xs own' g' fi' fl' → am_nx g' ≤ am_nx g + 30 → am_sl g' ≤ am_sl g + 1000 → WP (d + 60) 211 1359 [some (.retAddr 0), some (.ref 0), some (.ref 31), some (.int i)] [] g' fi' fl' P) : WP (d + 60) 211 1024 [some (.retAddr 0), some (.ref 0), some (.ref 31), some (.int i)] [] g fi fl P := by
  obtain ⟨hS, hsc, hC, hK, hX, hV, hT, hP, hB, hN, hQ, hZ, hI⟩ := id hR
  obtain ⟨⟨c0, c0a, c0b⟩, ⟨c1, c1a, c1b⟩, ⟨c2, c2a, c2b⟩, ⟨c3, c3a, c3b⟩, ⟨c4, c4a, c4b⟩, ⟨c5, c5a, c5b⟩, ⟨c6, c6a, c6b⟩, ⟨c7, c7a, c7b⟩, c8, c9⟩ := id hC
  obtain ⟨a1, e1⟩ : ∃ a, xs (I + 1) = a := ⟨_, rfl⟩
  obtain ⟨a2, e2⟩ : ∃ a, xs (I + 2) = a := ⟨_, rfl⟩
  obtain ⟨a3, e3⟩ : ∃ a, xs (I + 3) = a := ⟨_, rfl⟩
  by_cases hA : 0 ≤ (a1).toInt ∧ (a1).toInt < (fi 31 0).toInt
  · skip
    obtain ⟨B, hBa⟩ : ∃ B : Nat, (a1).toInt = (B : Int) := ⟨(a1).toInt.toNat, by omega⟩
    have hBn := hBa
    obtain ⟨p, r, kd, v, cd, aim, co, row, hW⟩ := BLW.of hB c0b (B := B) (by omega)
    obtain ⟨sq, hsq, hsx⟩ := sq_of hR
    obtain ⟨hB5, hO, w32, w33, w34, w35, w36, w37, k6, v9, d9, a60, co9, r9⟩ := id hW
    obtain ⟨o0, ⟨o72, onx, oow⟩, ot, ok, on, ov, oc, oa, om, orw⟩ := id hO
    have kq := fun j (h : j < 3) => (hK j (by omega)).2
    have hk0 := kq 0 (by decide)
    have hk1 := kq 1 (by decide)
    have hk2 := kq 2 (by decide)
    replace hk0 := And.intro hk0.1 (hk0.2.2 (by decide))
    replace hk1 := And.intro hk1.1 (hk1.2.2 (by decide))
    replace hk2 := And.intro hk2.1 (hk2.2.2 (by decide))
    have hGb := goodV_bd hk0 hk1 hk2
    have hpn : fi p 1 = a1 := i_eq on hBa rfl
    refine wi_aload_1 ct_211_1024 ?_
    refine wi_aloadT_0 ct_211_1025 ?_
    refine wi_iload_3 ct_211_1026 ?_
    refine wi_ic ct_211_1027 kc_1 ?_
    refine wi_iadd ct_211_1028 rfl ?_
    refine wi_ialdT (j := I + 1) (x := a1) ct_211_1029 (sL_SC hS) (i_in (i_add hi ki_1 (by omega)) (by omega)) (i_cl (i_add hi ki_1 (by omega)) (by omega)) (((hsc _).trans e1)) ?_
    refine wi_aloadT_0 ct_211_1030 ?_
    refine wi_iload_3 ct_211_1031 ?_
    refine wi_ic ct_211_1032 kc_2 ?_
    refine wi_iadd ct_211_1033 rfl ?_
    refine wi_ialdT (j := I + 2) (x := a2) ct_211_1034 (sL_SC hS) (i_in (i_add hi ki_2 (by omega)) (by omega)) (i_cl (i_add hi ki_2 (by omega)) (by omega)) (((hsc _).trans e2)) ?_
    refine wi_aloadT_0 ct_211_1035 ?_
    refine wi_iload_3 ct_211_1036 ?_
    refine wi_ic ct_211_1037 kc_3 ?_
    refine wi_iadd ct_211_1038 rfl ?_
    refine wi_ialdT (j := I + 3) (x := a3) ct_211_1039 (sL_SC hS) (i_in (i_add hi ki_3 (by omega)) (by omega)) (i_cl (i_add hi ki_3 (by omega)) (by omega)) (((hsc _).trans e3)) ?_
    refine wi_cv3 (ls' := [some _, some _, some _, some _, none]) ct_211_1040 (Nat.le_of_ble_eq_true rfl) (by decide) (sT_0 hS) rfl (by decide) rfl rfl (Nat.le_of_ble_eq_true rfl) ?_
    refine wi_aload_0 ct_95_0 ?_
    refine wi_gfr ct_95_1 (sT_0 hS) rfl (sR_0_10 hS) ?_
    refine wi_ic ct_95_4 kc_0 ?_
    refine wi_ic ct_95_5 kc_0 ?_
    refine wi_iast ct_95_6 (sT_21 hS) (sL_21 hS) (by decide) kn_c0 ?_
    refine wi_aload_0 ct_95_7 ?_
    refine wi_iload_1 ct_95_8 ?_
    refine wi_cv1 (ls' := [some _, some _]) ct_95_9 (Nat.le_of_ble_eq_true rfl) (by decide) (sT_0 hS) rfl (by decide) rfl rfl (Nat.le_of_ble_eq_true rfl) ?_
    refine wi_iload_1 ct_104_0 ?_
    refine wi_ic ct_104_1 kc_0 ?_
    refine wi_aload_0 ct_104_2 ?_
    refine wi_gfr ct_104_3 (sT_0 hS) rfl (sR_0_0 hS) ?_
    refine wi_gf (x := fi 31 0) ct_104_6 (sT_1 hS) rfl rfl (Eq.trans (up2_nq (by decide)) c0) ?_
    refine wi_ic ct_104_9 kc_1 ?_
    refine wi_isub ct_104_10 rfl ?_
    refine wi_cs3 (ls' := [some _, some _, some _]) ct_104_11 (Nat.le_of_ble_eq_true rfl) rfl (Nat.le_of_ble_eq_true rfl) ?_
    refine c_within hBn ki_0 (i_sub rfl ki_1 (by omega)) (fun _ => wk_i ?_) (fun h => absurd h (by omega))
    refine wi_ifeq_f ct_104_14 ki_1 (by decide) ?_
    refine wi_aload_0 ct_104_17 ?_
    refine wi_gfr ct_104_18 (sT_0 hS) rfl (sR_0_0 hS) ?_
    refine wi_gfr ct_104_21 (sT_1 hS) rfl (sR_1_0 hS) ?_
    refine wi_iload_1 ct_104_24 ?_
    refine wi_aald ct_104_25 (sT_2 hS) (by decide) (sL_2 hS) (i_in hBn (by omega)) (i_cl (k := B) hBn (by omega)) o0 ?_
    refine wi_goto ct_104_26 ?_
    refine wi_aret ct_104_30 (wk_r ?_)
    refine wi_astore_4 rfl ct_95_12 ?_
    refine wi_aload_4 ct_95_14 ?_
    refine wi_ifnonnull_r ct_95_16 ?_
    refine wi_iload_2 ct_95_21 ?_
    rcases Decidable.em ((a2).toInt = 0) with h1 | h1
    · refine wi_tsw (X := 0) (t := 48) ct_95_22 (by omega) rfl ?_
      refine wi_aload_4 ct_95_48 ?_
      refine wi_iload_3 ct_95_50 ?_
      refine wi_aload_0 ct_95_51 ?_
      refine wi_gfr ct_95_52 (sT_0 hS) rfl (sR_0_10 hS) ?_
      rcases am_k7 (k := (fi 32 B).toInt) (by omega) with hk2 | hk3 | hk4 | hk5 | hk6 | hk7 | hk8
      · skip
        refine wi_cv2 (ls' := [some _, some _, some _]) ct_95_55 (Nat.le_of_ble_eq_true rfl) (by decide) (ot.trans (by rw [hk2] <;> rfl)) rfl (by decide) rfl rfl (Nat.le_of_ble_eq_true rfl) ?_
        refine wi_ic ct_6_0 kc_10 ?_
        refine wi_aload_2 ct_6_2 ?_
        refine wi_cs2 (ls' := [some _, some _, none]) ct_6_3 (Nat.le_of_ble_eq_true rfl) rfl (Nat.le_of_ble_eq_true rfl) ?_
        refine wi_aload_1 ct_9_0 ?_
        refine wi_ic ct_9_1 kc_0 ?_
        refine wi_dup2 ct_9_2 rfl rfl ?_
        refine wi_iald (x := 0) ct_9_3 (sT_21 hS) (sL_21 hS) (by decide) kn_c0 up2_eq ?_
        refine wi_ic ct_9_4 kc_1 ?_
        refine wi_iadd (z := 1) ct_9_5 (by decide) ?_
        refine wi_iast ct_9_6 (sT_21 hS) (sL_21 hS) (by decide) kn_c0 ?_
        refine wi_aload_1 ct_9_7 ?_
        refine wi_ic ct_9_8 kc_0 ?_
        refine wi_iald (x := 1) ct_9_9 (sT_21 hS) (sL_21 hS) (by decide) kn_c0 up2_eq ?_
        refine wi_istore_2 rfl ct_9_10 ?_
        refine wi_iload_2 ct_9_11 ?_
        refine wi_ifle_f ct_9_12 ki_1 (by decide) ?_
        refine wi_iload_2 ct_9_15 ?_
        refine wi_aload_1 ct_9_16 ?_
        refine wi_len (z := 21) ct_9_17 (sT_21 hS) (by decide) (sL_21 hS) (by decide) ?_
        refine wi_icge_f ct_9_18 ki_1 ki_21 (by decide) ?_
        refine wi_aload_1 ct_9_21 ?_
        refine wi_iload_2 ct_9_22 ?_
        refine wi_iload_0 ct_9_23 ?_
        refine wi_iast ct_9_24 (sT_21 hS) (sL_21 hS) (by decide) kn_c1 ?_
        refine wi_ret ct_9_25 (wk_v ?_)
        refine wi_iload_1 ct_6_6 ?_
        refine wi_aload_0 ct_6_7 ?_
        refine wi_gf (x := a1) ct_6_8 (ot.trans (by rw [hk2] <;> rfl)) rfl rfl (Eq.trans (up2_nq (dn o72 (by decide))) (Eq.trans (up2_nq (dn o72 (by decide))) (Eq.trans (up2_nq (dn o72 (by decide))) hpn))) ?_
        refine wi_iadd ct_6_11 rfl ?_
        refine wi_iret ct_6_12 rfl (wk_i ?_)
        refine wi_iret ct_95_58 rfl (wk_i ?_)
        refine wi_aload_2 ct_211_1043 ?_
        refine wi_aloadT_0 ct_211_1044 ?_
        refine wi_iload_3 ct_211_1045 ?_
        refine wi_ic ct_211_1046 kc_1 ?_
        refine wi_iadd ct_211_1047 rfl ?_
        refine wi_ialdT (j := I + 1) (x := a1) ct_211_1048 (sL_SC hS) (i_in (i_add hi ki_1 (by omega)) (by omega)) (i_cl (i_add hi ki_1 (by omega)) (by omega)) ((Eq.trans (up2_nq (by decide)) (Eq.trans (up2_nq (by decide)) (Eq.trans (up2_nq (by decide)) ((hsc _).trans e1))))) ?_
        refine wi_aloadT_0 ct_211_1049 ?_
        refine wi_iload_3 ct_211_1050 ?_
        refine wi_ic ct_211_1051 kc_2 ?_
        refine wi_iadd ct_211_1052 rfl ?_
        refine wi_ialdT (j := I + 2) (x := a2) ct_211_1053 (sL_SC hS) (i_in (i_add hi ki_2 (by omega)) (by omega)) (i_cl (i_add hi ki_2 (by omega)) (by omega)) ((Eq.trans (up2_nq (by decide)) (Eq.trans (up2_nq (by decide)) (Eq.trans (up2_nq (by decide)) ((hsc _).trans e2))))) ?_
        refine wi_aloadT_0 ct_211_1054 ?_
        refine wi_iload_3 ct_211_1055 ?_
        refine wi_ic ct_211_1056 kc_3 ?_
        refine wi_iadd ct_211_1057 rfl ?_
        refine wi_ialdT (j := I + 3) (x := a3) ct_211_1058 (sL_SC hS) (i_in (i_add hi ki_3 (by omega)) (by omega)) (i_cl (i_add hi ki_3 (by omega)) (by omega)) ((Eq.trans (up2_nq (by decide)) (Eq.trans (up2_nq (by decide)) (Eq.trans (up2_nq (by decide)) ((hsc _).trans e3))))) ?_
        refine wi_cv3 (ls' := [some _, some _, some _, some _]) ct_211_1059 (Nat.le_of_ble_eq_true rfl) (by decide) (sT_31 hS) rfl (by decide) rfl rfl (Nat.le_of_ble_eq_true rfl) ?_
        refine wi_aload_0 ct_190_0 ?_
        refine wi_ic ct_190_1 kc_0 ?_
        refine wi_pf ct_190_2 (sT_31 hS) rfl ?_
        refine wi_aload_0 ct_190_5 ?_
        refine wi_iload_1 ct_190_6 ?_
        refine wi_cv1 (ls' := [some _, some _]) ct_190_7 (Nat.le_of_ble_eq_true rfl) (by decide) (sT_31 hS) rfl (by decide) rfl rfl (Nat.le_of_ble_eq_true rfl) ?_
        refine wi_aload_0 ct_120_0 ?_
        refine wi_iload_1 ct_120_1 ?_
        refine wi_ic ct_120_2 kc_0 ?_
        refine wi_aload_0 ct_120_3 ?_
        refine wi_gf (x := fi 31 0) ct_120_4 (sT_31 hS) rfl rfl (Eq.trans (up2_nj (by decide)) (Eq.trans (up2_nq (by decide)) (Eq.trans (up2_nq (by decide)) (up2_nq (by decide))))) ?_
        refine wi_ic ct_120_7 kc_1 ?_
        refine wi_isub ct_120_8 rfl ?_
        refine wi_cv3 (ls' := [some _, some _, some _, some _]) ct_120_9 (Nat.le_of_ble_eq_true rfl) (by decide) (sT_31 hS) rfl (by decide) rfl rfl (Nat.le_of_ble_eq_true rfl) ?_
        refine c_in hBn ki_0 (i_sub rfl ki_1 (by omega)) (fun _ => wk_i ?_) (fun h => absurd h (by omega))
        refine wi_iret ct_120_12 (by decide) (wk_i ?_)
        refine wi_ifeq_f ct_190_10 ki_1 (by decide) ?_
        refine wi_aload_0 ct_190_13 ?_
        refine wi_iload_2 ct_190_14 ?_
        refine wi_ic ct_190_15 kc_0 ?_
        refine wi_ic ct_190_16 kc_2 ?_
        refine wi_cv3 (ls' := [some _, some _, some _, some _]) ct_190_17 (Nat.le_of_ble_eq_true rfl) (by decide) (sT_31 hS) rfl (by decide) rfl rfl (Nat.le_of_ble_eq_true rfl) ?_
        refine c_in rfl ki_0 ki_2 (fun _ => wk_i ?_) (fun h => absurd h (by omega))
        refine wi_ifne_t ct_190_20 ki_1 (by decide) ?_
        refine wi_iload_2 ct_190_25 ?_
        refine wi_ifne_f ct_190_26 rfl (by omega) ?_
        refine wi_aload_0 ct_190_29 ?_
        refine wi_iload_1 ct_190_30 ?_
        refine wi_iload_3 ct_190_31 ?_
        refine wi_cv2 (ls' := [some _, some _, some _]) ct_190_32 (Nat.le_of_ble_eq_true rfl) (by decide) (sT_31 hS) rfl (by decide) rfl rfl (Nat.le_of_ble_eq_true rfl) ?_
        refine wi_aload_0 ct_184_0 ?_
        refine wi_gfr ct_184_1 (sT_31 hS) rfl (sR_31_2 hS) ?_
        refine wi_iload_1 ct_184_4 ?_
        refine wi_iald (x := fi 32 B) ct_184_5 (sT_32 hS) (sL_32 hS) (i_in hBn (by omega)) (i_cl (k := B) hBn (by omega)) (Eq.trans (up2_nq (by decide)) (Eq.trans (up2_nq (by decide)) (Eq.trans (up2_nq (by decide)) (up2_nq (by decide))))) ?_
        refine wi_tsw (t := 89) ct_184_6 rfl ((am_tswD (by omega)).trans rfl) ?_
        refine wi_aload_0 ct_184_89 ?_
        refine wi_iload_1 ct_184_90 ?_
        refine wi_iload_2 ct_184_91 ?_
        refine wi_cv2 (ls' := [some _, some _, some _]) ct_184_92 (Nat.le_of_ble_eq_true rfl) (by decide) (sT_31 hS) rfl (by decide) rfl rfl (Nat.le_of_ble_eq_true rfl) ?_
        refine wi_aload_0 ct_183_0 ?_
        refine wi_ic ct_183_1 kc_10 ?_
        refine wi_cv1 (ls' := [some _, some _]) ct_183_3 (Nat.le_of_ble_eq_true rfl) (by decide) (sT_31 hS) rfl (by decide) rfl rfl (Nat.le_of_ble_eq_true rfl) ?_
        refine wi_aload_0 ct_182_0 ?_
        refine wi_gf (x := 0) ct_182_1 (sT_31 hS) rfl rfl up2_eq ?_
        refine wi_ic ct_182_4 kc_20 ?_
        refine wi_icge_f ct_182_6 ki_0 ki_20 (by decide) ?_
        refine wi_aload_0 ct_182_9 ?_
        refine wi_gfr ct_182_10 (sT_31 hS) rfl (sR_31_66 hS) ?_
        refine wi_aload_0 ct_182_13 ?_
        refine wi_gf (x := 0) ct_182_14 (sT_31 hS) rfl rfl up2_eq ?_
        refine wi_iload_1 ct_182_17 ?_
        refine wi_iast ct_182_18 (sT_67 hS) (sL_67 hS) (by decide) kn_c0 ?_
        refine wi_aload_0 ct_182_19 ?_
        refine wi_dup ct_182_20 rfl ?_
        refine wi_gf (x := 0) ct_182_21 (sT_31 hS) rfl rfl (Eq.trans (up2_nq (by decide)) up2_eq) ?_
        refine wi_ic ct_182_24 kc_1 ?_
        refine wi_iadd (z := 1) ct_182_25 (by decide) ?_
        refine wi_pf ct_182_26 (sT_31 hS) rfl ?_
        refine wi_ret ct_182_29 (wk_v ?_)
        refine wi_iload_2 ct_183_6 ?_
        refine wi_iload_1 ct_183_7 ?_
        refine wi_iadd ct_183_8 rfl ?_
        refine wi_iret ct_183_9 rfl (wk_i ?_)
        refine wi_iret ct_184_95 rfl (wk_i ?_)
        refine wi_goto ct_190_35 ?_
        refine wi_iret ct_190_58 rfl (wk_i ?_)
        refine wi_iceq_t ct_211_1062 rfl rfl (by omega) ?_
        refine kk own g _ fl (hR.act (fun q h1 h2 h3 => (Eq.trans (funext fun _ => up2_nq h2) (Eq.trans (funext fun _ => up2_nq h3) (Eq.trans (funext fun _ => up2_nq h2) (Eq.trans (funext fun _ => up2_nq h1) (Eq.trans (funext fun _ => up2_nq h1) (funext fun _ => up2_nq h1))))))) (fun j hj => (Eq.trans (up2_nj hj) (Eq.trans (up2_nq (by decide)) (Eq.trans (up2_nj hj) (Eq.trans (up2_nq (by decide)) (Eq.trans (up2_nq (by decide)) (up2_nq (by decide)))))))) ⟨((Eq.trans (up2_nq (by decide)) (Eq.trans (up2_nq (by decide)) (Eq.trans (up2_nq (by decide)) (Eq.trans (up2_nj (by decide)) up2_eq))))).trans (up2_eq).symm, by rw [up2_eq]; decide, by rw [up2_eq]; decide⟩ ?_) (by omega) (by omega)
        intro j hj hn
        rw [up2_eq] at hn
        replace hn : (j : Int) < 1 := hn
        match j, (by omega : j < 1) with
        | 0, _ => exact ((Eq.trans (up2_nq (by decide)) (Eq.trans (up2_nq (by decide)) (Eq.trans (up2_nq (by decide)) up2_eq)))).trans ((Eq.trans (up2_nq (by decide)) up2_eq)).symm
        | j + 1, h => exact absurd h (by omega)
      · skip
        refine wi_cv2 (ls' := [some _, some _, some _]) ct_95_55 (Nat.le_of_ble_eq_true rfl) (by decide) (ot.trans (by rw [hk3] <;> rfl)) rfl (by decide) rfl rfl (Nat.le_of_ble_eq_true rfl) ?_
        refine wi_ic ct_6_0 kc_10 ?_
        refine wi_aload_2 ct_6_2 ?_
        refine wi_cs2 (ls' := [some _, some _, none]) ct_6_3 (Nat.le_of_ble_eq_true rfl) rfl (Nat.le_of_ble_eq_true rfl) ?_
        refine wi_aload_1 ct_9_0 ?_
        refine wi_ic ct_9_1 kc_0 ?_
        refine wi_dup2 ct_9_2 rfl rfl ?_
        refine wi_iald (x := 0) ct_9_3 (sT_21 hS) (sL_21 hS) (by decide) kn_c0 up2_eq ?_
        refine wi_ic ct_9_4 kc_1 ?_
        refine wi_iadd (z := 1) ct_9_5 (by decide) ?_
        refine wi_iast ct_9_6 (sT_21 hS) (sL_21 hS) (by decide) kn_c0 ?_
        refine wi_aload_1 ct_9_7 ?_
        refine wi_ic ct_9_8 kc_0 ?_
        refine wi_iald (x := 1) ct_9_9 (sT_21 hS) (sL_21 hS) (by decide) kn_c0 up2_eq ?_
        refine wi_istore_2 rfl ct_9_10 ?_
        refine wi_iload_2 ct_9_11 ?_
        refine wi_ifle_f ct_9_12 ki_1 (by decide) ?_
        refine wi_iload_2 ct_9_15 ?_
        refine wi_aload_1 ct_9_16 ?_
        refine wi_len (z := 21) ct_9_17 (sT_21 hS) (by decide) (sL_21 hS) (by decide) ?_
        refine wi_icge_f ct_9_18 ki_1 ki_21 (by decide) ?_
        refine wi_aload_1 ct_9_21 ?_
        refine wi_iload_2 ct_9_22 ?_
        refine wi_iload_0 ct_9_23 ?_
        refine wi_iast ct_9_24 (sT_21 hS) (sL_21 hS) (by decide) kn_c1 ?_
        refine wi_ret ct_9_25 (wk_v ?_)
        refine wi_iload_1 ct_6_6 ?_
        refine wi_aload_0 ct_6_7 ?_
        refine wi_gf (x := a1) ct_6_8 (ot.trans (by rw [hk3] <;> rfl)) rfl rfl (Eq.trans (up2_nq (dn o72 (by decide))) (Eq.trans (up2_nq (dn o72 (by decide))) (Eq.trans (up2_nq (dn o72 (by decide))) hpn))) ?_
        refine wi_iadd ct_6_11 rfl ?_
        refine wi_iret ct_6_12 rfl (wk_i ?_)
        refine wi_iret ct_95_58 rfl (wk_i ?_)
        refine wi_aload_2 ct_211_1043 ?_
        refine wi_aloadT_0 ct_211_1044 ?_
        refine wi_iload_3 ct_211_1045 ?_
        refine wi_ic ct_211_1046 kc_1 ?_
        refine wi_iadd ct_211_1047 rfl ?_
        refine wi_ialdT (j := I + 1) (x := a1) ct_211_1048 (sL_SC hS) (i_in (i_add hi ki_1 (by omega)) (by omega)) (i_cl (i_add hi ki_1 (by omega)) (by omega)) ((Eq.trans (up2_nq (by decide)) (Eq.trans (up2_nq (by decide)) (Eq.trans (up2_nq (by decide)) ((hsc _).trans e1))))) ?_
        refine wi_aloadT_0 ct_211_1049 ?_
        refine wi_iload_3 ct_211_1050 ?_
        refine wi_ic ct_211_1051 kc_2 ?_
        refine wi_iadd ct_211_1052 rfl ?_
        refine wi_ialdT (j := I + 2) (x := a2) ct_211_1053 (sL_SC hS) (i_in (i_add hi ki_2 (by omega)) (by omega)) (i_cl (i_add hi ki_2 (by omega)) (by omega)) ((Eq.trans (up2_nq (by decide)) (Eq.trans (up2_nq (by decide)) (Eq.trans (up2_nq (by decide)) ((hsc _).trans e2))))) ?_
        refine wi_aloadT_0 ct_211_1054 ?_
        refine wi_iload_3 ct_211_1055 ?_
        refine wi_ic ct_211_1056 kc_3 ?_
        refine wi_iadd ct_211_1057 rfl ?_
        refine wi_ialdT (j := I + 3) (x := a3) ct_211_1058 (sL_SC hS) (i_in (i_add hi ki_3 (by omega)) (by omega)) (i_cl (i_add hi ki_3 (by omega)) (by omega)) ((Eq.trans (up2_nq (by decide)) (Eq.trans (up2_nq (by decide)) (Eq.trans (up2_nq (by decide)) ((hsc _).trans e3))))) ?_
        refine wi_cv3 (ls' := [some _, some _, some _, some _]) ct_211_1059 (Nat.le_of_ble_eq_true rfl) (by decide) (sT_31 hS) rfl (by decide) rfl rfl (Nat.le_of_ble_eq_true rfl) ?_
        refine wi_aload_0 ct_190_0 ?_
        refine wi_ic ct_190_1 kc_0 ?_
        refine wi_pf ct_190_2 (sT_31 hS) rfl ?_
        refine wi_aload_0 ct_190_5 ?_
        refine wi_iload_1 ct_190_6 ?_
        refine wi_cv1 (ls' := [some _, some _]) ct_190_7 (Nat.le_of_ble_eq_true rfl) (by decide) (sT_31 hS) rfl (by decide) rfl rfl (Nat.le_of_ble_eq_true rfl) ?_
        refine wi_aload_0 ct_120_0 ?_
        refine wi_iload_1 ct_120_1 ?_
        refine wi_ic ct_120_2 kc_0 ?_
        refine wi_aload_0 ct_120_3 ?_
        refine wi_gf (x := fi 31 0) ct_120_4 (sT_31 hS) rfl rfl (Eq.trans (up2_nj (by decide)) (Eq.trans (up2_nq (by decide)) (Eq.trans (up2_nq (by decide)) (up2_nq (by decide))))) ?_
        refine wi_ic ct_120_7 kc_1 ?_
        refine wi_isub ct_120_8 rfl ?_
        refine wi_cv3 (ls' := [some _, some _, some _, some _]) ct_120_9 (Nat.le_of_ble_eq_true rfl) (by decide) (sT_31 hS) rfl (by decide) rfl rfl (Nat.le_of_ble_eq_true rfl) ?_
        refine c_in hBn ki_0 (i_sub rfl ki_1 (by omega)) (fun _ => wk_i ?_) (fun h => absurd h (by omega))
        refine wi_iret ct_120_12 (by decide) (wk_i ?_)
        refine wi_ifeq_f ct_190_10 ki_1 (by decide) ?_
        refine wi_aload_0 ct_190_13 ?_
        refine wi_iload_2 ct_190_14 ?_
        refine wi_ic ct_190_15 kc_0 ?_
        refine wi_ic ct_190_16 kc_2 ?_
        refine wi_cv3 (ls' := [some _, some _, some _, some _]) ct_190_17 (Nat.le_of_ble_eq_true rfl) (by decide) (sT_31 hS) rfl (by decide) rfl rfl (Nat.le_of_ble_eq_true rfl) ?_
        refine c_in rfl ki_0 ki_2 (fun _ => wk_i ?_) (fun h => absurd h (by omega))
        refine wi_ifne_t ct_190_20 ki_1 (by decide) ?_
        refine wi_iload_2 ct_190_25 ?_
        refine wi_ifne_f ct_190_26 rfl (by omega) ?_
        refine wi_aload_0 ct_190_29 ?_
        refine wi_iload_1 ct_190_30 ?_
        refine wi_iload_3 ct_190_31 ?_
        refine wi_cv2 (ls' := [some _, some _, some _]) ct_190_32 (Nat.le_of_ble_eq_true rfl) (by decide) (sT_31 hS) rfl (by decide) rfl rfl (Nat.le_of_ble_eq_true rfl) ?_
        refine wi_aload_0 ct_184_0 ?_
        refine wi_gfr ct_184_1 (sT_31 hS) rfl (sR_31_2 hS) ?_
        refine wi_iload_1 ct_184_4 ?_
        refine wi_iald (x := fi 32 B) ct_184_5 (sT_32 hS) (sL_32 hS) (i_in hBn (by omega)) (i_cl (k := B) hBn (by omega)) (Eq.trans (up2_nq (by decide)) (Eq.trans (up2_nq (by decide)) (Eq.trans (up2_nq (by decide)) (up2_nq (by decide))))) ?_
        refine wi_tsw (t := 89) ct_184_6 rfl ((am_tswD (by omega)).trans rfl) ?_
        refine wi_aload_0 ct_184_89 ?_
        refine wi_iload_1 ct_184_90 ?_
        refine wi_iload_2 ct_184_91 ?_
        refine wi_cv2 (ls' := [some _, some _, some _]) ct_184_92 (Nat.le_of_ble_eq_true rfl) (by decide) (sT_31 hS) rfl (by decide) rfl rfl (Nat.le_of_ble_eq_true rfl) ?_
        refine wi_aload_0 ct_183_0 ?_
        refine wi_ic ct_183_1 kc_10 ?_
        refine wi_cv1 (ls' := [some _, some _]) ct_183_3 (Nat.le_of_ble_eq_true rfl) (by decide) (sT_31 hS) rfl (by decide) rfl rfl (Nat.le_of_ble_eq_true rfl) ?_
        refine wi_aload_0 ct_182_0 ?_
        refine wi_gf (x := 0) ct_182_1 (sT_31 hS) rfl rfl up2_eq ?_
        refine wi_ic ct_182_4 kc_20 ?_
        refine wi_icge_f ct_182_6 ki_0 ki_20 (by decide) ?_
        refine wi_aload_0 ct_182_9 ?_
        refine wi_gfr ct_182_10 (sT_31 hS) rfl (sR_31_66 hS) ?_
        refine wi_aload_0 ct_182_13 ?_
        refine wi_gf (x := 0) ct_182_14 (sT_31 hS) rfl rfl up2_eq ?_
        refine wi_iload_1 ct_182_17 ?_
        refine wi_iast ct_182_18 (sT_67 hS) (sL_67 hS) (by decide) kn_c0 ?_
        refine wi_aload_0 ct_182_19 ?_
        refine wi_dup ct_182_20 rfl ?_
        refine wi_gf (x := 0) ct_182_21 (sT_31 hS) rfl rfl (Eq.trans (up2_nq (by decide)) up2_eq) ?_
        refine wi_ic ct_182_24 kc_1 ?_
        refine wi_iadd (z := 1) ct_182_25 (by decide) ?_
        refine wi_pf ct_182_26 (sT_31 hS) rfl ?_
        refine wi_ret ct_182_29 (wk_v ?_)
        refine wi_iload_2 ct_183_6 ?_
        refine wi_iload_1 ct_183_7 ?_
        refine wi_iadd ct_183_8 rfl ?_
        refine wi_iret ct_183_9 rfl (wk_i ?_)
        refine wi_iret ct_184_95 rfl (wk_i ?_)
        refine wi_goto ct_190_35 ?_
        refine wi_iret ct_190_58 rfl (wk_i ?_)
        refine wi_iceq_t ct_211_1062 rfl rfl (by omega) ?_
        refine kk own g _ fl (hR.act (fun q h1 h2 h3 => (Eq.trans (funext fun _ => up2_nq h2) (Eq.trans (funext fun _ => up2_nq h3) (Eq.trans (funext fun _ => up2_nq h2) (Eq.trans (funext fun _ => up2_nq h1) (Eq.trans (funext fun _ => up2_nq h1) (funext fun _ => up2_nq h1))))))) (fun j hj => (Eq.trans (up2_nj hj) (Eq.trans (up2_nq (by decide)) (Eq.trans (up2_nj hj) (Eq.trans (up2_nq (by decide)) (Eq.trans (up2_nq (by decide)) (up2_nq (by decide)))))))) ⟨((Eq.trans (up2_nq (by decide)) (Eq.trans (up2_nq (by decide)) (Eq.trans (up2_nq (by decide)) (Eq.trans (up2_nj (by decide)) up2_eq))))).trans (up2_eq).symm, by rw [up2_eq]; decide, by rw [up2_eq]; decide⟩ ?_) (by omega) (by omega)
        intro j hj hn
        rw [up2_eq] at hn
        replace hn : (j : Int) < 1 := hn
        match j, (by omega : j < 1) with
        | 0, _ => exact ((Eq.trans (up2_nq (by decide)) (Eq.trans (up2_nq (by decide)) (Eq.trans (up2_nq (by decide)) up2_eq)))).trans ((Eq.trans (up2_nq (by decide)) up2_eq)).symm
        | j + 1, h => exact absurd h (by omega)
      · skip
        refine wi_cv2 (ls' := [some _, some _, some _]) ct_95_55 (Nat.le_of_ble_eq_true rfl) (by decide) (ot.trans (by rw [hk4] <;> rfl)) rfl (by decide) rfl rfl (Nat.le_of_ble_eq_true rfl) ?_
        refine wi_ic ct_15_0 kc_30 ?_
        refine wi_aload_2 ct_15_2 ?_
        refine wi_cs2 (ls' := [some _, some _, none]) ct_15_3 (Nat.le_of_ble_eq_true rfl) rfl (Nat.le_of_ble_eq_true rfl) ?_
        refine wi_aload_1 ct_9_0 ?_
        refine wi_ic ct_9_1 kc_0 ?_
        refine wi_dup2 ct_9_2 rfl rfl ?_
        refine wi_iald (x := 0) ct_9_3 (sT_21 hS) (sL_21 hS) (by decide) kn_c0 up2_eq ?_
        refine wi_ic ct_9_4 kc_1 ?_
        refine wi_iadd (z := 1) ct_9_5 (by decide) ?_
        refine wi_iast ct_9_6 (sT_21 hS) (sL_21 hS) (by decide) kn_c0 ?_
        refine wi_aload_1 ct_9_7 ?_
        refine wi_ic ct_9_8 kc_0 ?_
        refine wi_iald (x := 1) ct_9_9 (sT_21 hS) (sL_21 hS) (by decide) kn_c0 up2_eq ?_
        refine wi_istore_2 rfl ct_9_10 ?_
        refine wi_iload_2 ct_9_11 ?_
        refine wi_ifle_f ct_9_12 ki_1 (by decide) ?_
        refine wi_iload_2 ct_9_15 ?_
        refine wi_aload_1 ct_9_16 ?_
        refine wi_len (z := 21) ct_9_17 (sT_21 hS) (by decide) (sL_21 hS) (by decide) ?_
        refine wi_icge_f ct_9_18 ki_1 ki_21 (by decide) ?_
        refine wi_aload_1 ct_9_21 ?_
        refine wi_iload_2 ct_9_22 ?_
        refine wi_iload_0 ct_9_23 ?_
        refine wi_iast ct_9_24 (sT_21 hS) (sL_21 hS) (by decide) kn_c1 ?_
        refine wi_ret ct_9_25 (wk_v ?_)
        refine wi_aload_0 ct_15_6 ?_
        refine wi_iload_1 ct_15_7 ?_
        refine wi_ic ct_15_8 kc_3 ?_
        refine wi_imul ct_15_9 rfl ?_
        refine wi_aload_2 ct_15_10 ?_
        refine wi_cp2 (ls' := [some _, some _, some _]) ct_15_11 (Nat.le_of_ble_eq_true rfl) (ot.trans (by rw [hk4] <;> rfl)) (by decide) rfl (Nat.le_of_ble_eq_true rfl) ?_
        refine wi_ic ct_6_0 kc_10 ?_
        refine wi_aload_2 ct_6_2 ?_
        refine wi_cs2 (ls' := [some _, some _, none]) ct_6_3 (Nat.le_of_ble_eq_true rfl) rfl (Nat.le_of_ble_eq_true rfl) ?_
        refine wi_aload_1 ct_9_0 ?_
        refine wi_ic ct_9_1 kc_0 ?_
        refine wi_dup2 ct_9_2 rfl rfl ?_
        refine wi_iald (x := 1) ct_9_3 (sT_21 hS) (sL_21 hS) (by decide) kn_c0 (Eq.trans (up2_nj (by decide)) up2_eq) ?_
        refine wi_ic ct_9_4 kc_1 ?_
        refine wi_iadd (z := 2) ct_9_5 (by decide) ?_
        refine wi_iast ct_9_6 (sT_21 hS) (sL_21 hS) (by decide) kn_c0 ?_
        refine wi_aload_1 ct_9_7 ?_
        refine wi_ic ct_9_8 kc_0 ?_
        refine wi_iald (x := 2) ct_9_9 (sT_21 hS) (sL_21 hS) (by decide) kn_c0 up2_eq ?_
        refine wi_istore_2 rfl ct_9_10 ?_
        refine wi_iload_2 ct_9_11 ?_
        refine wi_ifle_f ct_9_12 ki_2 (by decide) ?_
        refine wi_iload_2 ct_9_15 ?_
        refine wi_aload_1 ct_9_16 ?_
        refine wi_len (z := 21) ct_9_17 (sT_21 hS) (by decide) (sL_21 hS) (by decide) ?_
        refine wi_icge_f ct_9_18 ki_2 ki_21 (by decide) ?_
        refine wi_aload_1 ct_9_21 ?_
        refine wi_iload_2 ct_9_22 ?_
        refine wi_iload_0 ct_9_23 ?_
        refine wi_iast ct_9_24 (sT_21 hS) (sL_21 hS) (by decide) kn_c2 ?_
        refine wi_ret ct_9_25 (wk_v ?_)
        refine wi_iload_1 ct_6_6 ?_
        refine wi_aload_0 ct_6_7 ?_
        refine wi_gf (x := a1) ct_6_8 (ot.trans (by rw [hk4] <;> rfl)) rfl rfl (Eq.trans (up2_nq (dn o72 (by decide))) (Eq.trans (up2_nq (dn o72 (by decide))) (Eq.trans (up2_nq (dn o72 (by decide))) (Eq.trans (up2_nq (dn o72 (by decide))) (Eq.trans (up2_nq (dn o72 (by decide))) hpn))))) ?_
        refine wi_iadd ct_6_11 rfl ?_
        refine wi_iret ct_6_12 rfl (wk_i ?_)
        refine wi_iret ct_15_14 rfl (wk_i ?_)
        refine wi_iret ct_95_58 rfl (wk_i ?_)
        refine wi_aload_2 ct_211_1043 ?_
        refine wi_aloadT_0 ct_211_1044 ?_
        refine wi_iload_3 ct_211_1045 ?_
        refine wi_ic ct_211_1046 kc_1 ?_
        refine wi_iadd ct_211_1047 rfl ?_
        refine wi_ialdT (j := I + 1) (x := a1) ct_211_1048 (sL_SC hS) (i_in (i_add hi ki_1 (by omega)) (by omega)) (i_cl (i_add hi ki_1 (by omega)) (by omega)) ((Eq.trans (up2_nq (by decide)) (Eq.trans (up2_nq (by decide)) (Eq.trans (up2_nq (by decide)) (Eq.trans (up2_nq (by decide)) (Eq.trans (up2_nq (by decide)) ((hsc _).trans e1))))))) ?_
        refine wi_aloadT_0 ct_211_1049 ?_
        refine wi_iload_3 ct_211_1050 ?_
        refine wi_ic ct_211_1051 kc_2 ?_
        refine wi_iadd ct_211_1052 rfl ?_
        refine wi_ialdT (j := I + 2) (x := a2) ct_211_1053 (sL_SC hS) (i_in (i_add hi ki_2 (by omega)) (by omega)) (i_cl (i_add hi ki_2 (by omega)) (by omega)) ((Eq.trans (up2_nq (by decide)) (Eq.trans (up2_nq (by decide)) (Eq.trans (up2_nq (by decide)) (Eq.trans (up2_nq (by decide)) (Eq.trans (up2_nq (by decide)) ((hsc _).trans e2))))))) ?_
        refine wi_aloadT_0 ct_211_1054 ?_
        refine wi_iload_3 ct_211_1055 ?_
        refine wi_ic ct_211_1056 kc_3 ?_
        refine wi_iadd ct_211_1057 rfl ?_
        refine wi_ialdT (j := I + 3) (x := a3) ct_211_1058 (sL_SC hS) (i_in (i_add hi ki_3 (by omega)) (by omega)) (i_cl (i_add hi ki_3 (by omega)) (by omega)) ((Eq.trans (up2_nq (by decide)) (Eq.trans (up2_nq (by decide)) (Eq.trans (up2_nq (by decide)) (Eq.trans (up2_nq (by decide)) (Eq.trans (up2_nq (by decide)) ((hsc _).trans e3))))))) ?_
        refine wi_cv3 (ls' := [some _, some _, some _, some _]) ct_211_1059 (Nat.le_of_ble_eq_true rfl) (by decide) (sT_31 hS) rfl (by decide) rfl rfl (Nat.le_of_ble_eq_true rfl) ?_
        refine wi_aload_0 ct_190_0 ?_
        refine wi_ic ct_190_1 kc_0 ?_
        refine wi_pf ct_190_2 (sT_31 hS) rfl ?_
        refine wi_aload_0 ct_190_5 ?_
        refine wi_iload_1 ct_190_6 ?_
        refine wi_cv1 (ls' := [some _, some _]) ct_190_7 (Nat.le_of_ble_eq_true rfl) (by decide) (sT_31 hS) rfl (by decide) rfl rfl (Nat.le_of_ble_eq_true rfl) ?_
        refine wi_aload_0 ct_120_0 ?_
        refine wi_iload_1 ct_120_1 ?_
        refine wi_ic ct_120_2 kc_0 ?_
        refine wi_aload_0 ct_120_3 ?_
        refine wi_gf (x := fi 31 0) ct_120_4 (sT_31 hS) rfl rfl (Eq.trans (up2_nj (by decide)) (Eq.trans (up2_nq (by decide)) (Eq.trans (up2_nq (by decide)) (Eq.trans (up2_nq (by decide)) (Eq.trans (up2_nq (by decide)) (up2_nq (by decide))))))) ?_
        refine wi_ic ct_120_7 kc_1 ?_
        refine wi_isub ct_120_8 rfl ?_
        refine wi_cv3 (ls' := [some _, some _, some _, some _]) ct_120_9 (Nat.le_of_ble_eq_true rfl) (by decide) (sT_31 hS) rfl (by decide) rfl rfl (Nat.le_of_ble_eq_true rfl) ?_
        refine c_in hBn ki_0 (i_sub rfl ki_1 (by omega)) (fun _ => wk_i ?_) (fun h => absurd h (by omega))
        refine wi_iret ct_120_12 (by decide) (wk_i ?_)
        refine wi_ifeq_f ct_190_10 ki_1 (by decide) ?_
        refine wi_aload_0 ct_190_13 ?_
        refine wi_iload_2 ct_190_14 ?_
        refine wi_ic ct_190_15 kc_0 ?_
        refine wi_ic ct_190_16 kc_2 ?_
        refine wi_cv3 (ls' := [some _, some _, some _, some _]) ct_190_17 (Nat.le_of_ble_eq_true rfl) (by decide) (sT_31 hS) rfl (by decide) rfl rfl (Nat.le_of_ble_eq_true rfl) ?_
        refine c_in rfl ki_0 ki_2 (fun _ => wk_i ?_) (fun h => absurd h (by omega))
        refine wi_ifne_t ct_190_20 ki_1 (by decide) ?_
        refine wi_iload_2 ct_190_25 ?_
        refine wi_ifne_f ct_190_26 rfl (by omega) ?_
        refine wi_aload_0 ct_190_29 ?_
        refine wi_iload_1 ct_190_30 ?_
        refine wi_iload_3 ct_190_31 ?_
        refine wi_cv2 (ls' := [some _, some _, some _]) ct_190_32 (Nat.le_of_ble_eq_true rfl) (by decide) (sT_31 hS) rfl (by decide) rfl rfl (Nat.le_of_ble_eq_true rfl) ?_
        refine wi_aload_0 ct_184_0 ?_
        refine wi_gfr ct_184_1 (sT_31 hS) rfl (sR_31_2 hS) ?_
        refine wi_iload_1 ct_184_4 ?_
        refine wi_iald (x := fi 32 B) ct_184_5 (sT_32 hS) (sL_32 hS) (i_in hBn (by omega)) (i_cl (k := B) hBn (by omega)) (Eq.trans (up2_nq (by decide)) (Eq.trans (up2_nq (by decide)) (Eq.trans (up2_nq (by decide)) (Eq.trans (up2_nq (by decide)) (Eq.trans (up2_nq (by decide)) (up2_nq (by decide))))))) ?_
        refine wi_tsw (X := 2) (t := 40) ct_184_6 (by omega) rfl ?_
        refine wi_aload_0 ct_184_40 ?_
        refine wi_ic ct_184_41 kc_30 ?_
        refine wi_cv1 (ls' := [some _, some _]) ct_184_43 (Nat.le_of_ble_eq_true rfl) (by decide) (sT_31 hS) rfl (by decide) rfl rfl (Nat.le_of_ble_eq_true rfl) ?_
        refine wi_aload_0 ct_182_0 ?_
        refine wi_gf (x := 0) ct_182_1 (sT_31 hS) rfl rfl up2_eq ?_
        refine wi_ic ct_182_4 kc_20 ?_
        refine wi_icge_f ct_182_6 ki_0 ki_20 (by decide) ?_
        refine wi_aload_0 ct_182_9 ?_
        refine wi_gfr ct_182_10 (sT_31 hS) rfl (sR_31_66 hS) ?_
        refine wi_aload_0 ct_182_13 ?_
        refine wi_gf (x := 0) ct_182_14 (sT_31 hS) rfl rfl up2_eq ?_
        refine wi_iload_1 ct_182_17 ?_
        refine wi_iast ct_182_18 (sT_67 hS) (sL_67 hS) (by decide) kn_c0 ?_
        refine wi_aload_0 ct_182_19 ?_
        refine wi_dup ct_182_20 rfl ?_
        refine wi_gf (x := 0) ct_182_21 (sT_31 hS) rfl rfl (Eq.trans (up2_nq (by decide)) up2_eq) ?_
        refine wi_ic ct_182_24 kc_1 ?_
        refine wi_iadd (z := 1) ct_182_25 (by decide) ?_
        refine wi_pf ct_182_26 (sT_31 hS) rfl ?_
        refine wi_ret ct_182_29 (wk_v ?_)
        refine wi_aload_0 ct_184_46 ?_
        refine wi_iload_1 ct_184_47 ?_
        refine wi_iload_2 ct_184_48 ?_
        refine wi_ic ct_184_49 kc_3 ?_
        refine wi_imul ct_184_50 rfl ?_
        refine wi_cv2 (ls' := [some _, some _, some _]) ct_184_51 (Nat.le_of_ble_eq_true rfl) (by decide) (sT_31 hS) rfl (by decide) rfl rfl (Nat.le_of_ble_eq_true rfl) ?_
        refine wi_aload_0 ct_183_0 ?_
        refine wi_ic ct_183_1 kc_10 ?_
        refine wi_cv1 (ls' := [some _, some _]) ct_183_3 (Nat.le_of_ble_eq_true rfl) (by decide) (sT_31 hS) rfl (by decide) rfl rfl (Nat.le_of_ble_eq_true rfl) ?_
        refine wi_aload_0 ct_182_0 ?_
        refine wi_gf (x := 1) ct_182_1 (sT_31 hS) rfl rfl up2_eq ?_
        refine wi_ic ct_182_4 kc_20 ?_
        refine wi_icge_f ct_182_6 ki_1 ki_20 (by decide) ?_
        refine wi_aload_0 ct_182_9 ?_
        refine wi_gfr ct_182_10 (sT_31 hS) rfl (sR_31_66 hS) ?_
        refine wi_aload_0 ct_182_13 ?_
        refine wi_gf (x := 1) ct_182_14 (sT_31 hS) rfl rfl up2_eq ?_
        refine wi_iload_1 ct_182_17 ?_
        refine wi_iast ct_182_18 (sT_67 hS) (sL_67 hS) (by decide) kn_c1 ?_
        refine wi_aload_0 ct_182_19 ?_
        refine wi_dup ct_182_20 rfl ?_
        refine wi_gf (x := 1) ct_182_21 (sT_31 hS) rfl rfl (Eq.trans (up2_nq (by decide)) up2_eq) ?_
        refine wi_ic ct_182_24 kc_1 ?_
        refine wi_iadd (z := 2) ct_182_25 (by decide) ?_
        refine wi_pf ct_182_26 (sT_31 hS) rfl ?_
        refine wi_ret ct_182_29 (wk_v ?_)
        refine wi_iload_2 ct_183_6 ?_
        refine wi_iload_1 ct_183_7 ?_
        refine wi_iadd ct_183_8 rfl ?_
        refine wi_iret ct_183_9 rfl (wk_i ?_)
        refine wi_iret ct_184_54 rfl (wk_i ?_)
        refine wi_goto ct_190_35 ?_
        refine wi_iret ct_190_58 rfl (wk_i ?_)
        refine wi_iceq_t ct_211_1062 rfl rfl (by omega) ?_
        refine kk own g _ fl (hR.act (fun q h1 h2 h3 => (Eq.trans (funext fun _ => up2_nq h2) (Eq.trans (funext fun _ => up2_nq h3) (Eq.trans (funext fun _ => up2_nq h2) (Eq.trans (funext fun _ => up2_nq h3) (Eq.trans (funext fun _ => up2_nq h2) (Eq.trans (funext fun _ => up2_nq h1) (Eq.trans (funext fun _ => up2_nq h1) (Eq.trans (funext fun _ => up2_nq h1) (Eq.trans (funext fun _ => up2_nq h1) (funext fun _ => up2_nq h1))))))))))) (fun j hj => (Eq.trans (up2_nj hj) (Eq.trans (up2_nq (by decide)) (Eq.trans (up2_nj hj) (Eq.trans (up2_nq (by decide)) (Eq.trans (up2_nj hj) (Eq.trans (up2_nq (by decide)) (Eq.trans (up2_nq (by decide)) (Eq.trans (up2_nq (by decide)) (Eq.trans (up2_nq (by decide)) (up2_nq (by decide)))))))))))) ⟨((Eq.trans (up2_nq (by decide)) (Eq.trans (up2_nq (by decide)) (Eq.trans (up2_nq (by decide)) (Eq.trans (up2_nq (by decide)) (Eq.trans (up2_nq (by decide)) (Eq.trans (up2_nj (by decide)) up2_eq))))))).trans (up2_eq).symm, by rw [up2_eq]; decide, by rw [up2_eq]; decide⟩ ?_) (by omega) (by omega)
        intro j hj hn
        rw [up2_eq] at hn
        replace hn : (j : Int) < 2 := hn
        match j, (by omega : j < 2) with
        | 0, _ => exact ((Eq.trans (up2_nq (by decide)) (Eq.trans (up2_nq (by decide)) (Eq.trans (up2_nq (by decide)) (Eq.trans (up2_nq (by decide)) (Eq.trans (up2_nq (by decide)) (Eq.trans (up2_nj (by decide)) (Eq.trans (up2_nj (by decide)) up2_eq)))))))).trans ((Eq.trans (up2_nq (by decide)) (Eq.trans (up2_nj (by decide)) (Eq.trans (up2_nq (by decide)) up2_eq)))).symm
        | 1, _ => exact ((Eq.trans (up2_nq (by decide)) (Eq.trans (up2_nq (by decide)) (Eq.trans (up2_nq (by decide)) (Eq.trans (up2_nq (by decide)) (Eq.trans (up2_nq (by decide)) up2_eq)))))).trans ((Eq.trans (up2_nq (by decide)) up2_eq)).symm
        | j + 2, h => exact absurd h (by omega)
      · skip
        refine wi_cv2 (ls' := [some _, some _, some _]) ct_95_55 (Nat.le_of_ble_eq_true rfl) (by decide) (ot.trans (by rw [hk5] <;> rfl)) rfl (by decide) rfl rfl (Nat.le_of_ble_eq_true rfl) ?_
        refine wi_ic ct_6_0 kc_10 ?_
        refine wi_aload_2 ct_6_2 ?_
        refine wi_cs2 (ls' := [some _, some _, none]) ct_6_3 (Nat.le_of_ble_eq_true rfl) rfl (Nat.le_of_ble_eq_true rfl) ?_
        refine wi_aload_1 ct_9_0 ?_
        refine wi_ic ct_9_1 kc_0 ?_
        refine wi_dup2 ct_9_2 rfl rfl ?_
        refine wi_iald (x := 0) ct_9_3 (sT_21 hS) (sL_21 hS) (by decide) kn_c0 up2_eq ?_
        refine wi_ic ct_9_4 kc_1 ?_
        refine wi_iadd (z := 1) ct_9_5 (by decide) ?_
        refine wi_iast ct_9_6 (sT_21 hS) (sL_21 hS) (by decide) kn_c0 ?_
        refine wi_aload_1 ct_9_7 ?_
        refine wi_ic ct_9_8 kc_0 ?_
        refine wi_iald (x := 1) ct_9_9 (sT_21 hS) (sL_21 hS) (by decide) kn_c0 up2_eq ?_
        refine wi_istore_2 rfl ct_9_10 ?_
        refine wi_iload_2 ct_9_11 ?_
        refine wi_ifle_f ct_9_12 ki_1 (by decide) ?_
        refine wi_iload_2 ct_9_15 ?_
        refine wi_aload_1 ct_9_16 ?_
        refine wi_len (z := 21) ct_9_17 (sT_21 hS) (by decide) (sL_21 hS) (by decide) ?_
        refine wi_icge_f ct_9_18 ki_1 ki_21 (by decide) ?_
        refine wi_aload_1 ct_9_21 ?_
        refine wi_iload_2 ct_9_22 ?_
        refine wi_iload_0 ct_9_23 ?_
        refine wi_iast ct_9_24 (sT_21 hS) (sL_21 hS) (by decide) kn_c1 ?_
        refine wi_ret ct_9_25 (wk_v ?_)
        refine wi_iload_1 ct_6_6 ?_
        refine wi_aload_0 ct_6_7 ?_
        refine wi_gf (x := a1) ct_6_8 (ot.trans (by rw [hk5] <;> rfl)) rfl rfl (Eq.trans (up2_nq (dn o72 (by decide))) (Eq.trans (up2_nq (dn o72 (by decide))) (Eq.trans (up2_nq (dn o72 (by decide))) hpn))) ?_
        refine wi_iadd ct_6_11 rfl ?_
        refine wi_iret ct_6_12 rfl (wk_i ?_)
        refine wi_iret ct_95_58 rfl (wk_i ?_)
        refine wi_aload_2 ct_211_1043 ?_
        refine wi_aloadT_0 ct_211_1044 ?_
        refine wi_iload_3 ct_211_1045 ?_
        refine wi_ic ct_211_1046 kc_1 ?_
        refine wi_iadd ct_211_1047 rfl ?_
        refine wi_ialdT (j := I + 1) (x := a1) ct_211_1048 (sL_SC hS) (i_in (i_add hi ki_1 (by omega)) (by omega)) (i_cl (i_add hi ki_1 (by omega)) (by omega)) ((Eq.trans (up2_nq (by decide)) (Eq.trans (up2_nq (by decide)) (Eq.trans (up2_nq (by decide)) ((hsc _).trans e1))))) ?_
        refine wi_aloadT_0 ct_211_1049 ?_
        refine wi_iload_3 ct_211_1050 ?_
        refine wi_ic ct_211_1051 kc_2 ?_
        refine wi_iadd ct_211_1052 rfl ?_
        refine wi_ialdT (j := I + 2) (x := a2) ct_211_1053 (sL_SC hS) (i_in (i_add hi ki_2 (by omega)) (by omega)) (i_cl (i_add hi ki_2 (by omega)) (by omega)) ((Eq.trans (up2_nq (by decide)) (Eq.trans (up2_nq (by decide)) (Eq.trans (up2_nq (by decide)) ((hsc _).trans e2))))) ?_
        refine wi_aloadT_0 ct_211_1054 ?_
        refine wi_iload_3 ct_211_1055 ?_
        refine wi_ic ct_211_1056 kc_3 ?_
        refine wi_iadd ct_211_1057 rfl ?_
        refine wi_ialdT (j := I + 3) (x := a3) ct_211_1058 (sL_SC hS) (i_in (i_add hi ki_3 (by omega)) (by omega)) (i_cl (i_add hi ki_3 (by omega)) (by omega)) ((Eq.trans (up2_nq (by decide)) (Eq.trans (up2_nq (by decide)) (Eq.trans (up2_nq (by decide)) ((hsc _).trans e3))))) ?_
        refine wi_cv3 (ls' := [some _, some _, some _, some _]) ct_211_1059 (Nat.le_of_ble_eq_true rfl) (by decide) (sT_31 hS) rfl (by decide) rfl rfl (Nat.le_of_ble_eq_true rfl) ?_
        refine wi_aload_0 ct_190_0 ?_
        refine wi_ic ct_190_1 kc_0 ?_
        refine wi_pf ct_190_2 (sT_31 hS) rfl ?_
        refine wi_aload_0 ct_190_5 ?_
        refine wi_iload_1 ct_190_6 ?_
        refine wi_cv1 (ls' := [some _, some _]) ct_190_7 (Nat.le_of_ble_eq_true rfl) (by decide) (sT_31 hS) rfl (by decide) rfl rfl (Nat.le_of_ble_eq_true rfl) ?_
        refine wi_aload_0 ct_120_0 ?_
        refine wi_iload_1 ct_120_1 ?_
        refine wi_ic ct_120_2 kc_0 ?_
        refine wi_aload_0 ct_120_3 ?_
        refine wi_gf (x := fi 31 0) ct_120_4 (sT_31 hS) rfl rfl (Eq.trans (up2_nj (by decide)) (Eq.trans (up2_nq (by decide)) (Eq.trans (up2_nq (by decide)) (up2_nq (by decide))))) ?_
        refine wi_ic ct_120_7 kc_1 ?_
        refine wi_isub ct_120_8 rfl ?_
        refine wi_cv3 (ls' := [some _, some _, some _, some _]) ct_120_9 (Nat.le_of_ble_eq_true rfl) (by decide) (sT_31 hS) rfl (by decide) rfl rfl (Nat.le_of_ble_eq_true rfl) ?_
        refine c_in hBn ki_0 (i_sub rfl ki_1 (by omega)) (fun _ => wk_i ?_) (fun h => absurd h (by omega))
        refine wi_iret ct_120_12 (by decide) (wk_i ?_)
        refine wi_ifeq_f ct_190_10 ki_1 (by decide) ?_
        refine wi_aload_0 ct_190_13 ?_
        refine wi_iload_2 ct_190_14 ?_
        refine wi_ic ct_190_15 kc_0 ?_
        refine wi_ic ct_190_16 kc_2 ?_
        refine wi_cv3 (ls' := [some _, some _, some _, some _]) ct_190_17 (Nat.le_of_ble_eq_true rfl) (by decide) (sT_31 hS) rfl (by decide) rfl rfl (Nat.le_of_ble_eq_true rfl) ?_
        refine c_in rfl ki_0 ki_2 (fun _ => wk_i ?_) (fun h => absurd h (by omega))
        refine wi_ifne_t ct_190_20 ki_1 (by decide) ?_
        refine wi_iload_2 ct_190_25 ?_
        refine wi_ifne_f ct_190_26 rfl (by omega) ?_
        refine wi_aload_0 ct_190_29 ?_
        refine wi_iload_1 ct_190_30 ?_
        refine wi_iload_3 ct_190_31 ?_
        refine wi_cv2 (ls' := [some _, some _, some _]) ct_190_32 (Nat.le_of_ble_eq_true rfl) (by decide) (sT_31 hS) rfl (by decide) rfl rfl (Nat.le_of_ble_eq_true rfl) ?_
        refine wi_aload_0 ct_184_0 ?_
        refine wi_gfr ct_184_1 (sT_31 hS) rfl (sR_31_2 hS) ?_
        refine wi_iload_1 ct_184_4 ?_
        refine wi_iald (x := fi 32 B) ct_184_5 (sT_32 hS) (sL_32 hS) (i_in hBn (by omega)) (i_cl (k := B) hBn (by omega)) (Eq.trans (up2_nq (by decide)) (Eq.trans (up2_nq (by decide)) (Eq.trans (up2_nq (by decide)) (up2_nq (by decide))))) ?_
        refine wi_tsw (X := 3) (t := 89) ct_184_6 (by omega) rfl ?_
        refine wi_aload_0 ct_184_89 ?_
        refine wi_iload_1 ct_184_90 ?_
        refine wi_iload_2 ct_184_91 ?_
        refine wi_cv2 (ls' := [some _, some _, some _]) ct_184_92 (Nat.le_of_ble_eq_true rfl) (by decide) (sT_31 hS) rfl (by decide) rfl rfl (Nat.le_of_ble_eq_true rfl) ?_
        refine wi_aload_0 ct_183_0 ?_
        refine wi_ic ct_183_1 kc_10 ?_
        refine wi_cv1 (ls' := [some _, some _]) ct_183_3 (Nat.le_of_ble_eq_true rfl) (by decide) (sT_31 hS) rfl (by decide) rfl rfl (Nat.le_of_ble_eq_true rfl) ?_
        refine wi_aload_0 ct_182_0 ?_
        refine wi_gf (x := 0) ct_182_1 (sT_31 hS) rfl rfl up2_eq ?_
        refine wi_ic ct_182_4 kc_20 ?_
        refine wi_icge_f ct_182_6 ki_0 ki_20 (by decide) ?_
        refine wi_aload_0 ct_182_9 ?_
        refine wi_gfr ct_182_10 (sT_31 hS) rfl (sR_31_66 hS) ?_
        refine wi_aload_0 ct_182_13 ?_
        refine wi_gf (x := 0) ct_182_14 (sT_31 hS) rfl rfl up2_eq ?_
        refine wi_iload_1 ct_182_17 ?_
        refine wi_iast ct_182_18 (sT_67 hS) (sL_67 hS) (by decide) kn_c0 ?_
        refine wi_aload_0 ct_182_19 ?_
        refine wi_dup ct_182_20 rfl ?_
        refine wi_gf (x := 0) ct_182_21 (sT_31 hS) rfl rfl (Eq.trans (up2_nq (by decide)) up2_eq) ?_
        refine wi_ic ct_182_24 kc_1 ?_
        refine wi_iadd (z := 1) ct_182_25 (by decide) ?_
        refine wi_pf ct_182_26 (sT_31 hS) rfl ?_
        refine wi_ret ct_182_29 (wk_v ?_)
        refine wi_iload_2 ct_183_6 ?_
        refine wi_iload_1 ct_183_7 ?_
        refine wi_iadd ct_183_8 rfl ?_
        refine wi_iret ct_183_9 rfl (wk_i ?_)
        refine wi_iret ct_184_95 rfl (wk_i ?_)
        refine wi_goto ct_190_35 ?_
        refine wi_iret ct_190_58 rfl (wk_i ?_)
        refine wi_iceq_t ct_211_1062 rfl rfl (by omega) ?_
        refine kk own g _ fl (hR.act (fun q h1 h2 h3 => (Eq.trans (funext fun _ => up2_nq h2) (Eq.trans (funext fun _ => up2_nq h3) (Eq.trans (funext fun _ => up2_nq h2) (Eq.trans (funext fun _ => up2_nq h1) (Eq.trans (funext fun _ => up2_nq h1) (funext fun _ => up2_nq h1))))))) (fun j hj => (Eq.trans (up2_nj hj) (Eq.trans (up2_nq (by decide)) (Eq.trans (up2_nj hj) (Eq.trans (up2_nq (by decide)) (Eq.trans (up2_nq (by decide)) (up2_nq (by decide)))))))) ⟨((Eq.trans (up2_nq (by decide)) (Eq.trans (up2_nq (by decide)) (Eq.trans (up2_nq (by decide)) (Eq.trans (up2_nj (by decide)) up2_eq))))).trans (up2_eq).symm, by rw [up2_eq]; decide, by rw [up2_eq]; decide⟩ ?_) (by omega) (by omega)
        intro j hj hn
        rw [up2_eq] at hn
        replace hn : (j : Int) < 1 := hn
        match j, (by omega : j < 1) with
        | 0, _ => exact ((Eq.trans (up2_nq (by decide)) (Eq.trans (up2_nq (by decide)) (Eq.trans (up2_nq (by decide)) up2_eq)))).trans ((Eq.trans (up2_nq (by decide)) up2_eq)).symm
        | j + 1, h => exact absurd h (by omega)
      · skip
        refine wi_cv2 (ls' := [some _, some _, some _]) ct_95_55 (Nat.le_of_ble_eq_true rfl) (by decide) (ot.trans (by rw [hk6] <;> rfl)) rfl (by decide) rfl rfl (Nat.le_of_ble_eq_true rfl) ?_
        refine wi_ic ct_25_0 kc_50 ?_
        refine wi_aload_2 ct_25_2 ?_
        refine wi_cs2 (ls' := [some _, some _, none]) ct_25_3 (Nat.le_of_ble_eq_true rfl) rfl (Nat.le_of_ble_eq_true rfl) ?_
        refine wi_aload_1 ct_9_0 ?_
        refine wi_ic ct_9_1 kc_0 ?_
        refine wi_dup2 ct_9_2 rfl rfl ?_
        refine wi_iald (x := 0) ct_9_3 (sT_21 hS) (sL_21 hS) (by decide) kn_c0 up2_eq ?_
        refine wi_ic ct_9_4 kc_1 ?_
        refine wi_iadd (z := 1) ct_9_5 (by decide) ?_
        refine wi_iast ct_9_6 (sT_21 hS) (sL_21 hS) (by decide) kn_c0 ?_
        refine wi_aload_1 ct_9_7 ?_
        refine wi_ic ct_9_8 kc_0 ?_
        refine wi_iald (x := 1) ct_9_9 (sT_21 hS) (sL_21 hS) (by decide) kn_c0 up2_eq ?_
        refine wi_istore_2 rfl ct_9_10 ?_
        refine wi_iload_2 ct_9_11 ?_
        refine wi_ifle_f ct_9_12 ki_1 (by decide) ?_
        refine wi_iload_2 ct_9_15 ?_
        refine wi_aload_1 ct_9_16 ?_
        refine wi_len (z := 21) ct_9_17 (sT_21 hS) (by decide) (sL_21 hS) (by decide) ?_
        refine wi_icge_f ct_9_18 ki_1 ki_21 (by decide) ?_
        refine wi_aload_1 ct_9_21 ?_
        refine wi_iload_2 ct_9_22 ?_
        refine wi_iload_0 ct_9_23 ?_
        refine wi_iast ct_9_24 (sT_21 hS) (sL_21 hS) (by decide) kn_c1 ?_
        refine wi_ret ct_9_25 (wk_v ?_)
        refine wi_aload_0 ct_25_6 ?_
        refine wi_iload_1 ct_25_7 ?_
        refine wi_aload_2 ct_25_8 ?_
        refine wi_cp2 (ls' := [some _, some _, some _]) ct_25_9 (Nat.le_of_ble_eq_true rfl) (ot.trans (by rw [hk6] <;> rfl)) (by decide) rfl (Nat.le_of_ble_eq_true rfl) ?_
        refine wi_ic ct_6_0 kc_10 ?_
        refine wi_aload_2 ct_6_2 ?_
        refine wi_cs2 (ls' := [some _, some _, none]) ct_6_3 (Nat.le_of_ble_eq_true rfl) rfl (Nat.le_of_ble_eq_true rfl) ?_
        refine wi_aload_1 ct_9_0 ?_
        refine wi_ic ct_9_1 kc_0 ?_
        refine wi_dup2 ct_9_2 rfl rfl ?_
        refine wi_iald (x := 1) ct_9_3 (sT_21 hS) (sL_21 hS) (by decide) kn_c0 (Eq.trans (up2_nj (by decide)) up2_eq) ?_
        refine wi_ic ct_9_4 kc_1 ?_
        refine wi_iadd (z := 2) ct_9_5 (by decide) ?_
        refine wi_iast ct_9_6 (sT_21 hS) (sL_21 hS) (by decide) kn_c0 ?_
        refine wi_aload_1 ct_9_7 ?_
        refine wi_ic ct_9_8 kc_0 ?_
        refine wi_iald (x := 2) ct_9_9 (sT_21 hS) (sL_21 hS) (by decide) kn_c0 up2_eq ?_
        refine wi_istore_2 rfl ct_9_10 ?_
        refine wi_iload_2 ct_9_11 ?_
        refine wi_ifle_f ct_9_12 ki_2 (by decide) ?_
        refine wi_iload_2 ct_9_15 ?_
        refine wi_aload_1 ct_9_16 ?_
        refine wi_len (z := 21) ct_9_17 (sT_21 hS) (by decide) (sL_21 hS) (by decide) ?_
        refine wi_icge_f ct_9_18 ki_2 ki_21 (by decide) ?_
        refine wi_aload_1 ct_9_21 ?_
        refine wi_iload_2 ct_9_22 ?_
        refine wi_iload_0 ct_9_23 ?_
        refine wi_iast ct_9_24 (sT_21 hS) (sL_21 hS) (by decide) kn_c2 ?_
        refine wi_ret ct_9_25 (wk_v ?_)
        refine wi_iload_1 ct_6_6 ?_
        refine wi_aload_0 ct_6_7 ?_
        refine wi_gf (x := a1) ct_6_8 (ot.trans (by rw [hk6] <;> rfl)) rfl rfl (Eq.trans (up2_nq (dn o72 (by decide))) (Eq.trans (up2_nq (dn o72 (by decide))) (Eq.trans (up2_nq (dn o72 (by decide))) (Eq.trans (up2_nq (dn o72 (by decide))) (Eq.trans (up2_nq (dn o72 (by decide))) hpn))))) ?_
        refine wi_iadd ct_6_11 rfl ?_
        refine wi_iret ct_6_12 rfl (wk_i ?_)
        refine wi_ineg ct_25_12 rfl ?_
        refine wi_iret ct_25_13 rfl (wk_i ?_)
        refine wi_iret ct_95_58 rfl (wk_i ?_)
        refine wi_aload_2 ct_211_1043 ?_
        refine wi_aloadT_0 ct_211_1044 ?_
        refine wi_iload_3 ct_211_1045 ?_
        refine wi_ic ct_211_1046 kc_1 ?_
        refine wi_iadd ct_211_1047 rfl ?_
        refine wi_ialdT (j := I + 1) (x := a1) ct_211_1048 (sL_SC hS) (i_in (i_add hi ki_1 (by omega)) (by omega)) (i_cl (i_add hi ki_1 (by omega)) (by omega)) ((Eq.trans (up2_nq (by decide)) (Eq.trans (up2_nq (by decide)) (Eq.trans (up2_nq (by decide)) (Eq.trans (up2_nq (by decide)) (Eq.trans (up2_nq (by decide)) ((hsc _).trans e1))))))) ?_
        refine wi_aloadT_0 ct_211_1049 ?_
        refine wi_iload_3 ct_211_1050 ?_
        refine wi_ic ct_211_1051 kc_2 ?_
        refine wi_iadd ct_211_1052 rfl ?_
        refine wi_ialdT (j := I + 2) (x := a2) ct_211_1053 (sL_SC hS) (i_in (i_add hi ki_2 (by omega)) (by omega)) (i_cl (i_add hi ki_2 (by omega)) (by omega)) ((Eq.trans (up2_nq (by decide)) (Eq.trans (up2_nq (by decide)) (Eq.trans (up2_nq (by decide)) (Eq.trans (up2_nq (by decide)) (Eq.trans (up2_nq (by decide)) ((hsc _).trans e2))))))) ?_
        refine wi_aloadT_0 ct_211_1054 ?_
        refine wi_iload_3 ct_211_1055 ?_
        refine wi_ic ct_211_1056 kc_3 ?_
        refine wi_iadd ct_211_1057 rfl ?_
        refine wi_ialdT (j := I + 3) (x := a3) ct_211_1058 (sL_SC hS) (i_in (i_add hi ki_3 (by omega)) (by omega)) (i_cl (i_add hi ki_3 (by omega)) (by omega)) ((Eq.trans (up2_nq (by decide)) (Eq.trans (up2_nq (by decide)) (Eq.trans (up2_nq (by decide)) (Eq.trans (up2_nq (by decide)) (Eq.trans (up2_nq (by decide)) ((hsc _).trans e3))))))) ?_
        refine wi_cv3 (ls' := [some _, some _, some _, some _]) ct_211_1059 (Nat.le_of_ble_eq_true rfl) (by decide) (sT_31 hS) rfl (by decide) rfl rfl (Nat.le_of_ble_eq_true rfl) ?_
        refine wi_aload_0 ct_190_0 ?_
        refine wi_ic ct_190_1 kc_0 ?_
        refine wi_pf ct_190_2 (sT_31 hS) rfl ?_
        refine wi_aload_0 ct_190_5 ?_
        refine wi_iload_1 ct_190_6 ?_
        refine wi_cv1 (ls' := [some _, some _]) ct_190_7 (Nat.le_of_ble_eq_true rfl) (by decide) (sT_31 hS) rfl (by decide) rfl rfl (Nat.le_of_ble_eq_true rfl) ?_
        refine wi_aload_0 ct_120_0 ?_
        refine wi_iload_1 ct_120_1 ?_
        refine wi_ic ct_120_2 kc_0 ?_
        refine wi_aload_0 ct_120_3 ?_
        refine wi_gf (x := fi 31 0) ct_120_4 (sT_31 hS) rfl rfl (Eq.trans (up2_nj (by decide)) (Eq.trans (up2_nq (by decide)) (Eq.trans (up2_nq (by decide)) (Eq.trans (up2_nq (by decide)) (Eq.trans (up2_nq (by decide)) (up2_nq (by decide))))))) ?_
        refine wi_ic ct_120_7 kc_1 ?_
        refine wi_isub ct_120_8 rfl ?_
        refine wi_cv3 (ls' := [some _, some _, some _, some _]) ct_120_9 (Nat.le_of_ble_eq_true rfl) (by decide) (sT_31 hS) rfl (by decide) rfl rfl (Nat.le_of_ble_eq_true rfl) ?_
        refine c_in hBn ki_0 (i_sub rfl ki_1 (by omega)) (fun _ => wk_i ?_) (fun h => absurd h (by omega))
        refine wi_iret ct_120_12 (by decide) (wk_i ?_)
        refine wi_ifeq_f ct_190_10 ki_1 (by decide) ?_
        refine wi_aload_0 ct_190_13 ?_
        refine wi_iload_2 ct_190_14 ?_
        refine wi_ic ct_190_15 kc_0 ?_
        refine wi_ic ct_190_16 kc_2 ?_
        refine wi_cv3 (ls' := [some _, some _, some _, some _]) ct_190_17 (Nat.le_of_ble_eq_true rfl) (by decide) (sT_31 hS) rfl (by decide) rfl rfl (Nat.le_of_ble_eq_true rfl) ?_
        refine c_in rfl ki_0 ki_2 (fun _ => wk_i ?_) (fun h => absurd h (by omega))
        refine wi_ifne_t ct_190_20 ki_1 (by decide) ?_
        refine wi_iload_2 ct_190_25 ?_
        refine wi_ifne_f ct_190_26 rfl (by omega) ?_
        refine wi_aload_0 ct_190_29 ?_
        refine wi_iload_1 ct_190_30 ?_
        refine wi_iload_3 ct_190_31 ?_
        refine wi_cv2 (ls' := [some _, some _, some _]) ct_190_32 (Nat.le_of_ble_eq_true rfl) (by decide) (sT_31 hS) rfl (by decide) rfl rfl (Nat.le_of_ble_eq_true rfl) ?_
        refine wi_aload_0 ct_184_0 ?_
        refine wi_gfr ct_184_1 (sT_31 hS) rfl (sR_31_2 hS) ?_
        refine wi_iload_1 ct_184_4 ?_
        refine wi_iald (x := fi 32 B) ct_184_5 (sT_32 hS) (sL_32 hS) (i_in hBn (by omega)) (i_cl (k := B) hBn (by omega)) (Eq.trans (up2_nq (by decide)) (Eq.trans (up2_nq (by decide)) (Eq.trans (up2_nq (by decide)) (Eq.trans (up2_nq (by decide)) (Eq.trans (up2_nq (by decide)) (up2_nq (by decide))))))) ?_
        refine wi_tsw (X := 4) (t := 55) ct_184_6 (by omega) rfl ?_
        refine wi_aload_0 ct_184_55 ?_
        refine wi_ic ct_184_56 kc_50 ?_
        refine wi_cv1 (ls' := [some _, some _]) ct_184_58 (Nat.le_of_ble_eq_true rfl) (by decide) (sT_31 hS) rfl (by decide) rfl rfl (Nat.le_of_ble_eq_true rfl) ?_
        refine wi_aload_0 ct_182_0 ?_
        refine wi_gf (x := 0) ct_182_1 (sT_31 hS) rfl rfl up2_eq ?_
        refine wi_ic ct_182_4 kc_20 ?_
        refine wi_icge_f ct_182_6 ki_0 ki_20 (by decide) ?_
        refine wi_aload_0 ct_182_9 ?_
        refine wi_gfr ct_182_10 (sT_31 hS) rfl (sR_31_66 hS) ?_
        refine wi_aload_0 ct_182_13 ?_
        refine wi_gf (x := 0) ct_182_14 (sT_31 hS) rfl rfl up2_eq ?_
        refine wi_iload_1 ct_182_17 ?_
        refine wi_iast ct_182_18 (sT_67 hS) (sL_67 hS) (by decide) kn_c0 ?_
        refine wi_aload_0 ct_182_19 ?_
        refine wi_dup ct_182_20 rfl ?_
        refine wi_gf (x := 0) ct_182_21 (sT_31 hS) rfl rfl (Eq.trans (up2_nq (by decide)) up2_eq) ?_
        refine wi_ic ct_182_24 kc_1 ?_
        refine wi_iadd (z := 1) ct_182_25 (by decide) ?_
        refine wi_pf ct_182_26 (sT_31 hS) rfl ?_
        refine wi_ret ct_182_29 (wk_v ?_)
        refine wi_aload_0 ct_184_61 ?_
        refine wi_iload_1 ct_184_62 ?_
        refine wi_iload_2 ct_184_63 ?_
        refine wi_cv2 (ls' := [some _, some _, some _]) ct_184_64 (Nat.le_of_ble_eq_true rfl) (by decide) (sT_31 hS) rfl (by decide) rfl rfl (Nat.le_of_ble_eq_true rfl) ?_
        refine wi_aload_0 ct_183_0 ?_
        refine wi_ic ct_183_1 kc_10 ?_
        refine wi_cv1 (ls' := [some _, some _]) ct_183_3 (Nat.le_of_ble_eq_true rfl) (by decide) (sT_31 hS) rfl (by decide) rfl rfl (Nat.le_of_ble_eq_true rfl) ?_
        refine wi_aload_0 ct_182_0 ?_
        refine wi_gf (x := 1) ct_182_1 (sT_31 hS) rfl rfl up2_eq ?_
        refine wi_ic ct_182_4 kc_20 ?_
        refine wi_icge_f ct_182_6 ki_1 ki_20 (by decide) ?_
        refine wi_aload_0 ct_182_9 ?_
        refine wi_gfr ct_182_10 (sT_31 hS) rfl (sR_31_66 hS) ?_
        refine wi_aload_0 ct_182_13 ?_
        refine wi_gf (x := 1) ct_182_14 (sT_31 hS) rfl rfl up2_eq ?_
        refine wi_iload_1 ct_182_17 ?_
        refine wi_iast ct_182_18 (sT_67 hS) (sL_67 hS) (by decide) kn_c1 ?_
        refine wi_aload_0 ct_182_19 ?_
        refine wi_dup ct_182_20 rfl ?_
        refine wi_gf (x := 1) ct_182_21 (sT_31 hS) rfl rfl (Eq.trans (up2_nq (by decide)) up2_eq) ?_
        refine wi_ic ct_182_24 kc_1 ?_
        refine wi_iadd (z := 2) ct_182_25 (by decide) ?_
        refine wi_pf ct_182_26 (sT_31 hS) rfl ?_
        refine wi_ret ct_182_29 (wk_v ?_)
        refine wi_iload_2 ct_183_6 ?_
        refine wi_iload_1 ct_183_7 ?_
        refine wi_iadd ct_183_8 rfl ?_
        refine wi_iret ct_183_9 rfl (wk_i ?_)
        refine wi_ineg ct_184_67 rfl ?_
        refine wi_iret ct_184_68 rfl (wk_i ?_)
        refine wi_goto ct_190_35 ?_
        refine wi_iret ct_190_58 rfl (wk_i ?_)
        refine wi_iceq_t ct_211_1062 rfl rfl (by omega) ?_
        refine kk own g _ fl (hR.act (fun q h1 h2 h3 => (Eq.trans (funext fun _ => up2_nq h2) (Eq.trans (funext fun _ => up2_nq h3) (Eq.trans (funext fun _ => up2_nq h2) (Eq.trans (funext fun _ => up2_nq h3) (Eq.trans (funext fun _ => up2_nq h2) (Eq.trans (funext fun _ => up2_nq h1) (Eq.trans (funext fun _ => up2_nq h1) (Eq.trans (funext fun _ => up2_nq h1) (Eq.trans (funext fun _ => up2_nq h1) (funext fun _ => up2_nq h1))))))))))) (fun j hj => (Eq.trans (up2_nj hj) (Eq.trans (up2_nq (by decide)) (Eq.trans (up2_nj hj) (Eq.trans (up2_nq (by decide)) (Eq.trans (up2_nj hj) (Eq.trans (up2_nq (by decide)) (Eq.trans (up2_nq (by decide)) (Eq.trans (up2_nq (by decide)) (Eq.trans (up2_nq (by decide)) (up2_nq (by decide)))))))))))) ⟨((Eq.trans (up2_nq (by decide)) (Eq.trans (up2_nq (by decide)) (Eq.trans (up2_nq (by decide)) (Eq.trans (up2_nq (by decide)) (Eq.trans (up2_nq (by decide)) (Eq.trans (up2_nj (by decide)) up2_eq))))))).trans (up2_eq).symm, by rw [up2_eq]; decide, by rw [up2_eq]; decide⟩ ?_) (by omega) (by omega)
        intro j hj hn
        rw [up2_eq] at hn
        replace hn : (j : Int) < 2 := hn
        match j, (by omega : j < 2) with
        | 0, _ => exact ((Eq.trans (up2_nq (by decide)) (Eq.trans (up2_nq (by decide)) (Eq.trans (up2_nq (by decide)) (Eq.trans (up2_nq (by decide)) (Eq.trans (up2_nq (by decide)) (Eq.trans (up2_nj (by decide)) (Eq.trans (up2_nj (by decide)) up2_eq)))))))).trans ((Eq.trans (up2_nq (by decide)) (Eq.trans (up2_nj (by decide)) (Eq.trans (up2_nq (by decide)) up2_eq)))).symm
        | 1, _ => exact ((Eq.trans (up2_nq (by decide)) (Eq.trans (up2_nq (by decide)) (Eq.trans (up2_nq (by decide)) (Eq.trans (up2_nq (by decide)) (Eq.trans (up2_nq (by decide)) up2_eq)))))).trans ((Eq.trans (up2_nq (by decide)) up2_eq)).symm
        | j + 2, h => exact absurd h (by omega)
      · skip
        refine wi_cv2 (ls' := [some _, some _, some _]) ct_95_55 (Nat.le_of_ble_eq_true rfl) (by decide) (ot.trans (by rw [hk7] <;> rfl)) rfl (by decide) rfl rfl (Nat.le_of_ble_eq_true rfl) ?_
        refine wi_ic ct_15_0 kc_30 ?_
        refine wi_aload_2 ct_15_2 ?_
        refine wi_cs2 (ls' := [some _, some _, none]) ct_15_3 (Nat.le_of_ble_eq_true rfl) rfl (Nat.le_of_ble_eq_true rfl) ?_
        refine wi_aload_1 ct_9_0 ?_
        refine wi_ic ct_9_1 kc_0 ?_
        refine wi_dup2 ct_9_2 rfl rfl ?_
        refine wi_iald (x := 0) ct_9_3 (sT_21 hS) (sL_21 hS) (by decide) kn_c0 up2_eq ?_
        refine wi_ic ct_9_4 kc_1 ?_
        refine wi_iadd (z := 1) ct_9_5 (by decide) ?_
        refine wi_iast ct_9_6 (sT_21 hS) (sL_21 hS) (by decide) kn_c0 ?_
        refine wi_aload_1 ct_9_7 ?_
        refine wi_ic ct_9_8 kc_0 ?_
        refine wi_iald (x := 1) ct_9_9 (sT_21 hS) (sL_21 hS) (by decide) kn_c0 up2_eq ?_
        refine wi_istore_2 rfl ct_9_10 ?_
        refine wi_iload_2 ct_9_11 ?_
        refine wi_ifle_f ct_9_12 ki_1 (by decide) ?_
        refine wi_iload_2 ct_9_15 ?_
        refine wi_aload_1 ct_9_16 ?_
        refine wi_len (z := 21) ct_9_17 (sT_21 hS) (by decide) (sL_21 hS) (by decide) ?_
        refine wi_icge_f ct_9_18 ki_1 ki_21 (by decide) ?_
        refine wi_aload_1 ct_9_21 ?_
        refine wi_iload_2 ct_9_22 ?_
        refine wi_iload_0 ct_9_23 ?_
        refine wi_iast ct_9_24 (sT_21 hS) (sL_21 hS) (by decide) kn_c1 ?_
        refine wi_ret ct_9_25 (wk_v ?_)
        refine wi_aload_0 ct_15_6 ?_
        refine wi_iload_1 ct_15_7 ?_
        refine wi_ic ct_15_8 kc_3 ?_
        refine wi_imul ct_15_9 rfl ?_
        refine wi_aload_2 ct_15_10 ?_
        refine wi_cp2 (ls' := [some _, some _, some _]) ct_15_11 (Nat.le_of_ble_eq_true rfl) (ot.trans (by rw [hk7] <;> rfl)) (by decide) rfl (Nat.le_of_ble_eq_true rfl) ?_
        refine wi_ic ct_6_0 kc_10 ?_
        refine wi_aload_2 ct_6_2 ?_
        refine wi_cs2 (ls' := [some _, some _, none]) ct_6_3 (Nat.le_of_ble_eq_true rfl) rfl (Nat.le_of_ble_eq_true rfl) ?_
        refine wi_aload_1 ct_9_0 ?_
        refine wi_ic ct_9_1 kc_0 ?_
        refine wi_dup2 ct_9_2 rfl rfl ?_
        refine wi_iald (x := 1) ct_9_3 (sT_21 hS) (sL_21 hS) (by decide) kn_c0 (Eq.trans (up2_nj (by decide)) up2_eq) ?_
        refine wi_ic ct_9_4 kc_1 ?_
        refine wi_iadd (z := 2) ct_9_5 (by decide) ?_
        refine wi_iast ct_9_6 (sT_21 hS) (sL_21 hS) (by decide) kn_c0 ?_
        refine wi_aload_1 ct_9_7 ?_
        refine wi_ic ct_9_8 kc_0 ?_
        refine wi_iald (x := 2) ct_9_9 (sT_21 hS) (sL_21 hS) (by decide) kn_c0 up2_eq ?_
        refine wi_istore_2 rfl ct_9_10 ?_
        refine wi_iload_2 ct_9_11 ?_
        refine wi_ifle_f ct_9_12 ki_2 (by decide) ?_
        refine wi_iload_2 ct_9_15 ?_
        refine wi_aload_1 ct_9_16 ?_
        refine wi_len (z := 21) ct_9_17 (sT_21 hS) (by decide) (sL_21 hS) (by decide) ?_
        refine wi_icge_f ct_9_18 ki_2 ki_21 (by decide) ?_
        refine wi_aload_1 ct_9_21 ?_
        refine wi_iload_2 ct_9_22 ?_
        refine wi_iload_0 ct_9_23 ?_
        refine wi_iast ct_9_24 (sT_21 hS) (sL_21 hS) (by decide) kn_c2 ?_
        refine wi_ret ct_9_25 (wk_v ?_)
        refine wi_iload_1 ct_6_6 ?_
        refine wi_aload_0 ct_6_7 ?_
        refine wi_gf (x := a1) ct_6_8 (ot.trans (by rw [hk7] <;> rfl)) rfl rfl (Eq.trans (up2_nq (dn o72 (by decide))) (Eq.trans (up2_nq (dn o72 (by decide))) (Eq.trans (up2_nq (dn o72 (by decide))) (Eq.trans (up2_nq (dn o72 (by decide))) (Eq.trans (up2_nq (dn o72 (by decide))) hpn))))) ?_
        refine wi_iadd ct_6_11 rfl ?_
        refine wi_iret ct_6_12 rfl (wk_i ?_)
        refine wi_iret ct_15_14 rfl (wk_i ?_)
        refine wi_iret ct_95_58 rfl (wk_i ?_)
        refine wi_aload_2 ct_211_1043 ?_
        refine wi_aloadT_0 ct_211_1044 ?_
        refine wi_iload_3 ct_211_1045 ?_
        refine wi_ic ct_211_1046 kc_1 ?_
        refine wi_iadd ct_211_1047 rfl ?_
        refine wi_ialdT (j := I + 1) (x := a1) ct_211_1048 (sL_SC hS) (i_in (i_add hi ki_1 (by omega)) (by omega)) (i_cl (i_add hi ki_1 (by omega)) (by omega)) ((Eq.trans (up2_nq (by decide)) (Eq.trans (up2_nq (by decide)) (Eq.trans (up2_nq (by decide)) (Eq.trans (up2_nq (by decide)) (Eq.trans (up2_nq (by decide)) ((hsc _).trans e1))))))) ?_
        refine wi_aloadT_0 ct_211_1049 ?_
        refine wi_iload_3 ct_211_1050 ?_
        refine wi_ic ct_211_1051 kc_2 ?_
        refine wi_iadd ct_211_1052 rfl ?_
        refine wi_ialdT (j := I + 2) (x := a2) ct_211_1053 (sL_SC hS) (i_in (i_add hi ki_2 (by omega)) (by omega)) (i_cl (i_add hi ki_2 (by omega)) (by omega)) ((Eq.trans (up2_nq (by decide)) (Eq.trans (up2_nq (by decide)) (Eq.trans (up2_nq (by decide)) (Eq.trans (up2_nq (by decide)) (Eq.trans (up2_nq (by decide)) ((hsc _).trans e2))))))) ?_
        refine wi_aloadT_0 ct_211_1054 ?_
        refine wi_iload_3 ct_211_1055 ?_
        refine wi_ic ct_211_1056 kc_3 ?_
        refine wi_iadd ct_211_1057 rfl ?_
        refine wi_ialdT (j := I + 3) (x := a3) ct_211_1058 (sL_SC hS) (i_in (i_add hi ki_3 (by omega)) (by omega)) (i_cl (i_add hi ki_3 (by omega)) (by omega)) ((Eq.trans (up2_nq (by decide)) (Eq.trans (up2_nq (by decide)) (Eq.trans (up2_nq (by decide)) (Eq.trans (up2_nq (by decide)) (Eq.trans (up2_nq (by decide)) ((hsc _).trans e3))))))) ?_
        refine wi_cv3 (ls' := [some _, some _, some _, some _]) ct_211_1059 (Nat.le_of_ble_eq_true rfl) (by decide) (sT_31 hS) rfl (by decide) rfl rfl (Nat.le_of_ble_eq_true rfl) ?_
        refine wi_aload_0 ct_190_0 ?_
        refine wi_ic ct_190_1 kc_0 ?_
        refine wi_pf ct_190_2 (sT_31 hS) rfl ?_
        refine wi_aload_0 ct_190_5 ?_
        refine wi_iload_1 ct_190_6 ?_
        refine wi_cv1 (ls' := [some _, some _]) ct_190_7 (Nat.le_of_ble_eq_true rfl) (by decide) (sT_31 hS) rfl (by decide) rfl rfl (Nat.le_of_ble_eq_true rfl) ?_
        refine wi_aload_0 ct_120_0 ?_
        refine wi_iload_1 ct_120_1 ?_
        refine wi_ic ct_120_2 kc_0 ?_
        refine wi_aload_0 ct_120_3 ?_
        refine wi_gf (x := fi 31 0) ct_120_4 (sT_31 hS) rfl rfl (Eq.trans (up2_nj (by decide)) (Eq.trans (up2_nq (by decide)) (Eq.trans (up2_nq (by decide)) (Eq.trans (up2_nq (by decide)) (Eq.trans (up2_nq (by decide)) (up2_nq (by decide))))))) ?_
        refine wi_ic ct_120_7 kc_1 ?_
        refine wi_isub ct_120_8 rfl ?_
        refine wi_cv3 (ls' := [some _, some _, some _, some _]) ct_120_9 (Nat.le_of_ble_eq_true rfl) (by decide) (sT_31 hS) rfl (by decide) rfl rfl (Nat.le_of_ble_eq_true rfl) ?_
        refine c_in hBn ki_0 (i_sub rfl ki_1 (by omega)) (fun _ => wk_i ?_) (fun h => absurd h (by omega))
        refine wi_iret ct_120_12 (by decide) (wk_i ?_)
        refine wi_ifeq_f ct_190_10 ki_1 (by decide) ?_
        refine wi_aload_0 ct_190_13 ?_
        refine wi_iload_2 ct_190_14 ?_
        refine wi_ic ct_190_15 kc_0 ?_
        refine wi_ic ct_190_16 kc_2 ?_
        refine wi_cv3 (ls' := [some _, some _, some _, some _]) ct_190_17 (Nat.le_of_ble_eq_true rfl) (by decide) (sT_31 hS) rfl (by decide) rfl rfl (Nat.le_of_ble_eq_true rfl) ?_
        refine c_in rfl ki_0 ki_2 (fun _ => wk_i ?_) (fun h => absurd h (by omega))
        refine wi_ifne_t ct_190_20 ki_1 (by decide) ?_
        refine wi_iload_2 ct_190_25 ?_
        refine wi_ifne_f ct_190_26 rfl (by omega) ?_
        refine wi_aload_0 ct_190_29 ?_
        refine wi_iload_1 ct_190_30 ?_
        refine wi_iload_3 ct_190_31 ?_
        refine wi_cv2 (ls' := [some _, some _, some _]) ct_190_32 (Nat.le_of_ble_eq_true rfl) (by decide) (sT_31 hS) rfl (by decide) rfl rfl (Nat.le_of_ble_eq_true rfl) ?_
        refine wi_aload_0 ct_184_0 ?_
        refine wi_gfr ct_184_1 (sT_31 hS) rfl (sR_31_2 hS) ?_
        refine wi_iload_1 ct_184_4 ?_
        refine wi_iald (x := fi 32 B) ct_184_5 (sT_32 hS) (sL_32 hS) (i_in hBn (by omega)) (i_cl (k := B) hBn (by omega)) (Eq.trans (up2_nq (by decide)) (Eq.trans (up2_nq (by decide)) (Eq.trans (up2_nq (by decide)) (Eq.trans (up2_nq (by decide)) (Eq.trans (up2_nq (by decide)) (up2_nq (by decide))))))) ?_
        refine wi_tsw (X := 5) (t := 40) ct_184_6 (by omega) rfl ?_
        refine wi_aload_0 ct_184_40 ?_
        refine wi_ic ct_184_41 kc_30 ?_
        refine wi_cv1 (ls' := [some _, some _]) ct_184_43 (Nat.le_of_ble_eq_true rfl) (by decide) (sT_31 hS) rfl (by decide) rfl rfl (Nat.le_of_ble_eq_true rfl) ?_
        refine wi_aload_0 ct_182_0 ?_
        refine wi_gf (x := 0) ct_182_1 (sT_31 hS) rfl rfl up2_eq ?_
        refine wi_ic ct_182_4 kc_20 ?_
        refine wi_icge_f ct_182_6 ki_0 ki_20 (by decide) ?_
        refine wi_aload_0 ct_182_9 ?_
        refine wi_gfr ct_182_10 (sT_31 hS) rfl (sR_31_66 hS) ?_
        refine wi_aload_0 ct_182_13 ?_
        refine wi_gf (x := 0) ct_182_14 (sT_31 hS) rfl rfl up2_eq ?_
        refine wi_iload_1 ct_182_17 ?_
        refine wi_iast ct_182_18 (sT_67 hS) (sL_67 hS) (by decide) kn_c0 ?_
        refine wi_aload_0 ct_182_19 ?_
        refine wi_dup ct_182_20 rfl ?_
        refine wi_gf (x := 0) ct_182_21 (sT_31 hS) rfl rfl (Eq.trans (up2_nq (by decide)) up2_eq) ?_
        refine wi_ic ct_182_24 kc_1 ?_
        refine wi_iadd (z := 1) ct_182_25 (by decide) ?_
        refine wi_pf ct_182_26 (sT_31 hS) rfl ?_
        refine wi_ret ct_182_29 (wk_v ?_)
        refine wi_aload_0 ct_184_46 ?_
        refine wi_iload_1 ct_184_47 ?_
        refine wi_iload_2 ct_184_48 ?_
        refine wi_ic ct_184_49 kc_3 ?_
        refine wi_imul ct_184_50 rfl ?_
        refine wi_cv2 (ls' := [some _, some _, some _]) ct_184_51 (Nat.le_of_ble_eq_true rfl) (by decide) (sT_31 hS) rfl (by decide) rfl rfl (Nat.le_of_ble_eq_true rfl) ?_
        refine wi_aload_0 ct_183_0 ?_
        refine wi_ic ct_183_1 kc_10 ?_
        refine wi_cv1 (ls' := [some _, some _]) ct_183_3 (Nat.le_of_ble_eq_true rfl) (by decide) (sT_31 hS) rfl (by decide) rfl rfl (Nat.le_of_ble_eq_true rfl) ?_
        refine wi_aload_0 ct_182_0 ?_
        refine wi_gf (x := 1) ct_182_1 (sT_31 hS) rfl rfl up2_eq ?_
        refine wi_ic ct_182_4 kc_20 ?_
        refine wi_icge_f ct_182_6 ki_1 ki_20 (by decide) ?_
        refine wi_aload_0 ct_182_9 ?_
        refine wi_gfr ct_182_10 (sT_31 hS) rfl (sR_31_66 hS) ?_
        refine wi_aload_0 ct_182_13 ?_
        refine wi_gf (x := 1) ct_182_14 (sT_31 hS) rfl rfl up2_eq ?_
        refine wi_iload_1 ct_182_17 ?_
        refine wi_iast ct_182_18 (sT_67 hS) (sL_67 hS) (by decide) kn_c1 ?_
        refine wi_aload_0 ct_182_19 ?_
        refine wi_dup ct_182_20 rfl ?_
        refine wi_gf (x := 1) ct_182_21 (sT_31 hS) rfl rfl (Eq.trans (up2_nq (by decide)) up2_eq) ?_
        refine wi_ic ct_182_24 kc_1 ?_
        refine wi_iadd (z := 2) ct_182_25 (by decide) ?_
        refine wi_pf ct_182_26 (sT_31 hS) rfl ?_
        refine wi_ret ct_182_29 (wk_v ?_)
        refine wi_iload_2 ct_183_6 ?_
        refine wi_iload_1 ct_183_7 ?_
        refine wi_iadd ct_183_8 rfl ?_
        refine wi_iret ct_183_9 rfl (wk_i ?_)
        refine wi_iret ct_184_54 rfl (wk_i ?_)
        refine wi_goto ct_190_35 ?_
        refine wi_iret ct_190_58 rfl (wk_i ?_)
        refine wi_iceq_t ct_211_1062 rfl rfl (by omega) ?_
        refine kk own g _ fl (hR.act (fun q h1 h2 h3 => (Eq.trans (funext fun _ => up2_nq h2) (Eq.trans (funext fun _ => up2_nq h3) (Eq.trans (funext fun _ => up2_nq h2) (Eq.trans (funext fun _ => up2_nq h3) (Eq.trans (funext fun _ => up2_nq h2) (Eq.trans (funext fun _ => up2_nq h1) (Eq.trans (funext fun _ => up2_nq h1) (Eq.trans (funext fun _ => up2_nq h1) (Eq.trans (funext fun _ => up2_nq h1) (funext fun _ => up2_nq h1))))))))))) (fun j hj => (Eq.trans (up2_nj hj) (Eq.trans (up2_nq (by decide)) (Eq.trans (up2_nj hj) (Eq.trans (up2_nq (by decide)) (Eq.trans (up2_nj hj) (Eq.trans (up2_nq (by decide)) (Eq.trans (up2_nq (by decide)) (Eq.trans (up2_nq (by decide)) (Eq.trans (up2_nq (by decide)) (up2_nq (by decide)))))))))))) ⟨((Eq.trans (up2_nq (by decide)) (Eq.trans (up2_nq (by decide)) (Eq.trans (up2_nq (by decide)) (Eq.trans (up2_nq (by decide)) (Eq.trans (up2_nq (by decide)) (Eq.trans (up2_nj (by decide)) up2_eq))))))).trans (up2_eq).symm, by rw [up2_eq]; decide, by rw [up2_eq]; decide⟩ ?_) (by omega) (by omega)
        intro j hj hn
        rw [up2_eq] at hn
        replace hn : (j : Int) < 2 := hn
        match j, (by omega : j < 2) with
        | 0, _ => exact ((Eq.trans (up2_nq (by decide)) (Eq.trans (up2_nq (by decide)) (Eq.trans (up2_nq (by decide)) (Eq.trans (up2_nq (by decide)) (Eq.trans (up2_nq (by decide)) (Eq.trans (up2_nj (by decide)) (Eq.trans (up2_nj (by decide)) up2_eq)))))))).trans ((Eq.trans (up2_nq (by decide)) (Eq.trans (up2_nj (by decide)) (Eq.trans (up2_nq (by decide)) up2_eq)))).symm
        | 1, _ => exact ((Eq.trans (up2_nq (by decide)) (Eq.trans (up2_nq (by decide)) (Eq.trans (up2_nq (by decide)) (Eq.trans (up2_nq (by decide)) (Eq.trans (up2_nq (by decide)) up2_eq)))))).trans ((Eq.trans (up2_nq (by decide)) up2_eq)).symm
        | j + 2, h => exact absurd h (by omega)
      · skip
        refine wi_cv2 (ls' := [some _, some _, some _]) ct_95_55 (Nat.le_of_ble_eq_true rfl) (by decide) (ot.trans (by rw [hk8] <;> rfl)) rfl (by decide) rfl rfl (Nat.le_of_ble_eq_true rfl) ?_
        refine wi_ic ct_62_0 kc_71 ?_
        refine wi_aload_2 ct_62_2 ?_
        refine wi_cs2 (ls' := [some _, some _, none]) ct_62_3 (Nat.le_of_ble_eq_true rfl) rfl (Nat.le_of_ble_eq_true rfl) ?_
        refine wi_aload_1 ct_9_0 ?_
        refine wi_ic ct_9_1 kc_0 ?_
        refine wi_dup2 ct_9_2 rfl rfl ?_
        refine wi_iald (x := 0) ct_9_3 (sT_21 hS) (sL_21 hS) (by decide) kn_c0 up2_eq ?_
        refine wi_ic ct_9_4 kc_1 ?_
        refine wi_iadd (z := 1) ct_9_5 (by decide) ?_
        refine wi_iast ct_9_6 (sT_21 hS) (sL_21 hS) (by decide) kn_c0 ?_
        refine wi_aload_1 ct_9_7 ?_
        refine wi_ic ct_9_8 kc_0 ?_
        refine wi_iald (x := 1) ct_9_9 (sT_21 hS) (sL_21 hS) (by decide) kn_c0 up2_eq ?_
        refine wi_istore_2 rfl ct_9_10 ?_
        refine wi_iload_2 ct_9_11 ?_
        refine wi_ifle_f ct_9_12 ki_1 (by decide) ?_
        refine wi_iload_2 ct_9_15 ?_
        refine wi_aload_1 ct_9_16 ?_
        refine wi_len (z := 21) ct_9_17 (sT_21 hS) (by decide) (sL_21 hS) (by decide) ?_
        refine wi_icge_f ct_9_18 ki_1 ki_21 (by decide) ?_
        refine wi_aload_1 ct_9_21 ?_
        refine wi_iload_2 ct_9_22 ?_
        refine wi_iload_0 ct_9_23 ?_
        refine wi_iast ct_9_24 (sT_21 hS) (sL_21 hS) (by decide) kn_c1 ?_
        refine wi_ret ct_9_25 (wk_v ?_)
        refine wi_aload_0 ct_62_6 ?_
        refine wi_iload_1 ct_62_7 ?_
        refine wi_aload_2 ct_62_8 ?_
        refine wi_cp2 (ls' := [some _, some _, some _]) ct_62_9 (Nat.le_of_ble_eq_true rfl) (ot.trans (by rw [hk8] <;> rfl)) (by decide) rfl (Nat.le_of_ble_eq_true rfl) ?_
        refine wi_ic ct_6_0 kc_10 ?_
        refine wi_aload_2 ct_6_2 ?_
        refine wi_cs2 (ls' := [some _, some _, none]) ct_6_3 (Nat.le_of_ble_eq_true rfl) rfl (Nat.le_of_ble_eq_true rfl) ?_
        refine wi_aload_1 ct_9_0 ?_
        refine wi_ic ct_9_1 kc_0 ?_
        refine wi_dup2 ct_9_2 rfl rfl ?_
        refine wi_iald (x := 1) ct_9_3 (sT_21 hS) (sL_21 hS) (by decide) kn_c0 (Eq.trans (up2_nj (by decide)) up2_eq) ?_
        refine wi_ic ct_9_4 kc_1 ?_
        refine wi_iadd (z := 2) ct_9_5 (by decide) ?_
        refine wi_iast ct_9_6 (sT_21 hS) (sL_21 hS) (by decide) kn_c0 ?_
        refine wi_aload_1 ct_9_7 ?_
        refine wi_ic ct_9_8 kc_0 ?_
        refine wi_iald (x := 2) ct_9_9 (sT_21 hS) (sL_21 hS) (by decide) kn_c0 up2_eq ?_
        refine wi_istore_2 rfl ct_9_10 ?_
        refine wi_iload_2 ct_9_11 ?_
        refine wi_ifle_f ct_9_12 ki_2 (by decide) ?_
        refine wi_iload_2 ct_9_15 ?_
        refine wi_aload_1 ct_9_16 ?_
        refine wi_len (z := 21) ct_9_17 (sT_21 hS) (by decide) (sL_21 hS) (by decide) ?_
        refine wi_icge_f ct_9_18 ki_2 ki_21 (by decide) ?_
        refine wi_aload_1 ct_9_21 ?_
        refine wi_iload_2 ct_9_22 ?_
        refine wi_iload_0 ct_9_23 ?_
        refine wi_iast ct_9_24 (sT_21 hS) (sL_21 hS) (by decide) kn_c2 ?_
        refine wi_ret ct_9_25 (wk_v ?_)
        refine wi_iload_1 ct_6_6 ?_
        refine wi_aload_0 ct_6_7 ?_
        refine wi_gf (x := a1) ct_6_8 (ot.trans (by rw [hk8] <;> rfl)) rfl rfl (Eq.trans (up2_nq (dn o72 (by decide))) (Eq.trans (up2_nq (dn o72 (by decide))) (Eq.trans (up2_nq (dn o72 (by decide))) (Eq.trans (up2_nq (dn o72 (by decide))) (Eq.trans (up2_nq (dn o72 (by decide))) hpn))))) ?_
        refine wi_iadd ct_6_11 rfl ?_
        refine wi_iret ct_6_12 rfl (wk_i ?_)
        refine wi_aload_0 ct_62_12 ?_
        refine wi_gf (x := fi 33 B) ct_62_13 (ot.trans (by rw [hk8] <;> rfl)) rfl rfl (Eq.trans (up2_nq (dn o72 (by decide))) (Eq.trans (up2_nq (dn o72 (by decide))) (Eq.trans (up2_nq (dn o72 (by decide))) (Eq.trans (up2_nq (dn o72 (by decide))) (Eq.trans (up2_nq (dn o72 (by decide))) ov))))) ?_
        refine wi_ixor ct_62_16 rfl ?_
        refine wi_iret ct_62_17 rfl (wk_i ?_)
        refine wi_iret ct_95_58 rfl (wk_i ?_)
        refine wi_aload_2 ct_211_1043 ?_
        refine wi_aloadT_0 ct_211_1044 ?_
        refine wi_iload_3 ct_211_1045 ?_
        refine wi_ic ct_211_1046 kc_1 ?_
        refine wi_iadd ct_211_1047 rfl ?_
        refine wi_ialdT (j := I + 1) (x := a1) ct_211_1048 (sL_SC hS) (i_in (i_add hi ki_1 (by omega)) (by omega)) (i_cl (i_add hi ki_1 (by omega)) (by omega)) ((Eq.trans (up2_nq (by decide)) (Eq.trans (up2_nq (by decide)) (Eq.trans (up2_nq (by decide)) (Eq.trans (up2_nq (by decide)) (Eq.trans (up2_nq (by decide)) ((hsc _).trans e1))))))) ?_
        refine wi_aloadT_0 ct_211_1049 ?_
        refine wi_iload_3 ct_211_1050 ?_
        refine wi_ic ct_211_1051 kc_2 ?_
        refine wi_iadd ct_211_1052 rfl ?_
        refine wi_ialdT (j := I + 2) (x := a2) ct_211_1053 (sL_SC hS) (i_in (i_add hi ki_2 (by omega)) (by omega)) (i_cl (i_add hi ki_2 (by omega)) (by omega)) ((Eq.trans (up2_nq (by decide)) (Eq.trans (up2_nq (by decide)) (Eq.trans (up2_nq (by decide)) (Eq.trans (up2_nq (by decide)) (Eq.trans (up2_nq (by decide)) ((hsc _).trans e2))))))) ?_
        refine wi_aloadT_0 ct_211_1054 ?_
        refine wi_iload_3 ct_211_1055 ?_
        refine wi_ic ct_211_1056 kc_3 ?_
        refine wi_iadd ct_211_1057 rfl ?_
        refine wi_ialdT (j := I + 3) (x := a3) ct_211_1058 (sL_SC hS) (i_in (i_add hi ki_3 (by omega)) (by omega)) (i_cl (i_add hi ki_3 (by omega)) (by omega)) ((Eq.trans (up2_nq (by decide)) (Eq.trans (up2_nq (by decide)) (Eq.trans (up2_nq (by decide)) (Eq.trans (up2_nq (by decide)) (Eq.trans (up2_nq (by decide)) ((hsc _).trans e3))))))) ?_
        refine wi_cv3 (ls' := [some _, some _, some _, some _]) ct_211_1059 (Nat.le_of_ble_eq_true rfl) (by decide) (sT_31 hS) rfl (by decide) rfl rfl (Nat.le_of_ble_eq_true rfl) ?_
        refine wi_aload_0 ct_190_0 ?_
        refine wi_ic ct_190_1 kc_0 ?_
        refine wi_pf ct_190_2 (sT_31 hS) rfl ?_
        refine wi_aload_0 ct_190_5 ?_
        refine wi_iload_1 ct_190_6 ?_
        refine wi_cv1 (ls' := [some _, some _]) ct_190_7 (Nat.le_of_ble_eq_true rfl) (by decide) (sT_31 hS) rfl (by decide) rfl rfl (Nat.le_of_ble_eq_true rfl) ?_
        refine wi_aload_0 ct_120_0 ?_
        refine wi_iload_1 ct_120_1 ?_
        refine wi_ic ct_120_2 kc_0 ?_
        refine wi_aload_0 ct_120_3 ?_
        refine wi_gf (x := fi 31 0) ct_120_4 (sT_31 hS) rfl rfl (Eq.trans (up2_nj (by decide)) (Eq.trans (up2_nq (by decide)) (Eq.trans (up2_nq (by decide)) (Eq.trans (up2_nq (by decide)) (Eq.trans (up2_nq (by decide)) (up2_nq (by decide))))))) ?_
        refine wi_ic ct_120_7 kc_1 ?_
        refine wi_isub ct_120_8 rfl ?_
        refine wi_cv3 (ls' := [some _, some _, some _, some _]) ct_120_9 (Nat.le_of_ble_eq_true rfl) (by decide) (sT_31 hS) rfl (by decide) rfl rfl (Nat.le_of_ble_eq_true rfl) ?_
        refine c_in hBn ki_0 (i_sub rfl ki_1 (by omega)) (fun _ => wk_i ?_) (fun h => absurd h (by omega))
        refine wi_iret ct_120_12 (by decide) (wk_i ?_)
        refine wi_ifeq_f ct_190_10 ki_1 (by decide) ?_
        refine wi_aload_0 ct_190_13 ?_
        refine wi_iload_2 ct_190_14 ?_
        refine wi_ic ct_190_15 kc_0 ?_
        refine wi_ic ct_190_16 kc_2 ?_
        refine wi_cv3 (ls' := [some _, some _, some _, some _]) ct_190_17 (Nat.le_of_ble_eq_true rfl) (by decide) (sT_31 hS) rfl (by decide) rfl rfl (Nat.le_of_ble_eq_true rfl) ?_
        refine c_in rfl ki_0 ki_2 (fun _ => wk_i ?_) (fun h => absurd h (by omega))
        refine wi_ifne_t ct_190_20 ki_1 (by decide) ?_
        refine wi_iload_2 ct_190_25 ?_
        refine wi_ifne_f ct_190_26 rfl (by omega) ?_
        refine wi_aload_0 ct_190_29 ?_
        refine wi_iload_1 ct_190_30 ?_
        refine wi_iload_3 ct_190_31 ?_
        refine wi_cv2 (ls' := [some _, some _, some _]) ct_190_32 (Nat.le_of_ble_eq_true rfl) (by decide) (sT_31 hS) rfl (by decide) rfl rfl (Nat.le_of_ble_eq_true rfl) ?_
        refine wi_aload_0 ct_184_0 ?_
        refine wi_gfr ct_184_1 (sT_31 hS) rfl (sR_31_2 hS) ?_
        refine wi_iload_1 ct_184_4 ?_
        refine wi_iald (x := fi 32 B) ct_184_5 (sT_32 hS) (sL_32 hS) (i_in hBn (by omega)) (i_cl (k := B) hBn (by omega)) (Eq.trans (up2_nq (by decide)) (Eq.trans (up2_nq (by decide)) (Eq.trans (up2_nq (by decide)) (Eq.trans (up2_nq (by decide)) (Eq.trans (up2_nq (by decide)) (up2_nq (by decide))))))) ?_
        refine wi_tsw (X := 6) (t := 69) ct_184_6 (by omega) rfl ?_
        refine wi_aload_0 ct_184_69 ?_
        refine wi_ic ct_184_70 kc_71 ?_
        refine wi_cv1 (ls' := [some _, some _]) ct_184_72 (Nat.le_of_ble_eq_true rfl) (by decide) (sT_31 hS) rfl (by decide) rfl rfl (Nat.le_of_ble_eq_true rfl) ?_
        refine wi_aload_0 ct_182_0 ?_
        refine wi_gf (x := 0) ct_182_1 (sT_31 hS) rfl rfl up2_eq ?_
        refine wi_ic ct_182_4 kc_20 ?_
        refine wi_icge_f ct_182_6 ki_0 ki_20 (by decide) ?_
        refine wi_aload_0 ct_182_9 ?_
        refine wi_gfr ct_182_10 (sT_31 hS) rfl (sR_31_66 hS) ?_
        refine wi_aload_0 ct_182_13 ?_
        refine wi_gf (x := 0) ct_182_14 (sT_31 hS) rfl rfl up2_eq ?_
        refine wi_iload_1 ct_182_17 ?_
        refine wi_iast ct_182_18 (sT_67 hS) (sL_67 hS) (by decide) kn_c0 ?_
        refine wi_aload_0 ct_182_19 ?_
        refine wi_dup ct_182_20 rfl ?_
        refine wi_gf (x := 0) ct_182_21 (sT_31 hS) rfl rfl (Eq.trans (up2_nq (by decide)) up2_eq) ?_
        refine wi_ic ct_182_24 kc_1 ?_
        refine wi_iadd (z := 1) ct_182_25 (by decide) ?_
        refine wi_pf ct_182_26 (sT_31 hS) rfl ?_
        refine wi_ret ct_182_29 (wk_v ?_)
        refine wi_aload_0 ct_184_75 ?_
        refine wi_iload_1 ct_184_76 ?_
        refine wi_iload_2 ct_184_77 ?_
        refine wi_cv2 (ls' := [some _, some _, some _]) ct_184_78 (Nat.le_of_ble_eq_true rfl) (by decide) (sT_31 hS) rfl (by decide) rfl rfl (Nat.le_of_ble_eq_true rfl) ?_
        refine wi_aload_0 ct_183_0 ?_
        refine wi_ic ct_183_1 kc_10 ?_
        refine wi_cv1 (ls' := [some _, some _]) ct_183_3 (Nat.le_of_ble_eq_true rfl) (by decide) (sT_31 hS) rfl (by decide) rfl rfl (Nat.le_of_ble_eq_true rfl) ?_
        refine wi_aload_0 ct_182_0 ?_
        refine wi_gf (x := 1) ct_182_1 (sT_31 hS) rfl rfl up2_eq ?_
        refine wi_ic ct_182_4 kc_20 ?_
        refine wi_icge_f ct_182_6 ki_1 ki_20 (by decide) ?_
        refine wi_aload_0 ct_182_9 ?_
        refine wi_gfr ct_182_10 (sT_31 hS) rfl (sR_31_66 hS) ?_
        refine wi_aload_0 ct_182_13 ?_
        refine wi_gf (x := 1) ct_182_14 (sT_31 hS) rfl rfl up2_eq ?_
        refine wi_iload_1 ct_182_17 ?_
        refine wi_iast ct_182_18 (sT_67 hS) (sL_67 hS) (by decide) kn_c1 ?_
        refine wi_aload_0 ct_182_19 ?_
        refine wi_dup ct_182_20 rfl ?_
        refine wi_gf (x := 1) ct_182_21 (sT_31 hS) rfl rfl (Eq.trans (up2_nq (by decide)) up2_eq) ?_
        refine wi_ic ct_182_24 kc_1 ?_
        refine wi_iadd (z := 2) ct_182_25 (by decide) ?_
        refine wi_pf ct_182_26 (sT_31 hS) rfl ?_
        refine wi_ret ct_182_29 (wk_v ?_)
        refine wi_iload_2 ct_183_6 ?_
        refine wi_iload_1 ct_183_7 ?_
        refine wi_iadd ct_183_8 rfl ?_
        refine wi_iret ct_183_9 rfl (wk_i ?_)
        refine wi_aload_0 ct_184_81 ?_
        refine wi_gfr ct_184_82 (sT_31 hS) rfl (sR_31_3 hS) ?_
        refine wi_iload_1 ct_184_85 ?_
        refine wi_iald (x := fi 33 B) ct_184_86 (sT_33 hS) (sL_33 hS) (i_in hBn (by omega)) (i_cl (k := B) hBn (by omega)) (Eq.trans (up2_nq (by decide)) (Eq.trans (up2_nq (by decide)) (Eq.trans (up2_nq (by decide)) (Eq.trans (up2_nq (by decide)) (Eq.trans (up2_nq (by decide)) (Eq.trans (up2_nq (by decide)) (Eq.trans (up2_nq (by decide)) (Eq.trans (up2_nq (by decide)) (Eq.trans (up2_nq (by decide)) (up2_nq (by decide))))))))))) ?_
        refine wi_ixor ct_184_87 rfl ?_
        refine wi_iret ct_184_88 rfl (wk_i ?_)
        refine wi_goto ct_190_35 ?_
        refine wi_iret ct_190_58 rfl (wk_i ?_)
        refine wi_iceq_t ct_211_1062 rfl rfl (by omega) ?_
        refine kk own g _ fl (hR.act (fun q h1 h2 h3 => (Eq.trans (funext fun _ => up2_nq h2) (Eq.trans (funext fun _ => up2_nq h3) (Eq.trans (funext fun _ => up2_nq h2) (Eq.trans (funext fun _ => up2_nq h3) (Eq.trans (funext fun _ => up2_nq h2) (Eq.trans (funext fun _ => up2_nq h1) (Eq.trans (funext fun _ => up2_nq h1) (Eq.trans (funext fun _ => up2_nq h1) (Eq.trans (funext fun _ => up2_nq h1) (funext fun _ => up2_nq h1))))))))))) (fun j hj => (Eq.trans (up2_nj hj) (Eq.trans (up2_nq (by decide)) (Eq.trans (up2_nj hj) (Eq.trans (up2_nq (by decide)) (Eq.trans (up2_nj hj) (Eq.trans (up2_nq (by decide)) (Eq.trans (up2_nq (by decide)) (Eq.trans (up2_nq (by decide)) (Eq.trans (up2_nq (by decide)) (up2_nq (by decide)))))))))))) ⟨((Eq.trans (up2_nq (by decide)) (Eq.trans (up2_nq (by decide)) (Eq.trans (up2_nq (by decide)) (Eq.trans (up2_nq (by decide)) (Eq.trans (up2_nq (by decide)) (Eq.trans (up2_nj (by decide)) up2_eq))))))).trans (up2_eq).symm, by rw [up2_eq]; decide, by rw [up2_eq]; decide⟩ ?_) (by omega) (by omega)
        intro j hj hn
        rw [up2_eq] at hn
        replace hn : (j : Int) < 2 := hn
        match j, (by omega : j < 2) with
        | 0, _ => exact ((Eq.trans (up2_nq (by decide)) (Eq.trans (up2_nq (by decide)) (Eq.trans (up2_nq (by decide)) (Eq.trans (up2_nq (by decide)) (Eq.trans (up2_nq (by decide)) (Eq.trans (up2_nj (by decide)) (Eq.trans (up2_nj (by decide)) up2_eq)))))))).trans ((Eq.trans (up2_nq (by decide)) (Eq.trans (up2_nj (by decide)) (Eq.trans (up2_nq (by decide)) up2_eq)))).symm
        | 1, _ => exact ((Eq.trans (up2_nq (by decide)) (Eq.trans (up2_nq (by decide)) (Eq.trans (up2_nq (by decide)) (Eq.trans (up2_nq (by decide)) (Eq.trans (up2_nq (by decide)) up2_eq)))))).trans ((Eq.trans (up2_nq (by decide)) up2_eq)).symm
        | j + 2, h => exact absurd h (by omega)
    rcases Decidable.em ((a2).toInt = 1) with h14 | h14
    · refine wi_tsw (X := 1) (t := 59) ct_95_22 (by omega) rfl ?_
      refine wi_aload_4 ct_95_59 ?_
      refine wi_iload_3 ct_95_61 ?_
      refine wi_aload_0 ct_95_62 ?_
      refine wi_gfr ct_95_63 (sT_0 hS) rfl (sR_0_10 hS) ?_
      rcases am_k7 (k := (fi 32 B).toInt) (by omega) with hk15 | hk16 | hk17 | hk18 | hk19 | hk20 | hk21
      · skip
        refine wi_cv2 (ls' := [some _, some _, some _]) ct_95_66 (Nat.le_of_ble_eq_true rfl) (by decide) (ot.trans (by rw [hk15] <;> rfl)) rfl (by decide) rfl rfl (Nat.le_of_ble_eq_true rfl) ?_
        refine wi_ic ct_7_0 kc_11 ?_
        refine wi_aload_2 ct_7_2 ?_
        refine wi_cs2 (ls' := [some _, some _, none]) ct_7_3 (Nat.le_of_ble_eq_true rfl) rfl (Nat.le_of_ble_eq_true rfl) ?_
        refine wi_aload_1 ct_9_0 ?_
        refine wi_ic ct_9_1 kc_0 ?_
        refine wi_dup2 ct_9_2 rfl rfl ?_
        refine wi_iald (x := 0) ct_9_3 (sT_21 hS) (sL_21 hS) (by decide) kn_c0 up2_eq ?_
        refine wi_ic ct_9_4 kc_1 ?_
        refine wi_iadd (z := 1) ct_9_5 (by decide) ?_
        refine wi_iast ct_9_6 (sT_21 hS) (sL_21 hS) (by decide) kn_c0 ?_
        refine wi_aload_1 ct_9_7 ?_
        refine wi_ic ct_9_8 kc_0 ?_
        refine wi_iald (x := 1) ct_9_9 (sT_21 hS) (sL_21 hS) (by decide) kn_c0 up2_eq ?_
        refine wi_istore_2 rfl ct_9_10 ?_
        refine wi_iload_2 ct_9_11 ?_
        refine wi_ifle_f ct_9_12 ki_1 (by decide) ?_
        refine wi_iload_2 ct_9_15 ?_
        refine wi_aload_1 ct_9_16 ?_
        refine wi_len (z := 21) ct_9_17 (sT_21 hS) (by decide) (sL_21 hS) (by decide) ?_
        refine wi_icge_f ct_9_18 ki_1 ki_21 (by decide) ?_
        refine wi_aload_1 ct_9_21 ?_
        refine wi_iload_2 ct_9_22 ?_
        refine wi_iload_0 ct_9_23 ?_
        refine wi_iast ct_9_24 (sT_21 hS) (sL_21 hS) (by decide) kn_c1 ?_
        refine wi_ret ct_9_25 (wk_v ?_)
        refine wi_aload_0 ct_7_6 ?_
        refine wi_iload_1 ct_7_7 ?_
        refine wi_aload_2 ct_7_8 ?_
        refine wi_cv2 (ls' := [some _, some _, some _]) ct_7_9 (Nat.le_of_ble_eq_true rfl) (by decide) (ot.trans (by rw [hk15] <;> rfl)) rfl (by decide) rfl rfl (Nat.le_of_ble_eq_true rfl) ?_
        refine wi_ic ct_6_0 kc_10 ?_
        refine wi_aload_2 ct_6_2 ?_
        refine wi_cs2 (ls' := [some _, some _, none]) ct_6_3 (Nat.le_of_ble_eq_true rfl) rfl (Nat.le_of_ble_eq_true rfl) ?_
        refine wi_aload_1 ct_9_0 ?_
        refine wi_ic ct_9_1 kc_0 ?_
        refine wi_dup2 ct_9_2 rfl rfl ?_
        refine wi_iald (x := 1) ct_9_3 (sT_21 hS) (sL_21 hS) (by decide) kn_c0 (Eq.trans (up2_nj (by decide)) up2_eq) ?_
        refine wi_ic ct_9_4 kc_1 ?_
        refine wi_iadd (z := 2) ct_9_5 (by decide) ?_
        refine wi_iast ct_9_6 (sT_21 hS) (sL_21 hS) (by decide) kn_c0 ?_
        refine wi_aload_1 ct_9_7 ?_
        refine wi_ic ct_9_8 kc_0 ?_
        refine wi_iald (x := 2) ct_9_9 (sT_21 hS) (sL_21 hS) (by decide) kn_c0 up2_eq ?_
        refine wi_istore_2 rfl ct_9_10 ?_
        refine wi_iload_2 ct_9_11 ?_
        refine wi_ifle_f ct_9_12 ki_2 (by decide) ?_
        refine wi_iload_2 ct_9_15 ?_
        refine wi_aload_1 ct_9_16 ?_
        refine wi_len (z := 21) ct_9_17 (sT_21 hS) (by decide) (sL_21 hS) (by decide) ?_
        refine wi_icge_f ct_9_18 ki_2 ki_21 (by decide) ?_
        refine wi_aload_1 ct_9_21 ?_
        refine wi_iload_2 ct_9_22 ?_
        refine wi_iload_0 ct_9_23 ?_
        refine wi_iast ct_9_24 (sT_21 hS) (sL_21 hS) (by decide) kn_c2 ?_
        refine wi_ret ct_9_25 (wk_v ?_)
        refine wi_iload_1 ct_6_6 ?_
        refine wi_aload_0 ct_6_7 ?_
        refine wi_gf (x := a1) ct_6_8 (ot.trans (by rw [hk15] <;> rfl)) rfl rfl (Eq.trans (up2_nq (dn o72 (by decide))) (Eq.trans (up2_nq (dn o72 (by decide))) (Eq.trans (up2_nq (dn o72 (by decide))) (Eq.trans (up2_nq (dn o72 (by decide))) (Eq.trans (up2_nq (dn o72 (by decide))) hpn))))) ?_
        refine wi_iadd ct_6_11 rfl ?_
        refine wi_iret ct_6_12 rfl (wk_i ?_)
        refine wi_aload_0 ct_7_12 ?_
        refine wi_gf (x := fi 33 B) ct_7_13 (ot.trans (by rw [hk15] <;> rfl)) rfl rfl (Eq.trans (up2_nq (dn o72 (by decide))) (Eq.trans (up2_nq (dn o72 (by decide))) (Eq.trans (up2_nq (dn o72 (by decide))) (Eq.trans (up2_nq (dn o72 (by decide))) (Eq.trans (up2_nq (dn o72 (by decide))) ov))))) ?_
        refine wi_isub ct_7_16 rfl ?_
        refine wi_iret ct_7_17 rfl (wk_i ?_)
        refine wi_iret ct_95_69 rfl (wk_i ?_)
        refine wi_aload_2 ct_211_1043 ?_
        refine wi_aloadT_0 ct_211_1044 ?_
        refine wi_iload_3 ct_211_1045 ?_
        refine wi_ic ct_211_1046 kc_1 ?_
        refine wi_iadd ct_211_1047 rfl ?_
        refine wi_ialdT (j := I + 1) (x := a1) ct_211_1048 (sL_SC hS) (i_in (i_add hi ki_1 (by omega)) (by omega)) (i_cl (i_add hi ki_1 (by omega)) (by omega)) ((Eq.trans (up2_nq (by decide)) (Eq.trans (up2_nq (by decide)) (Eq.trans (up2_nq (by decide)) (Eq.trans (up2_nq (by decide)) (Eq.trans (up2_nq (by decide)) ((hsc _).trans e1))))))) ?_
        refine wi_aloadT_0 ct_211_1049 ?_
        refine wi_iload_3 ct_211_1050 ?_
        refine wi_ic ct_211_1051 kc_2 ?_
        refine wi_iadd ct_211_1052 rfl ?_
        refine wi_ialdT (j := I + 2) (x := a2) ct_211_1053 (sL_SC hS) (i_in (i_add hi ki_2 (by omega)) (by omega)) (i_cl (i_add hi ki_2 (by omega)) (by omega)) ((Eq.trans (up2_nq (by decide)) (Eq.trans (up2_nq (by decide)) (Eq.trans (up2_nq (by decide)) (Eq.trans (up2_nq (by decide)) (Eq.trans (up2_nq (by decide)) ((hsc _).trans e2))))))) ?_
        refine wi_aloadT_0 ct_211_1054 ?_
        refine wi_iload_3 ct_211_1055 ?_
        refine wi_ic ct_211_1056 kc_3 ?_
        refine wi_iadd ct_211_1057 rfl ?_
        refine wi_ialdT (j := I + 3) (x := a3) ct_211_1058 (sL_SC hS) (i_in (i_add hi ki_3 (by omega)) (by omega)) (i_cl (i_add hi ki_3 (by omega)) (by omega)) ((Eq.trans (up2_nq (by decide)) (Eq.trans (up2_nq (by decide)) (Eq.trans (up2_nq (by decide)) (Eq.trans (up2_nq (by decide)) (Eq.trans (up2_nq (by decide)) ((hsc _).trans e3))))))) ?_
        refine wi_cv3 (ls' := [some _, some _, some _, some _]) ct_211_1059 (Nat.le_of_ble_eq_true rfl) (by decide) (sT_31 hS) rfl (by decide) rfl rfl (Nat.le_of_ble_eq_true rfl) ?_
        refine wi_aload_0 ct_190_0 ?_
        refine wi_ic ct_190_1 kc_0 ?_
        refine wi_pf ct_190_2 (sT_31 hS) rfl ?_
        refine wi_aload_0 ct_190_5 ?_
        refine wi_iload_1 ct_190_6 ?_
        refine wi_cv1 (ls' := [some _, some _]) ct_190_7 (Nat.le_of_ble_eq_true rfl) (by decide) (sT_31 hS) rfl (by decide) rfl rfl (Nat.le_of_ble_eq_true rfl) ?_
        refine wi_aload_0 ct_120_0 ?_
        refine wi_iload_1 ct_120_1 ?_
        refine wi_ic ct_120_2 kc_0 ?_
        refine wi_aload_0 ct_120_3 ?_
        refine wi_gf (x := fi 31 0) ct_120_4 (sT_31 hS) rfl rfl (Eq.trans (up2_nj (by decide)) (Eq.trans (up2_nq (by decide)) (Eq.trans (up2_nq (by decide)) (Eq.trans (up2_nq (by decide)) (Eq.trans (up2_nq (by decide)) (up2_nq (by decide))))))) ?_
        refine wi_ic ct_120_7 kc_1 ?_
        refine wi_isub ct_120_8 rfl ?_
        refine wi_cv3 (ls' := [some _, some _, some _, some _]) ct_120_9 (Nat.le_of_ble_eq_true rfl) (by decide) (sT_31 hS) rfl (by decide) rfl rfl (Nat.le_of_ble_eq_true rfl) ?_
        refine c_in hBn ki_0 (i_sub rfl ki_1 (by omega)) (fun _ => wk_i ?_) (fun h => absurd h (by omega))
        refine wi_iret ct_120_12 (by decide) (wk_i ?_)
        refine wi_ifeq_f ct_190_10 ki_1 (by decide) ?_
        refine wi_aload_0 ct_190_13 ?_
        refine wi_iload_2 ct_190_14 ?_
        refine wi_ic ct_190_15 kc_0 ?_
        refine wi_ic ct_190_16 kc_2 ?_
        refine wi_cv3 (ls' := [some _, some _, some _, some _]) ct_190_17 (Nat.le_of_ble_eq_true rfl) (by decide) (sT_31 hS) rfl (by decide) rfl rfl (Nat.le_of_ble_eq_true rfl) ?_
        refine c_in rfl ki_0 ki_2 (fun _ => wk_i ?_) (fun h => absurd h (by omega))
        refine wi_ifne_t ct_190_20 ki_1 (by decide) ?_
        refine wi_iload_2 ct_190_25 ?_
        refine wi_ifne_t ct_190_26 rfl (by omega) ?_
        refine wi_iload_2 ct_190_38 ?_
        refine wi_ic ct_190_39 kc_1 ?_
        refine wi_icne_f ct_190_40 rfl ki_1 (by omega) ?_
        refine wi_aload_0 ct_190_43 ?_
        refine wi_iload_1 ct_190_44 ?_
        refine wi_iload_3 ct_190_45 ?_
        refine wi_cv2 (ls' := [some _, some _, some _, none]) ct_190_46 (Nat.le_of_ble_eq_true rfl) (by decide) (sT_31 hS) rfl (by decide) rfl rfl (Nat.le_of_ble_eq_true rfl) ?_
        refine wi_aload_0 ct_187_0 ?_
        refine wi_gfr ct_187_1 (sT_31 hS) rfl (sR_31_2 hS) ?_
        refine wi_iload_1 ct_187_4 ?_
        refine wi_iald (x := fi 32 B) ct_187_5 (sT_32 hS) (sL_32 hS) (i_in hBn (by omega)) (i_cl (k := B) hBn (by omega)) (Eq.trans (up2_nq (by decide)) (Eq.trans (up2_nq (by decide)) (Eq.trans (up2_nq (by decide)) (Eq.trans (up2_nq (by decide)) (Eq.trans (up2_nq (by decide)) (up2_nq (by decide))))))) ?_
        refine wi_lsw (X := 0) (t := 84) ct_187_6 (by omega) (by decide) ?_
        refine wi_aload_0 ct_187_84 ?_
        refine wi_iload_1 ct_187_85 ?_
        refine wi_iload_2 ct_187_86 ?_
        refine wi_cv2 (ls' := [some _, some _, some _]) ct_187_87 (Nat.le_of_ble_eq_true rfl) (by decide) (sT_31 hS) rfl (by decide) rfl rfl (Nat.le_of_ble_eq_true rfl) ?_
        refine wi_aload_0 ct_185_0 ?_
        refine wi_ic ct_185_1 kc_11 ?_
        refine wi_cv1 (ls' := [some _, some _]) ct_185_3 (Nat.le_of_ble_eq_true rfl) (by decide) (sT_31 hS) rfl (by decide) rfl rfl (Nat.le_of_ble_eq_true rfl) ?_
        refine wi_aload_0 ct_182_0 ?_
        refine wi_gf (x := 0) ct_182_1 (sT_31 hS) rfl rfl up2_eq ?_
        refine wi_ic ct_182_4 kc_20 ?_
        refine wi_icge_f ct_182_6 ki_0 ki_20 (by decide) ?_
        refine wi_aload_0 ct_182_9 ?_
        refine wi_gfr ct_182_10 (sT_31 hS) rfl (sR_31_66 hS) ?_
        refine wi_aload_0 ct_182_13 ?_
        refine wi_gf (x := 0) ct_182_14 (sT_31 hS) rfl rfl up2_eq ?_
        refine wi_iload_1 ct_182_17 ?_
        refine wi_iast ct_182_18 (sT_67 hS) (sL_67 hS) (by decide) kn_c0 ?_
        refine wi_aload_0 ct_182_19 ?_
        refine wi_dup ct_182_20 rfl ?_
        refine wi_gf (x := 0) ct_182_21 (sT_31 hS) rfl rfl (Eq.trans (up2_nq (by decide)) up2_eq) ?_
        refine wi_ic ct_182_24 kc_1 ?_
        refine wi_iadd (z := 1) ct_182_25 (by decide) ?_
        refine wi_pf ct_182_26 (sT_31 hS) rfl ?_
        refine wi_ret ct_182_29 (wk_v ?_)
        refine wi_aload_0 ct_185_6 ?_
        refine wi_iload_1 ct_185_7 ?_
        refine wi_iload_2 ct_185_8 ?_
        refine wi_cv2 (ls' := [some _, some _, some _]) ct_185_9 (Nat.le_of_ble_eq_true rfl) (by decide) (sT_31 hS) rfl (by decide) rfl rfl (Nat.le_of_ble_eq_true rfl) ?_
        refine wi_aload_0 ct_184_0 ?_
        refine wi_gfr ct_184_1 (sT_31 hS) rfl (sR_31_2 hS) ?_
        refine wi_iload_1 ct_184_4 ?_
        refine wi_iald (x := fi 32 B) ct_184_5 (sT_32 hS) (sL_32 hS) (i_in hBn (by omega)) (i_cl (k := B) hBn (by omega)) (Eq.trans (up2_nq (by decide)) (Eq.trans (up2_nq (by decide)) (Eq.trans (up2_nq (by decide)) (Eq.trans (up2_nq (by decide)) (Eq.trans (up2_nq (by decide)) (Eq.trans (up2_nq (by decide)) (Eq.trans (up2_nq (by decide)) (up2_nq (by decide))))))))) ?_
        refine wi_tsw (t := 89) ct_184_6 rfl ((am_tswD (by omega)).trans rfl) ?_
        refine wi_aload_0 ct_184_89 ?_
        refine wi_iload_1 ct_184_90 ?_
        refine wi_iload_2 ct_184_91 ?_
        refine wi_cv2 (ls' := [some _, some _, some _]) ct_184_92 (Nat.le_of_ble_eq_true rfl) (by decide) (sT_31 hS) rfl (by decide) rfl rfl (Nat.le_of_ble_eq_true rfl) ?_
        refine wi_aload_0 ct_183_0 ?_
        refine wi_ic ct_183_1 kc_10 ?_
        refine wi_cv1 (ls' := [some _, some _]) ct_183_3 (Nat.le_of_ble_eq_true rfl) (by decide) (sT_31 hS) rfl (by decide) rfl rfl (Nat.le_of_ble_eq_true rfl) ?_
        refine wi_aload_0 ct_182_0 ?_
        refine wi_gf (x := 1) ct_182_1 (sT_31 hS) rfl rfl up2_eq ?_
        refine wi_ic ct_182_4 kc_20 ?_
        refine wi_icge_f ct_182_6 ki_1 ki_20 (by decide) ?_
        refine wi_aload_0 ct_182_9 ?_
        refine wi_gfr ct_182_10 (sT_31 hS) rfl (sR_31_66 hS) ?_
        refine wi_aload_0 ct_182_13 ?_
        refine wi_gf (x := 1) ct_182_14 (sT_31 hS) rfl rfl up2_eq ?_
        refine wi_iload_1 ct_182_17 ?_
        refine wi_iast ct_182_18 (sT_67 hS) (sL_67 hS) (by decide) kn_c1 ?_
        refine wi_aload_0 ct_182_19 ?_
        refine wi_dup ct_182_20 rfl ?_
        refine wi_gf (x := 1) ct_182_21 (sT_31 hS) rfl rfl (Eq.trans (up2_nq (by decide)) up2_eq) ?_
        refine wi_ic ct_182_24 kc_1 ?_
        refine wi_iadd (z := 2) ct_182_25 (by decide) ?_
        refine wi_pf ct_182_26 (sT_31 hS) rfl ?_
        refine wi_ret ct_182_29 (wk_v ?_)
        refine wi_iload_2 ct_183_6 ?_
        refine wi_iload_1 ct_183_7 ?_
        refine wi_iadd ct_183_8 rfl ?_
        refine wi_iret ct_183_9 rfl (wk_i ?_)
        refine wi_iret ct_184_95 rfl (wk_i ?_)
        refine wi_aload_0 ct_185_12 ?_
        refine wi_gfr ct_185_13 (sT_31 hS) rfl (sR_31_3 hS) ?_
        refine wi_iload_1 ct_185_16 ?_
        refine wi_iald (x := fi 33 B) ct_185_17 (sT_33 hS) (sL_33 hS) (i_in hBn (by omega)) (i_cl (k := B) hBn (by omega)) (Eq.trans (up2_nq (by decide)) (Eq.trans (up2_nq (by decide)) (Eq.trans (up2_nq (by decide)) (Eq.trans (up2_nq (by decide)) (Eq.trans (up2_nq (by decide)) (Eq.trans (up2_nq (by decide)) (Eq.trans (up2_nq (by decide)) (Eq.trans (up2_nq (by decide)) (Eq.trans (up2_nq (by decide)) (up2_nq (by decide))))))))))) ?_
        refine wi_isub ct_185_18 rfl ?_
        refine wi_iret ct_185_19 rfl (wk_i ?_)
        refine wi_iret ct_187_90 rfl (wk_i ?_)
        refine wi_goto ct_190_49 ?_
        refine wi_iret ct_190_58 rfl (wk_i ?_)
        refine wi_iceq_t ct_211_1062 rfl rfl (by omega) ?_
        refine kk own g _ fl (hR.act (fun q h1 h2 h3 => (Eq.trans (funext fun _ => up2_nq h2) (Eq.trans (funext fun _ => up2_nq h3) (Eq.trans (funext fun _ => up2_nq h2) (Eq.trans (funext fun _ => up2_nq h3) (Eq.trans (funext fun _ => up2_nq h2) (Eq.trans (funext fun _ => up2_nq h1) (Eq.trans (funext fun _ => up2_nq h1) (Eq.trans (funext fun _ => up2_nq h1) (Eq.trans (funext fun _ => up2_nq h1) (funext fun _ => up2_nq h1))))))))))) (fun j hj => (Eq.trans (up2_nj hj) (Eq.trans (up2_nq (by decide)) (Eq.trans (up2_nj hj) (Eq.trans (up2_nq (by decide)) (Eq.trans (up2_nj hj) (Eq.trans (up2_nq (by decide)) (Eq.trans (up2_nq (by decide)) (Eq.trans (up2_nq (by decide)) (Eq.trans (up2_nq (by decide)) (up2_nq (by decide)))))))))))) ⟨((Eq.trans (up2_nq (by decide)) (Eq.trans (up2_nq (by decide)) (Eq.trans (up2_nq (by decide)) (Eq.trans (up2_nq (by decide)) (Eq.trans (up2_nq (by decide)) (Eq.trans (up2_nj (by decide)) up2_eq))))))).trans (up2_eq).symm, by rw [up2_eq]; decide, by rw [up2_eq]; decide⟩ ?_) (by omega) (by omega)
        intro j hj hn
        rw [up2_eq] at hn
        replace hn : (j : Int) < 2 := hn
        match j, (by omega : j < 2) with
        | 0, _ => exact ((Eq.trans (up2_nq (by decide)) (Eq.trans (up2_nq (by decide)) (Eq.trans (up2_nq (by decide)) (Eq.trans (up2_nq (by decide)) (Eq.trans (up2_nq (by decide)) (Eq.trans (up2_nj (by decide)) (Eq.trans (up2_nj (by decide)) up2_eq)))))))).trans ((Eq.trans (up2_nq (by decide)) (Eq.trans (up2_nj (by decide)) (Eq.trans (up2_nq (by decide)) up2_eq)))).symm
        | 1, _ => exact ((Eq.trans (up2_nq (by decide)) (Eq.trans (up2_nq (by decide)) (Eq.trans (up2_nq (by decide)) (Eq.trans (up2_nq (by decide)) (Eq.trans (up2_nq (by decide)) up2_eq)))))).trans ((Eq.trans (up2_nq (by decide)) up2_eq)).symm
        | j + 2, h => exact absurd h (by omega)
      · skip
        refine wi_cv2 (ls' := [some _, some _, some _]) ct_95_66 (Nat.le_of_ble_eq_true rfl) (by decide) (ot.trans (by rw [hk16] <;> rfl)) rfl (by decide) rfl rfl (Nat.le_of_ble_eq_true rfl) ?_
        refine wi_ic ct_12_0 kc_20 ?_
        refine wi_aload_2 ct_12_2 ?_
        refine wi_cs2 (ls' := [some _, some _, none]) ct_12_3 (Nat.le_of_ble_eq_true rfl) rfl (Nat.le_of_ble_eq_true rfl) ?_
        refine wi_aload_1 ct_9_0 ?_
        refine wi_ic ct_9_1 kc_0 ?_
        refine wi_dup2 ct_9_2 rfl rfl ?_
        refine wi_iald (x := 0) ct_9_3 (sT_21 hS) (sL_21 hS) (by decide) kn_c0 up2_eq ?_
        refine wi_ic ct_9_4 kc_1 ?_
        refine wi_iadd (z := 1) ct_9_5 (by decide) ?_
        refine wi_iast ct_9_6 (sT_21 hS) (sL_21 hS) (by decide) kn_c0 ?_
        refine wi_aload_1 ct_9_7 ?_
        refine wi_ic ct_9_8 kc_0 ?_
        refine wi_iald (x := 1) ct_9_9 (sT_21 hS) (sL_21 hS) (by decide) kn_c0 up2_eq ?_
        refine wi_istore_2 rfl ct_9_10 ?_
        refine wi_iload_2 ct_9_11 ?_
        refine wi_ifle_f ct_9_12 ki_1 (by decide) ?_
        refine wi_iload_2 ct_9_15 ?_
        refine wi_aload_1 ct_9_16 ?_
        refine wi_len (z := 21) ct_9_17 (sT_21 hS) (by decide) (sL_21 hS) (by decide) ?_
        refine wi_icge_f ct_9_18 ki_1 ki_21 (by decide) ?_
        refine wi_aload_1 ct_9_21 ?_
        refine wi_iload_2 ct_9_22 ?_
        refine wi_iload_0 ct_9_23 ?_
        refine wi_iast ct_9_24 (sT_21 hS) (sL_21 hS) (by decide) kn_c1 ?_
        refine wi_ret ct_9_25 (wk_v ?_)
        refine wi_aload_0 ct_12_6 ?_
        refine wi_iload_1 ct_12_7 ?_
        refine wi_aload_2 ct_12_8 ?_
        refine wi_cp2 (ls' := [some _, some _, some _]) ct_12_9 (Nat.le_of_ble_eq_true rfl) (ot.trans (by rw [hk16] <;> rfl)) (by decide) rfl (Nat.le_of_ble_eq_true rfl) ?_
        refine wi_ic ct_7_0 kc_11 ?_
        refine wi_aload_2 ct_7_2 ?_
        refine wi_cs2 (ls' := [some _, some _, none]) ct_7_3 (Nat.le_of_ble_eq_true rfl) rfl (Nat.le_of_ble_eq_true rfl) ?_
        refine wi_aload_1 ct_9_0 ?_
        refine wi_ic ct_9_1 kc_0 ?_
        refine wi_dup2 ct_9_2 rfl rfl ?_
        refine wi_iald (x := 1) ct_9_3 (sT_21 hS) (sL_21 hS) (by decide) kn_c0 (Eq.trans (up2_nj (by decide)) up2_eq) ?_
        refine wi_ic ct_9_4 kc_1 ?_
        refine wi_iadd (z := 2) ct_9_5 (by decide) ?_
        refine wi_iast ct_9_6 (sT_21 hS) (sL_21 hS) (by decide) kn_c0 ?_
        refine wi_aload_1 ct_9_7 ?_
        refine wi_ic ct_9_8 kc_0 ?_
        refine wi_iald (x := 2) ct_9_9 (sT_21 hS) (sL_21 hS) (by decide) kn_c0 up2_eq ?_
        refine wi_istore_2 rfl ct_9_10 ?_
        refine wi_iload_2 ct_9_11 ?_
        refine wi_ifle_f ct_9_12 ki_2 (by decide) ?_
        refine wi_iload_2 ct_9_15 ?_
        refine wi_aload_1 ct_9_16 ?_
        refine wi_len (z := 21) ct_9_17 (sT_21 hS) (by decide) (sL_21 hS) (by decide) ?_
        refine wi_icge_f ct_9_18 ki_2 ki_21 (by decide) ?_
        refine wi_aload_1 ct_9_21 ?_
        refine wi_iload_2 ct_9_22 ?_
        refine wi_iload_0 ct_9_23 ?_
        refine wi_iast ct_9_24 (sT_21 hS) (sL_21 hS) (by decide) kn_c2 ?_
        refine wi_ret ct_9_25 (wk_v ?_)
        refine wi_aload_0 ct_7_6 ?_
        refine wi_iload_1 ct_7_7 ?_
        refine wi_aload_2 ct_7_8 ?_
        refine wi_cv2 (ls' := [some _, some _, some _]) ct_7_9 (Nat.le_of_ble_eq_true rfl) (by decide) (ot.trans (by rw [hk16] <;> rfl)) rfl (by decide) rfl rfl (Nat.le_of_ble_eq_true rfl) ?_
        refine wi_ic ct_6_0 kc_10 ?_
        refine wi_aload_2 ct_6_2 ?_
        refine wi_cs2 (ls' := [some _, some _, none]) ct_6_3 (Nat.le_of_ble_eq_true rfl) rfl (Nat.le_of_ble_eq_true rfl) ?_
        refine wi_aload_1 ct_9_0 ?_
        refine wi_ic ct_9_1 kc_0 ?_
        refine wi_dup2 ct_9_2 rfl rfl ?_
        refine wi_iald (x := 2) ct_9_3 (sT_21 hS) (sL_21 hS) (by decide) kn_c0 (Eq.trans (up2_nj (by decide)) up2_eq) ?_
        refine wi_ic ct_9_4 kc_1 ?_
        refine wi_iadd (z := 3) ct_9_5 (by decide) ?_
        refine wi_iast ct_9_6 (sT_21 hS) (sL_21 hS) (by decide) kn_c0 ?_
        refine wi_aload_1 ct_9_7 ?_
        refine wi_ic ct_9_8 kc_0 ?_
        refine wi_iald (x := 3) ct_9_9 (sT_21 hS) (sL_21 hS) (by decide) kn_c0 up2_eq ?_
        refine wi_istore_2 rfl ct_9_10 ?_
        refine wi_iload_2 ct_9_11 ?_
        refine wi_ifle_f ct_9_12 ki_3 (by decide) ?_
        refine wi_iload_2 ct_9_15 ?_
        refine wi_aload_1 ct_9_16 ?_
        refine wi_len (z := 21) ct_9_17 (sT_21 hS) (by decide) (sL_21 hS) (by decide) ?_
        refine wi_icge_f ct_9_18 ki_3 ki_21 (by decide) ?_
        refine wi_aload_1 ct_9_21 ?_
        refine wi_iload_2 ct_9_22 ?_
        refine wi_iload_0 ct_9_23 ?_
        refine wi_iast ct_9_24 (sT_21 hS) (sL_21 hS) (by decide) kn_c3 ?_
        refine wi_ret ct_9_25 (wk_v ?_)
        refine wi_iload_1 ct_6_6 ?_
        refine wi_aload_0 ct_6_7 ?_
        refine wi_gf (x := a1) ct_6_8 (ot.trans (by rw [hk16] <;> rfl)) rfl rfl (Eq.trans (up2_nq (dn o72 (by decide))) (Eq.trans (up2_nq (dn o72 (by decide))) (Eq.trans (up2_nq (dn o72 (by decide))) (Eq.trans (up2_nq (dn o72 (by decide))) (Eq.trans (up2_nq (dn o72 (by decide))) (Eq.trans (up2_nq (dn o72 (by decide))) (Eq.trans (up2_nq (dn o72 (by decide))) hpn))))))) ?_
        refine wi_iadd ct_6_11 rfl ?_
        refine wi_iret ct_6_12 rfl (wk_i ?_)
        refine wi_aload_0 ct_7_12 ?_
        refine wi_gf (x := fi 33 B) ct_7_13 (ot.trans (by rw [hk16] <;> rfl)) rfl rfl (Eq.trans (up2_nq (dn o72 (by decide))) (Eq.trans (up2_nq (dn o72 (by decide))) (Eq.trans (up2_nq (dn o72 (by decide))) (Eq.trans (up2_nq (dn o72 (by decide))) (Eq.trans (up2_nq (dn o72 (by decide))) (Eq.trans (up2_nq (dn o72 (by decide))) (Eq.trans (up2_nq (dn o72 (by decide))) ov))))))) ?_
        refine wi_isub ct_7_16 rfl ?_
        refine wi_iret ct_7_17 rfl (wk_i ?_)
        refine wi_ic ct_12_12 kc_6 ?_
        refine wi_ixor ct_12_14 rfl ?_
        refine wi_iret ct_12_15 rfl (wk_i ?_)
        refine wi_iret ct_95_69 rfl (wk_i ?_)
        refine wi_aload_2 ct_211_1043 ?_
        refine wi_aloadT_0 ct_211_1044 ?_
        refine wi_iload_3 ct_211_1045 ?_
        refine wi_ic ct_211_1046 kc_1 ?_
        refine wi_iadd ct_211_1047 rfl ?_
        refine wi_ialdT (j := I + 1) (x := a1) ct_211_1048 (sL_SC hS) (i_in (i_add hi ki_1 (by omega)) (by omega)) (i_cl (i_add hi ki_1 (by omega)) (by omega)) ((Eq.trans (up2_nq (by decide)) (Eq.trans (up2_nq (by decide)) (Eq.trans (up2_nq (by decide)) (Eq.trans (up2_nq (by decide)) (Eq.trans (up2_nq (by decide)) (Eq.trans (up2_nq (by decide)) (Eq.trans (up2_nq (by decide)) ((hsc _).trans e1))))))))) ?_
        refine wi_aloadT_0 ct_211_1049 ?_
        refine wi_iload_3 ct_211_1050 ?_
        refine wi_ic ct_211_1051 kc_2 ?_
        refine wi_iadd ct_211_1052 rfl ?_
        refine wi_ialdT (j := I + 2) (x := a2) ct_211_1053 (sL_SC hS) (i_in (i_add hi ki_2 (by omega)) (by omega)) (i_cl (i_add hi ki_2 (by omega)) (by omega)) ((Eq.trans (up2_nq (by decide)) (Eq.trans (up2_nq (by decide)) (Eq.trans (up2_nq (by decide)) (Eq.trans (up2_nq (by decide)) (Eq.trans (up2_nq (by decide)) (Eq.trans (up2_nq (by decide)) (Eq.trans (up2_nq (by decide)) ((hsc _).trans e2))))))))) ?_
        refine wi_aloadT_0 ct_211_1054 ?_
        refine wi_iload_3 ct_211_1055 ?_
        refine wi_ic ct_211_1056 kc_3 ?_
        refine wi_iadd ct_211_1057 rfl ?_
        refine wi_ialdT (j := I + 3) (x := a3) ct_211_1058 (sL_SC hS) (i_in (i_add hi ki_3 (by omega)) (by omega)) (i_cl (i_add hi ki_3 (by omega)) (by omega)) ((Eq.trans (up2_nq (by decide)) (Eq.trans (up2_nq (by decide)) (Eq.trans (up2_nq (by decide)) (Eq.trans (up2_nq (by decide)) (Eq.trans (up2_nq (by decide)) (Eq.trans (up2_nq (by decide)) (Eq.trans (up2_nq (by decide)) ((hsc _).trans e3))))))))) ?_
        refine wi_cv3 (ls' := [some _, some _, some _, some _]) ct_211_1059 (Nat.le_of_ble_eq_true rfl) (by decide) (sT_31 hS) rfl (by decide) rfl rfl (Nat.le_of_ble_eq_true rfl) ?_
        refine wi_aload_0 ct_190_0 ?_
        refine wi_ic ct_190_1 kc_0 ?_
        refine wi_pf ct_190_2 (sT_31 hS) rfl ?_
        refine wi_aload_0 ct_190_5 ?_
        refine wi_iload_1 ct_190_6 ?_
        refine wi_cv1 (ls' := [some _, some _]) ct_190_7 (Nat.le_of_ble_eq_true rfl) (by decide) (sT_31 hS) rfl (by decide) rfl rfl (Nat.le_of_ble_eq_true rfl) ?_
        refine wi_aload_0 ct_120_0 ?_
        refine wi_iload_1 ct_120_1 ?_
        refine wi_ic ct_120_2 kc_0 ?_
        refine wi_aload_0 ct_120_3 ?_
        refine wi_gf (x := fi 31 0) ct_120_4 (sT_31 hS) rfl rfl (Eq.trans (up2_nj (by decide)) (Eq.trans (up2_nq (by decide)) (Eq.trans (up2_nq (by decide)) (Eq.trans (up2_nq (by decide)) (Eq.trans (up2_nq (by decide)) (Eq.trans (up2_nq (by decide)) (Eq.trans (up2_nq (by decide)) (up2_nq (by decide))))))))) ?_
        refine wi_ic ct_120_7 kc_1 ?_
        refine wi_isub ct_120_8 rfl ?_
        refine wi_cv3 (ls' := [some _, some _, some _, some _]) ct_120_9 (Nat.le_of_ble_eq_true rfl) (by decide) (sT_31 hS) rfl (by decide) rfl rfl (Nat.le_of_ble_eq_true rfl) ?_
        refine c_in hBn ki_0 (i_sub rfl ki_1 (by omega)) (fun _ => wk_i ?_) (fun h => absurd h (by omega))
        refine wi_iret ct_120_12 (by decide) (wk_i ?_)
        refine wi_ifeq_f ct_190_10 ki_1 (by decide) ?_
        refine wi_aload_0 ct_190_13 ?_
        refine wi_iload_2 ct_190_14 ?_
        refine wi_ic ct_190_15 kc_0 ?_
        refine wi_ic ct_190_16 kc_2 ?_
        refine wi_cv3 (ls' := [some _, some _, some _, some _]) ct_190_17 (Nat.le_of_ble_eq_true rfl) (by decide) (sT_31 hS) rfl (by decide) rfl rfl (Nat.le_of_ble_eq_true rfl) ?_
        refine c_in rfl ki_0 ki_2 (fun _ => wk_i ?_) (fun h => absurd h (by omega))
        refine wi_ifne_t ct_190_20 ki_1 (by decide) ?_
        refine wi_iload_2 ct_190_25 ?_
        refine wi_ifne_t ct_190_26 rfl (by omega) ?_
        refine wi_iload_2 ct_190_38 ?_
        refine wi_ic ct_190_39 kc_1 ?_
        refine wi_icne_f ct_190_40 rfl ki_1 (by omega) ?_
        refine wi_aload_0 ct_190_43 ?_
        refine wi_iload_1 ct_190_44 ?_
        refine wi_iload_3 ct_190_45 ?_
        refine wi_cv2 (ls' := [some _, some _, some _, none]) ct_190_46 (Nat.le_of_ble_eq_true rfl) (by decide) (sT_31 hS) rfl (by decide) rfl rfl (Nat.le_of_ble_eq_true rfl) ?_
        refine wi_aload_0 ct_187_0 ?_
        refine wi_gfr ct_187_1 (sT_31 hS) rfl (sR_31_2 hS) ?_
        refine wi_iload_1 ct_187_4 ?_
        refine wi_iald (x := fi 32 B) ct_187_5 (sT_32 hS) (sL_32 hS) (i_in hBn (by omega)) (i_cl (k := B) hBn (by omega)) (Eq.trans (up2_nq (by decide)) (Eq.trans (up2_nq (by decide)) (Eq.trans (up2_nq (by decide)) (Eq.trans (up2_nq (by decide)) (Eq.trans (up2_nq (by decide)) (Eq.trans (up2_nq (by decide)) (Eq.trans (up2_nq (by decide)) (up2_nq (by decide))))))))) ?_
        refine wi_lsw (X := 1) (t := 40) ct_187_6 (by omega) (by decide) ?_
        refine wi_aload_0 ct_187_40 ?_
        refine wi_iload_1 ct_187_41 ?_
        refine wi_iload_2 ct_187_42 ?_
        refine wi_cv2 (ls' := [some _, some _, some _]) ct_187_43 (Nat.le_of_ble_eq_true rfl) (by decide) (sT_31 hS) rfl (by decide) rfl rfl (Nat.le_of_ble_eq_true rfl) ?_
        refine wi_aload_0 ct_186_0 ?_
        refine wi_ic ct_186_1 kc_20 ?_
        refine wi_cv1 (ls' := [some _, some _]) ct_186_3 (Nat.le_of_ble_eq_true rfl) (by decide) (sT_31 hS) rfl (by decide) rfl rfl (Nat.le_of_ble_eq_true rfl) ?_
        refine wi_aload_0 ct_182_0 ?_
        refine wi_gf (x := 0) ct_182_1 (sT_31 hS) rfl rfl up2_eq ?_
        refine wi_ic ct_182_4 kc_20 ?_
        refine wi_icge_f ct_182_6 ki_0 ki_20 (by decide) ?_
        refine wi_aload_0 ct_182_9 ?_
        refine wi_gfr ct_182_10 (sT_31 hS) rfl (sR_31_66 hS) ?_
        refine wi_aload_0 ct_182_13 ?_
        refine wi_gf (x := 0) ct_182_14 (sT_31 hS) rfl rfl up2_eq ?_
        refine wi_iload_1 ct_182_17 ?_
        refine wi_iast ct_182_18 (sT_67 hS) (sL_67 hS) (by decide) kn_c0 ?_
        refine wi_aload_0 ct_182_19 ?_
        refine wi_dup ct_182_20 rfl ?_
        refine wi_gf (x := 0) ct_182_21 (sT_31 hS) rfl rfl (Eq.trans (up2_nq (by decide)) up2_eq) ?_
        refine wi_ic ct_182_24 kc_1 ?_
        refine wi_iadd (z := 1) ct_182_25 (by decide) ?_
        refine wi_pf ct_182_26 (sT_31 hS) rfl ?_
        refine wi_ret ct_182_29 (wk_v ?_)
        refine wi_aload_0 ct_186_6 ?_
        refine wi_iload_1 ct_186_7 ?_
        refine wi_iload_2 ct_186_8 ?_
        refine wi_cv2 (ls' := [some _, some _, some _]) ct_186_9 (Nat.le_of_ble_eq_true rfl) (by decide) (sT_31 hS) rfl (by decide) rfl rfl (Nat.le_of_ble_eq_true rfl) ?_
        refine wi_aload_0 ct_185_0 ?_
        refine wi_ic ct_185_1 kc_11 ?_
        refine wi_cv1 (ls' := [some _, some _]) ct_185_3 (Nat.le_of_ble_eq_true rfl) (by decide) (sT_31 hS) rfl (by decide) rfl rfl (Nat.le_of_ble_eq_true rfl) ?_
        refine wi_aload_0 ct_182_0 ?_
        refine wi_gf (x := 1) ct_182_1 (sT_31 hS) rfl rfl up2_eq ?_
        refine wi_ic ct_182_4 kc_20 ?_
        refine wi_icge_f ct_182_6 ki_1 ki_20 (by decide) ?_
        refine wi_aload_0 ct_182_9 ?_
        refine wi_gfr ct_182_10 (sT_31 hS) rfl (sR_31_66 hS) ?_
        refine wi_aload_0 ct_182_13 ?_
        refine wi_gf (x := 1) ct_182_14 (sT_31 hS) rfl rfl up2_eq ?_
        refine wi_iload_1 ct_182_17 ?_
        refine wi_iast ct_182_18 (sT_67 hS) (sL_67 hS) (by decide) kn_c1 ?_
        refine wi_aload_0 ct_182_19 ?_
        refine wi_dup ct_182_20 rfl ?_
        refine wi_gf (x := 1) ct_182_21 (sT_31 hS) rfl rfl (Eq.trans (up2_nq (by decide)) up2_eq) ?_
        refine wi_ic ct_182_24 kc_1 ?_
        refine wi_iadd (z := 2) ct_182_25 (by decide) ?_
        refine wi_pf ct_182_26 (sT_31 hS) rfl ?_
        refine wi_ret ct_182_29 (wk_v ?_)
        refine wi_aload_0 ct_185_6 ?_
        refine wi_iload_1 ct_185_7 ?_
        refine wi_iload_2 ct_185_8 ?_
        refine wi_cv2 (ls' := [some _, some _, some _]) ct_185_9 (Nat.le_of_ble_eq_true rfl) (by decide) (sT_31 hS) rfl (by decide) rfl rfl (Nat.le_of_ble_eq_true rfl) ?_
        refine wi_aload_0 ct_184_0 ?_
        refine wi_gfr ct_184_1 (sT_31 hS) rfl (sR_31_2 hS) ?_
        refine wi_iload_1 ct_184_4 ?_
        refine wi_iald (x := fi 32 B) ct_184_5 (sT_32 hS) (sL_32 hS) (i_in hBn (by omega)) (i_cl (k := B) hBn (by omega)) (Eq.trans (up2_nq (by decide)) (Eq.trans (up2_nq (by decide)) (Eq.trans (up2_nq (by decide)) (Eq.trans (up2_nq (by decide)) (Eq.trans (up2_nq (by decide)) (Eq.trans (up2_nq (by decide)) (Eq.trans (up2_nq (by decide)) (Eq.trans (up2_nq (by decide)) (Eq.trans (up2_nq (by decide)) (Eq.trans (up2_nq (by decide)) (Eq.trans (up2_nq (by decide)) (up2_nq (by decide))))))))))))) ?_
        refine wi_tsw (t := 89) ct_184_6 rfl ((am_tswD (by omega)).trans rfl) ?_
        refine wi_aload_0 ct_184_89 ?_
        refine wi_iload_1 ct_184_90 ?_
        refine wi_iload_2 ct_184_91 ?_
        refine wi_cv2 (ls' := [some _, some _, some _]) ct_184_92 (Nat.le_of_ble_eq_true rfl) (by decide) (sT_31 hS) rfl (by decide) rfl rfl (Nat.le_of_ble_eq_true rfl) ?_
        refine wi_aload_0 ct_183_0 ?_
        refine wi_ic ct_183_1 kc_10 ?_
        refine wi_cv1 (ls' := [some _, some _]) ct_183_3 (Nat.le_of_ble_eq_true rfl) (by decide) (sT_31 hS) rfl (by decide) rfl rfl (Nat.le_of_ble_eq_true rfl) ?_
        refine wi_aload_0 ct_182_0 ?_
        refine wi_gf (x := 2) ct_182_1 (sT_31 hS) rfl rfl up2_eq ?_
        refine wi_ic ct_182_4 kc_20 ?_
        refine wi_icge_f ct_182_6 ki_2 ki_20 (by decide) ?_
        refine wi_aload_0 ct_182_9 ?_
        refine wi_gfr ct_182_10 (sT_31 hS) rfl (sR_31_66 hS) ?_
        refine wi_aload_0 ct_182_13 ?_
        refine wi_gf (x := 2) ct_182_14 (sT_31 hS) rfl rfl up2_eq ?_
        refine wi_iload_1 ct_182_17 ?_
        refine wi_iast ct_182_18 (sT_67 hS) (sL_67 hS) (by decide) kn_c2 ?_
        refine wi_aload_0 ct_182_19 ?_
        refine wi_dup ct_182_20 rfl ?_
        refine wi_gf (x := 2) ct_182_21 (sT_31 hS) rfl rfl (Eq.trans (up2_nq (by decide)) up2_eq) ?_
        refine wi_ic ct_182_24 kc_1 ?_
        refine wi_iadd (z := 3) ct_182_25 (by decide) ?_
        refine wi_pf ct_182_26 (sT_31 hS) rfl ?_
        refine wi_ret ct_182_29 (wk_v ?_)
        refine wi_iload_2 ct_183_6 ?_
        refine wi_iload_1 ct_183_7 ?_
        refine wi_iadd ct_183_8 rfl ?_
        refine wi_iret ct_183_9 rfl (wk_i ?_)
        refine wi_iret ct_184_95 rfl (wk_i ?_)
        refine wi_aload_0 ct_185_12 ?_
        refine wi_gfr ct_185_13 (sT_31 hS) rfl (sR_31_3 hS) ?_
        refine wi_iload_1 ct_185_16 ?_
        refine wi_iald (x := fi 33 B) ct_185_17 (sT_33 hS) (sL_33 hS) (i_in hBn (by omega)) (i_cl (k := B) hBn (by omega)) (Eq.trans (up2_nq (by decide)) (Eq.trans (up2_nq (by decide)) (Eq.trans (up2_nq (by decide)) (Eq.trans (up2_nq (by decide)) (Eq.trans (up2_nq (by decide)) (Eq.trans (up2_nq (by decide)) (Eq.trans (up2_nq (by decide)) (Eq.trans (up2_nq (by decide)) (Eq.trans (up2_nq (by decide)) (Eq.trans (up2_nq (by decide)) (Eq.trans (up2_nq (by decide)) (Eq.trans (up2_nq (by decide)) (Eq.trans (up2_nq (by decide)) (up2_nq (by decide))))))))))))))) ?_
        refine wi_isub ct_185_18 rfl ?_
        refine wi_iret ct_185_19 rfl (wk_i ?_)
        refine wi_ic ct_186_12 kc_6 ?_
        refine wi_ixor ct_186_14 rfl ?_
        refine wi_iret ct_186_15 rfl (wk_i ?_)
        refine wi_iret ct_187_46 rfl (wk_i ?_)
        refine wi_goto ct_190_49 ?_
        refine wi_iret ct_190_58 rfl (wk_i ?_)
        refine wi_iceq_t ct_211_1062 rfl rfl (by omega) ?_
        refine kk own g _ fl (hR.act (fun q h1 h2 h3 => (Eq.trans (funext fun _ => up2_nq h2) (Eq.trans (funext fun _ => up2_nq h3) (Eq.trans (funext fun _ => up2_nq h2) (Eq.trans (funext fun _ => up2_nq h3) (Eq.trans (funext fun _ => up2_nq h2) (Eq.trans (funext fun _ => up2_nq h3) (Eq.trans (funext fun _ => up2_nq h2) (Eq.trans (funext fun _ => up2_nq h1) (Eq.trans (funext fun _ => up2_nq h1) (Eq.trans (funext fun _ => up2_nq h1) (Eq.trans (funext fun _ => up2_nq h1) (Eq.trans (funext fun _ => up2_nq h1) (Eq.trans (funext fun _ => up2_nq h1) (funext fun _ => up2_nq h1))))))))))))))) (fun j hj => (Eq.trans (up2_nj hj) (Eq.trans (up2_nq (by decide)) (Eq.trans (up2_nj hj) (Eq.trans (up2_nq (by decide)) (Eq.trans (up2_nj hj) (Eq.trans (up2_nq (by decide)) (Eq.trans (up2_nj hj) (Eq.trans (up2_nq (by decide)) (Eq.trans (up2_nq (by decide)) (Eq.trans (up2_nq (by decide)) (Eq.trans (up2_nq (by decide)) (Eq.trans (up2_nq (by decide)) (Eq.trans (up2_nq (by decide)) (up2_nq (by decide)))))))))))))))) ⟨((Eq.trans (up2_nq (by decide)) (Eq.trans (up2_nq (by decide)) (Eq.trans (up2_nq (by decide)) (Eq.trans (up2_nq (by decide)) (Eq.trans (up2_nq (by decide)) (Eq.trans (up2_nq (by decide)) (Eq.trans (up2_nq (by decide)) (Eq.trans (up2_nj (by decide)) up2_eq))))))))).trans (up2_eq).symm, by rw [up2_eq]; decide, by rw [up2_eq]; decide⟩ ?_) (by omega) (by omega)
        intro j hj hn
        rw [up2_eq] at hn
        replace hn : (j : Int) < 3 := hn
        match j, (by omega : j < 3) with
        | 0, _ => exact ((Eq.trans (up2_nq (by decide)) (Eq.trans (up2_nq (by decide)) (Eq.trans (up2_nq (by decide)) (Eq.trans (up2_nq (by decide)) (Eq.trans (up2_nq (by decide)) (Eq.trans (up2_nq (by decide)) (Eq.trans (up2_nq (by decide)) (Eq.trans (up2_nj (by decide)) (Eq.trans (up2_nj (by decide)) (Eq.trans (up2_nj (by decide)) (Eq.trans (up2_nj (by decide)) up2_eq)))))))))))).trans ((Eq.trans (up2_nq (by decide)) (Eq.trans (up2_nj (by decide)) (Eq.trans (up2_nq (by decide)) (Eq.trans (up2_nj (by decide)) (Eq.trans (up2_nq (by decide)) up2_eq)))))).symm
        | 1, _ => exact ((Eq.trans (up2_nq (by decide)) (Eq.trans (up2_nq (by decide)) (Eq.trans (up2_nq (by decide)) (Eq.trans (up2_nq (by decide)) (Eq.trans (up2_nq (by decide)) (Eq.trans (up2_nq (by decide)) (Eq.trans (up2_nq (by decide)) (Eq.trans (up2_nj (by decide)) (Eq.trans (up2_nj (by decide)) up2_eq)))))))))).trans ((Eq.trans (up2_nq (by decide)) (Eq.trans (up2_nj (by decide)) (Eq.trans (up2_nq (by decide)) up2_eq)))).symm
        | 2, _ => exact ((Eq.trans (up2_nq (by decide)) (Eq.trans (up2_nq (by decide)) (Eq.trans (up2_nq (by decide)) (Eq.trans (up2_nq (by decide)) (Eq.trans (up2_nq (by decide)) (Eq.trans (up2_nq (by decide)) (Eq.trans (up2_nq (by decide)) up2_eq)))))))).trans ((Eq.trans (up2_nq (by decide)) up2_eq)).symm
        | j + 3, h => exact absurd h (by omega)
      · skip
        refine wi_cv2 (ls' := [some _, some _, some _]) ct_95_66 (Nat.le_of_ble_eq_true rfl) (by decide) (ot.trans (by rw [hk17] <;> rfl)) rfl (by decide) rfl rfl (Nat.le_of_ble_eq_true rfl) ?_
        refine wi_ic ct_7_0 kc_11 ?_
        refine wi_aload_2 ct_7_2 ?_
        refine wi_cs2 (ls' := [some _, some _, none]) ct_7_3 (Nat.le_of_ble_eq_true rfl) rfl (Nat.le_of_ble_eq_true rfl) ?_
        refine wi_aload_1 ct_9_0 ?_
        refine wi_ic ct_9_1 kc_0 ?_
        refine wi_dup2 ct_9_2 rfl rfl ?_
        refine wi_iald (x := 0) ct_9_3 (sT_21 hS) (sL_21 hS) (by decide) kn_c0 up2_eq ?_
        refine wi_ic ct_9_4 kc_1 ?_
        refine wi_iadd (z := 1) ct_9_5 (by decide) ?_
        refine wi_iast ct_9_6 (sT_21 hS) (sL_21 hS) (by decide) kn_c0 ?_
        refine wi_aload_1 ct_9_7 ?_
        refine wi_ic ct_9_8 kc_0 ?_
        refine wi_iald (x := 1) ct_9_9 (sT_21 hS) (sL_21 hS) (by decide) kn_c0 up2_eq ?_
        refine wi_istore_2 rfl ct_9_10 ?_
        refine wi_iload_2 ct_9_11 ?_
        refine wi_ifle_f ct_9_12 ki_1 (by decide) ?_
        refine wi_iload_2 ct_9_15 ?_
        refine wi_aload_1 ct_9_16 ?_
        refine wi_len (z := 21) ct_9_17 (sT_21 hS) (by decide) (sL_21 hS) (by decide) ?_
        refine wi_icge_f ct_9_18 ki_1 ki_21 (by decide) ?_
        refine wi_aload_1 ct_9_21 ?_
        refine wi_iload_2 ct_9_22 ?_
        refine wi_iload_0 ct_9_23 ?_
        refine wi_iast ct_9_24 (sT_21 hS) (sL_21 hS) (by decide) kn_c1 ?_
        refine wi_ret ct_9_25 (wk_v ?_)
        refine wi_aload_0 ct_7_6 ?_
        refine wi_iload_1 ct_7_7 ?_
        refine wi_aload_2 ct_7_8 ?_
        refine wi_cv2 (ls' := [some _, some _, some _]) ct_7_9 (Nat.le_of_ble_eq_true rfl) (by decide) (ot.trans (by rw [hk17] <;> rfl)) rfl (by decide) rfl rfl (Nat.le_of_ble_eq_true rfl) ?_
        refine wi_ic ct_15_0 kc_30 ?_
        refine wi_aload_2 ct_15_2 ?_
        refine wi_cs2 (ls' := [some _, some _, none]) ct_15_3 (Nat.le_of_ble_eq_true rfl) rfl (Nat.le_of_ble_eq_true rfl) ?_
        refine wi_aload_1 ct_9_0 ?_
        refine wi_ic ct_9_1 kc_0 ?_
        refine wi_dup2 ct_9_2 rfl rfl ?_
        refine wi_iald (x := 1) ct_9_3 (sT_21 hS) (sL_21 hS) (by decide) kn_c0 (Eq.trans (up2_nj (by decide)) up2_eq) ?_
        refine wi_ic ct_9_4 kc_1 ?_
        refine wi_iadd (z := 2) ct_9_5 (by decide) ?_
        refine wi_iast ct_9_6 (sT_21 hS) (sL_21 hS) (by decide) kn_c0 ?_
        refine wi_aload_1 ct_9_7 ?_
        refine wi_ic ct_9_8 kc_0 ?_
        refine wi_iald (x := 2) ct_9_9 (sT_21 hS) (sL_21 hS) (by decide) kn_c0 up2_eq ?_
        refine wi_istore_2 rfl ct_9_10 ?_
        refine wi_iload_2 ct_9_11 ?_
        refine wi_ifle_f ct_9_12 ki_2 (by decide) ?_
        refine wi_iload_2 ct_9_15 ?_
        refine wi_aload_1 ct_9_16 ?_
        refine wi_len (z := 21) ct_9_17 (sT_21 hS) (by decide) (sL_21 hS) (by decide) ?_
        refine wi_icge_f ct_9_18 ki_2 ki_21 (by decide) ?_
        refine wi_aload_1 ct_9_21 ?_
        refine wi_iload_2 ct_9_22 ?_
        refine wi_iload_0 ct_9_23 ?_
        refine wi_iast ct_9_24 (sT_21 hS) (sL_21 hS) (by decide) kn_c2 ?_
        refine wi_ret ct_9_25 (wk_v ?_)
        refine wi_aload_0 ct_15_6 ?_
        refine wi_iload_1 ct_15_7 ?_
        refine wi_ic ct_15_8 kc_3 ?_
        refine wi_imul ct_15_9 rfl ?_
        refine wi_aload_2 ct_15_10 ?_
        refine wi_cp2 (ls' := [some _, some _, some _]) ct_15_11 (Nat.le_of_ble_eq_true rfl) (ot.trans (by rw [hk17] <;> rfl)) (by decide) rfl (Nat.le_of_ble_eq_true rfl) ?_
        refine wi_ic ct_6_0 kc_10 ?_
        refine wi_aload_2 ct_6_2 ?_
        refine wi_cs2 (ls' := [some _, some _, none]) ct_6_3 (Nat.le_of_ble_eq_true rfl) rfl (Nat.le_of_ble_eq_true rfl) ?_
        refine wi_aload_1 ct_9_0 ?_
        refine wi_ic ct_9_1 kc_0 ?_
        refine wi_dup2 ct_9_2 rfl rfl ?_
        refine wi_iald (x := 2) ct_9_3 (sT_21 hS) (sL_21 hS) (by decide) kn_c0 (Eq.trans (up2_nj (by decide)) up2_eq) ?_
        refine wi_ic ct_9_4 kc_1 ?_
        refine wi_iadd (z := 3) ct_9_5 (by decide) ?_
        refine wi_iast ct_9_6 (sT_21 hS) (sL_21 hS) (by decide) kn_c0 ?_
        refine wi_aload_1 ct_9_7 ?_
        refine wi_ic ct_9_8 kc_0 ?_
        refine wi_iald (x := 3) ct_9_9 (sT_21 hS) (sL_21 hS) (by decide) kn_c0 up2_eq ?_
        refine wi_istore_2 rfl ct_9_10 ?_
        refine wi_iload_2 ct_9_11 ?_
        refine wi_ifle_f ct_9_12 ki_3 (by decide) ?_
        refine wi_iload_2 ct_9_15 ?_
        refine wi_aload_1 ct_9_16 ?_
        refine wi_len (z := 21) ct_9_17 (sT_21 hS) (by decide) (sL_21 hS) (by decide) ?_
        refine wi_icge_f ct_9_18 ki_3 ki_21 (by decide) ?_
        refine wi_aload_1 ct_9_21 ?_
        refine wi_iload_2 ct_9_22 ?_
        refine wi_iload_0 ct_9_23 ?_
        refine wi_iast ct_9_24 (sT_21 hS) (sL_21 hS) (by decide) kn_c3 ?_
        refine wi_ret ct_9_25 (wk_v ?_)
        refine wi_iload_1 ct_6_6 ?_
        refine wi_aload_0 ct_6_7 ?_
        refine wi_gf (x := a1) ct_6_8 (ot.trans (by rw [hk17] <;> rfl)) rfl rfl (Eq.trans (up2_nq (dn o72 (by decide))) (Eq.trans (up2_nq (dn o72 (by decide))) (Eq.trans (up2_nq (dn o72 (by decide))) (Eq.trans (up2_nq (dn o72 (by decide))) (Eq.trans (up2_nq (dn o72 (by decide))) (Eq.trans (up2_nq (dn o72 (by decide))) (Eq.trans (up2_nq (dn o72 (by decide))) hpn))))))) ?_
        refine wi_iadd ct_6_11 rfl ?_
        refine wi_iret ct_6_12 rfl (wk_i ?_)
        refine wi_iret ct_15_14 rfl (wk_i ?_)
        refine wi_aload_0 ct_7_12 ?_
        refine wi_gf (x := fi 33 B) ct_7_13 (ot.trans (by rw [hk17] <;> rfl)) rfl rfl (Eq.trans (up2_nq (dn o72 (by decide))) (Eq.trans (up2_nq (dn o72 (by decide))) (Eq.trans (up2_nq (dn o72 (by decide))) (Eq.trans (up2_nq (dn o72 (by decide))) (Eq.trans (up2_nq (dn o72 (by decide))) (Eq.trans (up2_nq (dn o72 (by decide))) (Eq.trans (up2_nq (dn o72 (by decide))) ov))))))) ?_
        refine wi_isub ct_7_16 rfl ?_
        refine wi_iret ct_7_17 rfl (wk_i ?_)
        refine wi_iret ct_95_69 rfl (wk_i ?_)
        refine wi_aload_2 ct_211_1043 ?_
        refine wi_aloadT_0 ct_211_1044 ?_
        refine wi_iload_3 ct_211_1045 ?_
        refine wi_ic ct_211_1046 kc_1 ?_
        refine wi_iadd ct_211_1047 rfl ?_
        refine wi_ialdT (j := I + 1) (x := a1) ct_211_1048 (sL_SC hS) (i_in (i_add hi ki_1 (by omega)) (by omega)) (i_cl (i_add hi ki_1 (by omega)) (by omega)) ((Eq.trans (up2_nq (by decide)) (Eq.trans (up2_nq (by decide)) (Eq.trans (up2_nq (by decide)) (Eq.trans (up2_nq (by decide)) (Eq.trans (up2_nq (by decide)) (Eq.trans (up2_nq (by decide)) (Eq.trans (up2_nq (by decide)) ((hsc _).trans e1))))))))) ?_
        refine wi_aloadT_0 ct_211_1049 ?_
        refine wi_iload_3 ct_211_1050 ?_
        refine wi_ic ct_211_1051 kc_2 ?_
        refine wi_iadd ct_211_1052 rfl ?_
        refine wi_ialdT (j := I + 2) (x := a2) ct_211_1053 (sL_SC hS) (i_in (i_add hi ki_2 (by omega)) (by omega)) (i_cl (i_add hi ki_2 (by omega)) (by omega)) ((Eq.trans (up2_nq (by decide)) (Eq.trans (up2_nq (by decide)) (Eq.trans (up2_nq (by decide)) (Eq.trans (up2_nq (by decide)) (Eq.trans (up2_nq (by decide)) (Eq.trans (up2_nq (by decide)) (Eq.trans (up2_nq (by decide)) ((hsc _).trans e2))))))))) ?_
        refine wi_aloadT_0 ct_211_1054 ?_
        refine wi_iload_3 ct_211_1055 ?_
        refine wi_ic ct_211_1056 kc_3 ?_
        refine wi_iadd ct_211_1057 rfl ?_
        refine wi_ialdT (j := I + 3) (x := a3) ct_211_1058 (sL_SC hS) (i_in (i_add hi ki_3 (by omega)) (by omega)) (i_cl (i_add hi ki_3 (by omega)) (by omega)) ((Eq.trans (up2_nq (by decide)) (Eq.trans (up2_nq (by decide)) (Eq.trans (up2_nq (by decide)) (Eq.trans (up2_nq (by decide)) (Eq.trans (up2_nq (by decide)) (Eq.trans (up2_nq (by decide)) (Eq.trans (up2_nq (by decide)) ((hsc _).trans e3))))))))) ?_
        refine wi_cv3 (ls' := [some _, some _, some _, some _]) ct_211_1059 (Nat.le_of_ble_eq_true rfl) (by decide) (sT_31 hS) rfl (by decide) rfl rfl (Nat.le_of_ble_eq_true rfl) ?_
        refine wi_aload_0 ct_190_0 ?_
        refine wi_ic ct_190_1 kc_0 ?_
        refine wi_pf ct_190_2 (sT_31 hS) rfl ?_
        refine wi_aload_0 ct_190_5 ?_
        refine wi_iload_1 ct_190_6 ?_
        refine wi_cv1 (ls' := [some _, some _]) ct_190_7 (Nat.le_of_ble_eq_true rfl) (by decide) (sT_31 hS) rfl (by decide) rfl rfl (Nat.le_of_ble_eq_true rfl) ?_
        refine wi_aload_0 ct_120_0 ?_
        refine wi_iload_1 ct_120_1 ?_
        refine wi_ic ct_120_2 kc_0 ?_
        refine wi_aload_0 ct_120_3 ?_
        refine wi_gf (x := fi 31 0) ct_120_4 (sT_31 hS) rfl rfl (Eq.trans (up2_nj (by decide)) (Eq.trans (up2_nq (by decide)) (Eq.trans (up2_nq (by decide)) (Eq.trans (up2_nq (by decide)) (Eq.trans (up2_nq (by decide)) (Eq.trans (up2_nq (by decide)) (Eq.trans (up2_nq (by decide)) (up2_nq (by decide))))))))) ?_
        refine wi_ic ct_120_7 kc_1 ?_
        refine wi_isub ct_120_8 rfl ?_
        refine wi_cv3 (ls' := [some _, some _, some _, some _]) ct_120_9 (Nat.le_of_ble_eq_true rfl) (by decide) (sT_31 hS) rfl (by decide) rfl rfl (Nat.le_of_ble_eq_true rfl) ?_
        refine c_in hBn ki_0 (i_sub rfl ki_1 (by omega)) (fun _ => wk_i ?_) (fun h => absurd h (by omega))
        refine wi_iret ct_120_12 (by decide) (wk_i ?_)
        refine wi_ifeq_f ct_190_10 ki_1 (by decide) ?_
        refine wi_aload_0 ct_190_13 ?_
        refine wi_iload_2 ct_190_14 ?_
        refine wi_ic ct_190_15 kc_0 ?_
        refine wi_ic ct_190_16 kc_2 ?_
        refine wi_cv3 (ls' := [some _, some _, some _, some _]) ct_190_17 (Nat.le_of_ble_eq_true rfl) (by decide) (sT_31 hS) rfl (by decide) rfl rfl (Nat.le_of_ble_eq_true rfl) ?_
        refine c_in rfl ki_0 ki_2 (fun _ => wk_i ?_) (fun h => absurd h (by omega))
        refine wi_ifne_t ct_190_20 ki_1 (by decide) ?_
        refine wi_iload_2 ct_190_25 ?_
        refine wi_ifne_t ct_190_26 rfl (by omega) ?_
        refine wi_iload_2 ct_190_38 ?_
        refine wi_ic ct_190_39 kc_1 ?_
        refine wi_icne_f ct_190_40 rfl ki_1 (by omega) ?_
        refine wi_aload_0 ct_190_43 ?_
        refine wi_iload_1 ct_190_44 ?_
        refine wi_iload_3 ct_190_45 ?_
        refine wi_cv2 (ls' := [some _, some _, some _, none]) ct_190_46 (Nat.le_of_ble_eq_true rfl) (by decide) (sT_31 hS) rfl (by decide) rfl rfl (Nat.le_of_ble_eq_true rfl) ?_
        refine wi_aload_0 ct_187_0 ?_
        refine wi_gfr ct_187_1 (sT_31 hS) rfl (sR_31_2 hS) ?_
        refine wi_iload_1 ct_187_4 ?_
        refine wi_iald (x := fi 32 B) ct_187_5 (sT_32 hS) (sL_32 hS) (i_in hBn (by omega)) (i_cl (k := B) hBn (by omega)) (Eq.trans (up2_nq (by decide)) (Eq.trans (up2_nq (by decide)) (Eq.trans (up2_nq (by decide)) (Eq.trans (up2_nq (by decide)) (Eq.trans (up2_nq (by decide)) (Eq.trans (up2_nq (by decide)) (Eq.trans (up2_nq (by decide)) (up2_nq (by decide))))))))) ?_
        refine wi_lsw (X := 2) (t := 84) ct_187_6 (by omega) (by decide) ?_
        refine wi_aload_0 ct_187_84 ?_
        refine wi_iload_1 ct_187_85 ?_
        refine wi_iload_2 ct_187_86 ?_
        refine wi_cv2 (ls' := [some _, some _, some _]) ct_187_87 (Nat.le_of_ble_eq_true rfl) (by decide) (sT_31 hS) rfl (by decide) rfl rfl (Nat.le_of_ble_eq_true rfl) ?_
        refine wi_aload_0 ct_185_0 ?_
        refine wi_ic ct_185_1 kc_11 ?_
        refine wi_cv1 (ls' := [some _, some _]) ct_185_3 (Nat.le_of_ble_eq_true rfl) (by decide) (sT_31 hS) rfl (by decide) rfl rfl (Nat.le_of_ble_eq_true rfl) ?_
        refine wi_aload_0 ct_182_0 ?_
        refine wi_gf (x := 0) ct_182_1 (sT_31 hS) rfl rfl up2_eq ?_
        refine wi_ic ct_182_4 kc_20 ?_
        refine wi_icge_f ct_182_6 ki_0 ki_20 (by decide) ?_
        refine wi_aload_0 ct_182_9 ?_
        refine wi_gfr ct_182_10 (sT_31 hS) rfl (sR_31_66 hS) ?_
        refine wi_aload_0 ct_182_13 ?_
        refine wi_gf (x := 0) ct_182_14 (sT_31 hS) rfl rfl up2_eq ?_
        refine wi_iload_1 ct_182_17 ?_
        refine wi_iast ct_182_18 (sT_67 hS) (sL_67 hS) (by decide) kn_c0 ?_
        refine wi_aload_0 ct_182_19 ?_
        refine wi_dup ct_182_20 rfl ?_
        refine wi_gf (x := 0) ct_182_21 (sT_31 hS) rfl rfl (Eq.trans (up2_nq (by decide)) up2_eq) ?_
        refine wi_ic ct_182_24 kc_1 ?_
        refine wi_iadd (z := 1) ct_182_25 (by decide) ?_
        refine wi_pf ct_182_26 (sT_31 hS) rfl ?_
        refine wi_ret ct_182_29 (wk_v ?_)
        refine wi_aload_0 ct_185_6 ?_
        refine wi_iload_1 ct_185_7 ?_
        refine wi_iload_2 ct_185_8 ?_
        refine wi_cv2 (ls' := [some _, some _, some _]) ct_185_9 (Nat.le_of_ble_eq_true rfl) (by decide) (sT_31 hS) rfl (by decide) rfl rfl (Nat.le_of_ble_eq_true rfl) ?_
        refine wi_aload_0 ct_184_0 ?_
        refine wi_gfr ct_184_1 (sT_31 hS) rfl (sR_31_2 hS) ?_
        refine wi_iload_1 ct_184_4 ?_
        refine wi_iald (x := fi 32 B) ct_184_5 (sT_32 hS) (sL_32 hS) (i_in hBn (by omega)) (i_cl (k := B) hBn (by omega)) (Eq.trans (up2_nq (by decide)) (Eq.trans (up2_nq (by decide)) (Eq.trans (up2_nq (by decide)) (Eq.trans (up2_nq (by decide)) (Eq.trans (up2_nq (by decide)) (Eq.trans (up2_nq (by decide)) (Eq.trans (up2_nq (by decide)) (Eq.trans (up2_nq (by decide)) (Eq.trans (up2_nq (by decide)) (up2_nq (by decide))))))))))) ?_
        refine wi_tsw (X := 2) (t := 40) ct_184_6 (by omega) rfl ?_
        refine wi_aload_0 ct_184_40 ?_
        refine wi_ic ct_184_41 kc_30 ?_
        refine wi_cv1 (ls' := [some _, some _]) ct_184_43 (Nat.le_of_ble_eq_true rfl) (by decide) (sT_31 hS) rfl (by decide) rfl rfl (Nat.le_of_ble_eq_true rfl) ?_
        refine wi_aload_0 ct_182_0 ?_
        refine wi_gf (x := 1) ct_182_1 (sT_31 hS) rfl rfl up2_eq ?_
        refine wi_ic ct_182_4 kc_20 ?_
        refine wi_icge_f ct_182_6 ki_1 ki_20 (by decide) ?_
        refine wi_aload_0 ct_182_9 ?_
        refine wi_gfr ct_182_10 (sT_31 hS) rfl (sR_31_66 hS) ?_
        refine wi_aload_0 ct_182_13 ?_
        refine wi_gf (x := 1) ct_182_14 (sT_31 hS) rfl rfl up2_eq ?_
        refine wi_iload_1 ct_182_17 ?_
        refine wi_iast ct_182_18 (sT_67 hS) (sL_67 hS) (by decide) kn_c1 ?_
        refine wi_aload_0 ct_182_19 ?_
        refine wi_dup ct_182_20 rfl ?_
        refine wi_gf (x := 1) ct_182_21 (sT_31 hS) rfl rfl (Eq.trans (up2_nq (by decide)) up2_eq) ?_
        refine wi_ic ct_182_24 kc_1 ?_
        refine wi_iadd (z := 2) ct_182_25 (by decide) ?_
        refine wi_pf ct_182_26 (sT_31 hS) rfl ?_
        refine wi_ret ct_182_29 (wk_v ?_)
        refine wi_aload_0 ct_184_46 ?_
        refine wi_iload_1 ct_184_47 ?_
        refine wi_iload_2 ct_184_48 ?_
        refine wi_ic ct_184_49 kc_3 ?_
        refine wi_imul ct_184_50 rfl ?_
        refine wi_cv2 (ls' := [some _, some _, some _]) ct_184_51 (Nat.le_of_ble_eq_true rfl) (by decide) (sT_31 hS) rfl (by decide) rfl rfl (Nat.le_of_ble_eq_true rfl) ?_
        refine wi_aload_0 ct_183_0 ?_
        refine wi_ic ct_183_1 kc_10 ?_
        refine wi_cv1 (ls' := [some _, some _]) ct_183_3 (Nat.le_of_ble_eq_true rfl) (by decide) (sT_31 hS) rfl (by decide) rfl rfl (Nat.le_of_ble_eq_true rfl) ?_
        refine wi_aload_0 ct_182_0 ?_
        refine wi_gf (x := 2) ct_182_1 (sT_31 hS) rfl rfl up2_eq ?_
        refine wi_ic ct_182_4 kc_20 ?_
        refine wi_icge_f ct_182_6 ki_2 ki_20 (by decide) ?_
        refine wi_aload_0 ct_182_9 ?_
        refine wi_gfr ct_182_10 (sT_31 hS) rfl (sR_31_66 hS) ?_
        refine wi_aload_0 ct_182_13 ?_
        refine wi_gf (x := 2) ct_182_14 (sT_31 hS) rfl rfl up2_eq ?_
        refine wi_iload_1 ct_182_17 ?_
        refine wi_iast ct_182_18 (sT_67 hS) (sL_67 hS) (by decide) kn_c2 ?_
        refine wi_aload_0 ct_182_19 ?_
        refine wi_dup ct_182_20 rfl ?_
        refine wi_gf (x := 2) ct_182_21 (sT_31 hS) rfl rfl (Eq.trans (up2_nq (by decide)) up2_eq) ?_
        refine wi_ic ct_182_24 kc_1 ?_
        refine wi_iadd (z := 3) ct_182_25 (by decide) ?_
        refine wi_pf ct_182_26 (sT_31 hS) rfl ?_
        refine wi_ret ct_182_29 (wk_v ?_)
        refine wi_iload_2 ct_183_6 ?_
        refine wi_iload_1 ct_183_7 ?_
        refine wi_iadd ct_183_8 rfl ?_
        refine wi_iret ct_183_9 rfl (wk_i ?_)
        refine wi_iret ct_184_54 rfl (wk_i ?_)
        refine wi_aload_0 ct_185_12 ?_
        refine wi_gfr ct_185_13 (sT_31 hS) rfl (sR_31_3 hS) ?_
        refine wi_iload_1 ct_185_16 ?_
        refine wi_iald (x := fi 33 B) ct_185_17 (sT_33 hS) (sL_33 hS) (i_in hBn (by omega)) (i_cl (k := B) hBn (by omega)) (Eq.trans (up2_nq (by decide)) (Eq.trans (up2_nq (by decide)) (Eq.trans (up2_nq (by decide)) (Eq.trans (up2_nq (by decide)) (Eq.trans (up2_nq (by decide)) (Eq.trans (up2_nq (by decide)) (Eq.trans (up2_nq (by decide)) (Eq.trans (up2_nq (by decide)) (Eq.trans (up2_nq (by decide)) (Eq.trans (up2_nq (by decide)) (Eq.trans (up2_nq (by decide)) (Eq.trans (up2_nq (by decide)) (Eq.trans (up2_nq (by decide)) (up2_nq (by decide))))))))))))))) ?_
        refine wi_isub ct_185_18 rfl ?_
        refine wi_iret ct_185_19 rfl (wk_i ?_)
        refine wi_iret ct_187_90 rfl (wk_i ?_)
        refine wi_goto ct_190_49 ?_
        refine wi_iret ct_190_58 rfl (wk_i ?_)
        refine wi_iceq_t ct_211_1062 rfl rfl (by omega) ?_
        refine kk own g _ fl (hR.act (fun q h1 h2 h3 => (Eq.trans (funext fun _ => up2_nq h2) (Eq.trans (funext fun _ => up2_nq h3) (Eq.trans (funext fun _ => up2_nq h2) (Eq.trans (funext fun _ => up2_nq h3) (Eq.trans (funext fun _ => up2_nq h2) (Eq.trans (funext fun _ => up2_nq h3) (Eq.trans (funext fun _ => up2_nq h2) (Eq.trans (funext fun _ => up2_nq h1) (Eq.trans (funext fun _ => up2_nq h1) (Eq.trans (funext fun _ => up2_nq h1) (Eq.trans (funext fun _ => up2_nq h1) (Eq.trans (funext fun _ => up2_nq h1) (Eq.trans (funext fun _ => up2_nq h1) (funext fun _ => up2_nq h1))))))))))))))) (fun j hj => (Eq.trans (up2_nj hj) (Eq.trans (up2_nq (by decide)) (Eq.trans (up2_nj hj) (Eq.trans (up2_nq (by decide)) (Eq.trans (up2_nj hj) (Eq.trans (up2_nq (by decide)) (Eq.trans (up2_nj hj) (Eq.trans (up2_nq (by decide)) (Eq.trans (up2_nq (by decide)) (Eq.trans (up2_nq (by decide)) (Eq.trans (up2_nq (by decide)) (Eq.trans (up2_nq (by decide)) (Eq.trans (up2_nq (by decide)) (up2_nq (by decide)))))))))))))))) ⟨((Eq.trans (up2_nq (by decide)) (Eq.trans (up2_nq (by decide)) (Eq.trans (up2_nq (by decide)) (Eq.trans (up2_nq (by decide)) (Eq.trans (up2_nq (by decide)) (Eq.trans (up2_nq (by decide)) (Eq.trans (up2_nq (by decide)) (Eq.trans (up2_nj (by decide)) up2_eq))))))))).trans (up2_eq).symm, by rw [up2_eq]; decide, by rw [up2_eq]; decide⟩ ?_) (by omega) (by omega)
        intro j hj hn
        rw [up2_eq] at hn
        replace hn : (j : Int) < 3 := hn
        match j, (by omega : j < 3) with
        | 0, _ => exact ((Eq.trans (up2_nq (by decide)) (Eq.trans (up2_nq (by decide)) (Eq.trans (up2_nq (by decide)) (Eq.trans (up2_nq (by decide)) (Eq.trans (up2_nq (by decide)) (Eq.trans (up2_nq (by decide)) (Eq.trans (up2_nq (by decide)) (Eq.trans (up2_nj (by decide)) (Eq.trans (up2_nj (by decide)) (Eq.trans (up2_nj (by decide)) (Eq.trans (up2_nj (by decide)) up2_eq)))))))))))).trans ((Eq.trans (up2_nq (by decide)) (Eq.trans (up2_nj (by decide)) (Eq.trans (up2_nq (by decide)) (Eq.trans (up2_nj (by decide)) (Eq.trans (up2_nq (by decide)) up2_eq)))))).symm
        | 1, _ => exact ((Eq.trans (up2_nq (by decide)) (Eq.trans (up2_nq (by decide)) (Eq.trans (up2_nq (by decide)) (Eq.trans (up2_nq (by decide)) (Eq.trans (up2_nq (by decide)) (Eq.trans (up2_nq (by decide)) (Eq.trans (up2_nq (by decide)) (Eq.trans (up2_nj (by decide)) (Eq.trans (up2_nj (by decide)) up2_eq)))))))))).trans ((Eq.trans (up2_nq (by decide)) (Eq.trans (up2_nj (by decide)) (Eq.trans (up2_nq (by decide)) up2_eq)))).symm
        | 2, _ => exact ((Eq.trans (up2_nq (by decide)) (Eq.trans (up2_nq (by decide)) (Eq.trans (up2_nq (by decide)) (Eq.trans (up2_nq (by decide)) (Eq.trans (up2_nq (by decide)) (Eq.trans (up2_nq (by decide)) (Eq.trans (up2_nq (by decide)) up2_eq)))))))).trans ((Eq.trans (up2_nq (by decide)) up2_eq)).symm
        | j + 3, h => exact absurd h (by omega)
      · skip
        refine wi_cv2 (ls' := [some _, some _, some _]) ct_95_66 (Nat.le_of_ble_eq_true rfl) (by decide) (ot.trans (by rw [hk18] <;> rfl)) rfl (by decide) rfl rfl (Nat.le_of_ble_eq_true rfl) ?_
        refine wi_ic ct_7_0 kc_11 ?_
        refine wi_aload_2 ct_7_2 ?_
        refine wi_cs2 (ls' := [some _, some _, none]) ct_7_3 (Nat.le_of_ble_eq_true rfl) rfl (Nat.le_of_ble_eq_true rfl) ?_
        refine wi_aload_1 ct_9_0 ?_
        refine wi_ic ct_9_1 kc_0 ?_
        refine wi_dup2 ct_9_2 rfl rfl ?_
        refine wi_iald (x := 0) ct_9_3 (sT_21 hS) (sL_21 hS) (by decide) kn_c0 up2_eq ?_
        refine wi_ic ct_9_4 kc_1 ?_
        refine wi_iadd (z := 1) ct_9_5 (by decide) ?_
        refine wi_iast ct_9_6 (sT_21 hS) (sL_21 hS) (by decide) kn_c0 ?_
        refine wi_aload_1 ct_9_7 ?_
        refine wi_ic ct_9_8 kc_0 ?_
        refine wi_iald (x := 1) ct_9_9 (sT_21 hS) (sL_21 hS) (by decide) kn_c0 up2_eq ?_
        refine wi_istore_2 rfl ct_9_10 ?_
        refine wi_iload_2 ct_9_11 ?_
        refine wi_ifle_f ct_9_12 ki_1 (by decide) ?_
        refine wi_iload_2 ct_9_15 ?_
        refine wi_aload_1 ct_9_16 ?_
        refine wi_len (z := 21) ct_9_17 (sT_21 hS) (by decide) (sL_21 hS) (by decide) ?_
        refine wi_icge_f ct_9_18 ki_1 ki_21 (by decide) ?_
        refine wi_aload_1 ct_9_21 ?_
        refine wi_iload_2 ct_9_22 ?_
        refine wi_iload_0 ct_9_23 ?_
        refine wi_iast ct_9_24 (sT_21 hS) (sL_21 hS) (by decide) kn_c1 ?_
        refine wi_ret ct_9_25 (wk_v ?_)
        refine wi_aload_0 ct_7_6 ?_
        refine wi_iload_1 ct_7_7 ?_
        refine wi_aload_2 ct_7_8 ?_
        refine wi_cv2 (ls' := [some _, some _, some _]) ct_7_9 (Nat.le_of_ble_eq_true rfl) (by decide) (ot.trans (by rw [hk18] <;> rfl)) rfl (by decide) rfl rfl (Nat.le_of_ble_eq_true rfl) ?_
        refine wi_ic ct_6_0 kc_10 ?_
        refine wi_aload_2 ct_6_2 ?_
        refine wi_cs2 (ls' := [some _, some _, none]) ct_6_3 (Nat.le_of_ble_eq_true rfl) rfl (Nat.le_of_ble_eq_true rfl) ?_
        refine wi_aload_1 ct_9_0 ?_
        refine wi_ic ct_9_1 kc_0 ?_
        refine wi_dup2 ct_9_2 rfl rfl ?_
        refine wi_iald (x := 1) ct_9_3 (sT_21 hS) (sL_21 hS) (by decide) kn_c0 (Eq.trans (up2_nj (by decide)) up2_eq) ?_
        refine wi_ic ct_9_4 kc_1 ?_
        refine wi_iadd (z := 2) ct_9_5 (by decide) ?_
        refine wi_iast ct_9_6 (sT_21 hS) (sL_21 hS) (by decide) kn_c0 ?_
        refine wi_aload_1 ct_9_7 ?_
        refine wi_ic ct_9_8 kc_0 ?_
        refine wi_iald (x := 2) ct_9_9 (sT_21 hS) (sL_21 hS) (by decide) kn_c0 up2_eq ?_
        refine wi_istore_2 rfl ct_9_10 ?_
        refine wi_iload_2 ct_9_11 ?_
        refine wi_ifle_f ct_9_12 ki_2 (by decide) ?_
        refine wi_iload_2 ct_9_15 ?_
        refine wi_aload_1 ct_9_16 ?_
        refine wi_len (z := 21) ct_9_17 (sT_21 hS) (by decide) (sL_21 hS) (by decide) ?_
        refine wi_icge_f ct_9_18 ki_2 ki_21 (by decide) ?_
        refine wi_aload_1 ct_9_21 ?_
        refine wi_iload_2 ct_9_22 ?_
        refine wi_iload_0 ct_9_23 ?_
        refine wi_iast ct_9_24 (sT_21 hS) (sL_21 hS) (by decide) kn_c2 ?_
        refine wi_ret ct_9_25 (wk_v ?_)
        refine wi_iload_1 ct_6_6 ?_
        refine wi_aload_0 ct_6_7 ?_
        refine wi_gf (x := a1) ct_6_8 (ot.trans (by rw [hk18] <;> rfl)) rfl rfl (Eq.trans (up2_nq (dn o72 (by decide))) (Eq.trans (up2_nq (dn o72 (by decide))) (Eq.trans (up2_nq (dn o72 (by decide))) (Eq.trans (up2_nq (dn o72 (by decide))) (Eq.trans (up2_nq (dn o72 (by decide))) hpn))))) ?_
        refine wi_iadd ct_6_11 rfl ?_
        refine wi_iret ct_6_12 rfl (wk_i ?_)
        refine wi_aload_0 ct_7_12 ?_
        refine wi_gf (x := fi 33 B) ct_7_13 (ot.trans (by rw [hk18] <;> rfl)) rfl rfl (Eq.trans (up2_nq (dn o72 (by decide))) (Eq.trans (up2_nq (dn o72 (by decide))) (Eq.trans (up2_nq (dn o72 (by decide))) (Eq.trans (up2_nq (dn o72 (by decide))) (Eq.trans (up2_nq (dn o72 (by decide))) ov))))) ?_
        refine wi_isub ct_7_16 rfl ?_
        refine wi_iret ct_7_17 rfl (wk_i ?_)
        refine wi_iret ct_95_69 rfl (wk_i ?_)
        refine wi_aload_2 ct_211_1043 ?_
        refine wi_aloadT_0 ct_211_1044 ?_
        refine wi_iload_3 ct_211_1045 ?_
        refine wi_ic ct_211_1046 kc_1 ?_
        refine wi_iadd ct_211_1047 rfl ?_
        refine wi_ialdT (j := I + 1) (x := a1) ct_211_1048 (sL_SC hS) (i_in (i_add hi ki_1 (by omega)) (by omega)) (i_cl (i_add hi ki_1 (by omega)) (by omega)) ((Eq.trans (up2_nq (by decide)) (Eq.trans (up2_nq (by decide)) (Eq.trans (up2_nq (by decide)) (Eq.trans (up2_nq (by decide)) (Eq.trans (up2_nq (by decide)) ((hsc _).trans e1))))))) ?_
        refine wi_aloadT_0 ct_211_1049 ?_
        refine wi_iload_3 ct_211_1050 ?_
        refine wi_ic ct_211_1051 kc_2 ?_
        refine wi_iadd ct_211_1052 rfl ?_
        refine wi_ialdT (j := I + 2) (x := a2) ct_211_1053 (sL_SC hS) (i_in (i_add hi ki_2 (by omega)) (by omega)) (i_cl (i_add hi ki_2 (by omega)) (by omega)) ((Eq.trans (up2_nq (by decide)) (Eq.trans (up2_nq (by decide)) (Eq.trans (up2_nq (by decide)) (Eq.trans (up2_nq (by decide)) (Eq.trans (up2_nq (by decide)) ((hsc _).trans e2))))))) ?_
        refine wi_aloadT_0 ct_211_1054 ?_
        refine wi_iload_3 ct_211_1055 ?_
        refine wi_ic ct_211_1056 kc_3 ?_
        refine wi_iadd ct_211_1057 rfl ?_
        refine wi_ialdT (j := I + 3) (x := a3) ct_211_1058 (sL_SC hS) (i_in (i_add hi ki_3 (by omega)) (by omega)) (i_cl (i_add hi ki_3 (by omega)) (by omega)) ((Eq.trans (up2_nq (by decide)) (Eq.trans (up2_nq (by decide)) (Eq.trans (up2_nq (by decide)) (Eq.trans (up2_nq (by decide)) (Eq.trans (up2_nq (by decide)) ((hsc _).trans e3))))))) ?_
        refine wi_cv3 (ls' := [some _, some _, some _, some _]) ct_211_1059 (Nat.le_of_ble_eq_true rfl) (by decide) (sT_31 hS) rfl (by decide) rfl rfl (Nat.le_of_ble_eq_true rfl) ?_
        refine wi_aload_0 ct_190_0 ?_
        refine wi_ic ct_190_1 kc_0 ?_
        refine wi_pf ct_190_2 (sT_31 hS) rfl ?_
        refine wi_aload_0 ct_190_5 ?_
        refine wi_iload_1 ct_190_6 ?_
        refine wi_cv1 (ls' := [some _, some _]) ct_190_7 (Nat.le_of_ble_eq_true rfl) (by decide) (sT_31 hS) rfl (by decide) rfl rfl (Nat.le_of_ble_eq_true rfl) ?_
        refine wi_aload_0 ct_120_0 ?_
        refine wi_iload_1 ct_120_1 ?_
        refine wi_ic ct_120_2 kc_0 ?_
        refine wi_aload_0 ct_120_3 ?_
        refine wi_gf (x := fi 31 0) ct_120_4 (sT_31 hS) rfl rfl (Eq.trans (up2_nj (by decide)) (Eq.trans (up2_nq (by decide)) (Eq.trans (up2_nq (by decide)) (Eq.trans (up2_nq (by decide)) (Eq.trans (up2_nq (by decide)) (up2_nq (by decide))))))) ?_
        refine wi_ic ct_120_7 kc_1 ?_
        refine wi_isub ct_120_8 rfl ?_
        refine wi_cv3 (ls' := [some _, some _, some _, some _]) ct_120_9 (Nat.le_of_ble_eq_true rfl) (by decide) (sT_31 hS) rfl (by decide) rfl rfl (Nat.le_of_ble_eq_true rfl) ?_
        refine c_in hBn ki_0 (i_sub rfl ki_1 (by omega)) (fun _ => wk_i ?_) (fun h => absurd h (by omega))
        refine wi_iret ct_120_12 (by decide) (wk_i ?_)
        refine wi_ifeq_f ct_190_10 ki_1 (by decide) ?_
        refine wi_aload_0 ct_190_13 ?_
        refine wi_iload_2 ct_190_14 ?_
        refine wi_ic ct_190_15 kc_0 ?_
        refine wi_ic ct_190_16 kc_2 ?_
        refine wi_cv3 (ls' := [some _, some _, some _, some _]) ct_190_17 (Nat.le_of_ble_eq_true rfl) (by decide) (sT_31 hS) rfl (by decide) rfl rfl (Nat.le_of_ble_eq_true rfl) ?_
        refine c_in rfl ki_0 ki_2 (fun _ => wk_i ?_) (fun h => absurd h (by omega))
        refine wi_ifne_t ct_190_20 ki_1 (by decide) ?_
        refine wi_iload_2 ct_190_25 ?_
        refine wi_ifne_t ct_190_26 rfl (by omega) ?_
        refine wi_iload_2 ct_190_38 ?_
        refine wi_ic ct_190_39 kc_1 ?_
        refine wi_icne_f ct_190_40 rfl ki_1 (by omega) ?_
        refine wi_aload_0 ct_190_43 ?_
        refine wi_iload_1 ct_190_44 ?_
        refine wi_iload_3 ct_190_45 ?_
        refine wi_cv2 (ls' := [some _, some _, some _, none]) ct_190_46 (Nat.le_of_ble_eq_true rfl) (by decide) (sT_31 hS) rfl (by decide) rfl rfl (Nat.le_of_ble_eq_true rfl) ?_
        refine wi_aload_0 ct_187_0 ?_
        refine wi_gfr ct_187_1 (sT_31 hS) rfl (sR_31_2 hS) ?_
        refine wi_iload_1 ct_187_4 ?_
        refine wi_iald (x := fi 32 B) ct_187_5 (sT_32 hS) (sL_32 hS) (i_in hBn (by omega)) (i_cl (k := B) hBn (by omega)) (Eq.trans (up2_nq (by decide)) (Eq.trans (up2_nq (by decide)) (Eq.trans (up2_nq (by decide)) (Eq.trans (up2_nq (by decide)) (Eq.trans (up2_nq (by decide)) (up2_nq (by decide))))))) ?_
        refine wi_lsw (X := 3) (t := 84) ct_187_6 (by omega) (by decide) ?_
        refine wi_aload_0 ct_187_84 ?_
        refine wi_iload_1 ct_187_85 ?_
        refine wi_iload_2 ct_187_86 ?_
        refine wi_cv2 (ls' := [some _, some _, some _]) ct_187_87 (Nat.le_of_ble_eq_true rfl) (by decide) (sT_31 hS) rfl (by decide) rfl rfl (Nat.le_of_ble_eq_true rfl) ?_
        refine wi_aload_0 ct_185_0 ?_
        refine wi_ic ct_185_1 kc_11 ?_
        refine wi_cv1 (ls' := [some _, some _]) ct_185_3 (Nat.le_of_ble_eq_true rfl) (by decide) (sT_31 hS) rfl (by decide) rfl rfl (Nat.le_of_ble_eq_true rfl) ?_
        refine wi_aload_0 ct_182_0 ?_
        refine wi_gf (x := 0) ct_182_1 (sT_31 hS) rfl rfl up2_eq ?_
        refine wi_ic ct_182_4 kc_20 ?_
        refine wi_icge_f ct_182_6 ki_0 ki_20 (by decide) ?_
        refine wi_aload_0 ct_182_9 ?_
        refine wi_gfr ct_182_10 (sT_31 hS) rfl (sR_31_66 hS) ?_
        refine wi_aload_0 ct_182_13 ?_
        refine wi_gf (x := 0) ct_182_14 (sT_31 hS) rfl rfl up2_eq ?_
        refine wi_iload_1 ct_182_17 ?_
        refine wi_iast ct_182_18 (sT_67 hS) (sL_67 hS) (by decide) kn_c0 ?_
        refine wi_aload_0 ct_182_19 ?_
        refine wi_dup ct_182_20 rfl ?_
        refine wi_gf (x := 0) ct_182_21 (sT_31 hS) rfl rfl (Eq.trans (up2_nq (by decide)) up2_eq) ?_
        refine wi_ic ct_182_24 kc_1 ?_
        refine wi_iadd (z := 1) ct_182_25 (by decide) ?_
        refine wi_pf ct_182_26 (sT_31 hS) rfl ?_
        refine wi_ret ct_182_29 (wk_v ?_)
        refine wi_aload_0 ct_185_6 ?_
        refine wi_iload_1 ct_185_7 ?_
        refine wi_iload_2 ct_185_8 ?_
        refine wi_cv2 (ls' := [some _, some _, some _]) ct_185_9 (Nat.le_of_ble_eq_true rfl) (by decide) (sT_31 hS) rfl (by decide) rfl rfl (Nat.le_of_ble_eq_true rfl) ?_
        refine wi_aload_0 ct_184_0 ?_
        refine wi_gfr ct_184_1 (sT_31 hS) rfl (sR_31_2 hS) ?_
        refine wi_iload_1 ct_184_4 ?_
        refine wi_iald (x := fi 32 B) ct_184_5 (sT_32 hS) (sL_32 hS) (i_in hBn (by omega)) (i_cl (k := B) hBn (by omega)) (Eq.trans (up2_nq (by decide)) (Eq.trans (up2_nq (by decide)) (Eq.trans (up2_nq (by decide)) (Eq.trans (up2_nq (by decide)) (Eq.trans (up2_nq (by decide)) (Eq.trans (up2_nq (by decide)) (Eq.trans (up2_nq (by decide)) (up2_nq (by decide))))))))) ?_
        refine wi_tsw (X := 3) (t := 89) ct_184_6 (by omega) rfl ?_
        refine wi_aload_0 ct_184_89 ?_
        refine wi_iload_1 ct_184_90 ?_
        refine wi_iload_2 ct_184_91 ?_
        refine wi_cv2 (ls' := [some _, some _, some _]) ct_184_92 (Nat.le_of_ble_eq_true rfl) (by decide) (sT_31 hS) rfl (by decide) rfl rfl (Nat.le_of_ble_eq_true rfl) ?_
        refine wi_aload_0 ct_183_0 ?_
        refine wi_ic ct_183_1 kc_10 ?_
        refine wi_cv1 (ls' := [some _, some _]) ct_183_3 (Nat.le_of_ble_eq_true rfl) (by decide) (sT_31 hS) rfl (by decide) rfl rfl (Nat.le_of_ble_eq_true rfl) ?_
        refine wi_aload_0 ct_182_0 ?_
        refine wi_gf (x := 1) ct_182_1 (sT_31 hS) rfl rfl up2_eq ?_
        refine wi_ic ct_182_4 kc_20 ?_
        refine wi_icge_f ct_182_6 ki_1 ki_20 (by decide) ?_
        refine wi_aload_0 ct_182_9 ?_
        refine wi_gfr ct_182_10 (sT_31 hS) rfl (sR_31_66 hS) ?_
        refine wi_aload_0 ct_182_13 ?_
        refine wi_gf (x := 1) ct_182_14 (sT_31 hS) rfl rfl up2_eq ?_
        refine wi_iload_1 ct_182_17 ?_
        refine wi_iast ct_182_18 (sT_67 hS) (sL_67 hS) (by decide) kn_c1 ?_
        refine wi_aload_0 ct_182_19 ?_
        refine wi_dup ct_182_20 rfl ?_
        refine wi_gf (x := 1) ct_182_21 (sT_31 hS) rfl rfl (Eq.trans (up2_nq (by decide)) up2_eq) ?_
        refine wi_ic ct_182_24 kc_1 ?_
        refine wi_iadd (z := 2) ct_182_25 (by decide) ?_
        refine wi_pf ct_182_26 (sT_31 hS) rfl ?_
        refine wi_ret ct_182_29 (wk_v ?_)
        refine wi_iload_2 ct_183_6 ?_
        refine wi_iload_1 ct_183_7 ?_
        refine wi_iadd ct_183_8 rfl ?_
        refine wi_iret ct_183_9 rfl (wk_i ?_)
        refine wi_iret ct_184_95 rfl (wk_i ?_)
        refine wi_aload_0 ct_185_12 ?_
        refine wi_gfr ct_185_13 (sT_31 hS) rfl (sR_31_3 hS) ?_
        refine wi_iload_1 ct_185_16 ?_
        refine wi_iald (x := fi 33 B) ct_185_17 (sT_33 hS) (sL_33 hS) (i_in hBn (by omega)) (i_cl (k := B) hBn (by omega)) (Eq.trans (up2_nq (by decide)) (Eq.trans (up2_nq (by decide)) (Eq.trans (up2_nq (by decide)) (Eq.trans (up2_nq (by decide)) (Eq.trans (up2_nq (by decide)) (Eq.trans (up2_nq (by decide)) (Eq.trans (up2_nq (by decide)) (Eq.trans (up2_nq (by decide)) (Eq.trans (up2_nq (by decide)) (up2_nq (by decide))))))))))) ?_
        refine wi_isub ct_185_18 rfl ?_
        refine wi_iret ct_185_19 rfl (wk_i ?_)
        refine wi_iret ct_187_90 rfl (wk_i ?_)
        refine wi_goto ct_190_49 ?_
        refine wi_iret ct_190_58 rfl (wk_i ?_)
        refine wi_iceq_t ct_211_1062 rfl rfl (by omega) ?_
        refine kk own g _ fl (hR.act (fun q h1 h2 h3 => (Eq.trans (funext fun _ => up2_nq h2) (Eq.trans (funext fun _ => up2_nq h3) (Eq.trans (funext fun _ => up2_nq h2) (Eq.trans (funext fun _ => up2_nq h3) (Eq.trans (funext fun _ => up2_nq h2) (Eq.trans (funext fun _ => up2_nq h1) (Eq.trans (funext fun _ => up2_nq h1) (Eq.trans (funext fun _ => up2_nq h1) (Eq.trans (funext fun _ => up2_nq h1) (funext fun _ => up2_nq h1))))))))))) (fun j hj => (Eq.trans (up2_nj hj) (Eq.trans (up2_nq (by decide)) (Eq.trans (up2_nj hj) (Eq.trans (up2_nq (by decide)) (Eq.trans (up2_nj hj) (Eq.trans (up2_nq (by decide)) (Eq.trans (up2_nq (by decide)) (Eq.trans (up2_nq (by decide)) (Eq.trans (up2_nq (by decide)) (up2_nq (by decide)))))))))))) ⟨((Eq.trans (up2_nq (by decide)) (Eq.trans (up2_nq (by decide)) (Eq.trans (up2_nq (by decide)) (Eq.trans (up2_nq (by decide)) (Eq.trans (up2_nq (by decide)) (Eq.trans (up2_nj (by decide)) up2_eq))))))).trans (up2_eq).symm, by rw [up2_eq]; decide, by rw [up2_eq]; decide⟩ ?_) (by omega) (by omega)
        intro j hj hn
        rw [up2_eq] at hn
        replace hn : (j : Int) < 2 := hn
        match j, (by omega : j < 2) with
        | 0, _ => exact ((Eq.trans (up2_nq (by decide)) (Eq.trans (up2_nq (by decide)) (Eq.trans (up2_nq (by decide)) (Eq.trans (up2_nq (by decide)) (Eq.trans (up2_nq (by decide)) (Eq.trans (up2_nj (by decide)) (Eq.trans (up2_nj (by decide)) up2_eq)))))))).trans ((Eq.trans (up2_nq (by decide)) (Eq.trans (up2_nj (by decide)) (Eq.trans (up2_nq (by decide)) up2_eq)))).symm
        | 1, _ => exact ((Eq.trans (up2_nq (by decide)) (Eq.trans (up2_nq (by decide)) (Eq.trans (up2_nq (by decide)) (Eq.trans (up2_nq (by decide)) (Eq.trans (up2_nq (by decide)) up2_eq)))))).trans ((Eq.trans (up2_nq (by decide)) up2_eq)).symm
        | j + 2, h => exact absurd h (by omega)
      · skip
        refine wi_cv2 (ls' := [some _, some _, some _]) ct_95_66 (Nat.le_of_ble_eq_true rfl) (by decide) (ot.trans (by rw [hk19] <;> rfl)) rfl (by decide) rfl rfl (Nat.le_of_ble_eq_true rfl) ?_
        refine wi_ic ct_26_0 kc_51 ?_
        refine wi_aload_2 ct_26_2 ?_
        refine wi_cs2 (ls' := [some _, some _, none]) ct_26_3 (Nat.le_of_ble_eq_true rfl) rfl (Nat.le_of_ble_eq_true rfl) ?_
        refine wi_aload_1 ct_9_0 ?_
        refine wi_ic ct_9_1 kc_0 ?_
        refine wi_dup2 ct_9_2 rfl rfl ?_
        refine wi_iald (x := 0) ct_9_3 (sT_21 hS) (sL_21 hS) (by decide) kn_c0 up2_eq ?_
        refine wi_ic ct_9_4 kc_1 ?_
        refine wi_iadd (z := 1) ct_9_5 (by decide) ?_
        refine wi_iast ct_9_6 (sT_21 hS) (sL_21 hS) (by decide) kn_c0 ?_
        refine wi_aload_1 ct_9_7 ?_
        refine wi_ic ct_9_8 kc_0 ?_
        refine wi_iald (x := 1) ct_9_9 (sT_21 hS) (sL_21 hS) (by decide) kn_c0 up2_eq ?_
        refine wi_istore_2 rfl ct_9_10 ?_
        refine wi_iload_2 ct_9_11 ?_
        refine wi_ifle_f ct_9_12 ki_1 (by decide) ?_
        refine wi_iload_2 ct_9_15 ?_
        refine wi_aload_1 ct_9_16 ?_
        refine wi_len (z := 21) ct_9_17 (sT_21 hS) (by decide) (sL_21 hS) (by decide) ?_
        refine wi_icge_f ct_9_18 ki_1 ki_21 (by decide) ?_
        refine wi_aload_1 ct_9_21 ?_
        refine wi_iload_2 ct_9_22 ?_
        refine wi_iload_0 ct_9_23 ?_
        refine wi_iast ct_9_24 (sT_21 hS) (sL_21 hS) (by decide) kn_c1 ?_
        refine wi_ret ct_9_25 (wk_v ?_)
        refine wi_aload_0 ct_26_6 ?_
        refine wi_iload_1 ct_26_7 ?_
        refine wi_ic ct_26_8 kc_1 ?_
        refine wi_iadd ct_26_9 rfl ?_
        refine wi_aload_2 ct_26_10 ?_
        refine wi_cp2 (ls' := [some _, some _, some _]) ct_26_11 (Nat.le_of_ble_eq_true rfl) (ot.trans (by rw [hk19] <;> rfl)) (by decide) rfl (Nat.le_of_ble_eq_true rfl) ?_
        refine wi_ic ct_12_0 kc_20 ?_
        refine wi_aload_2 ct_12_2 ?_
        refine wi_cs2 (ls' := [some _, some _, none]) ct_12_3 (Nat.le_of_ble_eq_true rfl) rfl (Nat.le_of_ble_eq_true rfl) ?_
        refine wi_aload_1 ct_9_0 ?_
        refine wi_ic ct_9_1 kc_0 ?_
        refine wi_dup2 ct_9_2 rfl rfl ?_
        refine wi_iald (x := 1) ct_9_3 (sT_21 hS) (sL_21 hS) (by decide) kn_c0 (Eq.trans (up2_nj (by decide)) up2_eq) ?_
        refine wi_ic ct_9_4 kc_1 ?_
        refine wi_iadd (z := 2) ct_9_5 (by decide) ?_
        refine wi_iast ct_9_6 (sT_21 hS) (sL_21 hS) (by decide) kn_c0 ?_
        refine wi_aload_1 ct_9_7 ?_
        refine wi_ic ct_9_8 kc_0 ?_
        refine wi_iald (x := 2) ct_9_9 (sT_21 hS) (sL_21 hS) (by decide) kn_c0 up2_eq ?_
        refine wi_istore_2 rfl ct_9_10 ?_
        refine wi_iload_2 ct_9_11 ?_
        refine wi_ifle_f ct_9_12 ki_2 (by decide) ?_
        refine wi_iload_2 ct_9_15 ?_
        refine wi_aload_1 ct_9_16 ?_
        refine wi_len (z := 21) ct_9_17 (sT_21 hS) (by decide) (sL_21 hS) (by decide) ?_
        refine wi_icge_f ct_9_18 ki_2 ki_21 (by decide) ?_
        refine wi_aload_1 ct_9_21 ?_
        refine wi_iload_2 ct_9_22 ?_
        refine wi_iload_0 ct_9_23 ?_
        refine wi_iast ct_9_24 (sT_21 hS) (sL_21 hS) (by decide) kn_c2 ?_
        refine wi_ret ct_9_25 (wk_v ?_)
        refine wi_aload_0 ct_12_6 ?_
        refine wi_iload_1 ct_12_7 ?_
        refine wi_aload_2 ct_12_8 ?_
        refine wi_cp2 (ls' := [some _, some _, some _]) ct_12_9 (Nat.le_of_ble_eq_true rfl) (ot.trans (by rw [hk19] <;> rfl)) (by decide) rfl (Nat.le_of_ble_eq_true rfl) ?_
        refine wi_ic ct_7_0 kc_11 ?_
        refine wi_aload_2 ct_7_2 ?_
        refine wi_cs2 (ls' := [some _, some _, none]) ct_7_3 (Nat.le_of_ble_eq_true rfl) rfl (Nat.le_of_ble_eq_true rfl) ?_
        refine wi_aload_1 ct_9_0 ?_
        refine wi_ic ct_9_1 kc_0 ?_
        refine wi_dup2 ct_9_2 rfl rfl ?_
        refine wi_iald (x := 2) ct_9_3 (sT_21 hS) (sL_21 hS) (by decide) kn_c0 (Eq.trans (up2_nj (by decide)) up2_eq) ?_
        refine wi_ic ct_9_4 kc_1 ?_
        refine wi_iadd (z := 3) ct_9_5 (by decide) ?_
        refine wi_iast ct_9_6 (sT_21 hS) (sL_21 hS) (by decide) kn_c0 ?_
        refine wi_aload_1 ct_9_7 ?_
        refine wi_ic ct_9_8 kc_0 ?_
        refine wi_iald (x := 3) ct_9_9 (sT_21 hS) (sL_21 hS) (by decide) kn_c0 up2_eq ?_
        refine wi_istore_2 rfl ct_9_10 ?_
        refine wi_iload_2 ct_9_11 ?_
        refine wi_ifle_f ct_9_12 ki_3 (by decide) ?_
        refine wi_iload_2 ct_9_15 ?_
        refine wi_aload_1 ct_9_16 ?_
        refine wi_len (z := 21) ct_9_17 (sT_21 hS) (by decide) (sL_21 hS) (by decide) ?_
        refine wi_icge_f ct_9_18 ki_3 ki_21 (by decide) ?_
        refine wi_aload_1 ct_9_21 ?_
        refine wi_iload_2 ct_9_22 ?_
        refine wi_iload_0 ct_9_23 ?_
        refine wi_iast ct_9_24 (sT_21 hS) (sL_21 hS) (by decide) kn_c3 ?_
        refine wi_ret ct_9_25 (wk_v ?_)
        refine wi_aload_0 ct_7_6 ?_
        refine wi_iload_1 ct_7_7 ?_
        refine wi_aload_2 ct_7_8 ?_
        refine wi_cv2 (ls' := [some _, some _, some _]) ct_7_9 (Nat.le_of_ble_eq_true rfl) (by decide) (ot.trans (by rw [hk19] <;> rfl)) rfl (by decide) rfl rfl (Nat.le_of_ble_eq_true rfl) ?_
        refine wi_ic ct_25_0 kc_50 ?_
        refine wi_aload_2 ct_25_2 ?_
        refine wi_cs2 (ls' := [some _, some _, none]) ct_25_3 (Nat.le_of_ble_eq_true rfl) rfl (Nat.le_of_ble_eq_true rfl) ?_
        refine wi_aload_1 ct_9_0 ?_
        refine wi_ic ct_9_1 kc_0 ?_
        refine wi_dup2 ct_9_2 rfl rfl ?_
        refine wi_iald (x := 3) ct_9_3 (sT_21 hS) (sL_21 hS) (by decide) kn_c0 (Eq.trans (up2_nj (by decide)) up2_eq) ?_
        refine wi_ic ct_9_4 kc_1 ?_
        refine wi_iadd (z := 4) ct_9_5 (by decide) ?_
        refine wi_iast ct_9_6 (sT_21 hS) (sL_21 hS) (by decide) kn_c0 ?_
        refine wi_aload_1 ct_9_7 ?_
        refine wi_ic ct_9_8 kc_0 ?_
        refine wi_iald (x := 4) ct_9_9 (sT_21 hS) (sL_21 hS) (by decide) kn_c0 up2_eq ?_
        refine wi_istore_2 rfl ct_9_10 ?_
        refine wi_iload_2 ct_9_11 ?_
        refine wi_ifle_f ct_9_12 ki_4 (by decide) ?_
        refine wi_iload_2 ct_9_15 ?_
        refine wi_aload_1 ct_9_16 ?_
        refine wi_len (z := 21) ct_9_17 (sT_21 hS) (by decide) (sL_21 hS) (by decide) ?_
        refine wi_icge_f ct_9_18 ki_4 ki_21 (by decide) ?_
        refine wi_aload_1 ct_9_21 ?_
        refine wi_iload_2 ct_9_22 ?_
        refine wi_iload_0 ct_9_23 ?_
        refine wi_iast ct_9_24 (sT_21 hS) (sL_21 hS) (by decide) kn_c4 ?_
        refine wi_ret ct_9_25 (wk_v ?_)
        refine wi_aload_0 ct_25_6 ?_
        refine wi_iload_1 ct_25_7 ?_
        refine wi_aload_2 ct_25_8 ?_
        refine wi_cp2 (ls' := [some _, some _, some _]) ct_25_9 (Nat.le_of_ble_eq_true rfl) (ot.trans (by rw [hk19] <;> rfl)) (by decide) rfl (Nat.le_of_ble_eq_true rfl) ?_
        refine wi_ic ct_6_0 kc_10 ?_
        refine wi_aload_2 ct_6_2 ?_
        refine wi_cs2 (ls' := [some _, some _, none]) ct_6_3 (Nat.le_of_ble_eq_true rfl) rfl (Nat.le_of_ble_eq_true rfl) ?_
        refine wi_aload_1 ct_9_0 ?_
        refine wi_ic ct_9_1 kc_0 ?_
        refine wi_dup2 ct_9_2 rfl rfl ?_
        refine wi_iald (x := 4) ct_9_3 (sT_21 hS) (sL_21 hS) (by decide) kn_c0 (Eq.trans (up2_nj (by decide)) up2_eq) ?_
        refine wi_ic ct_9_4 kc_1 ?_
        refine wi_iadd (z := 5) ct_9_5 (by decide) ?_
        refine wi_iast ct_9_6 (sT_21 hS) (sL_21 hS) (by decide) kn_c0 ?_
        refine wi_aload_1 ct_9_7 ?_
        refine wi_ic ct_9_8 kc_0 ?_
        refine wi_iald (x := 5) ct_9_9 (sT_21 hS) (sL_21 hS) (by decide) kn_c0 up2_eq ?_
        refine wi_istore_2 rfl ct_9_10 ?_
        refine wi_iload_2 ct_9_11 ?_
        refine wi_ifle_f ct_9_12 ki_5 (by decide) ?_
        refine wi_iload_2 ct_9_15 ?_
        refine wi_aload_1 ct_9_16 ?_
        refine wi_len (z := 21) ct_9_17 (sT_21 hS) (by decide) (sL_21 hS) (by decide) ?_
        refine wi_icge_f ct_9_18 ki_5 ki_21 (by decide) ?_
        refine wi_aload_1 ct_9_21 ?_
        refine wi_iload_2 ct_9_22 ?_
        refine wi_iload_0 ct_9_23 ?_
        refine wi_iast ct_9_24 (sT_21 hS) (sL_21 hS) (by decide) kn_c5 ?_
        refine wi_ret ct_9_25 (wk_v ?_)
        refine wi_iload_1 ct_6_6 ?_
        refine wi_aload_0 ct_6_7 ?_
        refine wi_gf (x := a1) ct_6_8 (ot.trans (by rw [hk19] <;> rfl)) rfl rfl (Eq.trans (up2_nq (dn o72 (by decide))) (Eq.trans (up2_nq (dn o72 (by decide))) (Eq.trans (up2_nq (dn o72 (by decide))) (Eq.trans (up2_nq (dn o72 (by decide))) (Eq.trans (up2_nq (dn o72 (by decide))) (Eq.trans (up2_nq (dn o72 (by decide))) (Eq.trans (up2_nq (dn o72 (by decide))) (Eq.trans (up2_nq (dn o72 (by decide))) (Eq.trans (up2_nq (dn o72 (by decide))) (Eq.trans (up2_nq (dn o72 (by decide))) (Eq.trans (up2_nq (dn o72 (by decide))) hpn))))))))))) ?_
        refine wi_iadd ct_6_11 rfl ?_
        refine wi_iret ct_6_12 rfl (wk_i ?_)
        refine wi_ineg ct_25_12 rfl ?_
        refine wi_iret ct_25_13 rfl (wk_i ?_)
        refine wi_aload_0 ct_7_12 ?_
        refine wi_gf (x := fi 33 B) ct_7_13 (ot.trans (by rw [hk19] <;> rfl)) rfl rfl (Eq.trans (up2_nq (dn o72 (by decide))) (Eq.trans (up2_nq (dn o72 (by decide))) (Eq.trans (up2_nq (dn o72 (by decide))) (Eq.trans (up2_nq (dn o72 (by decide))) (Eq.trans (up2_nq (dn o72 (by decide))) (Eq.trans (up2_nq (dn o72 (by decide))) (Eq.trans (up2_nq (dn o72 (by decide))) (Eq.trans (up2_nq (dn o72 (by decide))) (Eq.trans (up2_nq (dn o72 (by decide))) (Eq.trans (up2_nq (dn o72 (by decide))) (Eq.trans (up2_nq (dn o72 (by decide))) ov))))))))))) ?_
        refine wi_isub ct_7_16 rfl ?_
        refine wi_iret ct_7_17 rfl (wk_i ?_)
        refine wi_ic ct_12_12 kc_6 ?_
        refine wi_ixor ct_12_14 rfl ?_
        refine wi_iret ct_12_15 rfl (wk_i ?_)
        refine wi_iret ct_26_14 rfl (wk_i ?_)
        refine wi_iret ct_95_69 rfl (wk_i ?_)
        refine wi_aload_2 ct_211_1043 ?_
        refine wi_aloadT_0 ct_211_1044 ?_
        refine wi_iload_3 ct_211_1045 ?_
        refine wi_ic ct_211_1046 kc_1 ?_
        refine wi_iadd ct_211_1047 rfl ?_
        refine wi_ialdT (j := I + 1) (x := a1) ct_211_1048 (sL_SC hS) (i_in (i_add hi ki_1 (by omega)) (by omega)) (i_cl (i_add hi ki_1 (by omega)) (by omega)) ((Eq.trans (up2_nq (by decide)) (Eq.trans (up2_nq (by decide)) (Eq.trans (up2_nq (by decide)) (Eq.trans (up2_nq (by decide)) (Eq.trans (up2_nq (by decide)) (Eq.trans (up2_nq (by decide)) (Eq.trans (up2_nq (by decide)) (Eq.trans (up2_nq (by decide)) (Eq.trans (up2_nq (by decide)) (Eq.trans (up2_nq (by decide)) (Eq.trans (up2_nq (by decide)) ((hsc _).trans e1))))))))))))) ?_
        refine wi_aloadT_0 ct_211_1049 ?_
        refine wi_iload_3 ct_211_1050 ?_
        refine wi_ic ct_211_1051 kc_2 ?_
        refine wi_iadd ct_211_1052 rfl ?_
        refine wi_ialdT (j := I + 2) (x := a2) ct_211_1053 (sL_SC hS) (i_in (i_add hi ki_2 (by omega)) (by omega)) (i_cl (i_add hi ki_2 (by omega)) (by omega)) ((Eq.trans (up2_nq (by decide)) (Eq.trans (up2_nq (by decide)) (Eq.trans (up2_nq (by decide)) (Eq.trans (up2_nq (by decide)) (Eq.trans (up2_nq (by decide)) (Eq.trans (up2_nq (by decide)) (Eq.trans (up2_nq (by decide)) (Eq.trans (up2_nq (by decide)) (Eq.trans (up2_nq (by decide)) (Eq.trans (up2_nq (by decide)) (Eq.trans (up2_nq (by decide)) ((hsc _).trans e2))))))))))))) ?_
        refine wi_aloadT_0 ct_211_1054 ?_
        refine wi_iload_3 ct_211_1055 ?_
        refine wi_ic ct_211_1056 kc_3 ?_
        refine wi_iadd ct_211_1057 rfl ?_
        refine wi_ialdT (j := I + 3) (x := a3) ct_211_1058 (sL_SC hS) (i_in (i_add hi ki_3 (by omega)) (by omega)) (i_cl (i_add hi ki_3 (by omega)) (by omega)) ((Eq.trans (up2_nq (by decide)) (Eq.trans (up2_nq (by decide)) (Eq.trans (up2_nq (by decide)) (Eq.trans (up2_nq (by decide)) (Eq.trans (up2_nq (by decide)) (Eq.trans (up2_nq (by decide)) (Eq.trans (up2_nq (by decide)) (Eq.trans (up2_nq (by decide)) (Eq.trans (up2_nq (by decide)) (Eq.trans (up2_nq (by decide)) (Eq.trans (up2_nq (by decide)) ((hsc _).trans e3))))))))))))) ?_
        refine wi_cv3 (ls' := [some _, some _, some _, some _]) ct_211_1059 (Nat.le_of_ble_eq_true rfl) (by decide) (sT_31 hS) rfl (by decide) rfl rfl (Nat.le_of_ble_eq_true rfl) ?_
        refine wi_aload_0 ct_190_0 ?_
        refine wi_ic ct_190_1 kc_0 ?_
        refine wi_pf ct_190_2 (sT_31 hS) rfl ?_
        refine wi_aload_0 ct_190_5 ?_
        refine wi_iload_1 ct_190_6 ?_
        refine wi_cv1 (ls' := [some _, some _]) ct_190_7 (Nat.le_of_ble_eq_true rfl) (by decide) (sT_31 hS) rfl (by decide) rfl rfl (Nat.le_of_ble_eq_true rfl) ?_
        refine wi_aload_0 ct_120_0 ?_
        refine wi_iload_1 ct_120_1 ?_
        refine wi_ic ct_120_2 kc_0 ?_
        refine wi_aload_0 ct_120_3 ?_
        refine wi_gf (x := fi 31 0) ct_120_4 (sT_31 hS) rfl rfl (Eq.trans (up2_nj (by decide)) (Eq.trans (up2_nq (by decide)) (Eq.trans (up2_nq (by decide)) (Eq.trans (up2_nq (by decide)) (Eq.trans (up2_nq (by decide)) (Eq.trans (up2_nq (by decide)) (Eq.trans (up2_nq (by decide)) (Eq.trans (up2_nq (by decide)) (Eq.trans (up2_nq (by decide)) (Eq.trans (up2_nq (by decide)) (Eq.trans (up2_nq (by decide)) (up2_nq (by decide))))))))))))) ?_
        refine wi_ic ct_120_7 kc_1 ?_
        refine wi_isub ct_120_8 rfl ?_
        refine wi_cv3 (ls' := [some _, some _, some _, some _]) ct_120_9 (Nat.le_of_ble_eq_true rfl) (by decide) (sT_31 hS) rfl (by decide) rfl rfl (Nat.le_of_ble_eq_true rfl) ?_
        refine c_in hBn ki_0 (i_sub rfl ki_1 (by omega)) (fun _ => wk_i ?_) (fun h => absurd h (by omega))
        refine wi_iret ct_120_12 (by decide) (wk_i ?_)
        refine wi_ifeq_f ct_190_10 ki_1 (by decide) ?_
        refine wi_aload_0 ct_190_13 ?_
        refine wi_iload_2 ct_190_14 ?_
        refine wi_ic ct_190_15 kc_0 ?_
        refine wi_ic ct_190_16 kc_2 ?_
        refine wi_cv3 (ls' := [some _, some _, some _, some _]) ct_190_17 (Nat.le_of_ble_eq_true rfl) (by decide) (sT_31 hS) rfl (by decide) rfl rfl (Nat.le_of_ble_eq_true rfl) ?_
        refine c_in rfl ki_0 ki_2 (fun _ => wk_i ?_) (fun h => absurd h (by omega))
        refine wi_ifne_t ct_190_20 ki_1 (by decide) ?_
        refine wi_iload_2 ct_190_25 ?_
        refine wi_ifne_t ct_190_26 rfl (by omega) ?_
        refine wi_iload_2 ct_190_38 ?_
        refine wi_ic ct_190_39 kc_1 ?_
        refine wi_icne_f ct_190_40 rfl ki_1 (by omega) ?_
        refine wi_aload_0 ct_190_43 ?_
        refine wi_iload_1 ct_190_44 ?_
        refine wi_iload_3 ct_190_45 ?_
        refine wi_cv2 (ls' := [some _, some _, some _, none]) ct_190_46 (Nat.le_of_ble_eq_true rfl) (by decide) (sT_31 hS) rfl (by decide) rfl rfl (Nat.le_of_ble_eq_true rfl) ?_
        refine wi_aload_0 ct_187_0 ?_
        refine wi_gfr ct_187_1 (sT_31 hS) rfl (sR_31_2 hS) ?_
        refine wi_iload_1 ct_187_4 ?_
        refine wi_iald (x := fi 32 B) ct_187_5 (sT_32 hS) (sL_32 hS) (i_in hBn (by omega)) (i_cl (k := B) hBn (by omega)) (Eq.trans (up2_nq (by decide)) (Eq.trans (up2_nq (by decide)) (Eq.trans (up2_nq (by decide)) (Eq.trans (up2_nq (by decide)) (Eq.trans (up2_nq (by decide)) (Eq.trans (up2_nq (by decide)) (Eq.trans (up2_nq (by decide)) (Eq.trans (up2_nq (by decide)) (Eq.trans (up2_nq (by decide)) (Eq.trans (up2_nq (by decide)) (Eq.trans (up2_nq (by decide)) (up2_nq (by decide))))))))))))) ?_
        refine wi_lsw (X := 4) (t := 47) ct_187_6 (by omega) (by decide) ?_
        refine wi_aload_0 ct_187_47 ?_
        refine wi_ic ct_187_48 kc_51 ?_
        refine wi_cv1 (ls' := [some _, some _]) ct_187_50 (Nat.le_of_ble_eq_true rfl) (by decide) (sT_31 hS) rfl (by decide) rfl rfl (Nat.le_of_ble_eq_true rfl) ?_
        refine wi_aload_0 ct_182_0 ?_
        refine wi_gf (x := 0) ct_182_1 (sT_31 hS) rfl rfl up2_eq ?_
        refine wi_ic ct_182_4 kc_20 ?_
        refine wi_icge_f ct_182_6 ki_0 ki_20 (by decide) ?_
        refine wi_aload_0 ct_182_9 ?_
        refine wi_gfr ct_182_10 (sT_31 hS) rfl (sR_31_66 hS) ?_
        refine wi_aload_0 ct_182_13 ?_
        refine wi_gf (x := 0) ct_182_14 (sT_31 hS) rfl rfl up2_eq ?_
        refine wi_iload_1 ct_182_17 ?_
        refine wi_iast ct_182_18 (sT_67 hS) (sL_67 hS) (by decide) kn_c0 ?_
        refine wi_aload_0 ct_182_19 ?_
        refine wi_dup ct_182_20 rfl ?_
        refine wi_gf (x := 0) ct_182_21 (sT_31 hS) rfl rfl (Eq.trans (up2_nq (by decide)) up2_eq) ?_
        refine wi_ic ct_182_24 kc_1 ?_
        refine wi_iadd (z := 1) ct_182_25 (by decide) ?_
        refine wi_pf ct_182_26 (sT_31 hS) rfl ?_
        refine wi_ret ct_182_29 (wk_v ?_)
        refine wi_aload_0 ct_187_53 ?_
        refine wi_iload_1 ct_187_54 ?_
        refine wi_iload_2 ct_187_55 ?_
        refine wi_ic ct_187_56 kc_1 ?_
        refine wi_iadd ct_187_57 rfl ?_
        refine wi_cv2 (ls' := [some _, some _, some _]) ct_187_58 (Nat.le_of_ble_eq_true rfl) (by decide) (sT_31 hS) rfl (by decide) rfl rfl (Nat.le_of_ble_eq_true rfl) ?_
        refine wi_aload_0 ct_186_0 ?_
        refine wi_ic ct_186_1 kc_20 ?_
        refine wi_cv1 (ls' := [some _, some _]) ct_186_3 (Nat.le_of_ble_eq_true rfl) (by decide) (sT_31 hS) rfl (by decide) rfl rfl (Nat.le_of_ble_eq_true rfl) ?_
        refine wi_aload_0 ct_182_0 ?_
        refine wi_gf (x := 1) ct_182_1 (sT_31 hS) rfl rfl up2_eq ?_
        refine wi_ic ct_182_4 kc_20 ?_
        refine wi_icge_f ct_182_6 ki_1 ki_20 (by decide) ?_
        refine wi_aload_0 ct_182_9 ?_
        refine wi_gfr ct_182_10 (sT_31 hS) rfl (sR_31_66 hS) ?_
        refine wi_aload_0 ct_182_13 ?_
        refine wi_gf (x := 1) ct_182_14 (sT_31 hS) rfl rfl up2_eq ?_
        refine wi_iload_1 ct_182_17 ?_
        refine wi_iast ct_182_18 (sT_67 hS) (sL_67 hS) (by decide) kn_c1 ?_
        refine wi_aload_0 ct_182_19 ?_
        refine wi_dup ct_182_20 rfl ?_
        refine wi_gf (x := 1) ct_182_21 (sT_31 hS) rfl rfl (Eq.trans (up2_nq (by decide)) up2_eq) ?_
        refine wi_ic ct_182_24 kc_1 ?_
        refine wi_iadd (z := 2) ct_182_25 (by decide) ?_
        refine wi_pf ct_182_26 (sT_31 hS) rfl ?_
        refine wi_ret ct_182_29 (wk_v ?_)
        refine wi_aload_0 ct_186_6 ?_
        refine wi_iload_1 ct_186_7 ?_
        refine wi_iload_2 ct_186_8 ?_
        refine wi_cv2 (ls' := [some _, some _, some _]) ct_186_9 (Nat.le_of_ble_eq_true rfl) (by decide) (sT_31 hS) rfl (by decide) rfl rfl (Nat.le_of_ble_eq_true rfl) ?_
        refine wi_aload_0 ct_185_0 ?_
        refine wi_ic ct_185_1 kc_11 ?_
        refine wi_cv1 (ls' := [some _, some _]) ct_185_3 (Nat.le_of_ble_eq_true rfl) (by decide) (sT_31 hS) rfl (by decide) rfl rfl (Nat.le_of_ble_eq_true rfl) ?_
        refine wi_aload_0 ct_182_0 ?_
        refine wi_gf (x := 2) ct_182_1 (sT_31 hS) rfl rfl up2_eq ?_
        refine wi_ic ct_182_4 kc_20 ?_
        refine wi_icge_f ct_182_6 ki_2 ki_20 (by decide) ?_
        refine wi_aload_0 ct_182_9 ?_
        refine wi_gfr ct_182_10 (sT_31 hS) rfl (sR_31_66 hS) ?_
        refine wi_aload_0 ct_182_13 ?_
        refine wi_gf (x := 2) ct_182_14 (sT_31 hS) rfl rfl up2_eq ?_
        refine wi_iload_1 ct_182_17 ?_
        refine wi_iast ct_182_18 (sT_67 hS) (sL_67 hS) (by decide) kn_c2 ?_
        refine wi_aload_0 ct_182_19 ?_
        refine wi_dup ct_182_20 rfl ?_
        refine wi_gf (x := 2) ct_182_21 (sT_31 hS) rfl rfl (Eq.trans (up2_nq (by decide)) up2_eq) ?_
        refine wi_ic ct_182_24 kc_1 ?_
        refine wi_iadd (z := 3) ct_182_25 (by decide) ?_
        refine wi_pf ct_182_26 (sT_31 hS) rfl ?_
        refine wi_ret ct_182_29 (wk_v ?_)
        refine wi_aload_0 ct_185_6 ?_
        refine wi_iload_1 ct_185_7 ?_
        refine wi_iload_2 ct_185_8 ?_
        refine wi_cv2 (ls' := [some _, some _, some _]) ct_185_9 (Nat.le_of_ble_eq_true rfl) (by decide) (sT_31 hS) rfl (by decide) rfl rfl (Nat.le_of_ble_eq_true rfl) ?_
        refine wi_aload_0 ct_184_0 ?_
        refine wi_gfr ct_184_1 (sT_31 hS) rfl (sR_31_2 hS) ?_
        refine wi_iload_1 ct_184_4 ?_
        refine wi_iald (x := fi 32 B) ct_184_5 (sT_32 hS) (sL_32 hS) (i_in hBn (by omega)) (i_cl (k := B) hBn (by omega)) (Eq.trans (up2_nq (by decide)) (Eq.trans (up2_nq (by decide)) (Eq.trans (up2_nq (by decide)) (Eq.trans (up2_nq (by decide)) (Eq.trans (up2_nq (by decide)) (Eq.trans (up2_nq (by decide)) (Eq.trans (up2_nq (by decide)) (Eq.trans (up2_nq (by decide)) (Eq.trans (up2_nq (by decide)) (Eq.trans (up2_nq (by decide)) (Eq.trans (up2_nq (by decide)) (Eq.trans (up2_nq (by decide)) (Eq.trans (up2_nq (by decide)) (Eq.trans (up2_nq (by decide)) (Eq.trans (up2_nq (by decide)) (Eq.trans (up2_nq (by decide)) (Eq.trans (up2_nq (by decide)) (up2_nq (by decide))))))))))))))))))) ?_
        refine wi_tsw (X := 4) (t := 55) ct_184_6 (by omega) rfl ?_
        refine wi_aload_0 ct_184_55 ?_
        refine wi_ic ct_184_56 kc_50 ?_
        refine wi_cv1 (ls' := [some _, some _]) ct_184_58 (Nat.le_of_ble_eq_true rfl) (by decide) (sT_31 hS) rfl (by decide) rfl rfl (Nat.le_of_ble_eq_true rfl) ?_
        refine wi_aload_0 ct_182_0 ?_
        refine wi_gf (x := 3) ct_182_1 (sT_31 hS) rfl rfl up2_eq ?_
        refine wi_ic ct_182_4 kc_20 ?_
        refine wi_icge_f ct_182_6 ki_3 ki_20 (by decide) ?_
        refine wi_aload_0 ct_182_9 ?_
        refine wi_gfr ct_182_10 (sT_31 hS) rfl (sR_31_66 hS) ?_
        refine wi_aload_0 ct_182_13 ?_
        refine wi_gf (x := 3) ct_182_14 (sT_31 hS) rfl rfl up2_eq ?_
        refine wi_iload_1 ct_182_17 ?_
        refine wi_iast ct_182_18 (sT_67 hS) (sL_67 hS) (by decide) kn_c3 ?_
        refine wi_aload_0 ct_182_19 ?_
        refine wi_dup ct_182_20 rfl ?_
        refine wi_gf (x := 3) ct_182_21 (sT_31 hS) rfl rfl (Eq.trans (up2_nq (by decide)) up2_eq) ?_
        refine wi_ic ct_182_24 kc_1 ?_
        refine wi_iadd (z := 4) ct_182_25 (by decide) ?_
        refine wi_pf ct_182_26 (sT_31 hS) rfl ?_
        refine wi_ret ct_182_29 (wk_v ?_)
        refine wi_aload_0 ct_184_61 ?_
        refine wi_iload_1 ct_184_62 ?_
        refine wi_iload_2 ct_184_63 ?_
        refine wi_cv2 (ls' := [some _, some _, some _]) ct_184_64 (Nat.le_of_ble_eq_true rfl) (by decide) (sT_31 hS) rfl (by decide) rfl rfl (Nat.le_of_ble_eq_true rfl) ?_
        refine wi_aload_0 ct_183_0 ?_
        refine wi_ic ct_183_1 kc_10 ?_
        refine wi_cv1 (ls' := [some _, some _]) ct_183_3 (Nat.le_of_ble_eq_true rfl) (by decide) (sT_31 hS) rfl (by decide) rfl rfl (Nat.le_of_ble_eq_true rfl) ?_
        refine wi_aload_0 ct_182_0 ?_
        refine wi_gf (x := 4) ct_182_1 (sT_31 hS) rfl rfl up2_eq ?_
        refine wi_ic ct_182_4 kc_20 ?_
        refine wi_icge_f ct_182_6 ki_4 ki_20 (by decide) ?_
        refine wi_aload_0 ct_182_9 ?_
        refine wi_gfr ct_182_10 (sT_31 hS) rfl (sR_31_66 hS) ?_
        refine wi_aload_0 ct_182_13 ?_
        refine wi_gf (x := 4) ct_182_14 (sT_31 hS) rfl rfl up2_eq ?_
        refine wi_iload_1 ct_182_17 ?_
        refine wi_iast ct_182_18 (sT_67 hS) (sL_67 hS) (by decide) kn_c4 ?_
        refine wi_aload_0 ct_182_19 ?_
        refine wi_dup ct_182_20 rfl ?_
        refine wi_gf (x := 4) ct_182_21 (sT_31 hS) rfl rfl (Eq.trans (up2_nq (by decide)) up2_eq) ?_
        refine wi_ic ct_182_24 kc_1 ?_
        refine wi_iadd (z := 5) ct_182_25 (by decide) ?_
        refine wi_pf ct_182_26 (sT_31 hS) rfl ?_
        refine wi_ret ct_182_29 (wk_v ?_)
        refine wi_iload_2 ct_183_6 ?_
        refine wi_iload_1 ct_183_7 ?_
        refine wi_iadd ct_183_8 rfl ?_
        refine wi_iret ct_183_9 rfl (wk_i ?_)
        refine wi_ineg ct_184_67 rfl ?_
        refine wi_iret ct_184_68 rfl (wk_i ?_)
        refine wi_aload_0 ct_185_12 ?_
        refine wi_gfr ct_185_13 (sT_31 hS) rfl (sR_31_3 hS) ?_
        refine wi_iload_1 ct_185_16 ?_
        refine wi_iald (x := fi 33 B) ct_185_17 (sT_33 hS) (sL_33 hS) (i_in hBn (by omega)) (i_cl (k := B) hBn (by omega)) (Eq.trans (up2_nq (by decide)) (Eq.trans (up2_nq (by decide)) (Eq.trans (up2_nq (by decide)) (Eq.trans (up2_nq (by decide)) (Eq.trans (up2_nq (by decide)) (Eq.trans (up2_nq (by decide)) (Eq.trans (up2_nq (by decide)) (Eq.trans (up2_nq (by decide)) (Eq.trans (up2_nq (by decide)) (Eq.trans (up2_nq (by decide)) (Eq.trans (up2_nq (by decide)) (Eq.trans (up2_nq (by decide)) (Eq.trans (up2_nq (by decide)) (Eq.trans (up2_nq (by decide)) (Eq.trans (up2_nq (by decide)) (Eq.trans (up2_nq (by decide)) (Eq.trans (up2_nq (by decide)) (Eq.trans (up2_nq (by decide)) (Eq.trans (up2_nq (by decide)) (Eq.trans (up2_nq (by decide)) (Eq.trans (up2_nq (by decide)) (up2_nq (by decide))))))))))))))))))))))) ?_
        refine wi_isub ct_185_18 rfl ?_
        refine wi_iret ct_185_19 rfl (wk_i ?_)
        refine wi_ic ct_186_12 kc_6 ?_
        refine wi_ixor ct_186_14 rfl ?_
        refine wi_iret ct_186_15 rfl (wk_i ?_)
        refine wi_iret ct_187_61 rfl (wk_i ?_)
        refine wi_goto ct_190_49 ?_
        refine wi_iret ct_190_58 rfl (wk_i ?_)
        refine wi_iceq_t ct_211_1062 rfl rfl (by omega) ?_
        refine kk own g _ fl (hR.act (fun q h1 h2 h3 => (Eq.trans (funext fun _ => up2_nq h2) (Eq.trans (funext fun _ => up2_nq h3) (Eq.trans (funext fun _ => up2_nq h2) (Eq.trans (funext fun _ => up2_nq h3) (Eq.trans (funext fun _ => up2_nq h2) (Eq.trans (funext fun _ => up2_nq h3) (Eq.trans (funext fun _ => up2_nq h2) (Eq.trans (funext fun _ => up2_nq h3) (Eq.trans (funext fun _ => up2_nq h2) (Eq.trans (funext fun _ => up2_nq h3) (Eq.trans (funext fun _ => up2_nq h2) (Eq.trans (funext fun _ => up2_nq h1) (Eq.trans (funext fun _ => up2_nq h1) (Eq.trans (funext fun _ => up2_nq h1) (Eq.trans (funext fun _ => up2_nq h1) (Eq.trans (funext fun _ => up2_nq h1) (Eq.trans (funext fun _ => up2_nq h1) (Eq.trans (funext fun _ => up2_nq h1) (Eq.trans (funext fun _ => up2_nq h1) (Eq.trans (funext fun _ => up2_nq h1) (Eq.trans (funext fun _ => up2_nq h1) (funext fun _ => up2_nq h1))))))))))))))))))))))) (fun j hj => (Eq.trans (up2_nj hj) (Eq.trans (up2_nq (by decide)) (Eq.trans (up2_nj hj) (Eq.trans (up2_nq (by decide)) (Eq.trans (up2_nj hj) (Eq.trans (up2_nq (by decide)) (Eq.trans (up2_nj hj) (Eq.trans (up2_nq (by decide)) (Eq.trans (up2_nj hj) (Eq.trans (up2_nq (by decide)) (Eq.trans (up2_nj hj) (Eq.trans (up2_nq (by decide)) (Eq.trans (up2_nq (by decide)) (Eq.trans (up2_nq (by decide)) (Eq.trans (up2_nq (by decide)) (Eq.trans (up2_nq (by decide)) (Eq.trans (up2_nq (by decide)) (Eq.trans (up2_nq (by decide)) (Eq.trans (up2_nq (by decide)) (Eq.trans (up2_nq (by decide)) (Eq.trans (up2_nq (by decide)) (up2_nq (by decide)))))))))))))))))))))))) ⟨((Eq.trans (up2_nq (by decide)) (Eq.trans (up2_nq (by decide)) (Eq.trans (up2_nq (by decide)) (Eq.trans (up2_nq (by decide)) (Eq.trans (up2_nq (by decide)) (Eq.trans (up2_nq (by decide)) (Eq.trans (up2_nq (by decide)) (Eq.trans (up2_nq (by decide)) (Eq.trans (up2_nq (by decide)) (Eq.trans (up2_nq (by decide)) (Eq.trans (up2_nq (by decide)) (Eq.trans (up2_nj (by decide)) up2_eq))))))))))))).trans (up2_eq).symm, by rw [up2_eq]; decide, by rw [up2_eq]; decide⟩ ?_) (by omega) (by omega)
        intro j hj hn
        rw [up2_eq] at hn
        replace hn : (j : Int) < 5 := hn
        match j, (by omega : j < 5) with
        | 0, _ => exact ((Eq.trans (up2_nq (by decide)) (Eq.trans (up2_nq (by decide)) (Eq.trans (up2_nq (by decide)) (Eq.trans (up2_nq (by decide)) (Eq.trans (up2_nq (by decide)) (Eq.trans (up2_nq (by decide)) (Eq.trans (up2_nq (by decide)) (Eq.trans (up2_nq (by decide)) (Eq.trans (up2_nq (by decide)) (Eq.trans (up2_nq (by decide)) (Eq.trans (up2_nq (by decide)) (Eq.trans (up2_nj (by decide)) (Eq.trans (up2_nj (by decide)) (Eq.trans (up2_nj (by decide)) (Eq.trans (up2_nj (by decide)) (Eq.trans (up2_nj (by decide)) (Eq.trans (up2_nj (by decide)) (Eq.trans (up2_nj (by decide)) (Eq.trans (up2_nj (by decide)) up2_eq)))))))))))))))))))).trans ((Eq.trans (up2_nq (by decide)) (Eq.trans (up2_nj (by decide)) (Eq.trans (up2_nq (by decide)) (Eq.trans (up2_nj (by decide)) (Eq.trans (up2_nq (by decide)) (Eq.trans (up2_nj (by decide)) (Eq.trans (up2_nq (by decide)) (Eq.trans (up2_nj (by decide)) (Eq.trans (up2_nq (by decide)) up2_eq)))))))))).symm
        | 1, _ => exact ((Eq.trans (up2_nq (by decide)) (Eq.trans (up2_nq (by decide)) (Eq.trans (up2_nq (by decide)) (Eq.trans (up2_nq (by decide)) (Eq.trans (up2_nq (by decide)) (Eq.trans (up2_nq (by decide)) (Eq.trans (up2_nq (by decide)) (Eq.trans (up2_nq (by decide)) (Eq.trans (up2_nq (by decide)) (Eq.trans (up2_nq (by decide)) (Eq.trans (up2_nq (by decide)) (Eq.trans (up2_nj (by decide)) (Eq.trans (up2_nj (by decide)) (Eq.trans (up2_nj (by decide)) (Eq.trans (up2_nj (by decide)) (Eq.trans (up2_nj (by decide)) (Eq.trans (up2_nj (by decide)) up2_eq)))))))))))))))))).trans ((Eq.trans (up2_nq (by decide)) (Eq.trans (up2_nj (by decide)) (Eq.trans (up2_nq (by decide)) (Eq.trans (up2_nj (by decide)) (Eq.trans (up2_nq (by decide)) (Eq.trans (up2_nj (by decide)) (Eq.trans (up2_nq (by decide)) up2_eq)))))))).symm
        | 2, _ => exact ((Eq.trans (up2_nq (by decide)) (Eq.trans (up2_nq (by decide)) (Eq.trans (up2_nq (by decide)) (Eq.trans (up2_nq (by decide)) (Eq.trans (up2_nq (by decide)) (Eq.trans (up2_nq (by decide)) (Eq.trans (up2_nq (by decide)) (Eq.trans (up2_nq (by decide)) (Eq.trans (up2_nq (by decide)) (Eq.trans (up2_nq (by decide)) (Eq.trans (up2_nq (by decide)) (Eq.trans (up2_nj (by decide)) (Eq.trans (up2_nj (by decide)) (Eq.trans (up2_nj (by decide)) (Eq.trans (up2_nj (by decide)) up2_eq)))))))))))))))).trans ((Eq.trans (up2_nq (by decide)) (Eq.trans (up2_nj (by decide)) (Eq.trans (up2_nq (by decide)) (Eq.trans (up2_nj (by decide)) (Eq.trans (up2_nq (by decide)) up2_eq)))))).symm
        | 3, _ => exact ((Eq.trans (up2_nq (by decide)) (Eq.trans (up2_nq (by decide)) (Eq.trans (up2_nq (by decide)) (Eq.trans (up2_nq (by decide)) (Eq.trans (up2_nq (by decide)) (Eq.trans (up2_nq (by decide)) (Eq.trans (up2_nq (by decide)) (Eq.trans (up2_nq (by decide)) (Eq.trans (up2_nq (by decide)) (Eq.trans (up2_nq (by decide)) (Eq.trans (up2_nq (by decide)) (Eq.trans (up2_nj (by decide)) (Eq.trans (up2_nj (by decide)) up2_eq)))))))))))))).trans ((Eq.trans (up2_nq (by decide)) (Eq.trans (up2_nj (by decide)) (Eq.trans (up2_nq (by decide)) up2_eq)))).symm
        | 4, _ => exact ((Eq.trans (up2_nq (by decide)) (Eq.trans (up2_nq (by decide)) (Eq.trans (up2_nq (by decide)) (Eq.trans (up2_nq (by decide)) (Eq.trans (up2_nq (by decide)) (Eq.trans (up2_nq (by decide)) (Eq.trans (up2_nq (by decide)) (Eq.trans (up2_nq (by decide)) (Eq.trans (up2_nq (by decide)) (Eq.trans (up2_nq (by decide)) (Eq.trans (up2_nq (by decide)) up2_eq)))))))))))).trans ((Eq.trans (up2_nq (by decide)) up2_eq)).symm
        | j + 5, h => exact absurd h (by omega)
      · skip
        refine wi_cv2 (ls' := [some _, some _, some _]) ct_95_66 (Nat.le_of_ble_eq_true rfl) (by decide) (ot.trans (by rw [hk20] <;> rfl)) rfl (by decide) rfl rfl (Nat.le_of_ble_eq_true rfl) ?_
        refine wi_ic ct_7_0 kc_11 ?_
        refine wi_aload_2 ct_7_2 ?_
        refine wi_cs2 (ls' := [some _, some _, none]) ct_7_3 (Nat.le_of_ble_eq_true rfl) rfl (Nat.le_of_ble_eq_true rfl) ?_
        refine wi_aload_1 ct_9_0 ?_
        refine wi_ic ct_9_1 kc_0 ?_
        refine wi_dup2 ct_9_2 rfl rfl ?_
        refine wi_iald (x := 0) ct_9_3 (sT_21 hS) (sL_21 hS) (by decide) kn_c0 up2_eq ?_
        refine wi_ic ct_9_4 kc_1 ?_
        refine wi_iadd (z := 1) ct_9_5 (by decide) ?_
        refine wi_iast ct_9_6 (sT_21 hS) (sL_21 hS) (by decide) kn_c0 ?_
        refine wi_aload_1 ct_9_7 ?_
        refine wi_ic ct_9_8 kc_0 ?_
        refine wi_iald (x := 1) ct_9_9 (sT_21 hS) (sL_21 hS) (by decide) kn_c0 up2_eq ?_
        refine wi_istore_2 rfl ct_9_10 ?_
        refine wi_iload_2 ct_9_11 ?_
        refine wi_ifle_f ct_9_12 ki_1 (by decide) ?_
        refine wi_iload_2 ct_9_15 ?_
        refine wi_aload_1 ct_9_16 ?_
        refine wi_len (z := 21) ct_9_17 (sT_21 hS) (by decide) (sL_21 hS) (by decide) ?_
        refine wi_icge_f ct_9_18 ki_1 ki_21 (by decide) ?_
        refine wi_aload_1 ct_9_21 ?_
        refine wi_iload_2 ct_9_22 ?_
        refine wi_iload_0 ct_9_23 ?_
        refine wi_iast ct_9_24 (sT_21 hS) (sL_21 hS) (by decide) kn_c1 ?_
        refine wi_ret ct_9_25 (wk_v ?_)
        refine wi_aload_0 ct_7_6 ?_
        refine wi_iload_1 ct_7_7 ?_
        refine wi_aload_2 ct_7_8 ?_
        refine wi_cv2 (ls' := [some _, some _, some _]) ct_7_9 (Nat.le_of_ble_eq_true rfl) (by decide) (ot.trans (by rw [hk20] <;> rfl)) rfl (by decide) rfl rfl (Nat.le_of_ble_eq_true rfl) ?_
        refine wi_ic ct_15_0 kc_30 ?_
        refine wi_aload_2 ct_15_2 ?_
        refine wi_cs2 (ls' := [some _, some _, none]) ct_15_3 (Nat.le_of_ble_eq_true rfl) rfl (Nat.le_of_ble_eq_true rfl) ?_
        refine wi_aload_1 ct_9_0 ?_
        refine wi_ic ct_9_1 kc_0 ?_
        refine wi_dup2 ct_9_2 rfl rfl ?_
        refine wi_iald (x := 1) ct_9_3 (sT_21 hS) (sL_21 hS) (by decide) kn_c0 (Eq.trans (up2_nj (by decide)) up2_eq) ?_
        refine wi_ic ct_9_4 kc_1 ?_
        refine wi_iadd (z := 2) ct_9_5 (by decide) ?_
        refine wi_iast ct_9_6 (sT_21 hS) (sL_21 hS) (by decide) kn_c0 ?_
        refine wi_aload_1 ct_9_7 ?_
        refine wi_ic ct_9_8 kc_0 ?_
        refine wi_iald (x := 2) ct_9_9 (sT_21 hS) (sL_21 hS) (by decide) kn_c0 up2_eq ?_
        refine wi_istore_2 rfl ct_9_10 ?_
        refine wi_iload_2 ct_9_11 ?_
        refine wi_ifle_f ct_9_12 ki_2 (by decide) ?_
        refine wi_iload_2 ct_9_15 ?_
        refine wi_aload_1 ct_9_16 ?_
        refine wi_len (z := 21) ct_9_17 (sT_21 hS) (by decide) (sL_21 hS) (by decide) ?_
        refine wi_icge_f ct_9_18 ki_2 ki_21 (by decide) ?_
        refine wi_aload_1 ct_9_21 ?_
        refine wi_iload_2 ct_9_22 ?_
        refine wi_iload_0 ct_9_23 ?_
        refine wi_iast ct_9_24 (sT_21 hS) (sL_21 hS) (by decide) kn_c2 ?_
        refine wi_ret ct_9_25 (wk_v ?_)
        refine wi_aload_0 ct_15_6 ?_
        refine wi_iload_1 ct_15_7 ?_
        refine wi_ic ct_15_8 kc_3 ?_
        refine wi_imul ct_15_9 rfl ?_
        refine wi_aload_2 ct_15_10 ?_
        refine wi_cp2 (ls' := [some _, some _, some _]) ct_15_11 (Nat.le_of_ble_eq_true rfl) (ot.trans (by rw [hk20] <;> rfl)) (by decide) rfl (Nat.le_of_ble_eq_true rfl) ?_
        refine wi_ic ct_6_0 kc_10 ?_
        refine wi_aload_2 ct_6_2 ?_
        refine wi_cs2 (ls' := [some _, some _, none]) ct_6_3 (Nat.le_of_ble_eq_true rfl) rfl (Nat.le_of_ble_eq_true rfl) ?_
        refine wi_aload_1 ct_9_0 ?_
        refine wi_ic ct_9_1 kc_0 ?_
        refine wi_dup2 ct_9_2 rfl rfl ?_
        refine wi_iald (x := 2) ct_9_3 (sT_21 hS) (sL_21 hS) (by decide) kn_c0 (Eq.trans (up2_nj (by decide)) up2_eq) ?_
        refine wi_ic ct_9_4 kc_1 ?_
        refine wi_iadd (z := 3) ct_9_5 (by decide) ?_
        refine wi_iast ct_9_6 (sT_21 hS) (sL_21 hS) (by decide) kn_c0 ?_
        refine wi_aload_1 ct_9_7 ?_
        refine wi_ic ct_9_8 kc_0 ?_
        refine wi_iald (x := 3) ct_9_9 (sT_21 hS) (sL_21 hS) (by decide) kn_c0 up2_eq ?_
        refine wi_istore_2 rfl ct_9_10 ?_
        refine wi_iload_2 ct_9_11 ?_
        refine wi_ifle_f ct_9_12 ki_3 (by decide) ?_
        refine wi_iload_2 ct_9_15 ?_
        refine wi_aload_1 ct_9_16 ?_
        refine wi_len (z := 21) ct_9_17 (sT_21 hS) (by decide) (sL_21 hS) (by decide) ?_
        refine wi_icge_f ct_9_18 ki_3 ki_21 (by decide) ?_
        refine wi_aload_1 ct_9_21 ?_
        refine wi_iload_2 ct_9_22 ?_
        refine wi_iload_0 ct_9_23 ?_
        refine wi_iast ct_9_24 (sT_21 hS) (sL_21 hS) (by decide) kn_c3 ?_
        refine wi_ret ct_9_25 (wk_v ?_)
        refine wi_iload_1 ct_6_6 ?_
        refine wi_aload_0 ct_6_7 ?_
        refine wi_gf (x := a1) ct_6_8 (ot.trans (by rw [hk20] <;> rfl)) rfl rfl (Eq.trans (up2_nq (dn o72 (by decide))) (Eq.trans (up2_nq (dn o72 (by decide))) (Eq.trans (up2_nq (dn o72 (by decide))) (Eq.trans (up2_nq (dn o72 (by decide))) (Eq.trans (up2_nq (dn o72 (by decide))) (Eq.trans (up2_nq (dn o72 (by decide))) (Eq.trans (up2_nq (dn o72 (by decide))) hpn))))))) ?_
        refine wi_iadd ct_6_11 rfl ?_
        refine wi_iret ct_6_12 rfl (wk_i ?_)
        refine wi_iret ct_15_14 rfl (wk_i ?_)
        refine wi_aload_0 ct_7_12 ?_
        refine wi_gf (x := fi 33 B) ct_7_13 (ot.trans (by rw [hk20] <;> rfl)) rfl rfl (Eq.trans (up2_nq (dn o72 (by decide))) (Eq.trans (up2_nq (dn o72 (by decide))) (Eq.trans (up2_nq (dn o72 (by decide))) (Eq.trans (up2_nq (dn o72 (by decide))) (Eq.trans (up2_nq (dn o72 (by decide))) (Eq.trans (up2_nq (dn o72 (by decide))) (Eq.trans (up2_nq (dn o72 (by decide))) ov))))))) ?_
        refine wi_isub ct_7_16 rfl ?_
        refine wi_iret ct_7_17 rfl (wk_i ?_)
        refine wi_iret ct_95_69 rfl (wk_i ?_)
        refine wi_aload_2 ct_211_1043 ?_
        refine wi_aloadT_0 ct_211_1044 ?_
        refine wi_iload_3 ct_211_1045 ?_
        refine wi_ic ct_211_1046 kc_1 ?_
        refine wi_iadd ct_211_1047 rfl ?_
        refine wi_ialdT (j := I + 1) (x := a1) ct_211_1048 (sL_SC hS) (i_in (i_add hi ki_1 (by omega)) (by omega)) (i_cl (i_add hi ki_1 (by omega)) (by omega)) ((Eq.trans (up2_nq (by decide)) (Eq.trans (up2_nq (by decide)) (Eq.trans (up2_nq (by decide)) (Eq.trans (up2_nq (by decide)) (Eq.trans (up2_nq (by decide)) (Eq.trans (up2_nq (by decide)) (Eq.trans (up2_nq (by decide)) ((hsc _).trans e1))))))))) ?_
        refine wi_aloadT_0 ct_211_1049 ?_
        refine wi_iload_3 ct_211_1050 ?_
        refine wi_ic ct_211_1051 kc_2 ?_
        refine wi_iadd ct_211_1052 rfl ?_
        refine wi_ialdT (j := I + 2) (x := a2) ct_211_1053 (sL_SC hS) (i_in (i_add hi ki_2 (by omega)) (by omega)) (i_cl (i_add hi ki_2 (by omega)) (by omega)) ((Eq.trans (up2_nq (by decide)) (Eq.trans (up2_nq (by decide)) (Eq.trans (up2_nq (by decide)) (Eq.trans (up2_nq (by decide)) (Eq.trans (up2_nq (by decide)) (Eq.trans (up2_nq (by decide)) (Eq.trans (up2_nq (by decide)) ((hsc _).trans e2))))))))) ?_
        refine wi_aloadT_0 ct_211_1054 ?_
        refine wi_iload_3 ct_211_1055 ?_
        refine wi_ic ct_211_1056 kc_3 ?_
        refine wi_iadd ct_211_1057 rfl ?_
        refine wi_ialdT (j := I + 3) (x := a3) ct_211_1058 (sL_SC hS) (i_in (i_add hi ki_3 (by omega)) (by omega)) (i_cl (i_add hi ki_3 (by omega)) (by omega)) ((Eq.trans (up2_nq (by decide)) (Eq.trans (up2_nq (by decide)) (Eq.trans (up2_nq (by decide)) (Eq.trans (up2_nq (by decide)) (Eq.trans (up2_nq (by decide)) (Eq.trans (up2_nq (by decide)) (Eq.trans (up2_nq (by decide)) ((hsc _).trans e3))))))))) ?_
        refine wi_cv3 (ls' := [some _, some _, some _, some _]) ct_211_1059 (Nat.le_of_ble_eq_true rfl) (by decide) (sT_31 hS) rfl (by decide) rfl rfl (Nat.le_of_ble_eq_true rfl) ?_
        refine wi_aload_0 ct_190_0 ?_
        refine wi_ic ct_190_1 kc_0 ?_
        refine wi_pf ct_190_2 (sT_31 hS) rfl ?_
        refine wi_aload_0 ct_190_5 ?_
        refine wi_iload_1 ct_190_6 ?_
        refine wi_cv1 (ls' := [some _, some _]) ct_190_7 (Nat.le_of_ble_eq_true rfl) (by decide) (sT_31 hS) rfl (by decide) rfl rfl (Nat.le_of_ble_eq_true rfl) ?_
        refine wi_aload_0 ct_120_0 ?_
        refine wi_iload_1 ct_120_1 ?_
        refine wi_ic ct_120_2 kc_0 ?_
        refine wi_aload_0 ct_120_3 ?_
        refine wi_gf (x := fi 31 0) ct_120_4 (sT_31 hS) rfl rfl (Eq.trans (up2_nj (by decide)) (Eq.trans (up2_nq (by decide)) (Eq.trans (up2_nq (by decide)) (Eq.trans (up2_nq (by decide)) (Eq.trans (up2_nq (by decide)) (Eq.trans (up2_nq (by decide)) (Eq.trans (up2_nq (by decide)) (up2_nq (by decide))))))))) ?_
        refine wi_ic ct_120_7 kc_1 ?_
        refine wi_isub ct_120_8 rfl ?_
        refine wi_cv3 (ls' := [some _, some _, some _, some _]) ct_120_9 (Nat.le_of_ble_eq_true rfl) (by decide) (sT_31 hS) rfl (by decide) rfl rfl (Nat.le_of_ble_eq_true rfl) ?_
        refine c_in hBn ki_0 (i_sub rfl ki_1 (by omega)) (fun _ => wk_i ?_) (fun h => absurd h (by omega))
        refine wi_iret ct_120_12 (by decide) (wk_i ?_)
        refine wi_ifeq_f ct_190_10 ki_1 (by decide) ?_
        refine wi_aload_0 ct_190_13 ?_
        refine wi_iload_2 ct_190_14 ?_
        refine wi_ic ct_190_15 kc_0 ?_
        refine wi_ic ct_190_16 kc_2 ?_
        refine wi_cv3 (ls' := [some _, some _, some _, some _]) ct_190_17 (Nat.le_of_ble_eq_true rfl) (by decide) (sT_31 hS) rfl (by decide) rfl rfl (Nat.le_of_ble_eq_true rfl) ?_
        refine c_in rfl ki_0 ki_2 (fun _ => wk_i ?_) (fun h => absurd h (by omega))
        refine wi_ifne_t ct_190_20 ki_1 (by decide) ?_
        refine wi_iload_2 ct_190_25 ?_
        refine wi_ifne_t ct_190_26 rfl (by omega) ?_
        refine wi_iload_2 ct_190_38 ?_
        refine wi_ic ct_190_39 kc_1 ?_
        refine wi_icne_f ct_190_40 rfl ki_1 (by omega) ?_
        refine wi_aload_0 ct_190_43 ?_
        refine wi_iload_1 ct_190_44 ?_
        refine wi_iload_3 ct_190_45 ?_
        refine wi_cv2 (ls' := [some _, some _, some _, none]) ct_190_46 (Nat.le_of_ble_eq_true rfl) (by decide) (sT_31 hS) rfl (by decide) rfl rfl (Nat.le_of_ble_eq_true rfl) ?_
        refine wi_aload_0 ct_187_0 ?_
        refine wi_gfr ct_187_1 (sT_31 hS) rfl (sR_31_2 hS) ?_
        refine wi_iload_1 ct_187_4 ?_
        refine wi_iald (x := fi 32 B) ct_187_5 (sT_32 hS) (sL_32 hS) (i_in hBn (by omega)) (i_cl (k := B) hBn (by omega)) (Eq.trans (up2_nq (by decide)) (Eq.trans (up2_nq (by decide)) (Eq.trans (up2_nq (by decide)) (Eq.trans (up2_nq (by decide)) (Eq.trans (up2_nq (by decide)) (Eq.trans (up2_nq (by decide)) (Eq.trans (up2_nq (by decide)) (up2_nq (by decide))))))))) ?_
        refine wi_lsw (X := 5) (t := 84) ct_187_6 (by omega) (by decide) ?_
        refine wi_aload_0 ct_187_84 ?_
        refine wi_iload_1 ct_187_85 ?_
        refine wi_iload_2 ct_187_86 ?_
        refine wi_cv2 (ls' := [some _, some _, some _]) ct_187_87 (Nat.le_of_ble_eq_true rfl) (by decide) (sT_31 hS) rfl (by decide) rfl rfl (Nat.le_of_ble_eq_true rfl) ?_
        refine wi_aload_0 ct_185_0 ?_
        refine wi_ic ct_185_1 kc_11 ?_
        refine wi_cv1 (ls' := [some _, some _]) ct_185_3 (Nat.le_of_ble_eq_true rfl) (by decide) (sT_31 hS) rfl (by decide) rfl rfl (Nat.le_of_ble_eq_true rfl) ?_
        refine wi_aload_0 ct_182_0 ?_
        refine wi_gf (x := 0) ct_182_1 (sT_31 hS) rfl rfl up2_eq ?_
        refine wi_ic ct_182_4 kc_20 ?_
        refine wi_icge_f ct_182_6 ki_0 ki_20 (by decide) ?_
        refine wi_aload_0 ct_182_9 ?_
        refine wi_gfr ct_182_10 (sT_31 hS) rfl (sR_31_66 hS) ?_
        refine wi_aload_0 ct_182_13 ?_
        refine wi_gf (x := 0) ct_182_14 (sT_31 hS) rfl rfl up2_eq ?_
        refine wi_iload_1 ct_182_17 ?_
        refine wi_iast ct_182_18 (sT_67 hS) (sL_67 hS) (by decide) kn_c0 ?_
        refine wi_aload_0 ct_182_19 ?_
        refine wi_dup ct_182_20 rfl ?_
        refine wi_gf (x := 0) ct_182_21 (sT_31 hS) rfl rfl (Eq.trans (up2_nq (by decide)) up2_eq) ?_
        refine wi_ic ct_182_24 kc_1 ?_
        refine wi_iadd (z := 1) ct_182_25 (by decide) ?_
        refine wi_pf ct_182_26 (sT_31 hS) rfl ?_
        refine wi_ret ct_182_29 (wk_v ?_)
        refine wi_aload_0 ct_185_6 ?_
        refine wi_iload_1 ct_185_7 ?_
        refine wi_iload_2 ct_185_8 ?_
        refine wi_cv2 (ls' := [some _, some _, some _]) ct_185_9 (Nat.le_of_ble_eq_true rfl) (by decide) (sT_31 hS) rfl (by decide) rfl rfl (Nat.le_of_ble_eq_true rfl) ?_
        refine wi_aload_0 ct_184_0 ?_
        refine wi_gfr ct_184_1 (sT_31 hS) rfl (sR_31_2 hS) ?_
        refine wi_iload_1 ct_184_4 ?_
        refine wi_iald (x := fi 32 B) ct_184_5 (sT_32 hS) (sL_32 hS) (i_in hBn (by omega)) (i_cl (k := B) hBn (by omega)) (Eq.trans (up2_nq (by decide)) (Eq.trans (up2_nq (by decide)) (Eq.trans (up2_nq (by decide)) (Eq.trans (up2_nq (by decide)) (Eq.trans (up2_nq (by decide)) (Eq.trans (up2_nq (by decide)) (Eq.trans (up2_nq (by decide)) (Eq.trans (up2_nq (by decide)) (Eq.trans (up2_nq (by decide)) (up2_nq (by decide))))))))))) ?_
        refine wi_tsw (X := 5) (t := 40) ct_184_6 (by omega) rfl ?_
        refine wi_aload_0 ct_184_40 ?_
        refine wi_ic ct_184_41 kc_30 ?_
        refine wi_cv1 (ls' := [some _, some _]) ct_184_43 (Nat.le_of_ble_eq_true rfl) (by decide) (sT_31 hS) rfl (by decide) rfl rfl (Nat.le_of_ble_eq_true rfl) ?_
        refine wi_aload_0 ct_182_0 ?_
        refine wi_gf (x := 1) ct_182_1 (sT_31 hS) rfl rfl up2_eq ?_
        refine wi_ic ct_182_4 kc_20 ?_
        refine wi_icge_f ct_182_6 ki_1 ki_20 (by decide) ?_
        refine wi_aload_0 ct_182_9 ?_
        refine wi_gfr ct_182_10 (sT_31 hS) rfl (sR_31_66 hS) ?_
        refine wi_aload_0 ct_182_13 ?_
        refine wi_gf (x := 1) ct_182_14 (sT_31 hS) rfl rfl up2_eq ?_
        refine wi_iload_1 ct_182_17 ?_
        refine wi_iast ct_182_18 (sT_67 hS) (sL_67 hS) (by decide) kn_c1 ?_
        refine wi_aload_0 ct_182_19 ?_
        refine wi_dup ct_182_20 rfl ?_
        refine wi_gf (x := 1) ct_182_21 (sT_31 hS) rfl rfl (Eq.trans (up2_nq (by decide)) up2_eq) ?_
        refine wi_ic ct_182_24 kc_1 ?_
        refine wi_iadd (z := 2) ct_182_25 (by decide) ?_
        refine wi_pf ct_182_26 (sT_31 hS) rfl ?_
        refine wi_ret ct_182_29 (wk_v ?_)
        refine wi_aload_0 ct_184_46 ?_
        refine wi_iload_1 ct_184_47 ?_
        refine wi_iload_2 ct_184_48 ?_
        refine wi_ic ct_184_49 kc_3 ?_
        refine wi_imul ct_184_50 rfl ?_
        refine wi_cv2 (ls' := [some _, some _, some _]) ct_184_51 (Nat.le_of_ble_eq_true rfl) (by decide) (sT_31 hS) rfl (by decide) rfl rfl (Nat.le_of_ble_eq_true rfl) ?_
        refine wi_aload_0 ct_183_0 ?_
        refine wi_ic ct_183_1 kc_10 ?_
        refine wi_cv1 (ls' := [some _, some _]) ct_183_3 (Nat.le_of_ble_eq_true rfl) (by decide) (sT_31 hS) rfl (by decide) rfl rfl (Nat.le_of_ble_eq_true rfl) ?_
        refine wi_aload_0 ct_182_0 ?_
        refine wi_gf (x := 2) ct_182_1 (sT_31 hS) rfl rfl up2_eq ?_
        refine wi_ic ct_182_4 kc_20 ?_
        refine wi_icge_f ct_182_6 ki_2 ki_20 (by decide) ?_
        refine wi_aload_0 ct_182_9 ?_
        refine wi_gfr ct_182_10 (sT_31 hS) rfl (sR_31_66 hS) ?_
        refine wi_aload_0 ct_182_13 ?_
        refine wi_gf (x := 2) ct_182_14 (sT_31 hS) rfl rfl up2_eq ?_
        refine wi_iload_1 ct_182_17 ?_
        refine wi_iast ct_182_18 (sT_67 hS) (sL_67 hS) (by decide) kn_c2 ?_
        refine wi_aload_0 ct_182_19 ?_
        refine wi_dup ct_182_20 rfl ?_
        refine wi_gf (x := 2) ct_182_21 (sT_31 hS) rfl rfl (Eq.trans (up2_nq (by decide)) up2_eq) ?_
        refine wi_ic ct_182_24 kc_1 ?_
        refine wi_iadd (z := 3) ct_182_25 (by decide) ?_
        refine wi_pf ct_182_26 (sT_31 hS) rfl ?_
        refine wi_ret ct_182_29 (wk_v ?_)
        refine wi_iload_2 ct_183_6 ?_
        refine wi_iload_1 ct_183_7 ?_
        refine wi_iadd ct_183_8 rfl ?_
        refine wi_iret ct_183_9 rfl (wk_i ?_)
        refine wi_iret ct_184_54 rfl (wk_i ?_)
        refine wi_aload_0 ct_185_12 ?_
        refine wi_gfr ct_185_13 (sT_31 hS) rfl (sR_31_3 hS) ?_
        refine wi_iload_1 ct_185_16 ?_
        refine wi_iald (x := fi 33 B) ct_185_17 (sT_33 hS) (sL_33 hS) (i_in hBn (by omega)) (i_cl (k := B) hBn (by omega)) (Eq.trans (up2_nq (by decide)) (Eq.trans (up2_nq (by decide)) (Eq.trans (up2_nq (by decide)) (Eq.trans (up2_nq (by decide)) (Eq.trans (up2_nq (by decide)) (Eq.trans (up2_nq (by decide)) (Eq.trans (up2_nq (by decide)) (Eq.trans (up2_nq (by decide)) (Eq.trans (up2_nq (by decide)) (Eq.trans (up2_nq (by decide)) (Eq.trans (up2_nq (by decide)) (Eq.trans (up2_nq (by decide)) (Eq.trans (up2_nq (by decide)) (up2_nq (by decide))))))))))))))) ?_
        refine wi_isub ct_185_18 rfl ?_
        refine wi_iret ct_185_19 rfl (wk_i ?_)
        refine wi_iret ct_187_90 rfl (wk_i ?_)
        refine wi_goto ct_190_49 ?_
        refine wi_iret ct_190_58 rfl (wk_i ?_)
        refine wi_iceq_t ct_211_1062 rfl rfl (by omega) ?_
        refine kk own g _ fl (hR.act (fun q h1 h2 h3 => (Eq.trans (funext fun _ => up2_nq h2) (Eq.trans (funext fun _ => up2_nq h3) (Eq.trans (funext fun _ => up2_nq h2) (Eq.trans (funext fun _ => up2_nq h3) (Eq.trans (funext fun _ => up2_nq h2) (Eq.trans (funext fun _ => up2_nq h3) (Eq.trans (funext fun _ => up2_nq h2) (Eq.trans (funext fun _ => up2_nq h1) (Eq.trans (funext fun _ => up2_nq h1) (Eq.trans (funext fun _ => up2_nq h1) (Eq.trans (funext fun _ => up2_nq h1) (Eq.trans (funext fun _ => up2_nq h1) (Eq.trans (funext fun _ => up2_nq h1) (funext fun _ => up2_nq h1))))))))))))))) (fun j hj => (Eq.trans (up2_nj hj) (Eq.trans (up2_nq (by decide)) (Eq.trans (up2_nj hj) (Eq.trans (up2_nq (by decide)) (Eq.trans (up2_nj hj) (Eq.trans (up2_nq (by decide)) (Eq.trans (up2_nj hj) (Eq.trans (up2_nq (by decide)) (Eq.trans (up2_nq (by decide)) (Eq.trans (up2_nq (by decide)) (Eq.trans (up2_nq (by decide)) (Eq.trans (up2_nq (by decide)) (Eq.trans (up2_nq (by decide)) (up2_nq (by decide)))))))))))))))) ⟨((Eq.trans (up2_nq (by decide)) (Eq.trans (up2_nq (by decide)) (Eq.trans (up2_nq (by decide)) (Eq.trans (up2_nq (by decide)) (Eq.trans (up2_nq (by decide)) (Eq.trans (up2_nq (by decide)) (Eq.trans (up2_nq (by decide)) (Eq.trans (up2_nj (by decide)) up2_eq))))))))).trans (up2_eq).symm, by rw [up2_eq]; decide, by rw [up2_eq]; decide⟩ ?_) (by omega) (by omega)
        intro j hj hn
        rw [up2_eq] at hn
        replace hn : (j : Int) < 3 := hn
        match j, (by omega : j < 3) with
        | 0, _ => exact ((Eq.trans (up2_nq (by decide)) (Eq.trans (up2_nq (by decide)) (Eq.trans (up2_nq (by decide)) (Eq.trans (up2_nq (by decide)) (Eq.trans (up2_nq (by decide)) (Eq.trans (up2_nq (by decide)) (Eq.trans (up2_nq (by decide)) (Eq.trans (up2_nj (by decide)) (Eq.trans (up2_nj (by decide)) (Eq.trans (up2_nj (by decide)) (Eq.trans (up2_nj (by decide)) up2_eq)))))))))))).trans ((Eq.trans (up2_nq (by decide)) (Eq.trans (up2_nj (by decide)) (Eq.trans (up2_nq (by decide)) (Eq.trans (up2_nj (by decide)) (Eq.trans (up2_nq (by decide)) up2_eq)))))).symm
        | 1, _ => exact ((Eq.trans (up2_nq (by decide)) (Eq.trans (up2_nq (by decide)) (Eq.trans (up2_nq (by decide)) (Eq.trans (up2_nq (by decide)) (Eq.trans (up2_nq (by decide)) (Eq.trans (up2_nq (by decide)) (Eq.trans (up2_nq (by decide)) (Eq.trans (up2_nj (by decide)) (Eq.trans (up2_nj (by decide)) up2_eq)))))))))).trans ((Eq.trans (up2_nq (by decide)) (Eq.trans (up2_nj (by decide)) (Eq.trans (up2_nq (by decide)) up2_eq)))).symm
        | 2, _ => exact ((Eq.trans (up2_nq (by decide)) (Eq.trans (up2_nq (by decide)) (Eq.trans (up2_nq (by decide)) (Eq.trans (up2_nq (by decide)) (Eq.trans (up2_nq (by decide)) (Eq.trans (up2_nq (by decide)) (Eq.trans (up2_nq (by decide)) up2_eq)))))))).trans ((Eq.trans (up2_nq (by decide)) up2_eq)).symm
        | j + 3, h => exact absurd h (by omega)
      · skip
        refine wi_cv2 (ls' := [some _, some _, some _]) ct_95_66 (Nat.le_of_ble_eq_true rfl) (by decide) (ot.trans (by rw [hk21] <;> rfl)) rfl (by decide) rfl rfl (Nat.le_of_ble_eq_true rfl) ?_
        refine wi_ic ct_61_0 kc_70 ?_
        refine wi_aload_2 ct_61_2 ?_
        refine wi_cs2 (ls' := [some _, some _, none]) ct_61_3 (Nat.le_of_ble_eq_true rfl) rfl (Nat.le_of_ble_eq_true rfl) ?_
        refine wi_aload_1 ct_9_0 ?_
        refine wi_ic ct_9_1 kc_0 ?_
        refine wi_dup2 ct_9_2 rfl rfl ?_
        refine wi_iald (x := 0) ct_9_3 (sT_21 hS) (sL_21 hS) (by decide) kn_c0 up2_eq ?_
        refine wi_ic ct_9_4 kc_1 ?_
        refine wi_iadd (z := 1) ct_9_5 (by decide) ?_
        refine wi_iast ct_9_6 (sT_21 hS) (sL_21 hS) (by decide) kn_c0 ?_
        refine wi_aload_1 ct_9_7 ?_
        refine wi_ic ct_9_8 kc_0 ?_
        refine wi_iald (x := 1) ct_9_9 (sT_21 hS) (sL_21 hS) (by decide) kn_c0 up2_eq ?_
        refine wi_istore_2 rfl ct_9_10 ?_
        refine wi_iload_2 ct_9_11 ?_
        refine wi_ifle_f ct_9_12 ki_1 (by decide) ?_
        refine wi_iload_2 ct_9_15 ?_
        refine wi_aload_1 ct_9_16 ?_
        refine wi_len (z := 21) ct_9_17 (sT_21 hS) (by decide) (sL_21 hS) (by decide) ?_
        refine wi_icge_f ct_9_18 ki_1 ki_21 (by decide) ?_
        refine wi_aload_1 ct_9_21 ?_
        refine wi_iload_2 ct_9_22 ?_
        refine wi_iload_0 ct_9_23 ?_
        refine wi_iast ct_9_24 (sT_21 hS) (sL_21 hS) (by decide) kn_c1 ?_
        refine wi_ret ct_9_25 (wk_v ?_)
        refine wi_aload_0 ct_61_6 ?_
        refine wi_iload_1 ct_61_7 ?_
        refine wi_aload_2 ct_61_8 ?_
        refine wi_cp2 (ls' := [some _, some _, some _]) ct_61_9 (Nat.le_of_ble_eq_true rfl) (ot.trans (by rw [hk21] <;> rfl)) (by decide) rfl (Nat.le_of_ble_eq_true rfl) ?_
        refine wi_ic ct_7_0 kc_11 ?_
        refine wi_aload_2 ct_7_2 ?_
        refine wi_cs2 (ls' := [some _, some _, none]) ct_7_3 (Nat.le_of_ble_eq_true rfl) rfl (Nat.le_of_ble_eq_true rfl) ?_
        refine wi_aload_1 ct_9_0 ?_
        refine wi_ic ct_9_1 kc_0 ?_
        refine wi_dup2 ct_9_2 rfl rfl ?_
        refine wi_iald (x := 1) ct_9_3 (sT_21 hS) (sL_21 hS) (by decide) kn_c0 (Eq.trans (up2_nj (by decide)) up2_eq) ?_
        refine wi_ic ct_9_4 kc_1 ?_
        refine wi_iadd (z := 2) ct_9_5 (by decide) ?_
        refine wi_iast ct_9_6 (sT_21 hS) (sL_21 hS) (by decide) kn_c0 ?_
        refine wi_aload_1 ct_9_7 ?_
        refine wi_ic ct_9_8 kc_0 ?_
        refine wi_iald (x := 2) ct_9_9 (sT_21 hS) (sL_21 hS) (by decide) kn_c0 up2_eq ?_
        refine wi_istore_2 rfl ct_9_10 ?_
        refine wi_iload_2 ct_9_11 ?_
        refine wi_ifle_f ct_9_12 ki_2 (by decide) ?_
        refine wi_iload_2 ct_9_15 ?_
        refine wi_aload_1 ct_9_16 ?_
        refine wi_len (z := 21) ct_9_17 (sT_21 hS) (by decide) (sL_21 hS) (by decide) ?_
        refine wi_icge_f ct_9_18 ki_2 ki_21 (by decide) ?_
        refine wi_aload_1 ct_9_21 ?_
        refine wi_iload_2 ct_9_22 ?_
        refine wi_iload_0 ct_9_23 ?_
        refine wi_iast ct_9_24 (sT_21 hS) (sL_21 hS) (by decide) kn_c2 ?_
        refine wi_ret ct_9_25 (wk_v ?_)
        refine wi_aload_0 ct_7_6 ?_
        refine wi_iload_1 ct_7_7 ?_
        refine wi_aload_2 ct_7_8 ?_
        refine wi_cv2 (ls' := [some _, some _, some _]) ct_7_9 (Nat.le_of_ble_eq_true rfl) (by decide) (ot.trans (by rw [hk21] <;> rfl)) rfl (by decide) rfl rfl (Nat.le_of_ble_eq_true rfl) ?_
        refine wi_ic ct_62_0 kc_71 ?_
        refine wi_aload_2 ct_62_2 ?_
        refine wi_cs2 (ls' := [some _, some _, none]) ct_62_3 (Nat.le_of_ble_eq_true rfl) rfl (Nat.le_of_ble_eq_true rfl) ?_
        refine wi_aload_1 ct_9_0 ?_
        refine wi_ic ct_9_1 kc_0 ?_
        refine wi_dup2 ct_9_2 rfl rfl ?_
        refine wi_iald (x := 2) ct_9_3 (sT_21 hS) (sL_21 hS) (by decide) kn_c0 (Eq.trans (up2_nj (by decide)) up2_eq) ?_
        refine wi_ic ct_9_4 kc_1 ?_
        refine wi_iadd (z := 3) ct_9_5 (by decide) ?_
        refine wi_iast ct_9_6 (sT_21 hS) (sL_21 hS) (by decide) kn_c0 ?_
        refine wi_aload_1 ct_9_7 ?_
        refine wi_ic ct_9_8 kc_0 ?_
        refine wi_iald (x := 3) ct_9_9 (sT_21 hS) (sL_21 hS) (by decide) kn_c0 up2_eq ?_
        refine wi_istore_2 rfl ct_9_10 ?_
        refine wi_iload_2 ct_9_11 ?_
        refine wi_ifle_f ct_9_12 ki_3 (by decide) ?_
        refine wi_iload_2 ct_9_15 ?_
        refine wi_aload_1 ct_9_16 ?_
        refine wi_len (z := 21) ct_9_17 (sT_21 hS) (by decide) (sL_21 hS) (by decide) ?_
        refine wi_icge_f ct_9_18 ki_3 ki_21 (by decide) ?_
        refine wi_aload_1 ct_9_21 ?_
        refine wi_iload_2 ct_9_22 ?_
        refine wi_iload_0 ct_9_23 ?_
        refine wi_iast ct_9_24 (sT_21 hS) (sL_21 hS) (by decide) kn_c3 ?_
        refine wi_ret ct_9_25 (wk_v ?_)
        refine wi_aload_0 ct_62_6 ?_
        refine wi_iload_1 ct_62_7 ?_
        refine wi_aload_2 ct_62_8 ?_
        refine wi_cp2 (ls' := [some _, some _, some _]) ct_62_9 (Nat.le_of_ble_eq_true rfl) (ot.trans (by rw [hk21] <;> rfl)) (by decide) rfl (Nat.le_of_ble_eq_true rfl) ?_
        refine wi_ic ct_6_0 kc_10 ?_
        refine wi_aload_2 ct_6_2 ?_
        refine wi_cs2 (ls' := [some _, some _, none]) ct_6_3 (Nat.le_of_ble_eq_true rfl) rfl (Nat.le_of_ble_eq_true rfl) ?_
        refine wi_aload_1 ct_9_0 ?_
        refine wi_ic ct_9_1 kc_0 ?_
        refine wi_dup2 ct_9_2 rfl rfl ?_
        refine wi_iald (x := 3) ct_9_3 (sT_21 hS) (sL_21 hS) (by decide) kn_c0 (Eq.trans (up2_nj (by decide)) up2_eq) ?_
        refine wi_ic ct_9_4 kc_1 ?_
        refine wi_iadd (z := 4) ct_9_5 (by decide) ?_
        refine wi_iast ct_9_6 (sT_21 hS) (sL_21 hS) (by decide) kn_c0 ?_
        refine wi_aload_1 ct_9_7 ?_
        refine wi_ic ct_9_8 kc_0 ?_
        refine wi_iald (x := 4) ct_9_9 (sT_21 hS) (sL_21 hS) (by decide) kn_c0 up2_eq ?_
        refine wi_istore_2 rfl ct_9_10 ?_
        refine wi_iload_2 ct_9_11 ?_
        refine wi_ifle_f ct_9_12 ki_4 (by decide) ?_
        refine wi_iload_2 ct_9_15 ?_
        refine wi_aload_1 ct_9_16 ?_
        refine wi_len (z := 21) ct_9_17 (sT_21 hS) (by decide) (sL_21 hS) (by decide) ?_
        refine wi_icge_f ct_9_18 ki_4 ki_21 (by decide) ?_
        refine wi_aload_1 ct_9_21 ?_
        refine wi_iload_2 ct_9_22 ?_
        refine wi_iload_0 ct_9_23 ?_
        refine wi_iast ct_9_24 (sT_21 hS) (sL_21 hS) (by decide) kn_c4 ?_
        refine wi_ret ct_9_25 (wk_v ?_)
        refine wi_iload_1 ct_6_6 ?_
        refine wi_aload_0 ct_6_7 ?_
        refine wi_gf (x := a1) ct_6_8 (ot.trans (by rw [hk21] <;> rfl)) rfl rfl (Eq.trans (up2_nq (dn o72 (by decide))) (Eq.trans (up2_nq (dn o72 (by decide))) (Eq.trans (up2_nq (dn o72 (by decide))) (Eq.trans (up2_nq (dn o72 (by decide))) (Eq.trans (up2_nq (dn o72 (by decide))) (Eq.trans (up2_nq (dn o72 (by decide))) (Eq.trans (up2_nq (dn o72 (by decide))) (Eq.trans (up2_nq (dn o72 (by decide))) (Eq.trans (up2_nq (dn o72 (by decide))) hpn))))))))) ?_
        refine wi_iadd ct_6_11 rfl ?_
        refine wi_iret ct_6_12 rfl (wk_i ?_)
        refine wi_aload_0 ct_62_12 ?_
        refine wi_gf (x := fi 33 B) ct_62_13 (ot.trans (by rw [hk21] <;> rfl)) rfl rfl (Eq.trans (up2_nq (dn o72 (by decide))) (Eq.trans (up2_nq (dn o72 (by decide))) (Eq.trans (up2_nq (dn o72 (by decide))) (Eq.trans (up2_nq (dn o72 (by decide))) (Eq.trans (up2_nq (dn o72 (by decide))) (Eq.trans (up2_nq (dn o72 (by decide))) (Eq.trans (up2_nq (dn o72 (by decide))) (Eq.trans (up2_nq (dn o72 (by decide))) (Eq.trans (up2_nq (dn o72 (by decide))) ov))))))))) ?_
        refine wi_ixor ct_62_16 rfl ?_
        refine wi_iret ct_62_17 rfl (wk_i ?_)
        refine wi_aload_0 ct_7_12 ?_
        refine wi_gf (x := fi 33 B) ct_7_13 (ot.trans (by rw [hk21] <;> rfl)) rfl rfl (Eq.trans (up2_nq (dn o72 (by decide))) (Eq.trans (up2_nq (dn o72 (by decide))) (Eq.trans (up2_nq (dn o72 (by decide))) (Eq.trans (up2_nq (dn o72 (by decide))) (Eq.trans (up2_nq (dn o72 (by decide))) (Eq.trans (up2_nq (dn o72 (by decide))) (Eq.trans (up2_nq (dn o72 (by decide))) (Eq.trans (up2_nq (dn o72 (by decide))) (Eq.trans (up2_nq (dn o72 (by decide))) ov))))))))) ?_
        refine wi_isub ct_7_16 rfl ?_
        refine wi_iret ct_7_17 rfl (wk_i ?_)
        refine wi_aload_0 ct_61_12 ?_
        refine wi_ic ct_61_13 kc_2 ?_
        refine wi_aload_2 ct_61_14 ?_
        refine wi_cp2 (ls' := [some _, some _, some _]) ct_61_15 (Nat.le_of_ble_eq_true rfl) (ot.trans (by rw [hk21] <;> rfl)) (by decide) rfl (Nat.le_of_ble_eq_true rfl) ?_
        refine wi_ic ct_6_0 kc_10 ?_
        refine wi_aload_2 ct_6_2 ?_
        refine wi_cs2 (ls' := [some _, some _, none]) ct_6_3 (Nat.le_of_ble_eq_true rfl) rfl (Nat.le_of_ble_eq_true rfl) ?_
        refine wi_aload_1 ct_9_0 ?_
        refine wi_ic ct_9_1 kc_0 ?_
        refine wi_dup2 ct_9_2 rfl rfl ?_
        refine wi_iald (x := 4) ct_9_3 (sT_21 hS) (sL_21 hS) (by decide) kn_c0 (Eq.trans (up2_nj (by decide)) up2_eq) ?_
        refine wi_ic ct_9_4 kc_1 ?_
        refine wi_iadd (z := 5) ct_9_5 (by decide) ?_
        refine wi_iast ct_9_6 (sT_21 hS) (sL_21 hS) (by decide) kn_c0 ?_
        refine wi_aload_1 ct_9_7 ?_
        refine wi_ic ct_9_8 kc_0 ?_
        refine wi_iald (x := 5) ct_9_9 (sT_21 hS) (sL_21 hS) (by decide) kn_c0 up2_eq ?_
        refine wi_istore_2 rfl ct_9_10 ?_
        refine wi_iload_2 ct_9_11 ?_
        refine wi_ifle_f ct_9_12 ki_5 (by decide) ?_
        refine wi_iload_2 ct_9_15 ?_
        refine wi_aload_1 ct_9_16 ?_
        refine wi_len (z := 21) ct_9_17 (sT_21 hS) (by decide) (sL_21 hS) (by decide) ?_
        refine wi_icge_f ct_9_18 ki_5 ki_21 (by decide) ?_
        refine wi_aload_1 ct_9_21 ?_
        refine wi_iload_2 ct_9_22 ?_
        refine wi_iload_0 ct_9_23 ?_
        refine wi_iast ct_9_24 (sT_21 hS) (sL_21 hS) (by decide) kn_c5 ?_
        refine wi_ret ct_9_25 (wk_v ?_)
        refine wi_iload_1 ct_6_6 ?_
        refine wi_aload_0 ct_6_7 ?_
        refine wi_gf (x := a1) ct_6_8 (ot.trans (by rw [hk21] <;> rfl)) rfl rfl (Eq.trans (up2_nq (dn o72 (by decide))) (Eq.trans (up2_nq (dn o72 (by decide))) (Eq.trans (up2_nq (dn o72 (by decide))) (Eq.trans (up2_nq (dn o72 (by decide))) (Eq.trans (up2_nq (dn o72 (by decide))) (Eq.trans (up2_nq (dn o72 (by decide))) (Eq.trans (up2_nq (dn o72 (by decide))) (Eq.trans (up2_nq (dn o72 (by decide))) (Eq.trans (up2_nq (dn o72 (by decide))) (Eq.trans (up2_nq (dn o72 (by decide))) (Eq.trans (up2_nq (dn o72 (by decide))) hpn))))))))))) ?_
        refine wi_iadd ct_6_11 rfl ?_
        refine wi_iret ct_6_12 rfl (wk_i ?_)
        refine wi_iadd ct_61_18 rfl ?_
        refine wi_iret ct_61_19 rfl (wk_i ?_)
        refine wi_iret ct_95_69 rfl (wk_i ?_)
        refine wi_aload_2 ct_211_1043 ?_
        refine wi_aloadT_0 ct_211_1044 ?_
        refine wi_iload_3 ct_211_1045 ?_
        refine wi_ic ct_211_1046 kc_1 ?_
        refine wi_iadd ct_211_1047 rfl ?_
        refine wi_ialdT (j := I + 1) (x := a1) ct_211_1048 (sL_SC hS) (i_in (i_add hi ki_1 (by omega)) (by omega)) (i_cl (i_add hi ki_1 (by omega)) (by omega)) ((Eq.trans (up2_nq (by decide)) (Eq.trans (up2_nq (by decide)) (Eq.trans (up2_nq (by decide)) (Eq.trans (up2_nq (by decide)) (Eq.trans (up2_nq (by decide)) (Eq.trans (up2_nq (by decide)) (Eq.trans (up2_nq (by decide)) (Eq.trans (up2_nq (by decide)) (Eq.trans (up2_nq (by decide)) (Eq.trans (up2_nq (by decide)) (Eq.trans (up2_nq (by decide)) ((hsc _).trans e1))))))))))))) ?_
        refine wi_aloadT_0 ct_211_1049 ?_
        refine wi_iload_3 ct_211_1050 ?_
        refine wi_ic ct_211_1051 kc_2 ?_
        refine wi_iadd ct_211_1052 rfl ?_
        refine wi_ialdT (j := I + 2) (x := a2) ct_211_1053 (sL_SC hS) (i_in (i_add hi ki_2 (by omega)) (by omega)) (i_cl (i_add hi ki_2 (by omega)) (by omega)) ((Eq.trans (up2_nq (by decide)) (Eq.trans (up2_nq (by decide)) (Eq.trans (up2_nq (by decide)) (Eq.trans (up2_nq (by decide)) (Eq.trans (up2_nq (by decide)) (Eq.trans (up2_nq (by decide)) (Eq.trans (up2_nq (by decide)) (Eq.trans (up2_nq (by decide)) (Eq.trans (up2_nq (by decide)) (Eq.trans (up2_nq (by decide)) (Eq.trans (up2_nq (by decide)) ((hsc _).trans e2))))))))))))) ?_
        refine wi_aloadT_0 ct_211_1054 ?_
        refine wi_iload_3 ct_211_1055 ?_
        refine wi_ic ct_211_1056 kc_3 ?_
        refine wi_iadd ct_211_1057 rfl ?_
        refine wi_ialdT (j := I + 3) (x := a3) ct_211_1058 (sL_SC hS) (i_in (i_add hi ki_3 (by omega)) (by omega)) (i_cl (i_add hi ki_3 (by omega)) (by omega)) ((Eq.trans (up2_nq (by decide)) (Eq.trans (up2_nq (by decide)) (Eq.trans (up2_nq (by decide)) (Eq.trans (up2_nq (by decide)) (Eq.trans (up2_nq (by decide)) (Eq.trans (up2_nq (by decide)) (Eq.trans (up2_nq (by decide)) (Eq.trans (up2_nq (by decide)) (Eq.trans (up2_nq (by decide)) (Eq.trans (up2_nq (by decide)) (Eq.trans (up2_nq (by decide)) ((hsc _).trans e3))))))))))))) ?_
        refine wi_cv3 (ls' := [some _, some _, some _, some _]) ct_211_1059 (Nat.le_of_ble_eq_true rfl) (by decide) (sT_31 hS) rfl (by decide) rfl rfl (Nat.le_of_ble_eq_true rfl) ?_
        refine wi_aload_0 ct_190_0 ?_
        refine wi_ic ct_190_1 kc_0 ?_
        refine wi_pf ct_190_2 (sT_31 hS) rfl ?_
        refine wi_aload_0 ct_190_5 ?_
        refine wi_iload_1 ct_190_6 ?_
        refine wi_cv1 (ls' := [some _, some _]) ct_190_7 (Nat.le_of_ble_eq_true rfl) (by decide) (sT_31 hS) rfl (by decide) rfl rfl (Nat.le_of_ble_eq_true rfl) ?_
        refine wi_aload_0 ct_120_0 ?_
        refine wi_iload_1 ct_120_1 ?_
        refine wi_ic ct_120_2 kc_0 ?_
        refine wi_aload_0 ct_120_3 ?_
        refine wi_gf (x := fi 31 0) ct_120_4 (sT_31 hS) rfl rfl (Eq.trans (up2_nj (by decide)) (Eq.trans (up2_nq (by decide)) (Eq.trans (up2_nq (by decide)) (Eq.trans (up2_nq (by decide)) (Eq.trans (up2_nq (by decide)) (Eq.trans (up2_nq (by decide)) (Eq.trans (up2_nq (by decide)) (Eq.trans (up2_nq (by decide)) (Eq.trans (up2_nq (by decide)) (Eq.trans (up2_nq (by decide)) (Eq.trans (up2_nq (by decide)) (up2_nq (by decide))))))))))))) ?_
        refine wi_ic ct_120_7 kc_1 ?_
        refine wi_isub ct_120_8 rfl ?_
        refine wi_cv3 (ls' := [some _, some _, some _, some _]) ct_120_9 (Nat.le_of_ble_eq_true rfl) (by decide) (sT_31 hS) rfl (by decide) rfl rfl (Nat.le_of_ble_eq_true rfl) ?_
        refine c_in hBn ki_0 (i_sub rfl ki_1 (by omega)) (fun _ => wk_i ?_) (fun h => absurd h (by omega))
        refine wi_iret ct_120_12 (by decide) (wk_i ?_)
        refine wi_ifeq_f ct_190_10 ki_1 (by decide) ?_
        refine wi_aload_0 ct_190_13 ?_
        refine wi_iload_2 ct_190_14 ?_
        refine wi_ic ct_190_15 kc_0 ?_
        refine wi_ic ct_190_16 kc_2 ?_
        refine wi_cv3 (ls' := [some _, some _, some _, some _]) ct_190_17 (Nat.le_of_ble_eq_true rfl) (by decide) (sT_31 hS) rfl (by decide) rfl rfl (Nat.le_of_ble_eq_true rfl) ?_
        refine c_in rfl ki_0 ki_2 (fun _ => wk_i ?_) (fun h => absurd h (by omega))
        refine wi_ifne_t ct_190_20 ki_1 (by decide) ?_
        refine wi_iload_2 ct_190_25 ?_
        refine wi_ifne_t ct_190_26 rfl (by omega) ?_
        refine wi_iload_2 ct_190_38 ?_
        refine wi_ic ct_190_39 kc_1 ?_
        refine wi_icne_f ct_190_40 rfl ki_1 (by omega) ?_
        refine wi_aload_0 ct_190_43 ?_
        refine wi_iload_1 ct_190_44 ?_
        refine wi_iload_3 ct_190_45 ?_
        refine wi_cv2 (ls' := [some _, some _, some _, none]) ct_190_46 (Nat.le_of_ble_eq_true rfl) (by decide) (sT_31 hS) rfl (by decide) rfl rfl (Nat.le_of_ble_eq_true rfl) ?_
        refine wi_aload_0 ct_187_0 ?_
        refine wi_gfr ct_187_1 (sT_31 hS) rfl (sR_31_2 hS) ?_
        refine wi_iload_1 ct_187_4 ?_
        refine wi_iald (x := fi 32 B) ct_187_5 (sT_32 hS) (sL_32 hS) (i_in hBn (by omega)) (i_cl (k := B) hBn (by omega)) (Eq.trans (up2_nq (by decide)) (Eq.trans (up2_nq (by decide)) (Eq.trans (up2_nq (by decide)) (Eq.trans (up2_nq (by decide)) (Eq.trans (up2_nq (by decide)) (Eq.trans (up2_nq (by decide)) (Eq.trans (up2_nq (by decide)) (Eq.trans (up2_nq (by decide)) (Eq.trans (up2_nq (by decide)) (Eq.trans (up2_nq (by decide)) (Eq.trans (up2_nq (by decide)) (up2_nq (by decide))))))))))))) ?_
        refine wi_lsw (X := 6) (t := 62) ct_187_6 (by omega) (by decide) ?_
        refine wi_aload_0 ct_187_62 ?_
        refine wi_ic ct_187_63 kc_70 ?_
        refine wi_cv1 (ls' := [some _, some _]) ct_187_65 (Nat.le_of_ble_eq_true rfl) (by decide) (sT_31 hS) rfl (by decide) rfl rfl (Nat.le_of_ble_eq_true rfl) ?_
        refine wi_aload_0 ct_182_0 ?_
        refine wi_gf (x := 0) ct_182_1 (sT_31 hS) rfl rfl up2_eq ?_
        refine wi_ic ct_182_4 kc_20 ?_
        refine wi_icge_f ct_182_6 ki_0 ki_20 (by decide) ?_
        refine wi_aload_0 ct_182_9 ?_
        refine wi_gfr ct_182_10 (sT_31 hS) rfl (sR_31_66 hS) ?_
        refine wi_aload_0 ct_182_13 ?_
        refine wi_gf (x := 0) ct_182_14 (sT_31 hS) rfl rfl up2_eq ?_
        refine wi_iload_1 ct_182_17 ?_
        refine wi_iast ct_182_18 (sT_67 hS) (sL_67 hS) (by decide) kn_c0 ?_
        refine wi_aload_0 ct_182_19 ?_
        refine wi_dup ct_182_20 rfl ?_
        refine wi_gf (x := 0) ct_182_21 (sT_31 hS) rfl rfl (Eq.trans (up2_nq (by decide)) up2_eq) ?_
        refine wi_ic ct_182_24 kc_1 ?_
        refine wi_iadd (z := 1) ct_182_25 (by decide) ?_
        refine wi_pf ct_182_26 (sT_31 hS) rfl ?_
        refine wi_ret ct_182_29 (wk_v ?_)
        refine wi_aload_0 ct_187_68 ?_
        refine wi_iload_1 ct_187_69 ?_
        refine wi_iload_2 ct_187_70 ?_
        refine wi_cv2 (ls' := [some _, some _, some _]) ct_187_71 (Nat.le_of_ble_eq_true rfl) (by decide) (sT_31 hS) rfl (by decide) rfl rfl (Nat.le_of_ble_eq_true rfl) ?_
        refine wi_aload_0 ct_185_0 ?_
        refine wi_ic ct_185_1 kc_11 ?_
        refine wi_cv1 (ls' := [some _, some _]) ct_185_3 (Nat.le_of_ble_eq_true rfl) (by decide) (sT_31 hS) rfl (by decide) rfl rfl (Nat.le_of_ble_eq_true rfl) ?_
        refine wi_aload_0 ct_182_0 ?_
        refine wi_gf (x := 1) ct_182_1 (sT_31 hS) rfl rfl up2_eq ?_
        refine wi_ic ct_182_4 kc_20 ?_
        refine wi_icge_f ct_182_6 ki_1 ki_20 (by decide) ?_
        refine wi_aload_0 ct_182_9 ?_
        refine wi_gfr ct_182_10 (sT_31 hS) rfl (sR_31_66 hS) ?_
        refine wi_aload_0 ct_182_13 ?_
        refine wi_gf (x := 1) ct_182_14 (sT_31 hS) rfl rfl up2_eq ?_
        refine wi_iload_1 ct_182_17 ?_
        refine wi_iast ct_182_18 (sT_67 hS) (sL_67 hS) (by decide) kn_c1 ?_
        refine wi_aload_0 ct_182_19 ?_
        refine wi_dup ct_182_20 rfl ?_
        refine wi_gf (x := 1) ct_182_21 (sT_31 hS) rfl rfl (Eq.trans (up2_nq (by decide)) up2_eq) ?_
        refine wi_ic ct_182_24 kc_1 ?_
        refine wi_iadd (z := 2) ct_182_25 (by decide) ?_
        refine wi_pf ct_182_26 (sT_31 hS) rfl ?_
        refine wi_ret ct_182_29 (wk_v ?_)
        refine wi_aload_0 ct_185_6 ?_
        refine wi_iload_1 ct_185_7 ?_
        refine wi_iload_2 ct_185_8 ?_
        refine wi_cv2 (ls' := [some _, some _, some _]) ct_185_9 (Nat.le_of_ble_eq_true rfl) (by decide) (sT_31 hS) rfl (by decide) rfl rfl (Nat.le_of_ble_eq_true rfl) ?_
        refine wi_aload_0 ct_184_0 ?_
        refine wi_gfr ct_184_1 (sT_31 hS) rfl (sR_31_2 hS) ?_
        refine wi_iload_1 ct_184_4 ?_
        refine wi_iald (x := fi 32 B) ct_184_5 (sT_32 hS) (sL_32 hS) (i_in hBn (by omega)) (i_cl (k := B) hBn (by omega)) (Eq.trans (up2_nq (by decide)) (Eq.trans (up2_nq (by decide)) (Eq.trans (up2_nq (by decide)) (Eq.trans (up2_nq (by decide)) (Eq.trans (up2_nq (by decide)) (Eq.trans (up2_nq (by decide)) (Eq.trans (up2_nq (by decide)) (Eq.trans (up2_nq (by decide)) (Eq.trans (up2_nq (by decide)) (Eq.trans (up2_nq (by decide)) (Eq.trans (up2_nq (by decide)) (Eq.trans (up2_nq (by decide)) (Eq.trans (up2_nq (by decide)) (Eq.trans (up2_nq (by decide)) (Eq.trans (up2_nq (by decide)) (up2_nq (by decide))))))))))))))))) ?_
        refine wi_tsw (X := 6) (t := 69) ct_184_6 (by omega) rfl ?_
        refine wi_aload_0 ct_184_69 ?_
        refine wi_ic ct_184_70 kc_71 ?_
        refine wi_cv1 (ls' := [some _, some _]) ct_184_72 (Nat.le_of_ble_eq_true rfl) (by decide) (sT_31 hS) rfl (by decide) rfl rfl (Nat.le_of_ble_eq_true rfl) ?_
        refine wi_aload_0 ct_182_0 ?_
        refine wi_gf (x := 2) ct_182_1 (sT_31 hS) rfl rfl up2_eq ?_
        refine wi_ic ct_182_4 kc_20 ?_
        refine wi_icge_f ct_182_6 ki_2 ki_20 (by decide) ?_
        refine wi_aload_0 ct_182_9 ?_
        refine wi_gfr ct_182_10 (sT_31 hS) rfl (sR_31_66 hS) ?_
        refine wi_aload_0 ct_182_13 ?_
        refine wi_gf (x := 2) ct_182_14 (sT_31 hS) rfl rfl up2_eq ?_
        refine wi_iload_1 ct_182_17 ?_
        refine wi_iast ct_182_18 (sT_67 hS) (sL_67 hS) (by decide) kn_c2 ?_
        refine wi_aload_0 ct_182_19 ?_
        refine wi_dup ct_182_20 rfl ?_
        refine wi_gf (x := 2) ct_182_21 (sT_31 hS) rfl rfl (Eq.trans (up2_nq (by decide)) up2_eq) ?_
        refine wi_ic ct_182_24 kc_1 ?_
        refine wi_iadd (z := 3) ct_182_25 (by decide) ?_
        refine wi_pf ct_182_26 (sT_31 hS) rfl ?_
        refine wi_ret ct_182_29 (wk_v ?_)
        refine wi_aload_0 ct_184_75 ?_
        refine wi_iload_1 ct_184_76 ?_
        refine wi_iload_2 ct_184_77 ?_
        refine wi_cv2 (ls' := [some _, some _, some _]) ct_184_78 (Nat.le_of_ble_eq_true rfl) (by decide) (sT_31 hS) rfl (by decide) rfl rfl (Nat.le_of_ble_eq_true rfl) ?_
        refine wi_aload_0 ct_183_0 ?_
        refine wi_ic ct_183_1 kc_10 ?_
        refine wi_cv1 (ls' := [some _, some _]) ct_183_3 (Nat.le_of_ble_eq_true rfl) (by decide) (sT_31 hS) rfl (by decide) rfl rfl (Nat.le_of_ble_eq_true rfl) ?_
        refine wi_aload_0 ct_182_0 ?_
        refine wi_gf (x := 3) ct_182_1 (sT_31 hS) rfl rfl up2_eq ?_
        refine wi_ic ct_182_4 kc_20 ?_
        refine wi_icge_f ct_182_6 ki_3 ki_20 (by decide) ?_
        refine wi_aload_0 ct_182_9 ?_
        refine wi_gfr ct_182_10 (sT_31 hS) rfl (sR_31_66 hS) ?_
        refine wi_aload_0 ct_182_13 ?_
        refine wi_gf (x := 3) ct_182_14 (sT_31 hS) rfl rfl up2_eq ?_
        refine wi_iload_1 ct_182_17 ?_
        refine wi_iast ct_182_18 (sT_67 hS) (sL_67 hS) (by decide) kn_c3 ?_
        refine wi_aload_0 ct_182_19 ?_
        refine wi_dup ct_182_20 rfl ?_
        refine wi_gf (x := 3) ct_182_21 (sT_31 hS) rfl rfl (Eq.trans (up2_nq (by decide)) up2_eq) ?_
        refine wi_ic ct_182_24 kc_1 ?_
        refine wi_iadd (z := 4) ct_182_25 (by decide) ?_
        refine wi_pf ct_182_26 (sT_31 hS) rfl ?_
        refine wi_ret ct_182_29 (wk_v ?_)
        refine wi_iload_2 ct_183_6 ?_
        refine wi_iload_1 ct_183_7 ?_
        refine wi_iadd ct_183_8 rfl ?_
        refine wi_iret ct_183_9 rfl (wk_i ?_)
        refine wi_aload_0 ct_184_81 ?_
        refine wi_gfr ct_184_82 (sT_31 hS) rfl (sR_31_3 hS) ?_
        refine wi_iload_1 ct_184_85 ?_
        refine wi_iald (x := fi 33 B) ct_184_86 (sT_33 hS) (sL_33 hS) (i_in hBn (by omega)) (i_cl (k := B) hBn (by omega)) (Eq.trans (up2_nq (by decide)) (Eq.trans (up2_nq (by decide)) (Eq.trans (up2_nq (by decide)) (Eq.trans (up2_nq (by decide)) (Eq.trans (up2_nq (by decide)) (Eq.trans (up2_nq (by decide)) (Eq.trans (up2_nq (by decide)) (Eq.trans (up2_nq (by decide)) (Eq.trans (up2_nq (by decide)) (Eq.trans (up2_nq (by decide)) (Eq.trans (up2_nq (by decide)) (Eq.trans (up2_nq (by decide)) (Eq.trans (up2_nq (by decide)) (Eq.trans (up2_nq (by decide)) (Eq.trans (up2_nq (by decide)) (Eq.trans (up2_nq (by decide)) (Eq.trans (up2_nq (by decide)) (Eq.trans (up2_nq (by decide)) (Eq.trans (up2_nq (by decide)) (up2_nq (by decide))))))))))))))))))))) ?_
        refine wi_ixor ct_184_87 rfl ?_
        refine wi_iret ct_184_88 rfl (wk_i ?_)
        refine wi_aload_0 ct_185_12 ?_
        refine wi_gfr ct_185_13 (sT_31 hS) rfl (sR_31_3 hS) ?_
        refine wi_iload_1 ct_185_16 ?_
        refine wi_iald (x := fi 33 B) ct_185_17 (sT_33 hS) (sL_33 hS) (i_in hBn (by omega)) (i_cl (k := B) hBn (by omega)) (Eq.trans (up2_nq (by decide)) (Eq.trans (up2_nq (by decide)) (Eq.trans (up2_nq (by decide)) (Eq.trans (up2_nq (by decide)) (Eq.trans (up2_nq (by decide)) (Eq.trans (up2_nq (by decide)) (Eq.trans (up2_nq (by decide)) (Eq.trans (up2_nq (by decide)) (Eq.trans (up2_nq (by decide)) (Eq.trans (up2_nq (by decide)) (Eq.trans (up2_nq (by decide)) (Eq.trans (up2_nq (by decide)) (Eq.trans (up2_nq (by decide)) (Eq.trans (up2_nq (by decide)) (Eq.trans (up2_nq (by decide)) (Eq.trans (up2_nq (by decide)) (Eq.trans (up2_nq (by decide)) (Eq.trans (up2_nq (by decide)) (Eq.trans (up2_nq (by decide)) (up2_nq (by decide))))))))))))))))))))) ?_
        refine wi_isub ct_185_18 rfl ?_
        refine wi_iret ct_185_19 rfl (wk_i ?_)
        refine wi_istore_3 rfl ct_187_74 ?_
        refine wi_iload_3 ct_187_75 ?_
        refine wi_aload_0 ct_187_76 ?_
        refine wi_iload_1 ct_187_77 ?_
        refine wi_ic ct_187_78 kc_2 ?_
        refine wi_cv2 (ls' := [some _, some _, some _]) ct_187_79 (Nat.le_of_ble_eq_true rfl) (by decide) (sT_31 hS) rfl (by decide) rfl rfl (Nat.le_of_ble_eq_true rfl) ?_
        refine wi_aload_0 ct_183_0 ?_
        refine wi_ic ct_183_1 kc_10 ?_
        refine wi_cv1 (ls' := [some _, some _]) ct_183_3 (Nat.le_of_ble_eq_true rfl) (by decide) (sT_31 hS) rfl (by decide) rfl rfl (Nat.le_of_ble_eq_true rfl) ?_
        refine wi_aload_0 ct_182_0 ?_
        refine wi_gf (x := 4) ct_182_1 (sT_31 hS) rfl rfl up2_eq ?_
        refine wi_ic ct_182_4 kc_20 ?_
        refine wi_icge_f ct_182_6 ki_4 ki_20 (by decide) ?_
        refine wi_aload_0 ct_182_9 ?_
        refine wi_gfr ct_182_10 (sT_31 hS) rfl (sR_31_66 hS) ?_
        refine wi_aload_0 ct_182_13 ?_
        refine wi_gf (x := 4) ct_182_14 (sT_31 hS) rfl rfl up2_eq ?_
        refine wi_iload_1 ct_182_17 ?_
        refine wi_iast ct_182_18 (sT_67 hS) (sL_67 hS) (by decide) kn_c4 ?_
        refine wi_aload_0 ct_182_19 ?_
        refine wi_dup ct_182_20 rfl ?_
        refine wi_gf (x := 4) ct_182_21 (sT_31 hS) rfl rfl (Eq.trans (up2_nq (by decide)) up2_eq) ?_
        refine wi_ic ct_182_24 kc_1 ?_
        refine wi_iadd (z := 5) ct_182_25 (by decide) ?_
        refine wi_pf ct_182_26 (sT_31 hS) rfl ?_
        refine wi_ret ct_182_29 (wk_v ?_)
        refine wi_iload_2 ct_183_6 ?_
        refine wi_iload_1 ct_183_7 ?_
        refine wi_iadd ct_183_8 rfl ?_
        refine wi_iret ct_183_9 rfl (wk_i ?_)
        refine wi_iadd ct_187_82 rfl ?_
        refine wi_iret ct_187_83 rfl (wk_i ?_)
        refine wi_goto ct_190_49 ?_
        refine wi_iret ct_190_58 rfl (wk_i ?_)
        refine wi_iceq_t ct_211_1062 rfl rfl (by omega) ?_
        refine kk own g _ fl (hR.act (fun q h1 h2 h3 => (Eq.trans (funext fun _ => up2_nq h2) (Eq.trans (funext fun _ => up2_nq h3) (Eq.trans (funext fun _ => up2_nq h2) (Eq.trans (funext fun _ => up2_nq h3) (Eq.trans (funext fun _ => up2_nq h2) (Eq.trans (funext fun _ => up2_nq h3) (Eq.trans (funext fun _ => up2_nq h2) (Eq.trans (funext fun _ => up2_nq h3) (Eq.trans (funext fun _ => up2_nq h2) (Eq.trans (funext fun _ => up2_nq h3) (Eq.trans (funext fun _ => up2_nq h2) (Eq.trans (funext fun _ => up2_nq h1) (Eq.trans (funext fun _ => up2_nq h1) (Eq.trans (funext fun _ => up2_nq h1) (Eq.trans (funext fun _ => up2_nq h1) (Eq.trans (funext fun _ => up2_nq h1) (Eq.trans (funext fun _ => up2_nq h1) (Eq.trans (funext fun _ => up2_nq h1) (Eq.trans (funext fun _ => up2_nq h1) (Eq.trans (funext fun _ => up2_nq h1) (Eq.trans (funext fun _ => up2_nq h1) (funext fun _ => up2_nq h1))))))))))))))))))))))) (fun j hj => (Eq.trans (up2_nj hj) (Eq.trans (up2_nq (by decide)) (Eq.trans (up2_nj hj) (Eq.trans (up2_nq (by decide)) (Eq.trans (up2_nj hj) (Eq.trans (up2_nq (by decide)) (Eq.trans (up2_nj hj) (Eq.trans (up2_nq (by decide)) (Eq.trans (up2_nj hj) (Eq.trans (up2_nq (by decide)) (Eq.trans (up2_nj hj) (Eq.trans (up2_nq (by decide)) (Eq.trans (up2_nq (by decide)) (Eq.trans (up2_nq (by decide)) (Eq.trans (up2_nq (by decide)) (Eq.trans (up2_nq (by decide)) (Eq.trans (up2_nq (by decide)) (Eq.trans (up2_nq (by decide)) (Eq.trans (up2_nq (by decide)) (Eq.trans (up2_nq (by decide)) (Eq.trans (up2_nq (by decide)) (up2_nq (by decide)))))))))))))))))))))))) ⟨((Eq.trans (up2_nq (by decide)) (Eq.trans (up2_nq (by decide)) (Eq.trans (up2_nq (by decide)) (Eq.trans (up2_nq (by decide)) (Eq.trans (up2_nq (by decide)) (Eq.trans (up2_nq (by decide)) (Eq.trans (up2_nq (by decide)) (Eq.trans (up2_nq (by decide)) (Eq.trans (up2_nq (by decide)) (Eq.trans (up2_nq (by decide)) (Eq.trans (up2_nq (by decide)) (Eq.trans (up2_nj (by decide)) up2_eq))))))))))))).trans (up2_eq).symm, by rw [up2_eq]; decide, by rw [up2_eq]; decide⟩ ?_) (by omega) (by omega)
        intro j hj hn
        rw [up2_eq] at hn
        replace hn : (j : Int) < 5 := hn
        match j, (by omega : j < 5) with
        | 0, _ => exact ((Eq.trans (up2_nq (by decide)) (Eq.trans (up2_nq (by decide)) (Eq.trans (up2_nq (by decide)) (Eq.trans (up2_nq (by decide)) (Eq.trans (up2_nq (by decide)) (Eq.trans (up2_nq (by decide)) (Eq.trans (up2_nq (by decide)) (Eq.trans (up2_nq (by decide)) (Eq.trans (up2_nq (by decide)) (Eq.trans (up2_nq (by decide)) (Eq.trans (up2_nq (by decide)) (Eq.trans (up2_nj (by decide)) (Eq.trans (up2_nj (by decide)) (Eq.trans (up2_nj (by decide)) (Eq.trans (up2_nj (by decide)) (Eq.trans (up2_nj (by decide)) (Eq.trans (up2_nj (by decide)) (Eq.trans (up2_nj (by decide)) (Eq.trans (up2_nj (by decide)) up2_eq)))))))))))))))))))).trans ((Eq.trans (up2_nq (by decide)) (Eq.trans (up2_nj (by decide)) (Eq.trans (up2_nq (by decide)) (Eq.trans (up2_nj (by decide)) (Eq.trans (up2_nq (by decide)) (Eq.trans (up2_nj (by decide)) (Eq.trans (up2_nq (by decide)) (Eq.trans (up2_nj (by decide)) (Eq.trans (up2_nq (by decide)) up2_eq)))))))))).symm
        | 1, _ => exact ((Eq.trans (up2_nq (by decide)) (Eq.trans (up2_nq (by decide)) (Eq.trans (up2_nq (by decide)) (Eq.trans (up2_nq (by decide)) (Eq.trans (up2_nq (by decide)) (Eq.trans (up2_nq (by decide)) (Eq.trans (up2_nq (by decide)) (Eq.trans (up2_nq (by decide)) (Eq.trans (up2_nq (by decide)) (Eq.trans (up2_nq (by decide)) (Eq.trans (up2_nq (by decide)) (Eq.trans (up2_nj (by decide)) (Eq.trans (up2_nj (by decide)) (Eq.trans (up2_nj (by decide)) (Eq.trans (up2_nj (by decide)) (Eq.trans (up2_nj (by decide)) (Eq.trans (up2_nj (by decide)) up2_eq)))))))))))))))))).trans ((Eq.trans (up2_nq (by decide)) (Eq.trans (up2_nj (by decide)) (Eq.trans (up2_nq (by decide)) (Eq.trans (up2_nj (by decide)) (Eq.trans (up2_nq (by decide)) (Eq.trans (up2_nj (by decide)) (Eq.trans (up2_nq (by decide)) up2_eq)))))))).symm
        | 2, _ => exact ((Eq.trans (up2_nq (by decide)) (Eq.trans (up2_nq (by decide)) (Eq.trans (up2_nq (by decide)) (Eq.trans (up2_nq (by decide)) (Eq.trans (up2_nq (by decide)) (Eq.trans (up2_nq (by decide)) (Eq.trans (up2_nq (by decide)) (Eq.trans (up2_nq (by decide)) (Eq.trans (up2_nq (by decide)) (Eq.trans (up2_nq (by decide)) (Eq.trans (up2_nq (by decide)) (Eq.trans (up2_nj (by decide)) (Eq.trans (up2_nj (by decide)) (Eq.trans (up2_nj (by decide)) (Eq.trans (up2_nj (by decide)) up2_eq)))))))))))))))).trans ((Eq.trans (up2_nq (by decide)) (Eq.trans (up2_nj (by decide)) (Eq.trans (up2_nq (by decide)) (Eq.trans (up2_nj (by decide)) (Eq.trans (up2_nq (by decide)) up2_eq)))))).symm
        | 3, _ => exact ((Eq.trans (up2_nq (by decide)) (Eq.trans (up2_nq (by decide)) (Eq.trans (up2_nq (by decide)) (Eq.trans (up2_nq (by decide)) (Eq.trans (up2_nq (by decide)) (Eq.trans (up2_nq (by decide)) (Eq.trans (up2_nq (by decide)) (Eq.trans (up2_nq (by decide)) (Eq.trans (up2_nq (by decide)) (Eq.trans (up2_nq (by decide)) (Eq.trans (up2_nq (by decide)) (Eq.trans (up2_nj (by decide)) (Eq.trans (up2_nj (by decide)) up2_eq)))))))))))))).trans ((Eq.trans (up2_nq (by decide)) (Eq.trans (up2_nj (by decide)) (Eq.trans (up2_nq (by decide)) up2_eq)))).symm
        | 4, _ => exact ((Eq.trans (up2_nq (by decide)) (Eq.trans (up2_nq (by decide)) (Eq.trans (up2_nq (by decide)) (Eq.trans (up2_nq (by decide)) (Eq.trans (up2_nq (by decide)) (Eq.trans (up2_nq (by decide)) (Eq.trans (up2_nq (by decide)) (Eq.trans (up2_nq (by decide)) (Eq.trans (up2_nq (by decide)) (Eq.trans (up2_nq (by decide)) (Eq.trans (up2_nq (by decide)) up2_eq)))))))))))).trans ((Eq.trans (up2_nq (by decide)) up2_eq)).symm
        | j + 5, h => exact absurd h (by omega)
    rcases Decidable.em ((a2).toInt = 2) with h30 | h30
    · refine wi_tsw (X := 2) (t := 70) ct_95_22 (by omega) rfl ?_
      refine wi_aload_4 ct_95_70 ?_
      refine wi_iload_3 ct_95_72 ?_
      refine wi_aload_0 ct_95_73 ?_
      refine wi_gfr ct_95_74 (sT_0 hS) rfl (sR_0_10 hS) ?_
      rcases am_k7 (k := (fi 32 B).toInt) (by omega) with hk31 | hk32 | hk33 | hk34 | hk35 | hk36 | hk37
      · skip
        refine wi_cv2 (ls' := [some _, some _, some _]) ct_95_77 (Nat.le_of_ble_eq_true rfl) (by decide) (ot.trans (by rw [hk31] <;> rfl)) rfl (by decide) rfl rfl (Nat.le_of_ble_eq_true rfl) ?_
        refine wi_ic ct_8_0 kc_12 ?_
        refine wi_aload_2 ct_8_2 ?_
        refine wi_cs2 (ls' := [some _, some _, none]) ct_8_3 (Nat.le_of_ble_eq_true rfl) rfl (Nat.le_of_ble_eq_true rfl) ?_
        refine wi_aload_1 ct_9_0 ?_
        refine wi_ic ct_9_1 kc_0 ?_
        refine wi_dup2 ct_9_2 rfl rfl ?_
        refine wi_iald (x := 0) ct_9_3 (sT_21 hS) (sL_21 hS) (by decide) kn_c0 up2_eq ?_
        refine wi_ic ct_9_4 kc_1 ?_
        refine wi_iadd (z := 1) ct_9_5 (by decide) ?_
        refine wi_iast ct_9_6 (sT_21 hS) (sL_21 hS) (by decide) kn_c0 ?_
        refine wi_aload_1 ct_9_7 ?_
        refine wi_ic ct_9_8 kc_0 ?_
        refine wi_iald (x := 1) ct_9_9 (sT_21 hS) (sL_21 hS) (by decide) kn_c0 up2_eq ?_
        refine wi_istore_2 rfl ct_9_10 ?_
        refine wi_iload_2 ct_9_11 ?_
        refine wi_ifle_f ct_9_12 ki_1 (by decide) ?_
        refine wi_iload_2 ct_9_15 ?_
        refine wi_aload_1 ct_9_16 ?_
        refine wi_len (z := 21) ct_9_17 (sT_21 hS) (by decide) (sL_21 hS) (by decide) ?_
        refine wi_icge_f ct_9_18 ki_1 ki_21 (by decide) ?_
        refine wi_aload_1 ct_9_21 ?_
        refine wi_iload_2 ct_9_22 ?_
        refine wi_iload_0 ct_9_23 ?_
        refine wi_iast ct_9_24 (sT_21 hS) (sL_21 hS) (by decide) kn_c1 ?_
        refine wi_ret ct_9_25 (wk_v ?_)
        refine wi_aload_0 ct_8_6 ?_
        refine wi_iload_1 ct_8_7 ?_
        refine wi_aload_2 ct_8_8 ?_
        refine wi_cv2 (ls' := [some _, some _, some _]) ct_8_9 (Nat.le_of_ble_eq_true rfl) (by decide) (ot.trans (by rw [hk31] <;> rfl)) rfl (by decide) rfl rfl (Nat.le_of_ble_eq_true rfl) ?_
        refine wi_ic ct_7_0 kc_11 ?_
        refine wi_aload_2 ct_7_2 ?_
        refine wi_cs2 (ls' := [some _, some _, none]) ct_7_3 (Nat.le_of_ble_eq_true rfl) rfl (Nat.le_of_ble_eq_true rfl) ?_
        refine wi_aload_1 ct_9_0 ?_
        refine wi_ic ct_9_1 kc_0 ?_
        refine wi_dup2 ct_9_2 rfl rfl ?_
        refine wi_iald (x := 1) ct_9_3 (sT_21 hS) (sL_21 hS) (by decide) kn_c0 (Eq.trans (up2_nj (by decide)) up2_eq) ?_
        refine wi_ic ct_9_4 kc_1 ?_
        refine wi_iadd (z := 2) ct_9_5 (by decide) ?_
        refine wi_iast ct_9_6 (sT_21 hS) (sL_21 hS) (by decide) kn_c0 ?_
        refine wi_aload_1 ct_9_7 ?_
        refine wi_ic ct_9_8 kc_0 ?_
        refine wi_iald (x := 2) ct_9_9 (sT_21 hS) (sL_21 hS) (by decide) kn_c0 up2_eq ?_
        refine wi_istore_2 rfl ct_9_10 ?_
        refine wi_iload_2 ct_9_11 ?_
        refine wi_ifle_f ct_9_12 ki_2 (by decide) ?_
        refine wi_iload_2 ct_9_15 ?_
        refine wi_aload_1 ct_9_16 ?_
        refine wi_len (z := 21) ct_9_17 (sT_21 hS) (by decide) (sL_21 hS) (by decide) ?_
        refine wi_icge_f ct_9_18 ki_2 ki_21 (by decide) ?_
        refine wi_aload_1 ct_9_21 ?_
        refine wi_iload_2 ct_9_22 ?_
        refine wi_iload_0 ct_9_23 ?_
        refine wi_iast ct_9_24 (sT_21 hS) (sL_21 hS) (by decide) kn_c2 ?_
        refine wi_ret ct_9_25 (wk_v ?_)
        refine wi_aload_0 ct_7_6 ?_
        refine wi_iload_1 ct_7_7 ?_
        refine wi_aload_2 ct_7_8 ?_
        refine wi_cv2 (ls' := [some _, some _, some _]) ct_7_9 (Nat.le_of_ble_eq_true rfl) (by decide) (ot.trans (by rw [hk31] <;> rfl)) rfl (by decide) rfl rfl (Nat.le_of_ble_eq_true rfl) ?_
        refine wi_ic ct_6_0 kc_10 ?_
        refine wi_aload_2 ct_6_2 ?_
        refine wi_cs2 (ls' := [some _, some _, none]) ct_6_3 (Nat.le_of_ble_eq_true rfl) rfl (Nat.le_of_ble_eq_true rfl) ?_
        refine wi_aload_1 ct_9_0 ?_
        refine wi_ic ct_9_1 kc_0 ?_
        refine wi_dup2 ct_9_2 rfl rfl ?_
        refine wi_iald (x := 2) ct_9_3 (sT_21 hS) (sL_21 hS) (by decide) kn_c0 (Eq.trans (up2_nj (by decide)) up2_eq) ?_
        refine wi_ic ct_9_4 kc_1 ?_
        refine wi_iadd (z := 3) ct_9_5 (by decide) ?_
        refine wi_iast ct_9_6 (sT_21 hS) (sL_21 hS) (by decide) kn_c0 ?_
        refine wi_aload_1 ct_9_7 ?_
        refine wi_ic ct_9_8 kc_0 ?_
        refine wi_iald (x := 3) ct_9_9 (sT_21 hS) (sL_21 hS) (by decide) kn_c0 up2_eq ?_
        refine wi_istore_2 rfl ct_9_10 ?_
        refine wi_iload_2 ct_9_11 ?_
        refine wi_ifle_f ct_9_12 ki_3 (by decide) ?_
        refine wi_iload_2 ct_9_15 ?_
        refine wi_aload_1 ct_9_16 ?_
        refine wi_len (z := 21) ct_9_17 (sT_21 hS) (by decide) (sL_21 hS) (by decide) ?_
        refine wi_icge_f ct_9_18 ki_3 ki_21 (by decide) ?_
        refine wi_aload_1 ct_9_21 ?_
        refine wi_iload_2 ct_9_22 ?_
        refine wi_iload_0 ct_9_23 ?_
        refine wi_iast ct_9_24 (sT_21 hS) (sL_21 hS) (by decide) kn_c3 ?_
        refine wi_ret ct_9_25 (wk_v ?_)
        refine wi_iload_1 ct_6_6 ?_
        refine wi_aload_0 ct_6_7 ?_
        refine wi_gf (x := a1) ct_6_8 (ot.trans (by rw [hk31] <;> rfl)) rfl rfl (Eq.trans (up2_nq (dn o72 (by decide))) (Eq.trans (up2_nq (dn o72 (by decide))) (Eq.trans (up2_nq (dn o72 (by decide))) (Eq.trans (up2_nq (dn o72 (by decide))) (Eq.trans (up2_nq (dn o72 (by decide))) (Eq.trans (up2_nq (dn o72 (by decide))) (Eq.trans (up2_nq (dn o72 (by decide))) hpn))))))) ?_
        refine wi_iadd ct_6_11 rfl ?_
        refine wi_iret ct_6_12 rfl (wk_i ?_)
        refine wi_aload_0 ct_7_12 ?_
        refine wi_gf (x := fi 33 B) ct_7_13 (ot.trans (by rw [hk31] <;> rfl)) rfl rfl (Eq.trans (up2_nq (dn o72 (by decide))) (Eq.trans (up2_nq (dn o72 (by decide))) (Eq.trans (up2_nq (dn o72 (by decide))) (Eq.trans (up2_nq (dn o72 (by decide))) (Eq.trans (up2_nq (dn o72 (by decide))) (Eq.trans (up2_nq (dn o72 (by decide))) (Eq.trans (up2_nq (dn o72 (by decide))) ov))))))) ?_
        refine wi_isub ct_7_16 rfl ?_
        refine wi_iret ct_7_17 rfl (wk_i ?_)
        refine wi_ic ct_8_12 kc_2 ?_
        refine wi_imul ct_8_13 rfl ?_
        refine wi_iret ct_8_14 rfl (wk_i ?_)
        refine wi_iret ct_95_80 rfl (wk_i ?_)
        refine wi_aload_2 ct_211_1043 ?_
        refine wi_aloadT_0 ct_211_1044 ?_
        refine wi_iload_3 ct_211_1045 ?_
        refine wi_ic ct_211_1046 kc_1 ?_
        refine wi_iadd ct_211_1047 rfl ?_
        refine wi_ialdT (j := I + 1) (x := a1) ct_211_1048 (sL_SC hS) (i_in (i_add hi ki_1 (by omega)) (by omega)) (i_cl (i_add hi ki_1 (by omega)) (by omega)) ((Eq.trans (up2_nq (by decide)) (Eq.trans (up2_nq (by decide)) (Eq.trans (up2_nq (by decide)) (Eq.trans (up2_nq (by decide)) (Eq.trans (up2_nq (by decide)) (Eq.trans (up2_nq (by decide)) (Eq.trans (up2_nq (by decide)) ((hsc _).trans e1))))))))) ?_
        refine wi_aloadT_0 ct_211_1049 ?_
        refine wi_iload_3 ct_211_1050 ?_
        refine wi_ic ct_211_1051 kc_2 ?_
        refine wi_iadd ct_211_1052 rfl ?_
        refine wi_ialdT (j := I + 2) (x := a2) ct_211_1053 (sL_SC hS) (i_in (i_add hi ki_2 (by omega)) (by omega)) (i_cl (i_add hi ki_2 (by omega)) (by omega)) ((Eq.trans (up2_nq (by decide)) (Eq.trans (up2_nq (by decide)) (Eq.trans (up2_nq (by decide)) (Eq.trans (up2_nq (by decide)) (Eq.trans (up2_nq (by decide)) (Eq.trans (up2_nq (by decide)) (Eq.trans (up2_nq (by decide)) ((hsc _).trans e2))))))))) ?_
        refine wi_aloadT_0 ct_211_1054 ?_
        refine wi_iload_3 ct_211_1055 ?_
        refine wi_ic ct_211_1056 kc_3 ?_
        refine wi_iadd ct_211_1057 rfl ?_
        refine wi_ialdT (j := I + 3) (x := a3) ct_211_1058 (sL_SC hS) (i_in (i_add hi ki_3 (by omega)) (by omega)) (i_cl (i_add hi ki_3 (by omega)) (by omega)) ((Eq.trans (up2_nq (by decide)) (Eq.trans (up2_nq (by decide)) (Eq.trans (up2_nq (by decide)) (Eq.trans (up2_nq (by decide)) (Eq.trans (up2_nq (by decide)) (Eq.trans (up2_nq (by decide)) (Eq.trans (up2_nq (by decide)) ((hsc _).trans e3))))))))) ?_
        refine wi_cv3 (ls' := [some _, some _, some _, some _]) ct_211_1059 (Nat.le_of_ble_eq_true rfl) (by decide) (sT_31 hS) rfl (by decide) rfl rfl (Nat.le_of_ble_eq_true rfl) ?_
        refine wi_aload_0 ct_190_0 ?_
        refine wi_ic ct_190_1 kc_0 ?_
        refine wi_pf ct_190_2 (sT_31 hS) rfl ?_
        refine wi_aload_0 ct_190_5 ?_
        refine wi_iload_1 ct_190_6 ?_
        refine wi_cv1 (ls' := [some _, some _]) ct_190_7 (Nat.le_of_ble_eq_true rfl) (by decide) (sT_31 hS) rfl (by decide) rfl rfl (Nat.le_of_ble_eq_true rfl) ?_
        refine wi_aload_0 ct_120_0 ?_
        refine wi_iload_1 ct_120_1 ?_
        refine wi_ic ct_120_2 kc_0 ?_
        refine wi_aload_0 ct_120_3 ?_
        refine wi_gf (x := fi 31 0) ct_120_4 (sT_31 hS) rfl rfl (Eq.trans (up2_nj (by decide)) (Eq.trans (up2_nq (by decide)) (Eq.trans (up2_nq (by decide)) (Eq.trans (up2_nq (by decide)) (Eq.trans (up2_nq (by decide)) (Eq.trans (up2_nq (by decide)) (Eq.trans (up2_nq (by decide)) (up2_nq (by decide))))))))) ?_
        refine wi_ic ct_120_7 kc_1 ?_
        refine wi_isub ct_120_8 rfl ?_
        refine wi_cv3 (ls' := [some _, some _, some _, some _]) ct_120_9 (Nat.le_of_ble_eq_true rfl) (by decide) (sT_31 hS) rfl (by decide) rfl rfl (Nat.le_of_ble_eq_true rfl) ?_
        refine c_in hBn ki_0 (i_sub rfl ki_1 (by omega)) (fun _ => wk_i ?_) (fun h => absurd h (by omega))
        refine wi_iret ct_120_12 (by decide) (wk_i ?_)
        refine wi_ifeq_f ct_190_10 ki_1 (by decide) ?_
        refine wi_aload_0 ct_190_13 ?_
        refine wi_iload_2 ct_190_14 ?_
        refine wi_ic ct_190_15 kc_0 ?_
        refine wi_ic ct_190_16 kc_2 ?_
        refine wi_cv3 (ls' := [some _, some _, some _, some _]) ct_190_17 (Nat.le_of_ble_eq_true rfl) (by decide) (sT_31 hS) rfl (by decide) rfl rfl (Nat.le_of_ble_eq_true rfl) ?_
        refine c_in rfl ki_0 ki_2 (fun _ => wk_i ?_) (fun h => absurd h (by omega))
        refine wi_ifne_t ct_190_20 ki_1 (by decide) ?_
        refine wi_iload_2 ct_190_25 ?_
        refine wi_ifne_t ct_190_26 rfl (by omega) ?_
        refine wi_iload_2 ct_190_38 ?_
        refine wi_ic ct_190_39 kc_1 ?_
        refine wi_icne_t ct_190_40 rfl ki_1 (by omega) ?_
        refine wi_aload_0 ct_190_52 ?_
        refine wi_iload_1 ct_190_53 ?_
        refine wi_iload_3 ct_190_54 ?_
        refine wi_cv2 (ls' := [some _, some _, some _, none]) ct_190_55 (Nat.le_of_ble_eq_true rfl) (by decide) (sT_31 hS) rfl (by decide) rfl rfl (Nat.le_of_ble_eq_true rfl) ?_
        refine wi_aload_0 ct_189_0 ?_
        refine wi_gfr ct_189_1 (sT_31 hS) rfl (sR_31_2 hS) ?_
        refine wi_iload_1 ct_189_4 ?_
        refine wi_iald (x := fi 32 B) ct_189_5 (sT_32 hS) (sL_32 hS) (i_in hBn (by omega)) (i_cl (k := B) hBn (by omega)) (Eq.trans (up2_nq (by decide)) (Eq.trans (up2_nq (by decide)) (Eq.trans (up2_nq (by decide)) (Eq.trans (up2_nq (by decide)) (Eq.trans (up2_nq (by decide)) (Eq.trans (up2_nq (by decide)) (Eq.trans (up2_nq (by decide)) (up2_nq (by decide))))))))) ?_
        refine wi_tsw (t := 73) ct_189_6 rfl ((am_tswD (by omega)).trans rfl) ?_
        refine wi_aload_0 ct_189_73 ?_
        refine wi_iload_1 ct_189_74 ?_
        refine wi_iload_2 ct_189_75 ?_
        refine wi_cv2 (ls' := [some _, some _, some _]) ct_189_76 (Nat.le_of_ble_eq_true rfl) (by decide) (sT_31 hS) rfl (by decide) rfl rfl (Nat.le_of_ble_eq_true rfl) ?_
        refine wi_aload_0 ct_188_0 ?_
        refine wi_ic ct_188_1 kc_12 ?_
        refine wi_cv1 (ls' := [some _, some _]) ct_188_3 (Nat.le_of_ble_eq_true rfl) (by decide) (sT_31 hS) rfl (by decide) rfl rfl (Nat.le_of_ble_eq_true rfl) ?_
        refine wi_aload_0 ct_182_0 ?_
        refine wi_gf (x := 0) ct_182_1 (sT_31 hS) rfl rfl up2_eq ?_
        refine wi_ic ct_182_4 kc_20 ?_
        refine wi_icge_f ct_182_6 ki_0 ki_20 (by decide) ?_
        refine wi_aload_0 ct_182_9 ?_
        refine wi_gfr ct_182_10 (sT_31 hS) rfl (sR_31_66 hS) ?_
        refine wi_aload_0 ct_182_13 ?_
        refine wi_gf (x := 0) ct_182_14 (sT_31 hS) rfl rfl up2_eq ?_
        refine wi_iload_1 ct_182_17 ?_
        refine wi_iast ct_182_18 (sT_67 hS) (sL_67 hS) (by decide) kn_c0 ?_
        refine wi_aload_0 ct_182_19 ?_
        refine wi_dup ct_182_20 rfl ?_
        refine wi_gf (x := 0) ct_182_21 (sT_31 hS) rfl rfl (Eq.trans (up2_nq (by decide)) up2_eq) ?_
        refine wi_ic ct_182_24 kc_1 ?_
        refine wi_iadd (z := 1) ct_182_25 (by decide) ?_
        refine wi_pf ct_182_26 (sT_31 hS) rfl ?_
        refine wi_ret ct_182_29 (wk_v ?_)
        refine wi_aload_0 ct_188_6 ?_
        refine wi_iload_1 ct_188_7 ?_
        refine wi_iload_2 ct_188_8 ?_
        refine wi_cv2 (ls' := [some _, some _, some _, none]) ct_188_9 (Nat.le_of_ble_eq_true rfl) (by decide) (sT_31 hS) rfl (by decide) rfl rfl (Nat.le_of_ble_eq_true rfl) ?_
        refine wi_aload_0 ct_187_0 ?_
        refine wi_gfr ct_187_1 (sT_31 hS) rfl (sR_31_2 hS) ?_
        refine wi_iload_1 ct_187_4 ?_
        refine wi_iald (x := fi 32 B) ct_187_5 (sT_32 hS) (sL_32 hS) (i_in hBn (by omega)) (i_cl (k := B) hBn (by omega)) (Eq.trans (up2_nq (by decide)) (Eq.trans (up2_nq (by decide)) (Eq.trans (up2_nq (by decide)) (Eq.trans (up2_nq (by decide)) (Eq.trans (up2_nq (by decide)) (Eq.trans (up2_nq (by decide)) (Eq.trans (up2_nq (by decide)) (Eq.trans (up2_nq (by decide)) (Eq.trans (up2_nq (by decide)) (up2_nq (by decide))))))))))) ?_
        refine wi_lsw (X := 0) (t := 84) ct_187_6 (by omega) (by decide) ?_
        refine wi_aload_0 ct_187_84 ?_
        refine wi_iload_1 ct_187_85 ?_
        refine wi_iload_2 ct_187_86 ?_
        refine wi_cv2 (ls' := [some _, some _, some _]) ct_187_87 (Nat.le_of_ble_eq_true rfl) (by decide) (sT_31 hS) rfl (by decide) rfl rfl (Nat.le_of_ble_eq_true rfl) ?_
        refine wi_aload_0 ct_185_0 ?_
        refine wi_ic ct_185_1 kc_11 ?_
        refine wi_cv1 (ls' := [some _, some _]) ct_185_3 (Nat.le_of_ble_eq_true rfl) (by decide) (sT_31 hS) rfl (by decide) rfl rfl (Nat.le_of_ble_eq_true rfl) ?_
        refine wi_aload_0 ct_182_0 ?_
        refine wi_gf (x := 1) ct_182_1 (sT_31 hS) rfl rfl up2_eq ?_
        refine wi_ic ct_182_4 kc_20 ?_
        refine wi_icge_f ct_182_6 ki_1 ki_20 (by decide) ?_
        refine wi_aload_0 ct_182_9 ?_
        refine wi_gfr ct_182_10 (sT_31 hS) rfl (sR_31_66 hS) ?_
        refine wi_aload_0 ct_182_13 ?_
        refine wi_gf (x := 1) ct_182_14 (sT_31 hS) rfl rfl up2_eq ?_
        refine wi_iload_1 ct_182_17 ?_
        refine wi_iast ct_182_18 (sT_67 hS) (sL_67 hS) (by decide) kn_c1 ?_
        refine wi_aload_0 ct_182_19 ?_
        refine wi_dup ct_182_20 rfl ?_
        refine wi_gf (x := 1) ct_182_21 (sT_31 hS) rfl rfl (Eq.trans (up2_nq (by decide)) up2_eq) ?_
        refine wi_ic ct_182_24 kc_1 ?_
        refine wi_iadd (z := 2) ct_182_25 (by decide) ?_
        refine wi_pf ct_182_26 (sT_31 hS) rfl ?_
        refine wi_ret ct_182_29 (wk_v ?_)
        refine wi_aload_0 ct_185_6 ?_
        refine wi_iload_1 ct_185_7 ?_
        refine wi_iload_2 ct_185_8 ?_
        refine wi_cv2 (ls' := [some _, some _, some _]) ct_185_9 (Nat.le_of_ble_eq_true rfl) (by decide) (sT_31 hS) rfl (by decide) rfl rfl (Nat.le_of_ble_eq_true rfl) ?_
        refine wi_aload_0 ct_184_0 ?_
        refine wi_gfr ct_184_1 (sT_31 hS) rfl (sR_31_2 hS) ?_
        refine wi_iload_1 ct_184_4 ?_
        refine wi_iald (x := fi 32 B) ct_184_5 (sT_32 hS) (sL_32 hS) (i_in hBn (by omega)) (i_cl (k := B) hBn (by omega)) (Eq.trans (up2_nq (by decide)) (Eq.trans (up2_nq (by decide)) (Eq.trans (up2_nq (by decide)) (Eq.trans (up2_nq (by decide)) (Eq.trans (up2_nq (by decide)) (Eq.trans (up2_nq (by decide)) (Eq.trans (up2_nq (by decide)) (Eq.trans (up2_nq (by decide)) (Eq.trans (up2_nq (by decide)) (Eq.trans (up2_nq (by decide)) (Eq.trans (up2_nq (by decide)) (up2_nq (by decide))))))))))))) ?_
        refine wi_tsw (t := 89) ct_184_6 rfl ((am_tswD (by omega)).trans rfl) ?_
        refine wi_aload_0 ct_184_89 ?_
        refine wi_iload_1 ct_184_90 ?_
        refine wi_iload_2 ct_184_91 ?_
        refine wi_cv2 (ls' := [some _, some _, some _]) ct_184_92 (Nat.le_of_ble_eq_true rfl) (by decide) (sT_31 hS) rfl (by decide) rfl rfl (Nat.le_of_ble_eq_true rfl) ?_
        refine wi_aload_0 ct_183_0 ?_
        refine wi_ic ct_183_1 kc_10 ?_
        refine wi_cv1 (ls' := [some _, some _]) ct_183_3 (Nat.le_of_ble_eq_true rfl) (by decide) (sT_31 hS) rfl (by decide) rfl rfl (Nat.le_of_ble_eq_true rfl) ?_
        refine wi_aload_0 ct_182_0 ?_
        refine wi_gf (x := 2) ct_182_1 (sT_31 hS) rfl rfl up2_eq ?_
        refine wi_ic ct_182_4 kc_20 ?_
        refine wi_icge_f ct_182_6 ki_2 ki_20 (by decide) ?_
        refine wi_aload_0 ct_182_9 ?_
        refine wi_gfr ct_182_10 (sT_31 hS) rfl (sR_31_66 hS) ?_
        refine wi_aload_0 ct_182_13 ?_
        refine wi_gf (x := 2) ct_182_14 (sT_31 hS) rfl rfl up2_eq ?_
        refine wi_iload_1 ct_182_17 ?_
        refine wi_iast ct_182_18 (sT_67 hS) (sL_67 hS) (by decide) kn_c2 ?_
        refine wi_aload_0 ct_182_19 ?_
        refine wi_dup ct_182_20 rfl ?_
        refine wi_gf (x := 2) ct_182_21 (sT_31 hS) rfl rfl (Eq.trans (up2_nq (by decide)) up2_eq) ?_
        refine wi_ic ct_182_24 kc_1 ?_
        refine wi_iadd (z := 3) ct_182_25 (by decide) ?_
        refine wi_pf ct_182_26 (sT_31 hS) rfl ?_
        refine wi_ret ct_182_29 (wk_v ?_)
        refine wi_iload_2 ct_183_6 ?_
        refine wi_iload_1 ct_183_7 ?_
        refine wi_iadd ct_183_8 rfl ?_
        refine wi_iret ct_183_9 rfl (wk_i ?_)
        refine wi_iret ct_184_95 rfl (wk_i ?_)
        refine wi_aload_0 ct_185_12 ?_
        refine wi_gfr ct_185_13 (sT_31 hS) rfl (sR_31_3 hS) ?_
        refine wi_iload_1 ct_185_16 ?_
        refine wi_iald (x := fi 33 B) ct_185_17 (sT_33 hS) (sL_33 hS) (i_in hBn (by omega)) (i_cl (k := B) hBn (by omega)) (Eq.trans (up2_nq (by decide)) (Eq.trans (up2_nq (by decide)) (Eq.trans (up2_nq (by decide)) (Eq.trans (up2_nq (by decide)) (Eq.trans (up2_nq (by decide)) (Eq.trans (up2_nq (by decide)) (Eq.trans (up2_nq (by decide)) (Eq.trans (up2_nq (by decide)) (Eq.trans (up2_nq (by decide)) (Eq.trans (up2_nq (by decide)) (Eq.trans (up2_nq (by decide)) (Eq.trans (up2_nq (by decide)) (Eq.trans (up2_nq (by decide)) (up2_nq (by decide))))))))))))))) ?_
        refine wi_isub ct_185_18 rfl ?_
        refine wi_iret ct_185_19 rfl (wk_i ?_)
        refine wi_iret ct_187_90 rfl (wk_i ?_)
        refine wi_ic ct_188_12 kc_2 ?_
        refine wi_imul ct_188_13 rfl ?_
        refine wi_iret ct_188_14 rfl (wk_i ?_)
        refine wi_iret ct_189_79 rfl (wk_i ?_)
        refine wi_iret ct_190_58 rfl (wk_i ?_)
        refine wi_iceq_t ct_211_1062 rfl rfl (by omega) ?_
        refine kk own g _ fl (hR.act (fun q h1 h2 h3 => (Eq.trans (funext fun _ => up2_nq h2) (Eq.trans (funext fun _ => up2_nq h3) (Eq.trans (funext fun _ => up2_nq h2) (Eq.trans (funext fun _ => up2_nq h3) (Eq.trans (funext fun _ => up2_nq h2) (Eq.trans (funext fun _ => up2_nq h3) (Eq.trans (funext fun _ => up2_nq h2) (Eq.trans (funext fun _ => up2_nq h1) (Eq.trans (funext fun _ => up2_nq h1) (Eq.trans (funext fun _ => up2_nq h1) (Eq.trans (funext fun _ => up2_nq h1) (Eq.trans (funext fun _ => up2_nq h1) (Eq.trans (funext fun _ => up2_nq h1) (funext fun _ => up2_nq h1))))))))))))))) (fun j hj => (Eq.trans (up2_nj hj) (Eq.trans (up2_nq (by decide)) (Eq.trans (up2_nj hj) (Eq.trans (up2_nq (by decide)) (Eq.trans (up2_nj hj) (Eq.trans (up2_nq (by decide)) (Eq.trans (up2_nj hj) (Eq.trans (up2_nq (by decide)) (Eq.trans (up2_nq (by decide)) (Eq.trans (up2_nq (by decide)) (Eq.trans (up2_nq (by decide)) (Eq.trans (up2_nq (by decide)) (Eq.trans (up2_nq (by decide)) (up2_nq (by decide)))))))))))))))) ⟨((Eq.trans (up2_nq (by decide)) (Eq.trans (up2_nq (by decide)) (Eq.trans (up2_nq (by decide)) (Eq.trans (up2_nq (by decide)) (Eq.trans (up2_nq (by decide)) (Eq.trans (up2_nq (by decide)) (Eq.trans (up2_nq (by decide)) (Eq.trans (up2_nj (by decide)) up2_eq))))))))).trans (up2_eq).symm, by rw [up2_eq]; decide, by rw [up2_eq]; decide⟩ ?_) (by omega) (by omega)
        intro j hj hn
        rw [up2_eq] at hn
        replace hn : (j : Int) < 3 := hn
        match j, (by omega : j < 3) with
        | 0, _ => exact ((Eq.trans (up2_nq (by decide)) (Eq.trans (up2_nq (by decide)) (Eq.trans (up2_nq (by decide)) (Eq.trans (up2_nq (by decide)) (Eq.trans (up2_nq (by decide)) (Eq.trans (up2_nq (by decide)) (Eq.trans (up2_nq (by decide)) (Eq.trans (up2_nj (by decide)) (Eq.trans (up2_nj (by decide)) (Eq.trans (up2_nj (by decide)) (Eq.trans (up2_nj (by decide)) up2_eq)))))))))))).trans ((Eq.trans (up2_nq (by decide)) (Eq.trans (up2_nj (by decide)) (Eq.trans (up2_nq (by decide)) (Eq.trans (up2_nj (by decide)) (Eq.trans (up2_nq (by decide)) up2_eq)))))).symm
        | 1, _ => exact ((Eq.trans (up2_nq (by decide)) (Eq.trans (up2_nq (by decide)) (Eq.trans (up2_nq (by decide)) (Eq.trans (up2_nq (by decide)) (Eq.trans (up2_nq (by decide)) (Eq.trans (up2_nq (by decide)) (Eq.trans (up2_nq (by decide)) (Eq.trans (up2_nj (by decide)) (Eq.trans (up2_nj (by decide)) up2_eq)))))))))).trans ((Eq.trans (up2_nq (by decide)) (Eq.trans (up2_nj (by decide)) (Eq.trans (up2_nq (by decide)) up2_eq)))).symm
        | 2, _ => exact ((Eq.trans (up2_nq (by decide)) (Eq.trans (up2_nq (by decide)) (Eq.trans (up2_nq (by decide)) (Eq.trans (up2_nq (by decide)) (Eq.trans (up2_nq (by decide)) (Eq.trans (up2_nq (by decide)) (Eq.trans (up2_nq (by decide)) up2_eq)))))))).trans ((Eq.trans (up2_nq (by decide)) up2_eq)).symm
        | j + 3, h => exact absurd h (by omega)
      · skip
        refine wi_cv2 (ls' := [some _, some _, some _]) ct_95_77 (Nat.le_of_ble_eq_true rfl) (by decide) (ot.trans (by rw [hk32] <;> rfl)) rfl (by decide) rfl rfl (Nat.le_of_ble_eq_true rfl) ?_
        refine wi_ic ct_8_0 kc_12 ?_
        refine wi_aload_2 ct_8_2 ?_
        refine wi_cs2 (ls' := [some _, some _, none]) ct_8_3 (Nat.le_of_ble_eq_true rfl) rfl (Nat.le_of_ble_eq_true rfl) ?_
        refine wi_aload_1 ct_9_0 ?_
        refine wi_ic ct_9_1 kc_0 ?_
        refine wi_dup2 ct_9_2 rfl rfl ?_
        refine wi_iald (x := 0) ct_9_3 (sT_21 hS) (sL_21 hS) (by decide) kn_c0 up2_eq ?_
        refine wi_ic ct_9_4 kc_1 ?_
        refine wi_iadd (z := 1) ct_9_5 (by decide) ?_
        refine wi_iast ct_9_6 (sT_21 hS) (sL_21 hS) (by decide) kn_c0 ?_
        refine wi_aload_1 ct_9_7 ?_
        refine wi_ic ct_9_8 kc_0 ?_
        refine wi_iald (x := 1) ct_9_9 (sT_21 hS) (sL_21 hS) (by decide) kn_c0 up2_eq ?_
        refine wi_istore_2 rfl ct_9_10 ?_
        refine wi_iload_2 ct_9_11 ?_
        refine wi_ifle_f ct_9_12 ki_1 (by decide) ?_
        refine wi_iload_2 ct_9_15 ?_
        refine wi_aload_1 ct_9_16 ?_
        refine wi_len (z := 21) ct_9_17 (sT_21 hS) (by decide) (sL_21 hS) (by decide) ?_
        refine wi_icge_f ct_9_18 ki_1 ki_21 (by decide) ?_
        refine wi_aload_1 ct_9_21 ?_
        refine wi_iload_2 ct_9_22 ?_
        refine wi_iload_0 ct_9_23 ?_
        refine wi_iast ct_9_24 (sT_21 hS) (sL_21 hS) (by decide) kn_c1 ?_
        refine wi_ret ct_9_25 (wk_v ?_)
        refine wi_aload_0 ct_8_6 ?_
        refine wi_iload_1 ct_8_7 ?_
        refine wi_aload_2 ct_8_8 ?_
        refine wi_cv2 (ls' := [some _, some _, some _]) ct_8_9 (Nat.le_of_ble_eq_true rfl) (by decide) (ot.trans (by rw [hk32] <;> rfl)) rfl (by decide) rfl rfl (Nat.le_of_ble_eq_true rfl) ?_
        refine wi_ic ct_12_0 kc_20 ?_
        refine wi_aload_2 ct_12_2 ?_
        refine wi_cs2 (ls' := [some _, some _, none]) ct_12_3 (Nat.le_of_ble_eq_true rfl) rfl (Nat.le_of_ble_eq_true rfl) ?_
        refine wi_aload_1 ct_9_0 ?_
        refine wi_ic ct_9_1 kc_0 ?_
        refine wi_dup2 ct_9_2 rfl rfl ?_
        refine wi_iald (x := 1) ct_9_3 (sT_21 hS) (sL_21 hS) (by decide) kn_c0 (Eq.trans (up2_nj (by decide)) up2_eq) ?_
        refine wi_ic ct_9_4 kc_1 ?_
        refine wi_iadd (z := 2) ct_9_5 (by decide) ?_
        refine wi_iast ct_9_6 (sT_21 hS) (sL_21 hS) (by decide) kn_c0 ?_
        refine wi_aload_1 ct_9_7 ?_
        refine wi_ic ct_9_8 kc_0 ?_
        refine wi_iald (x := 2) ct_9_9 (sT_21 hS) (sL_21 hS) (by decide) kn_c0 up2_eq ?_
        refine wi_istore_2 rfl ct_9_10 ?_
        refine wi_iload_2 ct_9_11 ?_
        refine wi_ifle_f ct_9_12 ki_2 (by decide) ?_
        refine wi_iload_2 ct_9_15 ?_
        refine wi_aload_1 ct_9_16 ?_
        refine wi_len (z := 21) ct_9_17 (sT_21 hS) (by decide) (sL_21 hS) (by decide) ?_
        refine wi_icge_f ct_9_18 ki_2 ki_21 (by decide) ?_
        refine wi_aload_1 ct_9_21 ?_
        refine wi_iload_2 ct_9_22 ?_
        refine wi_iload_0 ct_9_23 ?_
        refine wi_iast ct_9_24 (sT_21 hS) (sL_21 hS) (by decide) kn_c2 ?_
        refine wi_ret ct_9_25 (wk_v ?_)
        refine wi_aload_0 ct_12_6 ?_
        refine wi_iload_1 ct_12_7 ?_
        refine wi_aload_2 ct_12_8 ?_
        refine wi_cp2 (ls' := [some _, some _, some _]) ct_12_9 (Nat.le_of_ble_eq_true rfl) (ot.trans (by rw [hk32] <;> rfl)) (by decide) rfl (Nat.le_of_ble_eq_true rfl) ?_
        refine wi_ic ct_7_0 kc_11 ?_
        refine wi_aload_2 ct_7_2 ?_
        refine wi_cs2 (ls' := [some _, some _, none]) ct_7_3 (Nat.le_of_ble_eq_true rfl) rfl (Nat.le_of_ble_eq_true rfl) ?_
        refine wi_aload_1 ct_9_0 ?_
        refine wi_ic ct_9_1 kc_0 ?_
        refine wi_dup2 ct_9_2 rfl rfl ?_
        refine wi_iald (x := 2) ct_9_3 (sT_21 hS) (sL_21 hS) (by decide) kn_c0 (Eq.trans (up2_nj (by decide)) up2_eq) ?_
        refine wi_ic ct_9_4 kc_1 ?_
        refine wi_iadd (z := 3) ct_9_5 (by decide) ?_
        refine wi_iast ct_9_6 (sT_21 hS) (sL_21 hS) (by decide) kn_c0 ?_
        refine wi_aload_1 ct_9_7 ?_
        refine wi_ic ct_9_8 kc_0 ?_
        refine wi_iald (x := 3) ct_9_9 (sT_21 hS) (sL_21 hS) (by decide) kn_c0 up2_eq ?_
        refine wi_istore_2 rfl ct_9_10 ?_
        refine wi_iload_2 ct_9_11 ?_
        refine wi_ifle_f ct_9_12 ki_3 (by decide) ?_
        refine wi_iload_2 ct_9_15 ?_
        refine wi_aload_1 ct_9_16 ?_
        refine wi_len (z := 21) ct_9_17 (sT_21 hS) (by decide) (sL_21 hS) (by decide) ?_
        refine wi_icge_f ct_9_18 ki_3 ki_21 (by decide) ?_
        refine wi_aload_1 ct_9_21 ?_
        refine wi_iload_2 ct_9_22 ?_
        refine wi_iload_0 ct_9_23 ?_
        refine wi_iast ct_9_24 (sT_21 hS) (sL_21 hS) (by decide) kn_c3 ?_
        refine wi_ret ct_9_25 (wk_v ?_)
        refine wi_aload_0 ct_7_6 ?_
        refine wi_iload_1 ct_7_7 ?_
        refine wi_aload_2 ct_7_8 ?_
        refine wi_cv2 (ls' := [some _, some _, some _]) ct_7_9 (Nat.le_of_ble_eq_true rfl) (by decide) (ot.trans (by rw [hk32] <;> rfl)) rfl (by decide) rfl rfl (Nat.le_of_ble_eq_true rfl) ?_
        refine wi_ic ct_6_0 kc_10 ?_
        refine wi_aload_2 ct_6_2 ?_
        refine wi_cs2 (ls' := [some _, some _, none]) ct_6_3 (Nat.le_of_ble_eq_true rfl) rfl (Nat.le_of_ble_eq_true rfl) ?_
        refine wi_aload_1 ct_9_0 ?_
        refine wi_ic ct_9_1 kc_0 ?_
        refine wi_dup2 ct_9_2 rfl rfl ?_
        refine wi_iald (x := 3) ct_9_3 (sT_21 hS) (sL_21 hS) (by decide) kn_c0 (Eq.trans (up2_nj (by decide)) up2_eq) ?_
        refine wi_ic ct_9_4 kc_1 ?_
        refine wi_iadd (z := 4) ct_9_5 (by decide) ?_
        refine wi_iast ct_9_6 (sT_21 hS) (sL_21 hS) (by decide) kn_c0 ?_
        refine wi_aload_1 ct_9_7 ?_
        refine wi_ic ct_9_8 kc_0 ?_
        refine wi_iald (x := 4) ct_9_9 (sT_21 hS) (sL_21 hS) (by decide) kn_c0 up2_eq ?_
        refine wi_istore_2 rfl ct_9_10 ?_
        refine wi_iload_2 ct_9_11 ?_
        refine wi_ifle_f ct_9_12 ki_4 (by decide) ?_
        refine wi_iload_2 ct_9_15 ?_
        refine wi_aload_1 ct_9_16 ?_
        refine wi_len (z := 21) ct_9_17 (sT_21 hS) (by decide) (sL_21 hS) (by decide) ?_
        refine wi_icge_f ct_9_18 ki_4 ki_21 (by decide) ?_
        refine wi_aload_1 ct_9_21 ?_
        refine wi_iload_2 ct_9_22 ?_
        refine wi_iload_0 ct_9_23 ?_
        refine wi_iast ct_9_24 (sT_21 hS) (sL_21 hS) (by decide) kn_c4 ?_
        refine wi_ret ct_9_25 (wk_v ?_)
        refine wi_iload_1 ct_6_6 ?_
        refine wi_aload_0 ct_6_7 ?_
        refine wi_gf (x := a1) ct_6_8 (ot.trans (by rw [hk32] <;> rfl)) rfl rfl (Eq.trans (up2_nq (dn o72 (by decide))) (Eq.trans (up2_nq (dn o72 (by decide))) (Eq.trans (up2_nq (dn o72 (by decide))) (Eq.trans (up2_nq (dn o72 (by decide))) (Eq.trans (up2_nq (dn o72 (by decide))) (Eq.trans (up2_nq (dn o72 (by decide))) (Eq.trans (up2_nq (dn o72 (by decide))) (Eq.trans (up2_nq (dn o72 (by decide))) (Eq.trans (up2_nq (dn o72 (by decide))) hpn))))))))) ?_
        refine wi_iadd ct_6_11 rfl ?_
        refine wi_iret ct_6_12 rfl (wk_i ?_)
        refine wi_aload_0 ct_7_12 ?_
        refine wi_gf (x := fi 33 B) ct_7_13 (ot.trans (by rw [hk32] <;> rfl)) rfl rfl (Eq.trans (up2_nq (dn o72 (by decide))) (Eq.trans (up2_nq (dn o72 (by decide))) (Eq.trans (up2_nq (dn o72 (by decide))) (Eq.trans (up2_nq (dn o72 (by decide))) (Eq.trans (up2_nq (dn o72 (by decide))) (Eq.trans (up2_nq (dn o72 (by decide))) (Eq.trans (up2_nq (dn o72 (by decide))) (Eq.trans (up2_nq (dn o72 (by decide))) (Eq.trans (up2_nq (dn o72 (by decide))) ov))))))))) ?_
        refine wi_isub ct_7_16 rfl ?_
        refine wi_iret ct_7_17 rfl (wk_i ?_)
        refine wi_ic ct_12_12 kc_6 ?_
        refine wi_ixor ct_12_14 rfl ?_
        refine wi_iret ct_12_15 rfl (wk_i ?_)
        refine wi_ic ct_8_12 kc_2 ?_
        refine wi_imul ct_8_13 rfl ?_
        refine wi_iret ct_8_14 rfl (wk_i ?_)
        refine wi_iret ct_95_80 rfl (wk_i ?_)
        refine wi_aload_2 ct_211_1043 ?_
        refine wi_aloadT_0 ct_211_1044 ?_
        refine wi_iload_3 ct_211_1045 ?_
        refine wi_ic ct_211_1046 kc_1 ?_
        refine wi_iadd ct_211_1047 rfl ?_
        refine wi_ialdT (j := I + 1) (x := a1) ct_211_1048 (sL_SC hS) (i_in (i_add hi ki_1 (by omega)) (by omega)) (i_cl (i_add hi ki_1 (by omega)) (by omega)) ((Eq.trans (up2_nq (by decide)) (Eq.trans (up2_nq (by decide)) (Eq.trans (up2_nq (by decide)) (Eq.trans (up2_nq (by decide)) (Eq.trans (up2_nq (by decide)) (Eq.trans (up2_nq (by decide)) (Eq.trans (up2_nq (by decide)) (Eq.trans (up2_nq (by decide)) (Eq.trans (up2_nq (by decide)) ((hsc _).trans e1))))))))))) ?_
        refine wi_aloadT_0 ct_211_1049 ?_
        refine wi_iload_3 ct_211_1050 ?_
        refine wi_ic ct_211_1051 kc_2 ?_
        refine wi_iadd ct_211_1052 rfl ?_
        refine wi_ialdT (j := I + 2) (x := a2) ct_211_1053 (sL_SC hS) (i_in (i_add hi ki_2 (by omega)) (by omega)) (i_cl (i_add hi ki_2 (by omega)) (by omega)) ((Eq.trans (up2_nq (by decide)) (Eq.trans (up2_nq (by decide)) (Eq.trans (up2_nq (by decide)) (Eq.trans (up2_nq (by decide)) (Eq.trans (up2_nq (by decide)) (Eq.trans (up2_nq (by decide)) (Eq.trans (up2_nq (by decide)) (Eq.trans (up2_nq (by decide)) (Eq.trans (up2_nq (by decide)) ((hsc _).trans e2))))))))))) ?_
        refine wi_aloadT_0 ct_211_1054 ?_
        refine wi_iload_3 ct_211_1055 ?_
        refine wi_ic ct_211_1056 kc_3 ?_
        refine wi_iadd ct_211_1057 rfl ?_
        refine wi_ialdT (j := I + 3) (x := a3) ct_211_1058 (sL_SC hS) (i_in (i_add hi ki_3 (by omega)) (by omega)) (i_cl (i_add hi ki_3 (by omega)) (by omega)) ((Eq.trans (up2_nq (by decide)) (Eq.trans (up2_nq (by decide)) (Eq.trans (up2_nq (by decide)) (Eq.trans (up2_nq (by decide)) (Eq.trans (up2_nq (by decide)) (Eq.trans (up2_nq (by decide)) (Eq.trans (up2_nq (by decide)) (Eq.trans (up2_nq (by decide)) (Eq.trans (up2_nq (by decide)) ((hsc _).trans e3))))))))))) ?_
        refine wi_cv3 (ls' := [some _, some _, some _, some _]) ct_211_1059 (Nat.le_of_ble_eq_true rfl) (by decide) (sT_31 hS) rfl (by decide) rfl rfl (Nat.le_of_ble_eq_true rfl) ?_
        refine wi_aload_0 ct_190_0 ?_
        refine wi_ic ct_190_1 kc_0 ?_
        refine wi_pf ct_190_2 (sT_31 hS) rfl ?_
        refine wi_aload_0 ct_190_5 ?_
        refine wi_iload_1 ct_190_6 ?_
        refine wi_cv1 (ls' := [some _, some _]) ct_190_7 (Nat.le_of_ble_eq_true rfl) (by decide) (sT_31 hS) rfl (by decide) rfl rfl (Nat.le_of_ble_eq_true rfl) ?_
        refine wi_aload_0 ct_120_0 ?_
        refine wi_iload_1 ct_120_1 ?_
        refine wi_ic ct_120_2 kc_0 ?_
        refine wi_aload_0 ct_120_3 ?_
        refine wi_gf (x := fi 31 0) ct_120_4 (sT_31 hS) rfl rfl (Eq.trans (up2_nj (by decide)) (Eq.trans (up2_nq (by decide)) (Eq.trans (up2_nq (by decide)) (Eq.trans (up2_nq (by decide)) (Eq.trans (up2_nq (by decide)) (Eq.trans (up2_nq (by decide)) (Eq.trans (up2_nq (by decide)) (Eq.trans (up2_nq (by decide)) (Eq.trans (up2_nq (by decide)) (up2_nq (by decide))))))))))) ?_
        refine wi_ic ct_120_7 kc_1 ?_
        refine wi_isub ct_120_8 rfl ?_
        refine wi_cv3 (ls' := [some _, some _, some _, some _]) ct_120_9 (Nat.le_of_ble_eq_true rfl) (by decide) (sT_31 hS) rfl (by decide) rfl rfl (Nat.le_of_ble_eq_true rfl) ?_
        refine c_in hBn ki_0 (i_sub rfl ki_1 (by omega)) (fun _ => wk_i ?_) (fun h => absurd h (by omega))
        refine wi_iret ct_120_12 (by decide) (wk_i ?_)
        refine wi_ifeq_f ct_190_10 ki_1 (by decide) ?_
        refine wi_aload_0 ct_190_13 ?_
        refine wi_iload_2 ct_190_14 ?_
        refine wi_ic ct_190_15 kc_0 ?_
        refine wi_ic ct_190_16 kc_2 ?_
        refine wi_cv3 (ls' := [some _, some _, some _, some _]) ct_190_17 (Nat.le_of_ble_eq_true rfl) (by decide) (sT_31 hS) rfl (by decide) rfl rfl (Nat.le_of_ble_eq_true rfl) ?_
        refine c_in rfl ki_0 ki_2 (fun _ => wk_i ?_) (fun h => absurd h (by omega))
        refine wi_ifne_t ct_190_20 ki_1 (by decide) ?_
        refine wi_iload_2 ct_190_25 ?_
        refine wi_ifne_t ct_190_26 rfl (by omega) ?_
        refine wi_iload_2 ct_190_38 ?_
        refine wi_ic ct_190_39 kc_1 ?_
        refine wi_icne_t ct_190_40 rfl ki_1 (by omega) ?_
        refine wi_aload_0 ct_190_52 ?_
        refine wi_iload_1 ct_190_53 ?_
        refine wi_iload_3 ct_190_54 ?_
        refine wi_cv2 (ls' := [some _, some _, some _, none]) ct_190_55 (Nat.le_of_ble_eq_true rfl) (by decide) (sT_31 hS) rfl (by decide) rfl rfl (Nat.le_of_ble_eq_true rfl) ?_
        refine wi_aload_0 ct_189_0 ?_
        refine wi_gfr ct_189_1 (sT_31 hS) rfl (sR_31_2 hS) ?_
        refine wi_iload_1 ct_189_4 ?_
        refine wi_iald (x := fi 32 B) ct_189_5 (sT_32 hS) (sL_32 hS) (i_in hBn (by omega)) (i_cl (k := B) hBn (by omega)) (Eq.trans (up2_nq (by decide)) (Eq.trans (up2_nq (by decide)) (Eq.trans (up2_nq (by decide)) (Eq.trans (up2_nq (by decide)) (Eq.trans (up2_nq (by decide)) (Eq.trans (up2_nq (by decide)) (Eq.trans (up2_nq (by decide)) (Eq.trans (up2_nq (by decide)) (Eq.trans (up2_nq (by decide)) (up2_nq (by decide))))))))))) ?_
        refine wi_tsw (t := 73) ct_189_6 rfl ((am_tswD (by omega)).trans rfl) ?_
        refine wi_aload_0 ct_189_73 ?_
        refine wi_iload_1 ct_189_74 ?_
        refine wi_iload_2 ct_189_75 ?_
        refine wi_cv2 (ls' := [some _, some _, some _]) ct_189_76 (Nat.le_of_ble_eq_true rfl) (by decide) (sT_31 hS) rfl (by decide) rfl rfl (Nat.le_of_ble_eq_true rfl) ?_
        refine wi_aload_0 ct_188_0 ?_
        refine wi_ic ct_188_1 kc_12 ?_
        refine wi_cv1 (ls' := [some _, some _]) ct_188_3 (Nat.le_of_ble_eq_true rfl) (by decide) (sT_31 hS) rfl (by decide) rfl rfl (Nat.le_of_ble_eq_true rfl) ?_
        refine wi_aload_0 ct_182_0 ?_
        refine wi_gf (x := 0) ct_182_1 (sT_31 hS) rfl rfl up2_eq ?_
        refine wi_ic ct_182_4 kc_20 ?_
        refine wi_icge_f ct_182_6 ki_0 ki_20 (by decide) ?_
        refine wi_aload_0 ct_182_9 ?_
        refine wi_gfr ct_182_10 (sT_31 hS) rfl (sR_31_66 hS) ?_
        refine wi_aload_0 ct_182_13 ?_
        refine wi_gf (x := 0) ct_182_14 (sT_31 hS) rfl rfl up2_eq ?_
        refine wi_iload_1 ct_182_17 ?_
        refine wi_iast ct_182_18 (sT_67 hS) (sL_67 hS) (by decide) kn_c0 ?_
        refine wi_aload_0 ct_182_19 ?_
        refine wi_dup ct_182_20 rfl ?_
        refine wi_gf (x := 0) ct_182_21 (sT_31 hS) rfl rfl (Eq.trans (up2_nq (by decide)) up2_eq) ?_
        refine wi_ic ct_182_24 kc_1 ?_
        refine wi_iadd (z := 1) ct_182_25 (by decide) ?_
        refine wi_pf ct_182_26 (sT_31 hS) rfl ?_
        refine wi_ret ct_182_29 (wk_v ?_)
        refine wi_aload_0 ct_188_6 ?_
        refine wi_iload_1 ct_188_7 ?_
        refine wi_iload_2 ct_188_8 ?_
        refine wi_cv2 (ls' := [some _, some _, some _, none]) ct_188_9 (Nat.le_of_ble_eq_true rfl) (by decide) (sT_31 hS) rfl (by decide) rfl rfl (Nat.le_of_ble_eq_true rfl) ?_
        refine wi_aload_0 ct_187_0 ?_
        refine wi_gfr ct_187_1 (sT_31 hS) rfl (sR_31_2 hS) ?_
        refine wi_iload_1 ct_187_4 ?_
        refine wi_iald (x := fi 32 B) ct_187_5 (sT_32 hS) (sL_32 hS) (i_in hBn (by omega)) (i_cl (k := B) hBn (by omega)) (Eq.trans (up2_nq (by decide)) (Eq.trans (up2_nq (by decide)) (Eq.trans (up2_nq (by decide)) (Eq.trans (up2_nq (by decide)) (Eq.trans (up2_nq (by decide)) (Eq.trans (up2_nq (by decide)) (Eq.trans (up2_nq (by decide)) (Eq.trans (up2_nq (by decide)) (Eq.trans (up2_nq (by decide)) (Eq.trans (up2_nq (by decide)) (Eq.trans (up2_nq (by decide)) (up2_nq (by decide))))))))))))) ?_
        refine wi_lsw (X := 1) (t := 40) ct_187_6 (by omega) (by decide) ?_
        refine wi_aload_0 ct_187_40 ?_
        refine wi_iload_1 ct_187_41 ?_
        refine wi_iload_2 ct_187_42 ?_
        refine wi_cv2 (ls' := [some _, some _, some _]) ct_187_43 (Nat.le_of_ble_eq_true rfl) (by decide) (sT_31 hS) rfl (by decide) rfl rfl (Nat.le_of_ble_eq_true rfl) ?_
        refine wi_aload_0 ct_186_0 ?_
        refine wi_ic ct_186_1 kc_20 ?_
        refine wi_cv1 (ls' := [some _, some _]) ct_186_3 (Nat.le_of_ble_eq_true rfl) (by decide) (sT_31 hS) rfl (by decide) rfl rfl (Nat.le_of_ble_eq_true rfl) ?_
        refine wi_aload_0 ct_182_0 ?_
        refine wi_gf (x := 1) ct_182_1 (sT_31 hS) rfl rfl up2_eq ?_
        refine wi_ic ct_182_4 kc_20 ?_
        refine wi_icge_f ct_182_6 ki_1 ki_20 (by decide) ?_
        refine wi_aload_0 ct_182_9 ?_
        refine wi_gfr ct_182_10 (sT_31 hS) rfl (sR_31_66 hS) ?_
        refine wi_aload_0 ct_182_13 ?_
        refine wi_gf (x := 1) ct_182_14 (sT_31 hS) rfl rfl up2_eq ?_
        refine wi_iload_1 ct_182_17 ?_
        refine wi_iast ct_182_18 (sT_67 hS) (sL_67 hS) (by decide) kn_c1 ?_
        refine wi_aload_0 ct_182_19 ?_
        refine wi_dup ct_182_20 rfl ?_
        refine wi_gf (x := 1) ct_182_21 (sT_31 hS) rfl rfl (Eq.trans (up2_nq (by decide)) up2_eq) ?_
        refine wi_ic ct_182_24 kc_1 ?_
        refine wi_iadd (z := 2) ct_182_25 (by decide) ?_
        refine wi_pf ct_182_26 (sT_31 hS) rfl ?_
        refine wi_ret ct_182_29 (wk_v ?_)
        refine wi_aload_0 ct_186_6 ?_
        refine wi_iload_1 ct_186_7 ?_
        refine wi_iload_2 ct_186_8 ?_
        refine wi_cv2 (ls' := [some _, some _, some _]) ct_186_9 (Nat.le_of_ble_eq_true rfl) (by decide) (sT_31 hS) rfl (by decide) rfl rfl (Nat.le_of_ble_eq_true rfl) ?_
        refine wi_aload_0 ct_185_0 ?_
        refine wi_ic ct_185_1 kc_11 ?_
        refine wi_cv1 (ls' := [some _, some _]) ct_185_3 (Nat.le_of_ble_eq_true rfl) (by decide) (sT_31 hS) rfl (by decide) rfl rfl (Nat.le_of_ble_eq_true rfl) ?_
        refine wi_aload_0 ct_182_0 ?_
        refine wi_gf (x := 2) ct_182_1 (sT_31 hS) rfl rfl up2_eq ?_
        refine wi_ic ct_182_4 kc_20 ?_
        refine wi_icge_f ct_182_6 ki_2 ki_20 (by decide) ?_
        refine wi_aload_0 ct_182_9 ?_
        refine wi_gfr ct_182_10 (sT_31 hS) rfl (sR_31_66 hS) ?_
        refine wi_aload_0 ct_182_13 ?_
        refine wi_gf (x := 2) ct_182_14 (sT_31 hS) rfl rfl up2_eq ?_
        refine wi_iload_1 ct_182_17 ?_
        refine wi_iast ct_182_18 (sT_67 hS) (sL_67 hS) (by decide) kn_c2 ?_
        refine wi_aload_0 ct_182_19 ?_
        refine wi_dup ct_182_20 rfl ?_
        refine wi_gf (x := 2) ct_182_21 (sT_31 hS) rfl rfl (Eq.trans (up2_nq (by decide)) up2_eq) ?_
        refine wi_ic ct_182_24 kc_1 ?_
        refine wi_iadd (z := 3) ct_182_25 (by decide) ?_
        refine wi_pf ct_182_26 (sT_31 hS) rfl ?_
        refine wi_ret ct_182_29 (wk_v ?_)
        refine wi_aload_0 ct_185_6 ?_
        refine wi_iload_1 ct_185_7 ?_
        refine wi_iload_2 ct_185_8 ?_
        refine wi_cv2 (ls' := [some _, some _, some _]) ct_185_9 (Nat.le_of_ble_eq_true rfl) (by decide) (sT_31 hS) rfl (by decide) rfl rfl (Nat.le_of_ble_eq_true rfl) ?_
        refine wi_aload_0 ct_184_0 ?_
        refine wi_gfr ct_184_1 (sT_31 hS) rfl (sR_31_2 hS) ?_
        refine wi_iload_1 ct_184_4 ?_
        refine wi_iald (x := fi 32 B) ct_184_5 (sT_32 hS) (sL_32 hS) (i_in hBn (by omega)) (i_cl (k := B) hBn (by omega)) (Eq.trans (up2_nq (by decide)) (Eq.trans (up2_nq (by decide)) (Eq.trans (up2_nq (by decide)) (Eq.trans (up2_nq (by decide)) (Eq.trans (up2_nq (by decide)) (Eq.trans (up2_nq (by decide)) (Eq.trans (up2_nq (by decide)) (Eq.trans (up2_nq (by decide)) (Eq.trans (up2_nq (by decide)) (Eq.trans (up2_nq (by decide)) (Eq.trans (up2_nq (by decide)) (Eq.trans (up2_nq (by decide)) (Eq.trans (up2_nq (by decide)) (Eq.trans (up2_nq (by decide)) (Eq.trans (up2_nq (by decide)) (up2_nq (by decide))))))))))))))))) ?_
        refine wi_tsw (t := 89) ct_184_6 rfl ((am_tswD (by omega)).trans rfl) ?_
        refine wi_aload_0 ct_184_89 ?_
        refine wi_iload_1 ct_184_90 ?_
        refine wi_iload_2 ct_184_91 ?_
        refine wi_cv2 (ls' := [some _, some _, some _]) ct_184_92 (Nat.le_of_ble_eq_true rfl) (by decide) (sT_31 hS) rfl (by decide) rfl rfl (Nat.le_of_ble_eq_true rfl) ?_
        refine wi_aload_0 ct_183_0 ?_
        refine wi_ic ct_183_1 kc_10 ?_
        refine wi_cv1 (ls' := [some _, some _]) ct_183_3 (Nat.le_of_ble_eq_true rfl) (by decide) (sT_31 hS) rfl (by decide) rfl rfl (Nat.le_of_ble_eq_true rfl) ?_
        refine wi_aload_0 ct_182_0 ?_
        refine wi_gf (x := 3) ct_182_1 (sT_31 hS) rfl rfl up2_eq ?_
        refine wi_ic ct_182_4 kc_20 ?_
        refine wi_icge_f ct_182_6 ki_3 ki_20 (by decide) ?_
        refine wi_aload_0 ct_182_9 ?_
        refine wi_gfr ct_182_10 (sT_31 hS) rfl (sR_31_66 hS) ?_
        refine wi_aload_0 ct_182_13 ?_
        refine wi_gf (x := 3) ct_182_14 (sT_31 hS) rfl rfl up2_eq ?_
        refine wi_iload_1 ct_182_17 ?_
        refine wi_iast ct_182_18 (sT_67 hS) (sL_67 hS) (by decide) kn_c3 ?_
        refine wi_aload_0 ct_182_19 ?_
        refine wi_dup ct_182_20 rfl ?_
        refine wi_gf (x := 3) ct_182_21 (sT_31 hS) rfl rfl (Eq.trans (up2_nq (by decide)) up2_eq) ?_
        refine wi_ic ct_182_24 kc_1 ?_
        refine wi_iadd (z := 4) ct_182_25 (by decide) ?_
        refine wi_pf ct_182_26 (sT_31 hS) rfl ?_
        refine wi_ret ct_182_29 (wk_v ?_)
        refine wi_iload_2 ct_183_6 ?_
        refine wi_iload_1 ct_183_7 ?_
        refine wi_iadd ct_183_8 rfl ?_
        refine wi_iret ct_183_9 rfl (wk_i ?_)
        refine wi_iret ct_184_95 rfl (wk_i ?_)
        refine wi_aload_0 ct_185_12 ?_
        refine wi_gfr ct_185_13 (sT_31 hS) rfl (sR_31_3 hS) ?_
        refine wi_iload_1 ct_185_16 ?_
        refine wi_iald (x := fi 33 B) ct_185_17 (sT_33 hS) (sL_33 hS) (i_in hBn (by omega)) (i_cl (k := B) hBn (by omega)) (Eq.trans (up2_nq (by decide)) (Eq.trans (up2_nq (by decide)) (Eq.trans (up2_nq (by decide)) (Eq.trans (up2_nq (by decide)) (Eq.trans (up2_nq (by decide)) (Eq.trans (up2_nq (by decide)) (Eq.trans (up2_nq (by decide)) (Eq.trans (up2_nq (by decide)) (Eq.trans (up2_nq (by decide)) (Eq.trans (up2_nq (by decide)) (Eq.trans (up2_nq (by decide)) (Eq.trans (up2_nq (by decide)) (Eq.trans (up2_nq (by decide)) (Eq.trans (up2_nq (by decide)) (Eq.trans (up2_nq (by decide)) (Eq.trans (up2_nq (by decide)) (Eq.trans (up2_nq (by decide)) (up2_nq (by decide))))))))))))))))))) ?_
        refine wi_isub ct_185_18 rfl ?_
        refine wi_iret ct_185_19 rfl (wk_i ?_)
        refine wi_ic ct_186_12 kc_6 ?_
        refine wi_ixor ct_186_14 rfl ?_
        refine wi_iret ct_186_15 rfl (wk_i ?_)
        refine wi_iret ct_187_46 rfl (wk_i ?_)
        refine wi_ic ct_188_12 kc_2 ?_
        refine wi_imul ct_188_13 rfl ?_
        refine wi_iret ct_188_14 rfl (wk_i ?_)
        refine wi_iret ct_189_79 rfl (wk_i ?_)
        refine wi_iret ct_190_58 rfl (wk_i ?_)
        refine wi_iceq_t ct_211_1062 rfl rfl (by omega) ?_
        refine kk own g _ fl (hR.act (fun q h1 h2 h3 => (Eq.trans (funext fun _ => up2_nq h2) (Eq.trans (funext fun _ => up2_nq h3) (Eq.trans (funext fun _ => up2_nq h2) (Eq.trans (funext fun _ => up2_nq h3) (Eq.trans (funext fun _ => up2_nq h2) (Eq.trans (funext fun _ => up2_nq h3) (Eq.trans (funext fun _ => up2_nq h2) (Eq.trans (funext fun _ => up2_nq h3) (Eq.trans (funext fun _ => up2_nq h2) (Eq.trans (funext fun _ => up2_nq h1) (Eq.trans (funext fun _ => up2_nq h1) (Eq.trans (funext fun _ => up2_nq h1) (Eq.trans (funext fun _ => up2_nq h1) (Eq.trans (funext fun _ => up2_nq h1) (Eq.trans (funext fun _ => up2_nq h1) (Eq.trans (funext fun _ => up2_nq h1) (Eq.trans (funext fun _ => up2_nq h1) (funext fun _ => up2_nq h1))))))))))))))))))) (fun j hj => (Eq.trans (up2_nj hj) (Eq.trans (up2_nq (by decide)) (Eq.trans (up2_nj hj) (Eq.trans (up2_nq (by decide)) (Eq.trans (up2_nj hj) (Eq.trans (up2_nq (by decide)) (Eq.trans (up2_nj hj) (Eq.trans (up2_nq (by decide)) (Eq.trans (up2_nj hj) (Eq.trans (up2_nq (by decide)) (Eq.trans (up2_nq (by decide)) (Eq.trans (up2_nq (by decide)) (Eq.trans (up2_nq (by decide)) (Eq.trans (up2_nq (by decide)) (Eq.trans (up2_nq (by decide)) (Eq.trans (up2_nq (by decide)) (Eq.trans (up2_nq (by decide)) (up2_nq (by decide)))))))))))))))))))) ⟨((Eq.trans (up2_nq (by decide)) (Eq.trans (up2_nq (by decide)) (Eq.trans (up2_nq (by decide)) (Eq.trans (up2_nq (by decide)) (Eq.trans (up2_nq (by decide)) (Eq.trans (up2_nq (by decide)) (Eq.trans (up2_nq (by decide)) (Eq.trans (up2_nq (by decide)) (Eq.trans (up2_nq (by decide)) (Eq.trans (up2_nj (by decide)) up2_eq))))))))))).trans (up2_eq).symm, by rw [up2_eq]; decide, by rw [up2_eq]; decide⟩ ?_) (by omega) (by omega)
        intro j hj hn
        rw [up2_eq] at hn
        replace hn : (j : Int) < 4 := hn
        match j, (by omega : j < 4) with
        | 0, _ => exact ((Eq.trans (up2_nq (by decide)) (Eq.trans (up2_nq (by decide)) (Eq.trans (up2_nq (by decide)) (Eq.trans (up2_nq (by decide)) (Eq.trans (up2_nq (by decide)) (Eq.trans (up2_nq (by decide)) (Eq.trans (up2_nq (by decide)) (Eq.trans (up2_nq (by decide)) (Eq.trans (up2_nq (by decide)) (Eq.trans (up2_nj (by decide)) (Eq.trans (up2_nj (by decide)) (Eq.trans (up2_nj (by decide)) (Eq.trans (up2_nj (by decide)) (Eq.trans (up2_nj (by decide)) (Eq.trans (up2_nj (by decide)) up2_eq)))))))))))))))).trans ((Eq.trans (up2_nq (by decide)) (Eq.trans (up2_nj (by decide)) (Eq.trans (up2_nq (by decide)) (Eq.trans (up2_nj (by decide)) (Eq.trans (up2_nq (by decide)) (Eq.trans (up2_nj (by decide)) (Eq.trans (up2_nq (by decide)) up2_eq)))))))).symm
        | 1, _ => exact ((Eq.trans (up2_nq (by decide)) (Eq.trans (up2_nq (by decide)) (Eq.trans (up2_nq (by decide)) (Eq.trans (up2_nq (by decide)) (Eq.trans (up2_nq (by decide)) (Eq.trans (up2_nq (by decide)) (Eq.trans (up2_nq (by decide)) (Eq.trans (up2_nq (by decide)) (Eq.trans (up2_nq (by decide)) (Eq.trans (up2_nj (by decide)) (Eq.trans (up2_nj (by decide)) (Eq.trans (up2_nj (by decide)) (Eq.trans (up2_nj (by decide)) up2_eq)))))))))))))).trans ((Eq.trans (up2_nq (by decide)) (Eq.trans (up2_nj (by decide)) (Eq.trans (up2_nq (by decide)) (Eq.trans (up2_nj (by decide)) (Eq.trans (up2_nq (by decide)) up2_eq)))))).symm
        | 2, _ => exact ((Eq.trans (up2_nq (by decide)) (Eq.trans (up2_nq (by decide)) (Eq.trans (up2_nq (by decide)) (Eq.trans (up2_nq (by decide)) (Eq.trans (up2_nq (by decide)) (Eq.trans (up2_nq (by decide)) (Eq.trans (up2_nq (by decide)) (Eq.trans (up2_nq (by decide)) (Eq.trans (up2_nq (by decide)) (Eq.trans (up2_nj (by decide)) (Eq.trans (up2_nj (by decide)) up2_eq)))))))))))).trans ((Eq.trans (up2_nq (by decide)) (Eq.trans (up2_nj (by decide)) (Eq.trans (up2_nq (by decide)) up2_eq)))).symm
        | 3, _ => exact ((Eq.trans (up2_nq (by decide)) (Eq.trans (up2_nq (by decide)) (Eq.trans (up2_nq (by decide)) (Eq.trans (up2_nq (by decide)) (Eq.trans (up2_nq (by decide)) (Eq.trans (up2_nq (by decide)) (Eq.trans (up2_nq (by decide)) (Eq.trans (up2_nq (by decide)) (Eq.trans (up2_nq (by decide)) up2_eq)))))))))).trans ((Eq.trans (up2_nq (by decide)) up2_eq)).symm
        | j + 4, h => exact absurd h (by omega)
      · skip
        refine wi_cv2 (ls' := [some _, some _, some _]) ct_95_77 (Nat.le_of_ble_eq_true rfl) (by decide) (ot.trans (by rw [hk33] <;> rfl)) rfl (by decide) rfl rfl (Nat.le_of_ble_eq_true rfl) ?_
        refine wi_ic ct_8_0 kc_12 ?_
        refine wi_aload_2 ct_8_2 ?_
        refine wi_cs2 (ls' := [some _, some _, none]) ct_8_3 (Nat.le_of_ble_eq_true rfl) rfl (Nat.le_of_ble_eq_true rfl) ?_
        refine wi_aload_1 ct_9_0 ?_
        refine wi_ic ct_9_1 kc_0 ?_
        refine wi_dup2 ct_9_2 rfl rfl ?_
        refine wi_iald (x := 0) ct_9_3 (sT_21 hS) (sL_21 hS) (by decide) kn_c0 up2_eq ?_
        refine wi_ic ct_9_4 kc_1 ?_
        refine wi_iadd (z := 1) ct_9_5 (by decide) ?_
        refine wi_iast ct_9_6 (sT_21 hS) (sL_21 hS) (by decide) kn_c0 ?_
        refine wi_aload_1 ct_9_7 ?_
        refine wi_ic ct_9_8 kc_0 ?_
        refine wi_iald (x := 1) ct_9_9 (sT_21 hS) (sL_21 hS) (by decide) kn_c0 up2_eq ?_
        refine wi_istore_2 rfl ct_9_10 ?_
        refine wi_iload_2 ct_9_11 ?_
        refine wi_ifle_f ct_9_12 ki_1 (by decide) ?_
        refine wi_iload_2 ct_9_15 ?_
        refine wi_aload_1 ct_9_16 ?_
        refine wi_len (z := 21) ct_9_17 (sT_21 hS) (by decide) (sL_21 hS) (by decide) ?_
        refine wi_icge_f ct_9_18 ki_1 ki_21 (by decide) ?_
        refine wi_aload_1 ct_9_21 ?_
        refine wi_iload_2 ct_9_22 ?_
        refine wi_iload_0 ct_9_23 ?_
        refine wi_iast ct_9_24 (sT_21 hS) (sL_21 hS) (by decide) kn_c1 ?_
        refine wi_ret ct_9_25 (wk_v ?_)
        refine wi_aload_0 ct_8_6 ?_
        refine wi_iload_1 ct_8_7 ?_
        refine wi_aload_2 ct_8_8 ?_
        refine wi_cv2 (ls' := [some _, some _, some _]) ct_8_9 (Nat.le_of_ble_eq_true rfl) (by decide) (ot.trans (by rw [hk33] <;> rfl)) rfl (by decide) rfl rfl (Nat.le_of_ble_eq_true rfl) ?_
        refine wi_ic ct_7_0 kc_11 ?_
        refine wi_aload_2 ct_7_2 ?_
        refine wi_cs2 (ls' := [some _, some _, none]) ct_7_3 (Nat.le_of_ble_eq_true rfl) rfl (Nat.le_of_ble_eq_true rfl) ?_
        refine wi_aload_1 ct_9_0 ?_
        refine wi_ic ct_9_1 kc_0 ?_
        refine wi_dup2 ct_9_2 rfl rfl ?_
        refine wi_iald (x := 1) ct_9_3 (sT_21 hS) (sL_21 hS) (by decide) kn_c0 (Eq.trans (up2_nj (by decide)) up2_eq) ?_
        refine wi_ic ct_9_4 kc_1 ?_
        refine wi_iadd (z := 2) ct_9_5 (by decide) ?_
        refine wi_iast ct_9_6 (sT_21 hS) (sL_21 hS) (by decide) kn_c0 ?_
        refine wi_aload_1 ct_9_7 ?_
        refine wi_ic ct_9_8 kc_0 ?_
        refine wi_iald (x := 2) ct_9_9 (sT_21 hS) (sL_21 hS) (by decide) kn_c0 up2_eq ?_
        refine wi_istore_2 rfl ct_9_10 ?_
        refine wi_iload_2 ct_9_11 ?_
        refine wi_ifle_f ct_9_12 ki_2 (by decide) ?_
        refine wi_iload_2 ct_9_15 ?_
        refine wi_aload_1 ct_9_16 ?_
        refine wi_len (z := 21) ct_9_17 (sT_21 hS) (by decide) (sL_21 hS) (by decide) ?_
        refine wi_icge_f ct_9_18 ki_2 ki_21 (by decide) ?_
        refine wi_aload_1 ct_9_21 ?_
        refine wi_iload_2 ct_9_22 ?_
        refine wi_iload_0 ct_9_23 ?_
        refine wi_iast ct_9_24 (sT_21 hS) (sL_21 hS) (by decide) kn_c2 ?_
        refine wi_ret ct_9_25 (wk_v ?_)
        refine wi_aload_0 ct_7_6 ?_
        refine wi_iload_1 ct_7_7 ?_
        refine wi_aload_2 ct_7_8 ?_
        refine wi_cv2 (ls' := [some _, some _, some _]) ct_7_9 (Nat.le_of_ble_eq_true rfl) (by decide) (ot.trans (by rw [hk33] <;> rfl)) rfl (by decide) rfl rfl (Nat.le_of_ble_eq_true rfl) ?_
        refine wi_ic ct_15_0 kc_30 ?_
        refine wi_aload_2 ct_15_2 ?_
        refine wi_cs2 (ls' := [some _, some _, none]) ct_15_3 (Nat.le_of_ble_eq_true rfl) rfl (Nat.le_of_ble_eq_true rfl) ?_
        refine wi_aload_1 ct_9_0 ?_
        refine wi_ic ct_9_1 kc_0 ?_
        refine wi_dup2 ct_9_2 rfl rfl ?_
        refine wi_iald (x := 2) ct_9_3 (sT_21 hS) (sL_21 hS) (by decide) kn_c0 (Eq.trans (up2_nj (by decide)) up2_eq) ?_
        refine wi_ic ct_9_4 kc_1 ?_
        refine wi_iadd (z := 3) ct_9_5 (by decide) ?_
        refine wi_iast ct_9_6 (sT_21 hS) (sL_21 hS) (by decide) kn_c0 ?_
        refine wi_aload_1 ct_9_7 ?_
        refine wi_ic ct_9_8 kc_0 ?_
        refine wi_iald (x := 3) ct_9_9 (sT_21 hS) (sL_21 hS) (by decide) kn_c0 up2_eq ?_
        refine wi_istore_2 rfl ct_9_10 ?_
        refine wi_iload_2 ct_9_11 ?_
        refine wi_ifle_f ct_9_12 ki_3 (by decide) ?_
        refine wi_iload_2 ct_9_15 ?_
        refine wi_aload_1 ct_9_16 ?_
        refine wi_len (z := 21) ct_9_17 (sT_21 hS) (by decide) (sL_21 hS) (by decide) ?_
        refine wi_icge_f ct_9_18 ki_3 ki_21 (by decide) ?_
        refine wi_aload_1 ct_9_21 ?_
        refine wi_iload_2 ct_9_22 ?_
        refine wi_iload_0 ct_9_23 ?_
        refine wi_iast ct_9_24 (sT_21 hS) (sL_21 hS) (by decide) kn_c3 ?_
        refine wi_ret ct_9_25 (wk_v ?_)
        refine wi_aload_0 ct_15_6 ?_
        refine wi_iload_1 ct_15_7 ?_
        refine wi_ic ct_15_8 kc_3 ?_
        refine wi_imul ct_15_9 rfl ?_
        refine wi_aload_2 ct_15_10 ?_
        refine wi_cp2 (ls' := [some _, some _, some _]) ct_15_11 (Nat.le_of_ble_eq_true rfl) (ot.trans (by rw [hk33] <;> rfl)) (by decide) rfl (Nat.le_of_ble_eq_true rfl) ?_
        refine wi_ic ct_6_0 kc_10 ?_
        refine wi_aload_2 ct_6_2 ?_
        refine wi_cs2 (ls' := [some _, some _, none]) ct_6_3 (Nat.le_of_ble_eq_true rfl) rfl (Nat.le_of_ble_eq_true rfl) ?_
        refine wi_aload_1 ct_9_0 ?_
        refine wi_ic ct_9_1 kc_0 ?_
        refine wi_dup2 ct_9_2 rfl rfl ?_
        refine wi_iald (x := 3) ct_9_3 (sT_21 hS) (sL_21 hS) (by decide) kn_c0 (Eq.trans (up2_nj (by decide)) up2_eq) ?_
        refine wi_ic ct_9_4 kc_1 ?_
        refine wi_iadd (z := 4) ct_9_5 (by decide) ?_
        refine wi_iast ct_9_6 (sT_21 hS) (sL_21 hS) (by decide) kn_c0 ?_
        refine wi_aload_1 ct_9_7 ?_
        refine wi_ic ct_9_8 kc_0 ?_
        refine wi_iald (x := 4) ct_9_9 (sT_21 hS) (sL_21 hS) (by decide) kn_c0 up2_eq ?_
        refine wi_istore_2 rfl ct_9_10 ?_
        refine wi_iload_2 ct_9_11 ?_
        refine wi_ifle_f ct_9_12 ki_4 (by decide) ?_
        refine wi_iload_2 ct_9_15 ?_
        refine wi_aload_1 ct_9_16 ?_
        refine wi_len (z := 21) ct_9_17 (sT_21 hS) (by decide) (sL_21 hS) (by decide) ?_
        refine wi_icge_f ct_9_18 ki_4 ki_21 (by decide) ?_
        refine wi_aload_1 ct_9_21 ?_
        refine wi_iload_2 ct_9_22 ?_
        refine wi_iload_0 ct_9_23 ?_
        refine wi_iast ct_9_24 (sT_21 hS) (sL_21 hS) (by decide) kn_c4 ?_
        refine wi_ret ct_9_25 (wk_v ?_)
        refine wi_iload_1 ct_6_6 ?_
        refine wi_aload_0 ct_6_7 ?_
        refine wi_gf (x := a1) ct_6_8 (ot.trans (by rw [hk33] <;> rfl)) rfl rfl (Eq.trans (up2_nq (dn o72 (by decide))) (Eq.trans (up2_nq (dn o72 (by decide))) (Eq.trans (up2_nq (dn o72 (by decide))) (Eq.trans (up2_nq (dn o72 (by decide))) (Eq.trans (up2_nq (dn o72 (by decide))) (Eq.trans (up2_nq (dn o72 (by decide))) (Eq.trans (up2_nq (dn o72 (by decide))) (Eq.trans (up2_nq (dn o72 (by decide))) (Eq.trans (up2_nq (dn o72 (by decide))) hpn))))))))) ?_
        refine wi_iadd ct_6_11 rfl ?_
        refine wi_iret ct_6_12 rfl (wk_i ?_)
        refine wi_iret ct_15_14 rfl (wk_i ?_)
        refine wi_aload_0 ct_7_12 ?_
        refine wi_gf (x := fi 33 B) ct_7_13 (ot.trans (by rw [hk33] <;> rfl)) rfl rfl (Eq.trans (up2_nq (dn o72 (by decide))) (Eq.trans (up2_nq (dn o72 (by decide))) (Eq.trans (up2_nq (dn o72 (by decide))) (Eq.trans (up2_nq (dn o72 (by decide))) (Eq.trans (up2_nq (dn o72 (by decide))) (Eq.trans (up2_nq (dn o72 (by decide))) (Eq.trans (up2_nq (dn o72 (by decide))) (Eq.trans (up2_nq (dn o72 (by decide))) (Eq.trans (up2_nq (dn o72 (by decide))) ov))))))))) ?_
        refine wi_isub ct_7_16 rfl ?_
        refine wi_iret ct_7_17 rfl (wk_i ?_)
        refine wi_ic ct_8_12 kc_2 ?_
        refine wi_imul ct_8_13 rfl ?_
        refine wi_iret ct_8_14 rfl (wk_i ?_)
        refine wi_iret ct_95_80 rfl (wk_i ?_)
        refine wi_aload_2 ct_211_1043 ?_
        refine wi_aloadT_0 ct_211_1044 ?_
        refine wi_iload_3 ct_211_1045 ?_
        refine wi_ic ct_211_1046 kc_1 ?_
        refine wi_iadd ct_211_1047 rfl ?_
        refine wi_ialdT (j := I + 1) (x := a1) ct_211_1048 (sL_SC hS) (i_in (i_add hi ki_1 (by omega)) (by omega)) (i_cl (i_add hi ki_1 (by omega)) (by omega)) ((Eq.trans (up2_nq (by decide)) (Eq.trans (up2_nq (by decide)) (Eq.trans (up2_nq (by decide)) (Eq.trans (up2_nq (by decide)) (Eq.trans (up2_nq (by decide)) (Eq.trans (up2_nq (by decide)) (Eq.trans (up2_nq (by decide)) (Eq.trans (up2_nq (by decide)) (Eq.trans (up2_nq (by decide)) ((hsc _).trans e1))))))))))) ?_
        refine wi_aloadT_0 ct_211_1049 ?_
        refine wi_iload_3 ct_211_1050 ?_
        refine wi_ic ct_211_1051 kc_2 ?_
        refine wi_iadd ct_211_1052 rfl ?_
        refine wi_ialdT (j := I + 2) (x := a2) ct_211_1053 (sL_SC hS) (i_in (i_add hi ki_2 (by omega)) (by omega)) (i_cl (i_add hi ki_2 (by omega)) (by omega)) ((Eq.trans (up2_nq (by decide)) (Eq.trans (up2_nq (by decide)) (Eq.trans (up2_nq (by decide)) (Eq.trans (up2_nq (by decide)) (Eq.trans (up2_nq (by decide)) (Eq.trans (up2_nq (by decide)) (Eq.trans (up2_nq (by decide)) (Eq.trans (up2_nq (by decide)) (Eq.trans (up2_nq (by decide)) ((hsc _).trans e2))))))))))) ?_
        refine wi_aloadT_0 ct_211_1054 ?_
        refine wi_iload_3 ct_211_1055 ?_
        refine wi_ic ct_211_1056 kc_3 ?_
        refine wi_iadd ct_211_1057 rfl ?_
        refine wi_ialdT (j := I + 3) (x := a3) ct_211_1058 (sL_SC hS) (i_in (i_add hi ki_3 (by omega)) (by omega)) (i_cl (i_add hi ki_3 (by omega)) (by omega)) ((Eq.trans (up2_nq (by decide)) (Eq.trans (up2_nq (by decide)) (Eq.trans (up2_nq (by decide)) (Eq.trans (up2_nq (by decide)) (Eq.trans (up2_nq (by decide)) (Eq.trans (up2_nq (by decide)) (Eq.trans (up2_nq (by decide)) (Eq.trans (up2_nq (by decide)) (Eq.trans (up2_nq (by decide)) ((hsc _).trans e3))))))))))) ?_
        refine wi_cv3 (ls' := [some _, some _, some _, some _]) ct_211_1059 (Nat.le_of_ble_eq_true rfl) (by decide) (sT_31 hS) rfl (by decide) rfl rfl (Nat.le_of_ble_eq_true rfl) ?_
        refine wi_aload_0 ct_190_0 ?_
        refine wi_ic ct_190_1 kc_0 ?_
        refine wi_pf ct_190_2 (sT_31 hS) rfl ?_
        refine wi_aload_0 ct_190_5 ?_
        refine wi_iload_1 ct_190_6 ?_
        refine wi_cv1 (ls' := [some _, some _]) ct_190_7 (Nat.le_of_ble_eq_true rfl) (by decide) (sT_31 hS) rfl (by decide) rfl rfl (Nat.le_of_ble_eq_true rfl) ?_
        refine wi_aload_0 ct_120_0 ?_
        refine wi_iload_1 ct_120_1 ?_
        refine wi_ic ct_120_2 kc_0 ?_
        refine wi_aload_0 ct_120_3 ?_
        refine wi_gf (x := fi 31 0) ct_120_4 (sT_31 hS) rfl rfl (Eq.trans (up2_nj (by decide)) (Eq.trans (up2_nq (by decide)) (Eq.trans (up2_nq (by decide)) (Eq.trans (up2_nq (by decide)) (Eq.trans (up2_nq (by decide)) (Eq.trans (up2_nq (by decide)) (Eq.trans (up2_nq (by decide)) (Eq.trans (up2_nq (by decide)) (Eq.trans (up2_nq (by decide)) (up2_nq (by decide))))))))))) ?_
        refine wi_ic ct_120_7 kc_1 ?_
        refine wi_isub ct_120_8 rfl ?_
        refine wi_cv3 (ls' := [some _, some _, some _, some _]) ct_120_9 (Nat.le_of_ble_eq_true rfl) (by decide) (sT_31 hS) rfl (by decide) rfl rfl (Nat.le_of_ble_eq_true rfl) ?_
        refine c_in hBn ki_0 (i_sub rfl ki_1 (by omega)) (fun _ => wk_i ?_) (fun h => absurd h (by omega))
        refine wi_iret ct_120_12 (by decide) (wk_i ?_)
        refine wi_ifeq_f ct_190_10 ki_1 (by decide) ?_
        refine wi_aload_0 ct_190_13 ?_
        refine wi_iload_2 ct_190_14 ?_
        refine wi_ic ct_190_15 kc_0 ?_
        refine wi_ic ct_190_16 kc_2 ?_
        refine wi_cv3 (ls' := [some _, some _, some _, some _]) ct_190_17 (Nat.le_of_ble_eq_true rfl) (by decide) (sT_31 hS) rfl (by decide) rfl rfl (Nat.le_of_ble_eq_true rfl) ?_
        refine c_in rfl ki_0 ki_2 (fun _ => wk_i ?_) (fun h => absurd h (by omega))
        refine wi_ifne_t ct_190_20 ki_1 (by decide) ?_
        refine wi_iload_2 ct_190_25 ?_
        refine wi_ifne_t ct_190_26 rfl (by omega) ?_
        refine wi_iload_2 ct_190_38 ?_
        refine wi_ic ct_190_39 kc_1 ?_
        refine wi_icne_t ct_190_40 rfl ki_1 (by omega) ?_
        refine wi_aload_0 ct_190_52 ?_
        refine wi_iload_1 ct_190_53 ?_
        refine wi_iload_3 ct_190_54 ?_
        refine wi_cv2 (ls' := [some _, some _, some _, none]) ct_190_55 (Nat.le_of_ble_eq_true rfl) (by decide) (sT_31 hS) rfl (by decide) rfl rfl (Nat.le_of_ble_eq_true rfl) ?_
        refine wi_aload_0 ct_189_0 ?_
        refine wi_gfr ct_189_1 (sT_31 hS) rfl (sR_31_2 hS) ?_
        refine wi_iload_1 ct_189_4 ?_
        refine wi_iald (x := fi 32 B) ct_189_5 (sT_32 hS) (sL_32 hS) (i_in hBn (by omega)) (i_cl (k := B) hBn (by omega)) (Eq.trans (up2_nq (by decide)) (Eq.trans (up2_nq (by decide)) (Eq.trans (up2_nq (by decide)) (Eq.trans (up2_nq (by decide)) (Eq.trans (up2_nq (by decide)) (Eq.trans (up2_nq (by decide)) (Eq.trans (up2_nq (by decide)) (Eq.trans (up2_nq (by decide)) (Eq.trans (up2_nq (by decide)) (up2_nq (by decide))))))))))) ?_
        refine wi_tsw (t := 73) ct_189_6 rfl ((am_tswD (by omega)).trans rfl) ?_
        refine wi_aload_0 ct_189_73 ?_
        refine wi_iload_1 ct_189_74 ?_
        refine wi_iload_2 ct_189_75 ?_
        refine wi_cv2 (ls' := [some _, some _, some _]) ct_189_76 (Nat.le_of_ble_eq_true rfl) (by decide) (sT_31 hS) rfl (by decide) rfl rfl (Nat.le_of_ble_eq_true rfl) ?_
        refine wi_aload_0 ct_188_0 ?_
        refine wi_ic ct_188_1 kc_12 ?_
        refine wi_cv1 (ls' := [some _, some _]) ct_188_3 (Nat.le_of_ble_eq_true rfl) (by decide) (sT_31 hS) rfl (by decide) rfl rfl (Nat.le_of_ble_eq_true rfl) ?_
        refine wi_aload_0 ct_182_0 ?_
        refine wi_gf (x := 0) ct_182_1 (sT_31 hS) rfl rfl up2_eq ?_
        refine wi_ic ct_182_4 kc_20 ?_
        refine wi_icge_f ct_182_6 ki_0 ki_20 (by decide) ?_
        refine wi_aload_0 ct_182_9 ?_
        refine wi_gfr ct_182_10 (sT_31 hS) rfl (sR_31_66 hS) ?_
        refine wi_aload_0 ct_182_13 ?_
        refine wi_gf (x := 0) ct_182_14 (sT_31 hS) rfl rfl up2_eq ?_
        refine wi_iload_1 ct_182_17 ?_
        refine wi_iast ct_182_18 (sT_67 hS) (sL_67 hS) (by decide) kn_c0 ?_
        refine wi_aload_0 ct_182_19 ?_
        refine wi_dup ct_182_20 rfl ?_
        refine wi_gf (x := 0) ct_182_21 (sT_31 hS) rfl rfl (Eq.trans (up2_nq (by decide)) up2_eq) ?_
        refine wi_ic ct_182_24 kc_1 ?_
        refine wi_iadd (z := 1) ct_182_25 (by decide) ?_
        refine wi_pf ct_182_26 (sT_31 hS) rfl ?_
        refine wi_ret ct_182_29 (wk_v ?_)
        refine wi_aload_0 ct_188_6 ?_
        refine wi_iload_1 ct_188_7 ?_
        refine wi_iload_2 ct_188_8 ?_
        refine wi_cv2 (ls' := [some _, some _, some _, none]) ct_188_9 (Nat.le_of_ble_eq_true rfl) (by decide) (sT_31 hS) rfl (by decide) rfl rfl (Nat.le_of_ble_eq_true rfl) ?_
        refine wi_aload_0 ct_187_0 ?_
        refine wi_gfr ct_187_1 (sT_31 hS) rfl (sR_31_2 hS) ?_
        refine wi_iload_1 ct_187_4 ?_
        refine wi_iald (x := fi 32 B) ct_187_5 (sT_32 hS) (sL_32 hS) (i_in hBn (by omega)) (i_cl (k := B) hBn (by omega)) (Eq.trans (up2_nq (by decide)) (Eq.trans (up2_nq (by decide)) (Eq.trans (up2_nq (by decide)) (Eq.trans (up2_nq (by decide)) (Eq.trans (up2_nq (by decide)) (Eq.trans (up2_nq (by decide)) (Eq.trans (up2_nq (by decide)) (Eq.trans (up2_nq (by decide)) (Eq.trans (up2_nq (by decide)) (Eq.trans (up2_nq (by decide)) (Eq.trans (up2_nq (by decide)) (up2_nq (by decide))))))))))))) ?_
        refine wi_lsw (X := 2) (t := 84) ct_187_6 (by omega) (by decide) ?_
        refine wi_aload_0 ct_187_84 ?_
        refine wi_iload_1 ct_187_85 ?_
        refine wi_iload_2 ct_187_86 ?_
        refine wi_cv2 (ls' := [some _, some _, some _]) ct_187_87 (Nat.le_of_ble_eq_true rfl) (by decide) (sT_31 hS) rfl (by decide) rfl rfl (Nat.le_of_ble_eq_true rfl) ?_
        refine wi_aload_0 ct_185_0 ?_
        refine wi_ic ct_185_1 kc_11 ?_
        refine wi_cv1 (ls' := [some _, some _]) ct_185_3 (Nat.le_of_ble_eq_true rfl) (by decide) (sT_31 hS) rfl (by decide) rfl rfl (Nat.le_of_ble_eq_true rfl) ?_
        refine wi_aload_0 ct_182_0 ?_
        refine wi_gf (x := 1) ct_182_1 (sT_31 hS) rfl rfl up2_eq ?_
        refine wi_ic ct_182_4 kc_20 ?_
        refine wi_icge_f ct_182_6 ki_1 ki_20 (by decide) ?_
        refine wi_aload_0 ct_182_9 ?_
        refine wi_gfr ct_182_10 (sT_31 hS) rfl (sR_31_66 hS) ?_
        refine wi_aload_0 ct_182_13 ?_
        refine wi_gf (x := 1) ct_182_14 (sT_31 hS) rfl rfl up2_eq ?_
        refine wi_iload_1 ct_182_17 ?_
        refine wi_iast ct_182_18 (sT_67 hS) (sL_67 hS) (by decide) kn_c1 ?_
        refine wi_aload_0 ct_182_19 ?_
        refine wi_dup ct_182_20 rfl ?_
        refine wi_gf (x := 1) ct_182_21 (sT_31 hS) rfl rfl (Eq.trans (up2_nq (by decide)) up2_eq) ?_
        refine wi_ic ct_182_24 kc_1 ?_
        refine wi_iadd (z := 2) ct_182_25 (by decide) ?_
        refine wi_pf ct_182_26 (sT_31 hS) rfl ?_
        refine wi_ret ct_182_29 (wk_v ?_)
        refine wi_aload_0 ct_185_6 ?_
        refine wi_iload_1 ct_185_7 ?_
        refine wi_iload_2 ct_185_8 ?_
        refine wi_cv2 (ls' := [some _, some _, some _]) ct_185_9 (Nat.le_of_ble_eq_true rfl) (by decide) (sT_31 hS) rfl (by decide) rfl rfl (Nat.le_of_ble_eq_true rfl) ?_
        refine wi_aload_0 ct_184_0 ?_
        refine wi_gfr ct_184_1 (sT_31 hS) rfl (sR_31_2 hS) ?_
        refine wi_iload_1 ct_184_4 ?_
        refine wi_iald (x := fi 32 B) ct_184_5 (sT_32 hS) (sL_32 hS) (i_in hBn (by omega)) (i_cl (k := B) hBn (by omega)) (Eq.trans (up2_nq (by decide)) (Eq.trans (up2_nq (by decide)) (Eq.trans (up2_nq (by decide)) (Eq.trans (up2_nq (by decide)) (Eq.trans (up2_nq (by decide)) (Eq.trans (up2_nq (by decide)) (Eq.trans (up2_nq (by decide)) (Eq.trans (up2_nq (by decide)) (Eq.trans (up2_nq (by decide)) (Eq.trans (up2_nq (by decide)) (Eq.trans (up2_nq (by decide)) (Eq.trans (up2_nq (by decide)) (Eq.trans (up2_nq (by decide)) (up2_nq (by decide))))))))))))))) ?_
        refine wi_tsw (X := 2) (t := 40) ct_184_6 (by omega) rfl ?_
        refine wi_aload_0 ct_184_40 ?_
        refine wi_ic ct_184_41 kc_30 ?_
        refine wi_cv1 (ls' := [some _, some _]) ct_184_43 (Nat.le_of_ble_eq_true rfl) (by decide) (sT_31 hS) rfl (by decide) rfl rfl (Nat.le_of_ble_eq_true rfl) ?_
        refine wi_aload_0 ct_182_0 ?_
        refine wi_gf (x := 2) ct_182_1 (sT_31 hS) rfl rfl up2_eq ?_
        refine wi_ic ct_182_4 kc_20 ?_
        refine wi_icge_f ct_182_6 ki_2 ki_20 (by decide) ?_
        refine wi_aload_0 ct_182_9 ?_
        refine wi_gfr ct_182_10 (sT_31 hS) rfl (sR_31_66 hS) ?_
        refine wi_aload_0 ct_182_13 ?_
        refine wi_gf (x := 2) ct_182_14 (sT_31 hS) rfl rfl up2_eq ?_
        refine wi_iload_1 ct_182_17 ?_
        refine wi_iast ct_182_18 (sT_67 hS) (sL_67 hS) (by decide) kn_c2 ?_
        refine wi_aload_0 ct_182_19 ?_
        refine wi_dup ct_182_20 rfl ?_
        refine wi_gf (x := 2) ct_182_21 (sT_31 hS) rfl rfl (Eq.trans (up2_nq (by decide)) up2_eq) ?_
        refine wi_ic ct_182_24 kc_1 ?_
        refine wi_iadd (z := 3) ct_182_25 (by decide) ?_
        refine wi_pf ct_182_26 (sT_31 hS) rfl ?_
        refine wi_ret ct_182_29 (wk_v ?_)
        refine wi_aload_0 ct_184_46 ?_
        refine wi_iload_1 ct_184_47 ?_
        refine wi_iload_2 ct_184_48 ?_
        refine wi_ic ct_184_49 kc_3 ?_
        refine wi_imul ct_184_50 rfl ?_
        refine wi_cv2 (ls' := [some _, some _, some _]) ct_184_51 (Nat.le_of_ble_eq_true rfl) (by decide) (sT_31 hS) rfl (by decide) rfl rfl (Nat.le_of_ble_eq_true rfl) ?_
        refine wi_aload_0 ct_183_0 ?_
        refine wi_ic ct_183_1 kc_10 ?_
        refine wi_cv1 (ls' := [some _, some _]) ct_183_3 (Nat.le_of_ble_eq_true rfl) (by decide) (sT_31 hS) rfl (by decide) rfl rfl (Nat.le_of_ble_eq_true rfl) ?_
        refine wi_aload_0 ct_182_0 ?_
        refine wi_gf (x := 3) ct_182_1 (sT_31 hS) rfl rfl up2_eq ?_
        refine wi_ic ct_182_4 kc_20 ?_
        refine wi_icge_f ct_182_6 ki_3 ki_20 (by decide) ?_
        refine wi_aload_0 ct_182_9 ?_
        refine wi_gfr ct_182_10 (sT_31 hS) rfl (sR_31_66 hS) ?_
        refine wi_aload_0 ct_182_13 ?_
        refine wi_gf (x := 3) ct_182_14 (sT_31 hS) rfl rfl up2_eq ?_
        refine wi_iload_1 ct_182_17 ?_
        refine wi_iast ct_182_18 (sT_67 hS) (sL_67 hS) (by decide) kn_c3 ?_
        refine wi_aload_0 ct_182_19 ?_
        refine wi_dup ct_182_20 rfl ?_
        refine wi_gf (x := 3) ct_182_21 (sT_31 hS) rfl rfl (Eq.trans (up2_nq (by decide)) up2_eq) ?_
        refine wi_ic ct_182_24 kc_1 ?_
        refine wi_iadd (z := 4) ct_182_25 (by decide) ?_
        refine wi_pf ct_182_26 (sT_31 hS) rfl ?_
        refine wi_ret ct_182_29 (wk_v ?_)
        refine wi_iload_2 ct_183_6 ?_
        refine wi_iload_1 ct_183_7 ?_
        refine wi_iadd ct_183_8 rfl ?_
        refine wi_iret ct_183_9 rfl (wk_i ?_)
        refine wi_iret ct_184_54 rfl (wk_i ?_)
        refine wi_aload_0 ct_185_12 ?_
        refine wi_gfr ct_185_13 (sT_31 hS) rfl (sR_31_3 hS) ?_
        refine wi_iload_1 ct_185_16 ?_
        refine wi_iald (x := fi 33 B) ct_185_17 (sT_33 hS) (sL_33 hS) (i_in hBn (by omega)) (i_cl (k := B) hBn (by omega)) (Eq.trans (up2_nq (by decide)) (Eq.trans (up2_nq (by decide)) (Eq.trans (up2_nq (by decide)) (Eq.trans (up2_nq (by decide)) (Eq.trans (up2_nq (by decide)) (Eq.trans (up2_nq (by decide)) (Eq.trans (up2_nq (by decide)) (Eq.trans (up2_nq (by decide)) (Eq.trans (up2_nq (by decide)) (Eq.trans (up2_nq (by decide)) (Eq.trans (up2_nq (by decide)) (Eq.trans (up2_nq (by decide)) (Eq.trans (up2_nq (by decide)) (Eq.trans (up2_nq (by decide)) (Eq.trans (up2_nq (by decide)) (Eq.trans (up2_nq (by decide)) (Eq.trans (up2_nq (by decide)) (up2_nq (by decide))))))))))))))))))) ?_
        refine wi_isub ct_185_18 rfl ?_
        refine wi_iret ct_185_19 rfl (wk_i ?_)
        refine wi_iret ct_187_90 rfl (wk_i ?_)
        refine wi_ic ct_188_12 kc_2 ?_
        refine wi_imul ct_188_13 rfl ?_
        refine wi_iret ct_188_14 rfl (wk_i ?_)
        refine wi_iret ct_189_79 rfl (wk_i ?_)
        refine wi_iret ct_190_58 rfl (wk_i ?_)
        refine wi_iceq_t ct_211_1062 rfl rfl (by omega) ?_
        refine kk own g _ fl (hR.act (fun q h1 h2 h3 => (Eq.trans (funext fun _ => up2_nq h2) (Eq.trans (funext fun _ => up2_nq h3) (Eq.trans (funext fun _ => up2_nq h2) (Eq.trans (funext fun _ => up2_nq h3) (Eq.trans (funext fun _ => up2_nq h2) (Eq.trans (funext fun _ => up2_nq h3) (Eq.trans (funext fun _ => up2_nq h2) (Eq.trans (funext fun _ => up2_nq h3) (Eq.trans (funext fun _ => up2_nq h2) (Eq.trans (funext fun _ => up2_nq h1) (Eq.trans (funext fun _ => up2_nq h1) (Eq.trans (funext fun _ => up2_nq h1) (Eq.trans (funext fun _ => up2_nq h1) (Eq.trans (funext fun _ => up2_nq h1) (Eq.trans (funext fun _ => up2_nq h1) (Eq.trans (funext fun _ => up2_nq h1) (Eq.trans (funext fun _ => up2_nq h1) (funext fun _ => up2_nq h1))))))))))))))))))) (fun j hj => (Eq.trans (up2_nj hj) (Eq.trans (up2_nq (by decide)) (Eq.trans (up2_nj hj) (Eq.trans (up2_nq (by decide)) (Eq.trans (up2_nj hj) (Eq.trans (up2_nq (by decide)) (Eq.trans (up2_nj hj) (Eq.trans (up2_nq (by decide)) (Eq.trans (up2_nj hj) (Eq.trans (up2_nq (by decide)) (Eq.trans (up2_nq (by decide)) (Eq.trans (up2_nq (by decide)) (Eq.trans (up2_nq (by decide)) (Eq.trans (up2_nq (by decide)) (Eq.trans (up2_nq (by decide)) (Eq.trans (up2_nq (by decide)) (Eq.trans (up2_nq (by decide)) (up2_nq (by decide)))))))))))))))))))) ⟨((Eq.trans (up2_nq (by decide)) (Eq.trans (up2_nq (by decide)) (Eq.trans (up2_nq (by decide)) (Eq.trans (up2_nq (by decide)) (Eq.trans (up2_nq (by decide)) (Eq.trans (up2_nq (by decide)) (Eq.trans (up2_nq (by decide)) (Eq.trans (up2_nq (by decide)) (Eq.trans (up2_nq (by decide)) (Eq.trans (up2_nj (by decide)) up2_eq))))))))))).trans (up2_eq).symm, by rw [up2_eq]; decide, by rw [up2_eq]; decide⟩ ?_) (by omega) (by omega)
        intro j hj hn
        rw [up2_eq] at hn
        replace hn : (j : Int) < 4 := hn
        match j, (by omega : j < 4) with
        | 0, _ => exact ((Eq.trans (up2_nq (by decide)) (Eq.trans (up2_nq (by decide)) (Eq.trans (up2_nq (by decide)) (Eq.trans (up2_nq (by decide)) (Eq.trans (up2_nq (by decide)) (Eq.trans (up2_nq (by decide)) (Eq.trans (up2_nq (by decide)) (Eq.trans (up2_nq (by decide)) (Eq.trans (up2_nq (by decide)) (Eq.trans (up2_nj (by decide)) (Eq.trans (up2_nj (by decide)) (Eq.trans (up2_nj (by decide)) (Eq.trans (up2_nj (by decide)) (Eq.trans (up2_nj (by decide)) (Eq.trans (up2_nj (by decide)) up2_eq)))))))))))))))).trans ((Eq.trans (up2_nq (by decide)) (Eq.trans (up2_nj (by decide)) (Eq.trans (up2_nq (by decide)) (Eq.trans (up2_nj (by decide)) (Eq.trans (up2_nq (by decide)) (Eq.trans (up2_nj (by decide)) (Eq.trans (up2_nq (by decide)) up2_eq)))))))).symm
        | 1, _ => exact ((Eq.trans (up2_nq (by decide)) (Eq.trans (up2_nq (by decide)) (Eq.trans (up2_nq (by decide)) (Eq.trans (up2_nq (by decide)) (Eq.trans (up2_nq (by decide)) (Eq.trans (up2_nq (by decide)) (Eq.trans (up2_nq (by decide)) (Eq.trans (up2_nq (by decide)) (Eq.trans (up2_nq (by decide)) (Eq.trans (up2_nj (by decide)) (Eq.trans (up2_nj (by decide)) (Eq.trans (up2_nj (by decide)) (Eq.trans (up2_nj (by decide)) up2_eq)))))))))))))).trans ((Eq.trans (up2_nq (by decide)) (Eq.trans (up2_nj (by decide)) (Eq.trans (up2_nq (by decide)) (Eq.trans (up2_nj (by decide)) (Eq.trans (up2_nq (by decide)) up2_eq)))))).symm
        | 2, _ => exact ((Eq.trans (up2_nq (by decide)) (Eq.trans (up2_nq (by decide)) (Eq.trans (up2_nq (by decide)) (Eq.trans (up2_nq (by decide)) (Eq.trans (up2_nq (by decide)) (Eq.trans (up2_nq (by decide)) (Eq.trans (up2_nq (by decide)) (Eq.trans (up2_nq (by decide)) (Eq.trans (up2_nq (by decide)) (Eq.trans (up2_nj (by decide)) (Eq.trans (up2_nj (by decide)) up2_eq)))))))))))).trans ((Eq.trans (up2_nq (by decide)) (Eq.trans (up2_nj (by decide)) (Eq.trans (up2_nq (by decide)) up2_eq)))).symm
        | 3, _ => exact ((Eq.trans (up2_nq (by decide)) (Eq.trans (up2_nq (by decide)) (Eq.trans (up2_nq (by decide)) (Eq.trans (up2_nq (by decide)) (Eq.trans (up2_nq (by decide)) (Eq.trans (up2_nq (by decide)) (Eq.trans (up2_nq (by decide)) (Eq.trans (up2_nq (by decide)) (Eq.trans (up2_nq (by decide)) up2_eq)))))))))).trans ((Eq.trans (up2_nq (by decide)) up2_eq)).symm
        | j + 4, h => exact absurd h (by omega)
      · skip
        refine wi_cv2 (ls' := [some _, some _, some _]) ct_95_77 (Nat.le_of_ble_eq_true rfl) (by decide) (ot.trans (by rw [hk34] <;> rfl)) rfl (by decide) rfl rfl (Nat.le_of_ble_eq_true rfl) ?_
        refine wi_ic ct_29_0 kc_40 ?_
        refine wi_aload_2 ct_29_2 ?_
        refine wi_cs2 (ls' := [some _, some _, none]) ct_29_3 (Nat.le_of_ble_eq_true rfl) rfl (Nat.le_of_ble_eq_true rfl) ?_
        refine wi_aload_1 ct_9_0 ?_
        refine wi_ic ct_9_1 kc_0 ?_
        refine wi_dup2 ct_9_2 rfl rfl ?_
        refine wi_iald (x := 0) ct_9_3 (sT_21 hS) (sL_21 hS) (by decide) kn_c0 up2_eq ?_
        refine wi_ic ct_9_4 kc_1 ?_
        refine wi_iadd (z := 1) ct_9_5 (by decide) ?_
        refine wi_iast ct_9_6 (sT_21 hS) (sL_21 hS) (by decide) kn_c0 ?_
        refine wi_aload_1 ct_9_7 ?_
        refine wi_ic ct_9_8 kc_0 ?_
        refine wi_iald (x := 1) ct_9_9 (sT_21 hS) (sL_21 hS) (by decide) kn_c0 up2_eq ?_
        refine wi_istore_2 rfl ct_9_10 ?_
        refine wi_iload_2 ct_9_11 ?_
        refine wi_ifle_f ct_9_12 ki_1 (by decide) ?_
        refine wi_iload_2 ct_9_15 ?_
        refine wi_aload_1 ct_9_16 ?_
        refine wi_len (z := 21) ct_9_17 (sT_21 hS) (by decide) (sL_21 hS) (by decide) ?_
        refine wi_icge_f ct_9_18 ki_1 ki_21 (by decide) ?_
        refine wi_aload_1 ct_9_21 ?_
        refine wi_iload_2 ct_9_22 ?_
        refine wi_iload_0 ct_9_23 ?_
        refine wi_iast ct_9_24 (sT_21 hS) (sL_21 hS) (by decide) kn_c1 ?_
        refine wi_ret ct_9_25 (wk_v ?_)
        refine wi_aload_0 ct_29_6 ?_
        refine wi_iload_1 ct_29_7 ?_
        refine wi_aload_2 ct_29_8 ?_
        refine wi_cp2 (ls' := [some _, some _, some _]) ct_29_9 (Nat.le_of_ble_eq_true rfl) (ot.trans (by rw [hk34] <;> rfl)) (by decide) rfl (Nat.le_of_ble_eq_true rfl) ?_
        refine wi_ic ct_8_0 kc_12 ?_
        refine wi_aload_2 ct_8_2 ?_
        refine wi_cs2 (ls' := [some _, some _, none]) ct_8_3 (Nat.le_of_ble_eq_true rfl) rfl (Nat.le_of_ble_eq_true rfl) ?_
        refine wi_aload_1 ct_9_0 ?_
        refine wi_ic ct_9_1 kc_0 ?_
        refine wi_dup2 ct_9_2 rfl rfl ?_
        refine wi_iald (x := 1) ct_9_3 (sT_21 hS) (sL_21 hS) (by decide) kn_c0 (Eq.trans (up2_nj (by decide)) up2_eq) ?_
        refine wi_ic ct_9_4 kc_1 ?_
        refine wi_iadd (z := 2) ct_9_5 (by decide) ?_
        refine wi_iast ct_9_6 (sT_21 hS) (sL_21 hS) (by decide) kn_c0 ?_
        refine wi_aload_1 ct_9_7 ?_
        refine wi_ic ct_9_8 kc_0 ?_
        refine wi_iald (x := 2) ct_9_9 (sT_21 hS) (sL_21 hS) (by decide) kn_c0 up2_eq ?_
        refine wi_istore_2 rfl ct_9_10 ?_
        refine wi_iload_2 ct_9_11 ?_
        refine wi_ifle_f ct_9_12 ki_2 (by decide) ?_
        refine wi_iload_2 ct_9_15 ?_
        refine wi_aload_1 ct_9_16 ?_
        refine wi_len (z := 21) ct_9_17 (sT_21 hS) (by decide) (sL_21 hS) (by decide) ?_
        refine wi_icge_f ct_9_18 ki_2 ki_21 (by decide) ?_
        refine wi_aload_1 ct_9_21 ?_
        refine wi_iload_2 ct_9_22 ?_
        refine wi_iload_0 ct_9_23 ?_
        refine wi_iast ct_9_24 (sT_21 hS) (sL_21 hS) (by decide) kn_c2 ?_
        refine wi_ret ct_9_25 (wk_v ?_)
        refine wi_aload_0 ct_8_6 ?_
        refine wi_iload_1 ct_8_7 ?_
        refine wi_aload_2 ct_8_8 ?_
        refine wi_cv2 (ls' := [some _, some _, some _]) ct_8_9 (Nat.le_of_ble_eq_true rfl) (by decide) (ot.trans (by rw [hk34] <;> rfl)) rfl (by decide) rfl rfl (Nat.le_of_ble_eq_true rfl) ?_
        refine wi_ic ct_7_0 kc_11 ?_
        refine wi_aload_2 ct_7_2 ?_
        refine wi_cs2 (ls' := [some _, some _, none]) ct_7_3 (Nat.le_of_ble_eq_true rfl) rfl (Nat.le_of_ble_eq_true rfl) ?_
        refine wi_aload_1 ct_9_0 ?_
        refine wi_ic ct_9_1 kc_0 ?_
        refine wi_dup2 ct_9_2 rfl rfl ?_
        refine wi_iald (x := 2) ct_9_3 (sT_21 hS) (sL_21 hS) (by decide) kn_c0 (Eq.trans (up2_nj (by decide)) up2_eq) ?_
        refine wi_ic ct_9_4 kc_1 ?_
        refine wi_iadd (z := 3) ct_9_5 (by decide) ?_
        refine wi_iast ct_9_6 (sT_21 hS) (sL_21 hS) (by decide) kn_c0 ?_
        refine wi_aload_1 ct_9_7 ?_
        refine wi_ic ct_9_8 kc_0 ?_
        refine wi_iald (x := 3) ct_9_9 (sT_21 hS) (sL_21 hS) (by decide) kn_c0 up2_eq ?_
        refine wi_istore_2 rfl ct_9_10 ?_
        refine wi_iload_2 ct_9_11 ?_
        refine wi_ifle_f ct_9_12 ki_3 (by decide) ?_
        refine wi_iload_2 ct_9_15 ?_
        refine wi_aload_1 ct_9_16 ?_
        refine wi_len (z := 21) ct_9_17 (sT_21 hS) (by decide) (sL_21 hS) (by decide) ?_
        refine wi_icge_f ct_9_18 ki_3 ki_21 (by decide) ?_
        refine wi_aload_1 ct_9_21 ?_
        refine wi_iload_2 ct_9_22 ?_
        refine wi_iload_0 ct_9_23 ?_
        refine wi_iast ct_9_24 (sT_21 hS) (sL_21 hS) (by decide) kn_c3 ?_
        refine wi_ret ct_9_25 (wk_v ?_)
        refine wi_aload_0 ct_7_6 ?_
        refine wi_iload_1 ct_7_7 ?_
        refine wi_aload_2 ct_7_8 ?_
        refine wi_cv2 (ls' := [some _, some _, some _]) ct_7_9 (Nat.le_of_ble_eq_true rfl) (by decide) (ot.trans (by rw [hk34] <;> rfl)) rfl (by decide) rfl rfl (Nat.le_of_ble_eq_true rfl) ?_
        refine wi_ic ct_6_0 kc_10 ?_
        refine wi_aload_2 ct_6_2 ?_
        refine wi_cs2 (ls' := [some _, some _, none]) ct_6_3 (Nat.le_of_ble_eq_true rfl) rfl (Nat.le_of_ble_eq_true rfl) ?_
        refine wi_aload_1 ct_9_0 ?_
        refine wi_ic ct_9_1 kc_0 ?_
        refine wi_dup2 ct_9_2 rfl rfl ?_
        refine wi_iald (x := 3) ct_9_3 (sT_21 hS) (sL_21 hS) (by decide) kn_c0 (Eq.trans (up2_nj (by decide)) up2_eq) ?_
        refine wi_ic ct_9_4 kc_1 ?_
        refine wi_iadd (z := 4) ct_9_5 (by decide) ?_
        refine wi_iast ct_9_6 (sT_21 hS) (sL_21 hS) (by decide) kn_c0 ?_
        refine wi_aload_1 ct_9_7 ?_
        refine wi_ic ct_9_8 kc_0 ?_
        refine wi_iald (x := 4) ct_9_9 (sT_21 hS) (sL_21 hS) (by decide) kn_c0 up2_eq ?_
        refine wi_istore_2 rfl ct_9_10 ?_
        refine wi_iload_2 ct_9_11 ?_
        refine wi_ifle_f ct_9_12 ki_4 (by decide) ?_
        refine wi_iload_2 ct_9_15 ?_
        refine wi_aload_1 ct_9_16 ?_
        refine wi_len (z := 21) ct_9_17 (sT_21 hS) (by decide) (sL_21 hS) (by decide) ?_
        refine wi_icge_f ct_9_18 ki_4 ki_21 (by decide) ?_
        refine wi_aload_1 ct_9_21 ?_
        refine wi_iload_2 ct_9_22 ?_
        refine wi_iload_0 ct_9_23 ?_
        refine wi_iast ct_9_24 (sT_21 hS) (sL_21 hS) (by decide) kn_c4 ?_
        refine wi_ret ct_9_25 (wk_v ?_)
        refine wi_iload_1 ct_6_6 ?_
        refine wi_aload_0 ct_6_7 ?_
        refine wi_gf (x := a1) ct_6_8 (ot.trans (by rw [hk34] <;> rfl)) rfl rfl (Eq.trans (up2_nq (dn o72 (by decide))) (Eq.trans (up2_nq (dn o72 (by decide))) (Eq.trans (up2_nq (dn o72 (by decide))) (Eq.trans (up2_nq (dn o72 (by decide))) (Eq.trans (up2_nq (dn o72 (by decide))) (Eq.trans (up2_nq (dn o72 (by decide))) (Eq.trans (up2_nq (dn o72 (by decide))) (Eq.trans (up2_nq (dn o72 (by decide))) (Eq.trans (up2_nq (dn o72 (by decide))) hpn))))))))) ?_
        refine wi_iadd ct_6_11 rfl ?_
        refine wi_iret ct_6_12 rfl (wk_i ?_)
        refine wi_aload_0 ct_7_12 ?_
        refine wi_gf (x := fi 33 B) ct_7_13 (ot.trans (by rw [hk34] <;> rfl)) rfl rfl (Eq.trans (up2_nq (dn o72 (by decide))) (Eq.trans (up2_nq (dn o72 (by decide))) (Eq.trans (up2_nq (dn o72 (by decide))) (Eq.trans (up2_nq (dn o72 (by decide))) (Eq.trans (up2_nq (dn o72 (by decide))) (Eq.trans (up2_nq (dn o72 (by decide))) (Eq.trans (up2_nq (dn o72 (by decide))) (Eq.trans (up2_nq (dn o72 (by decide))) (Eq.trans (up2_nq (dn o72 (by decide))) ov))))))))) ?_
        refine wi_isub ct_7_16 rfl ?_
        refine wi_iret ct_7_17 rfl (wk_i ?_)
        refine wi_ic ct_8_12 kc_2 ?_
        refine wi_imul ct_8_13 rfl ?_
        refine wi_iret ct_8_14 rfl (wk_i ?_)
        refine wi_aload_0 ct_29_12 ?_
        refine wi_ic ct_29_13 kc_1 ?_
        refine wi_aload_2 ct_29_14 ?_
        refine wi_cv2 (ls' := [some _, some _, some _]) ct_29_15 (Nat.le_of_ble_eq_true rfl) (by decide) (ot.trans (by rw [hk34] <;> rfl)) rfl (by decide) rfl rfl (Nat.le_of_ble_eq_true rfl) ?_
        refine wi_ic ct_7_0 kc_11 ?_
        refine wi_aload_2 ct_7_2 ?_
        refine wi_cs2 (ls' := [some _, some _, none]) ct_7_3 (Nat.le_of_ble_eq_true rfl) rfl (Nat.le_of_ble_eq_true rfl) ?_
        refine wi_aload_1 ct_9_0 ?_
        refine wi_ic ct_9_1 kc_0 ?_
        refine wi_dup2 ct_9_2 rfl rfl ?_
        refine wi_iald (x := 4) ct_9_3 (sT_21 hS) (sL_21 hS) (by decide) kn_c0 (Eq.trans (up2_nj (by decide)) up2_eq) ?_
        refine wi_ic ct_9_4 kc_1 ?_
        refine wi_iadd (z := 5) ct_9_5 (by decide) ?_
        refine wi_iast ct_9_6 (sT_21 hS) (sL_21 hS) (by decide) kn_c0 ?_
        refine wi_aload_1 ct_9_7 ?_
        refine wi_ic ct_9_8 kc_0 ?_
        refine wi_iald (x := 5) ct_9_9 (sT_21 hS) (sL_21 hS) (by decide) kn_c0 up2_eq ?_
        refine wi_istore_2 rfl ct_9_10 ?_
        refine wi_iload_2 ct_9_11 ?_
        refine wi_ifle_f ct_9_12 ki_5 (by decide) ?_
        refine wi_iload_2 ct_9_15 ?_
        refine wi_aload_1 ct_9_16 ?_
        refine wi_len (z := 21) ct_9_17 (sT_21 hS) (by decide) (sL_21 hS) (by decide) ?_
        refine wi_icge_f ct_9_18 ki_5 ki_21 (by decide) ?_
        refine wi_aload_1 ct_9_21 ?_
        refine wi_iload_2 ct_9_22 ?_
        refine wi_iload_0 ct_9_23 ?_
        refine wi_iast ct_9_24 (sT_21 hS) (sL_21 hS) (by decide) kn_c5 ?_
        refine wi_ret ct_9_25 (wk_v ?_)
        refine wi_aload_0 ct_7_6 ?_
        refine wi_iload_1 ct_7_7 ?_
        refine wi_aload_2 ct_7_8 ?_
        refine wi_cv2 (ls' := [some _, some _, some _]) ct_7_9 (Nat.le_of_ble_eq_true rfl) (by decide) (ot.trans (by rw [hk34] <;> rfl)) rfl (by decide) rfl rfl (Nat.le_of_ble_eq_true rfl) ?_
        refine wi_ic ct_6_0 kc_10 ?_
        refine wi_aload_2 ct_6_2 ?_
        refine wi_cs2 (ls' := [some _, some _, none]) ct_6_3 (Nat.le_of_ble_eq_true rfl) rfl (Nat.le_of_ble_eq_true rfl) ?_
        refine wi_aload_1 ct_9_0 ?_
        refine wi_ic ct_9_1 kc_0 ?_
        refine wi_dup2 ct_9_2 rfl rfl ?_
        refine wi_iald (x := 5) ct_9_3 (sT_21 hS) (sL_21 hS) (by decide) kn_c0 (Eq.trans (up2_nj (by decide)) up2_eq) ?_
        refine wi_ic ct_9_4 kc_1 ?_
        refine wi_iadd (z := 6) ct_9_5 (by decide) ?_
        refine wi_iast ct_9_6 (sT_21 hS) (sL_21 hS) (by decide) kn_c0 ?_
        refine wi_aload_1 ct_9_7 ?_
        refine wi_ic ct_9_8 kc_0 ?_
        refine wi_iald (x := 6) ct_9_9 (sT_21 hS) (sL_21 hS) (by decide) kn_c0 up2_eq ?_
        refine wi_istore_2 rfl ct_9_10 ?_
        refine wi_iload_2 ct_9_11 ?_
        refine wi_ifle_f ct_9_12 ki_6 (by decide) ?_
        refine wi_iload_2 ct_9_15 ?_
        refine wi_aload_1 ct_9_16 ?_
        refine wi_len (z := 21) ct_9_17 (sT_21 hS) (by decide) (sL_21 hS) (by decide) ?_
        refine wi_icge_f ct_9_18 ki_6 ki_21 (by decide) ?_
        refine wi_aload_1 ct_9_21 ?_
        refine wi_iload_2 ct_9_22 ?_
        refine wi_iload_0 ct_9_23 ?_
        refine wi_iast ct_9_24 (sT_21 hS) (sL_21 hS) (by decide) kn_c6 ?_
        refine wi_ret ct_9_25 (wk_v ?_)
        refine wi_iload_1 ct_6_6 ?_
        refine wi_aload_0 ct_6_7 ?_
        refine wi_gf (x := a1) ct_6_8 (ot.trans (by rw [hk34] <;> rfl)) rfl rfl (Eq.trans (up2_nq (dn o72 (by decide))) (Eq.trans (up2_nq (dn o72 (by decide))) (Eq.trans (up2_nq (dn o72 (by decide))) (Eq.trans (up2_nq (dn o72 (by decide))) (Eq.trans (up2_nq (dn o72 (by decide))) (Eq.trans (up2_nq (dn o72 (by decide))) (Eq.trans (up2_nq (dn o72 (by decide))) (Eq.trans (up2_nq (dn o72 (by decide))) (Eq.trans (up2_nq (dn o72 (by decide))) (Eq.trans (up2_nq (dn o72 (by decide))) (Eq.trans (up2_nq (dn o72 (by decide))) (Eq.trans (up2_nq (dn o72 (by decide))) (Eq.trans (up2_nq (dn o72 (by decide))) hpn))))))))))))) ?_
        refine wi_iadd ct_6_11 rfl ?_
        refine wi_iret ct_6_12 rfl (wk_i ?_)
        refine wi_aload_0 ct_7_12 ?_
        refine wi_gf (x := fi 33 B) ct_7_13 (ot.trans (by rw [hk34] <;> rfl)) rfl rfl (Eq.trans (up2_nq (dn o72 (by decide))) (Eq.trans (up2_nq (dn o72 (by decide))) (Eq.trans (up2_nq (dn o72 (by decide))) (Eq.trans (up2_nq (dn o72 (by decide))) (Eq.trans (up2_nq (dn o72 (by decide))) (Eq.trans (up2_nq (dn o72 (by decide))) (Eq.trans (up2_nq (dn o72 (by decide))) (Eq.trans (up2_nq (dn o72 (by decide))) (Eq.trans (up2_nq (dn o72 (by decide))) (Eq.trans (up2_nq (dn o72 (by decide))) (Eq.trans (up2_nq (dn o72 (by decide))) (Eq.trans (up2_nq (dn o72 (by decide))) (Eq.trans (up2_nq (dn o72 (by decide))) ov))))))))))))) ?_
        refine wi_isub ct_7_16 rfl ?_
        refine wi_iret ct_7_17 rfl (wk_i ?_)
        refine wi_iadd ct_29_18 rfl ?_
        refine wi_iret ct_29_19 rfl (wk_i ?_)
        refine wi_iret ct_95_80 rfl (wk_i ?_)
        refine wi_aload_2 ct_211_1043 ?_
        refine wi_aloadT_0 ct_211_1044 ?_
        refine wi_iload_3 ct_211_1045 ?_
        refine wi_ic ct_211_1046 kc_1 ?_
        refine wi_iadd ct_211_1047 rfl ?_
        refine wi_ialdT (j := I + 1) (x := a1) ct_211_1048 (sL_SC hS) (i_in (i_add hi ki_1 (by omega)) (by omega)) (i_cl (i_add hi ki_1 (by omega)) (by omega)) ((Eq.trans (up2_nq (by decide)) (Eq.trans (up2_nq (by decide)) (Eq.trans (up2_nq (by decide)) (Eq.trans (up2_nq (by decide)) (Eq.trans (up2_nq (by decide)) (Eq.trans (up2_nq (by decide)) (Eq.trans (up2_nq (by decide)) (Eq.trans (up2_nq (by decide)) (Eq.trans (up2_nq (by decide)) (Eq.trans (up2_nq (by decide)) (Eq.trans (up2_nq (by decide)) (Eq.trans (up2_nq (by decide)) (Eq.trans (up2_nq (by decide)) ((hsc _).trans e1))))))))))))))) ?_
        refine wi_aloadT_0 ct_211_1049 ?_
        refine wi_iload_3 ct_211_1050 ?_
        refine wi_ic ct_211_1051 kc_2 ?_
        refine wi_iadd ct_211_1052 rfl ?_
        refine wi_ialdT (j := I + 2) (x := a2) ct_211_1053 (sL_SC hS) (i_in (i_add hi ki_2 (by omega)) (by omega)) (i_cl (i_add hi ki_2 (by omega)) (by omega)) ((Eq.trans (up2_nq (by decide)) (Eq.trans (up2_nq (by decide)) (Eq.trans (up2_nq (by decide)) (Eq.trans (up2_nq (by decide)) (Eq.trans (up2_nq (by decide)) (Eq.trans (up2_nq (by decide)) (Eq.trans (up2_nq (by decide)) (Eq.trans (up2_nq (by decide)) (Eq.trans (up2_nq (by decide)) (Eq.trans (up2_nq (by decide)) (Eq.trans (up2_nq (by decide)) (Eq.trans (up2_nq (by decide)) (Eq.trans (up2_nq (by decide)) ((hsc _).trans e2))))))))))))))) ?_
        refine wi_aloadT_0 ct_211_1054 ?_
        refine wi_iload_3 ct_211_1055 ?_
        refine wi_ic ct_211_1056 kc_3 ?_
        refine wi_iadd ct_211_1057 rfl ?_
        refine wi_ialdT (j := I + 3) (x := a3) ct_211_1058 (sL_SC hS) (i_in (i_add hi ki_3 (by omega)) (by omega)) (i_cl (i_add hi ki_3 (by omega)) (by omega)) ((Eq.trans (up2_nq (by decide)) (Eq.trans (up2_nq (by decide)) (Eq.trans (up2_nq (by decide)) (Eq.trans (up2_nq (by decide)) (Eq.trans (up2_nq (by decide)) (Eq.trans (up2_nq (by decide)) (Eq.trans (up2_nq (by decide)) (Eq.trans (up2_nq (by decide)) (Eq.trans (up2_nq (by decide)) (Eq.trans (up2_nq (by decide)) (Eq.trans (up2_nq (by decide)) (Eq.trans (up2_nq (by decide)) (Eq.trans (up2_nq (by decide)) ((hsc _).trans e3))))))))))))))) ?_
        refine wi_cv3 (ls' := [some _, some _, some _, some _]) ct_211_1059 (Nat.le_of_ble_eq_true rfl) (by decide) (sT_31 hS) rfl (by decide) rfl rfl (Nat.le_of_ble_eq_true rfl) ?_
        refine wi_aload_0 ct_190_0 ?_
        refine wi_ic ct_190_1 kc_0 ?_
        refine wi_pf ct_190_2 (sT_31 hS) rfl ?_
        refine wi_aload_0 ct_190_5 ?_
        refine wi_iload_1 ct_190_6 ?_
        refine wi_cv1 (ls' := [some _, some _]) ct_190_7 (Nat.le_of_ble_eq_true rfl) (by decide) (sT_31 hS) rfl (by decide) rfl rfl (Nat.le_of_ble_eq_true rfl) ?_
        refine wi_aload_0 ct_120_0 ?_
        refine wi_iload_1 ct_120_1 ?_
        refine wi_ic ct_120_2 kc_0 ?_
        refine wi_aload_0 ct_120_3 ?_
        refine wi_gf (x := fi 31 0) ct_120_4 (sT_31 hS) rfl rfl (Eq.trans (up2_nj (by decide)) (Eq.trans (up2_nq (by decide)) (Eq.trans (up2_nq (by decide)) (Eq.trans (up2_nq (by decide)) (Eq.trans (up2_nq (by decide)) (Eq.trans (up2_nq (by decide)) (Eq.trans (up2_nq (by decide)) (Eq.trans (up2_nq (by decide)) (Eq.trans (up2_nq (by decide)) (Eq.trans (up2_nq (by decide)) (Eq.trans (up2_nq (by decide)) (Eq.trans (up2_nq (by decide)) (Eq.trans (up2_nq (by decide)) (up2_nq (by decide))))))))))))))) ?_
        refine wi_ic ct_120_7 kc_1 ?_
        refine wi_isub ct_120_8 rfl ?_
        refine wi_cv3 (ls' := [some _, some _, some _, some _]) ct_120_9 (Nat.le_of_ble_eq_true rfl) (by decide) (sT_31 hS) rfl (by decide) rfl rfl (Nat.le_of_ble_eq_true rfl) ?_
        refine c_in hBn ki_0 (i_sub rfl ki_1 (by omega)) (fun _ => wk_i ?_) (fun h => absurd h (by omega))
        refine wi_iret ct_120_12 (by decide) (wk_i ?_)
        refine wi_ifeq_f ct_190_10 ki_1 (by decide) ?_
        refine wi_aload_0 ct_190_13 ?_
        refine wi_iload_2 ct_190_14 ?_
        refine wi_ic ct_190_15 kc_0 ?_
        refine wi_ic ct_190_16 kc_2 ?_
        refine wi_cv3 (ls' := [some _, some _, some _, some _]) ct_190_17 (Nat.le_of_ble_eq_true rfl) (by decide) (sT_31 hS) rfl (by decide) rfl rfl (Nat.le_of_ble_eq_true rfl) ?_
        refine c_in rfl ki_0 ki_2 (fun _ => wk_i ?_) (fun h => absurd h (by omega))
        refine wi_ifne_t ct_190_20 ki_1 (by decide) ?_
        refine wi_iload_2 ct_190_25 ?_
        refine wi_ifne_t ct_190_26 rfl (by omega) ?_
        refine wi_iload_2 ct_190_38 ?_
        refine wi_ic ct_190_39 kc_1 ?_
        refine wi_icne_t ct_190_40 rfl ki_1 (by omega) ?_
        refine wi_aload_0 ct_190_52 ?_
        refine wi_iload_1 ct_190_53 ?_
        refine wi_iload_3 ct_190_54 ?_
        refine wi_cv2 (ls' := [some _, some _, some _, none]) ct_190_55 (Nat.le_of_ble_eq_true rfl) (by decide) (sT_31 hS) rfl (by decide) rfl rfl (Nat.le_of_ble_eq_true rfl) ?_
        refine wi_aload_0 ct_189_0 ?_
        refine wi_gfr ct_189_1 (sT_31 hS) rfl (sR_31_2 hS) ?_
        refine wi_iload_1 ct_189_4 ?_
        refine wi_iald (x := fi 32 B) ct_189_5 (sT_32 hS) (sL_32 hS) (i_in hBn (by omega)) (i_cl (k := B) hBn (by omega)) (Eq.trans (up2_nq (by decide)) (Eq.trans (up2_nq (by decide)) (Eq.trans (up2_nq (by decide)) (Eq.trans (up2_nq (by decide)) (Eq.trans (up2_nq (by decide)) (Eq.trans (up2_nq (by decide)) (Eq.trans (up2_nq (by decide)) (Eq.trans (up2_nq (by decide)) (Eq.trans (up2_nq (by decide)) (Eq.trans (up2_nq (by decide)) (Eq.trans (up2_nq (by decide)) (Eq.trans (up2_nq (by decide)) (Eq.trans (up2_nq (by decide)) (up2_nq (by decide))))))))))))))) ?_
        refine wi_tsw (X := 3) (t := 36) ct_189_6 (by omega) rfl ?_
        refine wi_aload_0 ct_189_36 ?_
        refine wi_ic ct_189_37 kc_40 ?_
        refine wi_cv1 (ls' := [some _, some _]) ct_189_39 (Nat.le_of_ble_eq_true rfl) (by decide) (sT_31 hS) rfl (by decide) rfl rfl (Nat.le_of_ble_eq_true rfl) ?_
        refine wi_aload_0 ct_182_0 ?_
        refine wi_gf (x := 0) ct_182_1 (sT_31 hS) rfl rfl up2_eq ?_
        refine wi_ic ct_182_4 kc_20 ?_
        refine wi_icge_f ct_182_6 ki_0 ki_20 (by decide) ?_
        refine wi_aload_0 ct_182_9 ?_
        refine wi_gfr ct_182_10 (sT_31 hS) rfl (sR_31_66 hS) ?_
        refine wi_aload_0 ct_182_13 ?_
        refine wi_gf (x := 0) ct_182_14 (sT_31 hS) rfl rfl up2_eq ?_
        refine wi_iload_1 ct_182_17 ?_
        refine wi_iast ct_182_18 (sT_67 hS) (sL_67 hS) (by decide) kn_c0 ?_
        refine wi_aload_0 ct_182_19 ?_
        refine wi_dup ct_182_20 rfl ?_
        refine wi_gf (x := 0) ct_182_21 (sT_31 hS) rfl rfl (Eq.trans (up2_nq (by decide)) up2_eq) ?_
        refine wi_ic ct_182_24 kc_1 ?_
        refine wi_iadd (z := 1) ct_182_25 (by decide) ?_
        refine wi_pf ct_182_26 (sT_31 hS) rfl ?_
        refine wi_ret ct_182_29 (wk_v ?_)
        refine wi_aload_0 ct_189_42 ?_
        refine wi_iload_1 ct_189_43 ?_
        refine wi_iload_2 ct_189_44 ?_
        refine wi_cv2 (ls' := [some _, some _, some _]) ct_189_45 (Nat.le_of_ble_eq_true rfl) (by decide) (sT_31 hS) rfl (by decide) rfl rfl (Nat.le_of_ble_eq_true rfl) ?_
        refine wi_aload_0 ct_188_0 ?_
        refine wi_ic ct_188_1 kc_12 ?_
        refine wi_cv1 (ls' := [some _, some _]) ct_188_3 (Nat.le_of_ble_eq_true rfl) (by decide) (sT_31 hS) rfl (by decide) rfl rfl (Nat.le_of_ble_eq_true rfl) ?_
        refine wi_aload_0 ct_182_0 ?_
        refine wi_gf (x := 1) ct_182_1 (sT_31 hS) rfl rfl up2_eq ?_
        refine wi_ic ct_182_4 kc_20 ?_
        refine wi_icge_f ct_182_6 ki_1 ki_20 (by decide) ?_
        refine wi_aload_0 ct_182_9 ?_
        refine wi_gfr ct_182_10 (sT_31 hS) rfl (sR_31_66 hS) ?_
        refine wi_aload_0 ct_182_13 ?_
        refine wi_gf (x := 1) ct_182_14 (sT_31 hS) rfl rfl up2_eq ?_
        refine wi_iload_1 ct_182_17 ?_
        refine wi_iast ct_182_18 (sT_67 hS) (sL_67 hS) (by decide) kn_c1 ?_
        refine wi_aload_0 ct_182_19 ?_
        refine wi_dup ct_182_20 rfl ?_
        refine wi_gf (x := 1) ct_182_21 (sT_31 hS) rfl rfl (Eq.trans (up2_nq (by decide)) up2_eq) ?_
        refine wi_ic ct_182_24 kc_1 ?_
        refine wi_iadd (z := 2) ct_182_25 (by decide) ?_
        refine wi_pf ct_182_26 (sT_31 hS) rfl ?_
        refine wi_ret ct_182_29 (wk_v ?_)
        refine wi_aload_0 ct_188_6 ?_
        refine wi_iload_1 ct_188_7 ?_
        refine wi_iload_2 ct_188_8 ?_
        refine wi_cv2 (ls' := [some _, some _, some _, none]) ct_188_9 (Nat.le_of_ble_eq_true rfl) (by decide) (sT_31 hS) rfl (by decide) rfl rfl (Nat.le_of_ble_eq_true rfl) ?_
        refine wi_aload_0 ct_187_0 ?_
        refine wi_gfr ct_187_1 (sT_31 hS) rfl (sR_31_2 hS) ?_
        refine wi_iload_1 ct_187_4 ?_
        refine wi_iald (x := fi 32 B) ct_187_5 (sT_32 hS) (sL_32 hS) (i_in hBn (by omega)) (i_cl (k := B) hBn (by omega)) (Eq.trans (up2_nq (by decide)) (Eq.trans (up2_nq (by decide)) (Eq.trans (up2_nq (by decide)) (Eq.trans (up2_nq (by decide)) (Eq.trans (up2_nq (by decide)) (Eq.trans (up2_nq (by decide)) (Eq.trans (up2_nq (by decide)) (Eq.trans (up2_nq (by decide)) (Eq.trans (up2_nq (by decide)) (Eq.trans (up2_nq (by decide)) (Eq.trans (up2_nq (by decide)) (Eq.trans (up2_nq (by decide)) (Eq.trans (up2_nq (by decide)) (Eq.trans (up2_nq (by decide)) (Eq.trans (up2_nq (by decide)) (Eq.trans (up2_nq (by decide)) (Eq.trans (up2_nq (by decide)) (up2_nq (by decide))))))))))))))))))) ?_
        refine wi_lsw (X := 3) (t := 84) ct_187_6 (by omega) (by decide) ?_
        refine wi_aload_0 ct_187_84 ?_
        refine wi_iload_1 ct_187_85 ?_
        refine wi_iload_2 ct_187_86 ?_
        refine wi_cv2 (ls' := [some _, some _, some _]) ct_187_87 (Nat.le_of_ble_eq_true rfl) (by decide) (sT_31 hS) rfl (by decide) rfl rfl (Nat.le_of_ble_eq_true rfl) ?_
        refine wi_aload_0 ct_185_0 ?_
        refine wi_ic ct_185_1 kc_11 ?_
        refine wi_cv1 (ls' := [some _, some _]) ct_185_3 (Nat.le_of_ble_eq_true rfl) (by decide) (sT_31 hS) rfl (by decide) rfl rfl (Nat.le_of_ble_eq_true rfl) ?_
        refine wi_aload_0 ct_182_0 ?_
        refine wi_gf (x := 2) ct_182_1 (sT_31 hS) rfl rfl up2_eq ?_
        refine wi_ic ct_182_4 kc_20 ?_
        refine wi_icge_f ct_182_6 ki_2 ki_20 (by decide) ?_
        refine wi_aload_0 ct_182_9 ?_
        refine wi_gfr ct_182_10 (sT_31 hS) rfl (sR_31_66 hS) ?_
        refine wi_aload_0 ct_182_13 ?_
        refine wi_gf (x := 2) ct_182_14 (sT_31 hS) rfl rfl up2_eq ?_
        refine wi_iload_1 ct_182_17 ?_
        refine wi_iast ct_182_18 (sT_67 hS) (sL_67 hS) (by decide) kn_c2 ?_
        refine wi_aload_0 ct_182_19 ?_
        refine wi_dup ct_182_20 rfl ?_
        refine wi_gf (x := 2) ct_182_21 (sT_31 hS) rfl rfl (Eq.trans (up2_nq (by decide)) up2_eq) ?_
        refine wi_ic ct_182_24 kc_1 ?_
        refine wi_iadd (z := 3) ct_182_25 (by decide) ?_
        refine wi_pf ct_182_26 (sT_31 hS) rfl ?_
        refine wi_ret ct_182_29 (wk_v ?_)
        refine wi_aload_0 ct_185_6 ?_
        refine wi_iload_1 ct_185_7 ?_
        refine wi_iload_2 ct_185_8 ?_
        refine wi_cv2 (ls' := [some _, some _, some _]) ct_185_9 (Nat.le_of_ble_eq_true rfl) (by decide) (sT_31 hS) rfl (by decide) rfl rfl (Nat.le_of_ble_eq_true rfl) ?_
        refine wi_aload_0 ct_184_0 ?_
        refine wi_gfr ct_184_1 (sT_31 hS) rfl (sR_31_2 hS) ?_
        refine wi_iload_1 ct_184_4 ?_
        refine wi_iald (x := fi 32 B) ct_184_5 (sT_32 hS) (sL_32 hS) (i_in hBn (by omega)) (i_cl (k := B) hBn (by omega)) (Eq.trans (up2_nq (by decide)) (Eq.trans (up2_nq (by decide)) (Eq.trans (up2_nq (by decide)) (Eq.trans (up2_nq (by decide)) (Eq.trans (up2_nq (by decide)) (Eq.trans (up2_nq (by decide)) (Eq.trans (up2_nq (by decide)) (Eq.trans (up2_nq (by decide)) (Eq.trans (up2_nq (by decide)) (Eq.trans (up2_nq (by decide)) (Eq.trans (up2_nq (by decide)) (Eq.trans (up2_nq (by decide)) (Eq.trans (up2_nq (by decide)) (Eq.trans (up2_nq (by decide)) (Eq.trans (up2_nq (by decide)) (Eq.trans (up2_nq (by decide)) (Eq.trans (up2_nq (by decide)) (Eq.trans (up2_nq (by decide)) (Eq.trans (up2_nq (by decide)) (up2_nq (by decide))))))))))))))))))))) ?_
        refine wi_tsw (X := 3) (t := 89) ct_184_6 (by omega) rfl ?_
        refine wi_aload_0 ct_184_89 ?_
        refine wi_iload_1 ct_184_90 ?_
        refine wi_iload_2 ct_184_91 ?_
        refine wi_cv2 (ls' := [some _, some _, some _]) ct_184_92 (Nat.le_of_ble_eq_true rfl) (by decide) (sT_31 hS) rfl (by decide) rfl rfl (Nat.le_of_ble_eq_true rfl) ?_
        refine wi_aload_0 ct_183_0 ?_
        refine wi_ic ct_183_1 kc_10 ?_
        refine wi_cv1 (ls' := [some _, some _]) ct_183_3 (Nat.le_of_ble_eq_true rfl) (by decide) (sT_31 hS) rfl (by decide) rfl rfl (Nat.le_of_ble_eq_true rfl) ?_
        refine wi_aload_0 ct_182_0 ?_
        refine wi_gf (x := 3) ct_182_1 (sT_31 hS) rfl rfl up2_eq ?_
        refine wi_ic ct_182_4 kc_20 ?_
        refine wi_icge_f ct_182_6 ki_3 ki_20 (by decide) ?_
        refine wi_aload_0 ct_182_9 ?_
        refine wi_gfr ct_182_10 (sT_31 hS) rfl (sR_31_66 hS) ?_
        refine wi_aload_0 ct_182_13 ?_
        refine wi_gf (x := 3) ct_182_14 (sT_31 hS) rfl rfl up2_eq ?_
        refine wi_iload_1 ct_182_17 ?_
        refine wi_iast ct_182_18 (sT_67 hS) (sL_67 hS) (by decide) kn_c3 ?_
        refine wi_aload_0 ct_182_19 ?_
        refine wi_dup ct_182_20 rfl ?_
        refine wi_gf (x := 3) ct_182_21 (sT_31 hS) rfl rfl (Eq.trans (up2_nq (by decide)) up2_eq) ?_
        refine wi_ic ct_182_24 kc_1 ?_
        refine wi_iadd (z := 4) ct_182_25 (by decide) ?_
        refine wi_pf ct_182_26 (sT_31 hS) rfl ?_
        refine wi_ret ct_182_29 (wk_v ?_)
        refine wi_iload_2 ct_183_6 ?_
        refine wi_iload_1 ct_183_7 ?_
        refine wi_iadd ct_183_8 rfl ?_
        refine wi_iret ct_183_9 rfl (wk_i ?_)
        refine wi_iret ct_184_95 rfl (wk_i ?_)
        refine wi_aload_0 ct_185_12 ?_
        refine wi_gfr ct_185_13 (sT_31 hS) rfl (sR_31_3 hS) ?_
        refine wi_iload_1 ct_185_16 ?_
        refine wi_iald (x := fi 33 B) ct_185_17 (sT_33 hS) (sL_33 hS) (i_in hBn (by omega)) (i_cl (k := B) hBn (by omega)) (Eq.trans (up2_nq (by decide)) (Eq.trans (up2_nq (by decide)) (Eq.trans (up2_nq (by decide)) (Eq.trans (up2_nq (by decide)) (Eq.trans (up2_nq (by decide)) (Eq.trans (up2_nq (by decide)) (Eq.trans (up2_nq (by decide)) (Eq.trans (up2_nq (by decide)) (Eq.trans (up2_nq (by decide)) (Eq.trans (up2_nq (by decide)) (Eq.trans (up2_nq (by decide)) (Eq.trans (up2_nq (by decide)) (Eq.trans (up2_nq (by decide)) (Eq.trans (up2_nq (by decide)) (Eq.trans (up2_nq (by decide)) (Eq.trans (up2_nq (by decide)) (Eq.trans (up2_nq (by decide)) (Eq.trans (up2_nq (by decide)) (Eq.trans (up2_nq (by decide)) (Eq.trans (up2_nq (by decide)) (Eq.trans (up2_nq (by decide)) (up2_nq (by decide))))))))))))))))))))))) ?_
        refine wi_isub ct_185_18 rfl ?_
        refine wi_iret ct_185_19 rfl (wk_i ?_)
        refine wi_iret ct_187_90 rfl (wk_i ?_)
        refine wi_ic ct_188_12 kc_2 ?_
        refine wi_imul ct_188_13 rfl ?_
        refine wi_iret ct_188_14 rfl (wk_i ?_)
        refine wi_istore_3 rfl ct_189_48 ?_
        refine wi_iload_3 ct_189_49 ?_
        refine wi_aload_0 ct_189_50 ?_
        refine wi_iload_1 ct_189_51 ?_
        refine wi_ic ct_189_52 kc_1 ?_
        refine wi_cv2 (ls' := [some _, some _, some _, none]) ct_189_53 (Nat.le_of_ble_eq_true rfl) (by decide) (sT_31 hS) rfl (by decide) rfl rfl (Nat.le_of_ble_eq_true rfl) ?_
        refine wi_aload_0 ct_187_0 ?_
        refine wi_gfr ct_187_1 (sT_31 hS) rfl (sR_31_2 hS) ?_
        refine wi_iload_1 ct_187_4 ?_
        refine wi_iald (x := fi 32 B) ct_187_5 (sT_32 hS) (sL_32 hS) (i_in hBn (by omega)) (i_cl (k := B) hBn (by omega)) (Eq.trans (up2_nq (by decide)) (Eq.trans (up2_nq (by decide)) (Eq.trans (up2_nq (by decide)) (Eq.trans (up2_nq (by decide)) (Eq.trans (up2_nq (by decide)) (Eq.trans (up2_nq (by decide)) (Eq.trans (up2_nq (by decide)) (Eq.trans (up2_nq (by decide)) (Eq.trans (up2_nq (by decide)) (Eq.trans (up2_nq (by decide)) (Eq.trans (up2_nq (by decide)) (Eq.trans (up2_nq (by decide)) (Eq.trans (up2_nq (by decide)) (Eq.trans (up2_nq (by decide)) (Eq.trans (up2_nq (by decide)) (Eq.trans (up2_nq (by decide)) (Eq.trans (up2_nq (by decide)) (Eq.trans (up2_nq (by decide)) (Eq.trans (up2_nq (by decide)) (Eq.trans (up2_nq (by decide)) (Eq.trans (up2_nq (by decide)) (up2_nq (by decide))))))))))))))))))))))) ?_
        refine wi_lsw (X := 3) (t := 84) ct_187_6 (by omega) (by decide) ?_
        refine wi_aload_0 ct_187_84 ?_
        refine wi_iload_1 ct_187_85 ?_
        refine wi_iload_2 ct_187_86 ?_
        refine wi_cv2 (ls' := [some _, some _, some _]) ct_187_87 (Nat.le_of_ble_eq_true rfl) (by decide) (sT_31 hS) rfl (by decide) rfl rfl (Nat.le_of_ble_eq_true rfl) ?_
        refine wi_aload_0 ct_185_0 ?_
        refine wi_ic ct_185_1 kc_11 ?_
        refine wi_cv1 (ls' := [some _, some _]) ct_185_3 (Nat.le_of_ble_eq_true rfl) (by decide) (sT_31 hS) rfl (by decide) rfl rfl (Nat.le_of_ble_eq_true rfl) ?_
        refine wi_aload_0 ct_182_0 ?_
        refine wi_gf (x := 4) ct_182_1 (sT_31 hS) rfl rfl up2_eq ?_
        refine wi_ic ct_182_4 kc_20 ?_
        refine wi_icge_f ct_182_6 ki_4 ki_20 (by decide) ?_
        refine wi_aload_0 ct_182_9 ?_
        refine wi_gfr ct_182_10 (sT_31 hS) rfl (sR_31_66 hS) ?_
        refine wi_aload_0 ct_182_13 ?_
        refine wi_gf (x := 4) ct_182_14 (sT_31 hS) rfl rfl up2_eq ?_
        refine wi_iload_1 ct_182_17 ?_
        refine wi_iast ct_182_18 (sT_67 hS) (sL_67 hS) (by decide) kn_c4 ?_
        refine wi_aload_0 ct_182_19 ?_
        refine wi_dup ct_182_20 rfl ?_
        refine wi_gf (x := 4) ct_182_21 (sT_31 hS) rfl rfl (Eq.trans (up2_nq (by decide)) up2_eq) ?_
        refine wi_ic ct_182_24 kc_1 ?_
        refine wi_iadd (z := 5) ct_182_25 (by decide) ?_
        refine wi_pf ct_182_26 (sT_31 hS) rfl ?_
        refine wi_ret ct_182_29 (wk_v ?_)
        refine wi_aload_0 ct_185_6 ?_
        refine wi_iload_1 ct_185_7 ?_
        refine wi_iload_2 ct_185_8 ?_
        refine wi_cv2 (ls' := [some _, some _, some _]) ct_185_9 (Nat.le_of_ble_eq_true rfl) (by decide) (sT_31 hS) rfl (by decide) rfl rfl (Nat.le_of_ble_eq_true rfl) ?_
        refine wi_aload_0 ct_184_0 ?_
        refine wi_gfr ct_184_1 (sT_31 hS) rfl (sR_31_2 hS) ?_
        refine wi_iload_1 ct_184_4 ?_
        refine wi_iald (x := fi 32 B) ct_184_5 (sT_32 hS) (sL_32 hS) (i_in hBn (by omega)) (i_cl (k := B) hBn (by omega)) (Eq.trans (up2_nq (by decide)) (Eq.trans (up2_nq (by decide)) (Eq.trans (up2_nq (by decide)) (Eq.trans (up2_nq (by decide)) (Eq.trans (up2_nq (by decide)) (Eq.trans (up2_nq (by decide)) (Eq.trans (up2_nq (by decide)) (Eq.trans (up2_nq (by decide)) (Eq.trans (up2_nq (by decide)) (Eq.trans (up2_nq (by decide)) (Eq.trans (up2_nq (by decide)) (Eq.trans (up2_nq (by decide)) (Eq.trans (up2_nq (by decide)) (Eq.trans (up2_nq (by decide)) (Eq.trans (up2_nq (by decide)) (Eq.trans (up2_nq (by decide)) (Eq.trans (up2_nq (by decide)) (Eq.trans (up2_nq (by decide)) (Eq.trans (up2_nq (by decide)) (Eq.trans (up2_nq (by decide)) (Eq.trans (up2_nq (by decide)) (Eq.trans (up2_nq (by decide)) (Eq.trans (up2_nq (by decide)) (up2_nq (by decide))))))))))))))))))))))))) ?_
        refine wi_tsw (X := 3) (t := 89) ct_184_6 (by omega) rfl ?_
        refine wi_aload_0 ct_184_89 ?_
        refine wi_iload_1 ct_184_90 ?_
        refine wi_iload_2 ct_184_91 ?_
        refine wi_cv2 (ls' := [some _, some _, some _]) ct_184_92 (Nat.le_of_ble_eq_true rfl) (by decide) (sT_31 hS) rfl (by decide) rfl rfl (Nat.le_of_ble_eq_true rfl) ?_
        refine wi_aload_0 ct_183_0 ?_
        refine wi_ic ct_183_1 kc_10 ?_
        refine wi_cv1 (ls' := [some _, some _]) ct_183_3 (Nat.le_of_ble_eq_true rfl) (by decide) (sT_31 hS) rfl (by decide) rfl rfl (Nat.le_of_ble_eq_true rfl) ?_
        refine wi_aload_0 ct_182_0 ?_
        refine wi_gf (x := 5) ct_182_1 (sT_31 hS) rfl rfl up2_eq ?_
        refine wi_ic ct_182_4 kc_20 ?_
        refine wi_icge_f ct_182_6 ki_5 ki_20 (by decide) ?_
        refine wi_aload_0 ct_182_9 ?_
        refine wi_gfr ct_182_10 (sT_31 hS) rfl (sR_31_66 hS) ?_
        refine wi_aload_0 ct_182_13 ?_
        refine wi_gf (x := 5) ct_182_14 (sT_31 hS) rfl rfl up2_eq ?_
        refine wi_iload_1 ct_182_17 ?_
        refine wi_iast ct_182_18 (sT_67 hS) (sL_67 hS) (by decide) kn_c5 ?_
        refine wi_aload_0 ct_182_19 ?_
        refine wi_dup ct_182_20 rfl ?_
        refine wi_gf (x := 5) ct_182_21 (sT_31 hS) rfl rfl (Eq.trans (up2_nq (by decide)) up2_eq) ?_
        refine wi_ic ct_182_24 kc_1 ?_
        refine wi_iadd (z := 6) ct_182_25 (by decide) ?_
        refine wi_pf ct_182_26 (sT_31 hS) rfl ?_
        refine wi_ret ct_182_29 (wk_v ?_)
        refine wi_iload_2 ct_183_6 ?_
        refine wi_iload_1 ct_183_7 ?_
        refine wi_iadd ct_183_8 rfl ?_
        refine wi_iret ct_183_9 rfl (wk_i ?_)
        refine wi_iret ct_184_95 rfl (wk_i ?_)
        refine wi_aload_0 ct_185_12 ?_
        refine wi_gfr ct_185_13 (sT_31 hS) rfl (sR_31_3 hS) ?_
        refine wi_iload_1 ct_185_16 ?_
        refine wi_iald (x := fi 33 B) ct_185_17 (sT_33 hS) (sL_33 hS) (i_in hBn (by omega)) (i_cl (k := B) hBn (by omega)) (Eq.trans (up2_nq (by decide)) (Eq.trans (up2_nq (by decide)) (Eq.trans (up2_nq (by decide)) (Eq.trans (up2_nq (by decide)) (Eq.trans (up2_nq (by decide)) (Eq.trans (up2_nq (by decide)) (Eq.trans (up2_nq (by decide)) (Eq.trans (up2_nq (by decide)) (Eq.trans (up2_nq (by decide)) (Eq.trans (up2_nq (by decide)) (Eq.trans (up2_nq (by decide)) (Eq.trans (up2_nq (by decide)) (Eq.trans (up2_nq (by decide)) (Eq.trans (up2_nq (by decide)) (Eq.trans (up2_nq (by decide)) (Eq.trans (up2_nq (by decide)) (Eq.trans (up2_nq (by decide)) (Eq.trans (up2_nq (by decide)) (Eq.trans (up2_nq (by decide)) (Eq.trans (up2_nq (by decide)) (Eq.trans (up2_nq (by decide)) (Eq.trans (up2_nq (by decide)) (Eq.trans (up2_nq (by decide)) (Eq.trans (up2_nq (by decide)) (Eq.trans (up2_nq (by decide)) (up2_nq (by decide))))))))))))))))))))))))))) ?_
        refine wi_isub ct_185_18 rfl ?_
        refine wi_iret ct_185_19 rfl (wk_i ?_)
        refine wi_iret ct_187_90 rfl (wk_i ?_)
        refine wi_iadd ct_189_56 rfl ?_
        refine wi_iret ct_189_57 rfl (wk_i ?_)
        refine wi_iret ct_190_58 rfl (wk_i ?_)
        refine wi_iceq_t ct_211_1062 rfl rfl (by omega) ?_
        refine kk own g _ fl (hR.act (fun q h1 h2 h3 => (Eq.trans (funext fun _ => up2_nq h2) (Eq.trans (funext fun _ => up2_nq h3) (Eq.trans (funext fun _ => up2_nq h2) (Eq.trans (funext fun _ => up2_nq h3) (Eq.trans (funext fun _ => up2_nq h2) (Eq.trans (funext fun _ => up2_nq h3) (Eq.trans (funext fun _ => up2_nq h2) (Eq.trans (funext fun _ => up2_nq h3) (Eq.trans (funext fun _ => up2_nq h2) (Eq.trans (funext fun _ => up2_nq h3) (Eq.trans (funext fun _ => up2_nq h2) (Eq.trans (funext fun _ => up2_nq h3) (Eq.trans (funext fun _ => up2_nq h2) (Eq.trans (funext fun _ => up2_nq h1) (Eq.trans (funext fun _ => up2_nq h1) (Eq.trans (funext fun _ => up2_nq h1) (Eq.trans (funext fun _ => up2_nq h1) (Eq.trans (funext fun _ => up2_nq h1) (Eq.trans (funext fun _ => up2_nq h1) (Eq.trans (funext fun _ => up2_nq h1) (Eq.trans (funext fun _ => up2_nq h1) (Eq.trans (funext fun _ => up2_nq h1) (Eq.trans (funext fun _ => up2_nq h1) (Eq.trans (funext fun _ => up2_nq h1) (Eq.trans (funext fun _ => up2_nq h1) (funext fun _ => up2_nq h1))))))))))))))))))))))))))) (fun j hj => (Eq.trans (up2_nj hj) (Eq.trans (up2_nq (by decide)) (Eq.trans (up2_nj hj) (Eq.trans (up2_nq (by decide)) (Eq.trans (up2_nj hj) (Eq.trans (up2_nq (by decide)) (Eq.trans (up2_nj hj) (Eq.trans (up2_nq (by decide)) (Eq.trans (up2_nj hj) (Eq.trans (up2_nq (by decide)) (Eq.trans (up2_nj hj) (Eq.trans (up2_nq (by decide)) (Eq.trans (up2_nj hj) (Eq.trans (up2_nq (by decide)) (Eq.trans (up2_nq (by decide)) (Eq.trans (up2_nq (by decide)) (Eq.trans (up2_nq (by decide)) (Eq.trans (up2_nq (by decide)) (Eq.trans (up2_nq (by decide)) (Eq.trans (up2_nq (by decide)) (Eq.trans (up2_nq (by decide)) (Eq.trans (up2_nq (by decide)) (Eq.trans (up2_nq (by decide)) (Eq.trans (up2_nq (by decide)) (Eq.trans (up2_nq (by decide)) (up2_nq (by decide)))))))))))))))))))))))))))) ⟨((Eq.trans (up2_nq (by decide)) (Eq.trans (up2_nq (by decide)) (Eq.trans (up2_nq (by decide)) (Eq.trans (up2_nq (by decide)) (Eq.trans (up2_nq (by decide)) (Eq.trans (up2_nq (by decide)) (Eq.trans (up2_nq (by decide)) (Eq.trans (up2_nq (by decide)) (Eq.trans (up2_nq (by decide)) (Eq.trans (up2_nq (by decide)) (Eq.trans (up2_nq (by decide)) (Eq.trans (up2_nq (by decide)) (Eq.trans (up2_nq (by decide)) (Eq.trans (up2_nj (by decide)) up2_eq))))))))))))))).trans (up2_eq).symm, by rw [up2_eq]; decide, by rw [up2_eq]; decide⟩ ?_) (by omega) (by omega)
        intro j hj hn
        rw [up2_eq] at hn
        replace hn : (j : Int) < 6 := hn
        match j, (by omega : j < 6) with
        | 0, _ => exact ((Eq.trans (up2_nq (by decide)) (Eq.trans (up2_nq (by decide)) (Eq.trans (up2_nq (by decide)) (Eq.trans (up2_nq (by decide)) (Eq.trans (up2_nq (by decide)) (Eq.trans (up2_nq (by decide)) (Eq.trans (up2_nq (by decide)) (Eq.trans (up2_nq (by decide)) (Eq.trans (up2_nq (by decide)) (Eq.trans (up2_nq (by decide)) (Eq.trans (up2_nq (by decide)) (Eq.trans (up2_nq (by decide)) (Eq.trans (up2_nq (by decide)) (Eq.trans (up2_nj (by decide)) (Eq.trans (up2_nj (by decide)) (Eq.trans (up2_nj (by decide)) (Eq.trans (up2_nj (by decide)) (Eq.trans (up2_nj (by decide)) (Eq.trans (up2_nj (by decide)) (Eq.trans (up2_nj (by decide)) (Eq.trans (up2_nj (by decide)) (Eq.trans (up2_nj (by decide)) (Eq.trans (up2_nj (by decide)) up2_eq)))))))))))))))))))))))).trans ((Eq.trans (up2_nq (by decide)) (Eq.trans (up2_nj (by decide)) (Eq.trans (up2_nq (by decide)) (Eq.trans (up2_nj (by decide)) (Eq.trans (up2_nq (by decide)) (Eq.trans (up2_nj (by decide)) (Eq.trans (up2_nq (by decide)) (Eq.trans (up2_nj (by decide)) (Eq.trans (up2_nq (by decide)) (Eq.trans (up2_nj (by decide)) (Eq.trans (up2_nq (by decide)) up2_eq)))))))))))).symm
        | 1, _ => exact ((Eq.trans (up2_nq (by decide)) (Eq.trans (up2_nq (by decide)) (Eq.trans (up2_nq (by decide)) (Eq.trans (up2_nq (by decide)) (Eq.trans (up2_nq (by decide)) (Eq.trans (up2_nq (by decide)) (Eq.trans (up2_nq (by decide)) (Eq.trans (up2_nq (by decide)) (Eq.trans (up2_nq (by decide)) (Eq.trans (up2_nq (by decide)) (Eq.trans (up2_nq (by decide)) (Eq.trans (up2_nq (by decide)) (Eq.trans (up2_nq (by decide)) (Eq.trans (up2_nj (by decide)) (Eq.trans (up2_nj (by decide)) (Eq.trans (up2_nj (by decide)) (Eq.trans (up2_nj (by decide)) (Eq.trans (up2_nj (by decide)) (Eq.trans (up2_nj (by decide)) (Eq.trans (up2_nj (by decide)) (Eq.trans (up2_nj (by decide)) up2_eq)))))))))))))))))))))).trans ((Eq.trans (up2_nq (by decide)) (Eq.trans (up2_nj (by decide)) (Eq.trans (up2_nq (by decide)) (Eq.trans (up2_nj (by decide)) (Eq.trans (up2_nq (by decide)) (Eq.trans (up2_nj (by decide)) (Eq.trans (up2_nq (by decide)) (Eq.trans (up2_nj (by decide)) (Eq.trans (up2_nq (by decide)) up2_eq)))))))))).symm
        | 2, _ => exact ((Eq.trans (up2_nq (by decide)) (Eq.trans (up2_nq (by decide)) (Eq.trans (up2_nq (by decide)) (Eq.trans (up2_nq (by decide)) (Eq.trans (up2_nq (by decide)) (Eq.trans (up2_nq (by decide)) (Eq.trans (up2_nq (by decide)) (Eq.trans (up2_nq (by decide)) (Eq.trans (up2_nq (by decide)) (Eq.trans (up2_nq (by decide)) (Eq.trans (up2_nq (by decide)) (Eq.trans (up2_nq (by decide)) (Eq.trans (up2_nq (by decide)) (Eq.trans (up2_nj (by decide)) (Eq.trans (up2_nj (by decide)) (Eq.trans (up2_nj (by decide)) (Eq.trans (up2_nj (by decide)) (Eq.trans (up2_nj (by decide)) (Eq.trans (up2_nj (by decide)) up2_eq)))))))))))))))))))).trans ((Eq.trans (up2_nq (by decide)) (Eq.trans (up2_nj (by decide)) (Eq.trans (up2_nq (by decide)) (Eq.trans (up2_nj (by decide)) (Eq.trans (up2_nq (by decide)) (Eq.trans (up2_nj (by decide)) (Eq.trans (up2_nq (by decide)) up2_eq)))))))).symm
        | 3, _ => exact ((Eq.trans (up2_nq (by decide)) (Eq.trans (up2_nq (by decide)) (Eq.trans (up2_nq (by decide)) (Eq.trans (up2_nq (by decide)) (Eq.trans (up2_nq (by decide)) (Eq.trans (up2_nq (by decide)) (Eq.trans (up2_nq (by decide)) (Eq.trans (up2_nq (by decide)) (Eq.trans (up2_nq (by decide)) (Eq.trans (up2_nq (by decide)) (Eq.trans (up2_nq (by decide)) (Eq.trans (up2_nq (by decide)) (Eq.trans (up2_nq (by decide)) (Eq.trans (up2_nj (by decide)) (Eq.trans (up2_nj (by decide)) (Eq.trans (up2_nj (by decide)) (Eq.trans (up2_nj (by decide)) up2_eq)))))))))))))))))).trans ((Eq.trans (up2_nq (by decide)) (Eq.trans (up2_nj (by decide)) (Eq.trans (up2_nq (by decide)) (Eq.trans (up2_nj (by decide)) (Eq.trans (up2_nq (by decide)) up2_eq)))))).symm
        | 4, _ => exact ((Eq.trans (up2_nq (by decide)) (Eq.trans (up2_nq (by decide)) (Eq.trans (up2_nq (by decide)) (Eq.trans (up2_nq (by decide)) (Eq.trans (up2_nq (by decide)) (Eq.trans (up2_nq (by decide)) (Eq.trans (up2_nq (by decide)) (Eq.trans (up2_nq (by decide)) (Eq.trans (up2_nq (by decide)) (Eq.trans (up2_nq (by decide)) (Eq.trans (up2_nq (by decide)) (Eq.trans (up2_nq (by decide)) (Eq.trans (up2_nq (by decide)) (Eq.trans (up2_nj (by decide)) (Eq.trans (up2_nj (by decide)) up2_eq)))))))))))))))).trans ((Eq.trans (up2_nq (by decide)) (Eq.trans (up2_nj (by decide)) (Eq.trans (up2_nq (by decide)) up2_eq)))).symm
        | 5, _ => exact ((Eq.trans (up2_nq (by decide)) (Eq.trans (up2_nq (by decide)) (Eq.trans (up2_nq (by decide)) (Eq.trans (up2_nq (by decide)) (Eq.trans (up2_nq (by decide)) (Eq.trans (up2_nq (by decide)) (Eq.trans (up2_nq (by decide)) (Eq.trans (up2_nq (by decide)) (Eq.trans (up2_nq (by decide)) (Eq.trans (up2_nq (by decide)) (Eq.trans (up2_nq (by decide)) (Eq.trans (up2_nq (by decide)) (Eq.trans (up2_nq (by decide)) up2_eq)))))))))))))).trans ((Eq.trans (up2_nq (by decide)) up2_eq)).symm
        | j + 6, h => exact absurd h (by omega)
      · skip
        refine wi_cv2 (ls' := [some _, some _, some _]) ct_95_77 (Nat.le_of_ble_eq_true rfl) (by decide) (ot.trans (by rw [hk35] <;> rfl)) rfl (by decide) rfl rfl (Nat.le_of_ble_eq_true rfl) ?_
        refine wi_ic ct_8_0 kc_12 ?_
        refine wi_aload_2 ct_8_2 ?_
        refine wi_cs2 (ls' := [some _, some _, none]) ct_8_3 (Nat.le_of_ble_eq_true rfl) rfl (Nat.le_of_ble_eq_true rfl) ?_
        refine wi_aload_1 ct_9_0 ?_
        refine wi_ic ct_9_1 kc_0 ?_
        refine wi_dup2 ct_9_2 rfl rfl ?_
        refine wi_iald (x := 0) ct_9_3 (sT_21 hS) (sL_21 hS) (by decide) kn_c0 up2_eq ?_
        refine wi_ic ct_9_4 kc_1 ?_
        refine wi_iadd (z := 1) ct_9_5 (by decide) ?_
        refine wi_iast ct_9_6 (sT_21 hS) (sL_21 hS) (by decide) kn_c0 ?_
        refine wi_aload_1 ct_9_7 ?_
        refine wi_ic ct_9_8 kc_0 ?_
        refine wi_iald (x := 1) ct_9_9 (sT_21 hS) (sL_21 hS) (by decide) kn_c0 up2_eq ?_
        refine wi_istore_2 rfl ct_9_10 ?_
        refine wi_iload_2 ct_9_11 ?_
        refine wi_ifle_f ct_9_12 ki_1 (by decide) ?_
        refine wi_iload_2 ct_9_15 ?_
        refine wi_aload_1 ct_9_16 ?_
        refine wi_len (z := 21) ct_9_17 (sT_21 hS) (by decide) (sL_21 hS) (by decide) ?_
        refine wi_icge_f ct_9_18 ki_1 ki_21 (by decide) ?_
        refine wi_aload_1 ct_9_21 ?_
        refine wi_iload_2 ct_9_22 ?_
        refine wi_iload_0 ct_9_23 ?_
        refine wi_iast ct_9_24 (sT_21 hS) (sL_21 hS) (by decide) kn_c1 ?_
        refine wi_ret ct_9_25 (wk_v ?_)
        refine wi_aload_0 ct_8_6 ?_
        refine wi_iload_1 ct_8_7 ?_
        refine wi_aload_2 ct_8_8 ?_
        refine wi_cv2 (ls' := [some _, some _, some _]) ct_8_9 (Nat.le_of_ble_eq_true rfl) (by decide) (ot.trans (by rw [hk35] <;> rfl)) rfl (by decide) rfl rfl (Nat.le_of_ble_eq_true rfl) ?_
        refine wi_ic ct_26_0 kc_51 ?_
        refine wi_aload_2 ct_26_2 ?_
        refine wi_cs2 (ls' := [some _, some _, none]) ct_26_3 (Nat.le_of_ble_eq_true rfl) rfl (Nat.le_of_ble_eq_true rfl) ?_
        refine wi_aload_1 ct_9_0 ?_
        refine wi_ic ct_9_1 kc_0 ?_
        refine wi_dup2 ct_9_2 rfl rfl ?_
        refine wi_iald (x := 1) ct_9_3 (sT_21 hS) (sL_21 hS) (by decide) kn_c0 (Eq.trans (up2_nj (by decide)) up2_eq) ?_
        refine wi_ic ct_9_4 kc_1 ?_
        refine wi_iadd (z := 2) ct_9_5 (by decide) ?_
        refine wi_iast ct_9_6 (sT_21 hS) (sL_21 hS) (by decide) kn_c0 ?_
        refine wi_aload_1 ct_9_7 ?_
        refine wi_ic ct_9_8 kc_0 ?_
        refine wi_iald (x := 2) ct_9_9 (sT_21 hS) (sL_21 hS) (by decide) kn_c0 up2_eq ?_
        refine wi_istore_2 rfl ct_9_10 ?_
        refine wi_iload_2 ct_9_11 ?_
        refine wi_ifle_f ct_9_12 ki_2 (by decide) ?_
        refine wi_iload_2 ct_9_15 ?_
        refine wi_aload_1 ct_9_16 ?_
        refine wi_len (z := 21) ct_9_17 (sT_21 hS) (by decide) (sL_21 hS) (by decide) ?_
        refine wi_icge_f ct_9_18 ki_2 ki_21 (by decide) ?_
        refine wi_aload_1 ct_9_21 ?_
        refine wi_iload_2 ct_9_22 ?_
        refine wi_iload_0 ct_9_23 ?_
        refine wi_iast ct_9_24 (sT_21 hS) (sL_21 hS) (by decide) kn_c2 ?_
        refine wi_ret ct_9_25 (wk_v ?_)
        refine wi_aload_0 ct_26_6 ?_
        refine wi_iload_1 ct_26_7 ?_
        refine wi_ic ct_26_8 kc_1 ?_
        refine wi_iadd ct_26_9 rfl ?_
        refine wi_aload_2 ct_26_10 ?_
        refine wi_cp2 (ls' := [some _, some _, some _]) ct_26_11 (Nat.le_of_ble_eq_true rfl) (ot.trans (by rw [hk35] <;> rfl)) (by decide) rfl (Nat.le_of_ble_eq_true rfl) ?_
        refine wi_ic ct_12_0 kc_20 ?_
        refine wi_aload_2 ct_12_2 ?_
        refine wi_cs2 (ls' := [some _, some _, none]) ct_12_3 (Nat.le_of_ble_eq_true rfl) rfl (Nat.le_of_ble_eq_true rfl) ?_
        refine wi_aload_1 ct_9_0 ?_
        refine wi_ic ct_9_1 kc_0 ?_
        refine wi_dup2 ct_9_2 rfl rfl ?_
        refine wi_iald (x := 2) ct_9_3 (sT_21 hS) (sL_21 hS) (by decide) kn_c0 (Eq.trans (up2_nj (by decide)) up2_eq) ?_
        refine wi_ic ct_9_4 kc_1 ?_
        refine wi_iadd (z := 3) ct_9_5 (by decide) ?_
        refine wi_iast ct_9_6 (sT_21 hS) (sL_21 hS) (by decide) kn_c0 ?_
        refine wi_aload_1 ct_9_7 ?_
        refine wi_ic ct_9_8 kc_0 ?_
        refine wi_iald (x := 3) ct_9_9 (sT_21 hS) (sL_21 hS) (by decide) kn_c0 up2_eq ?_
        refine wi_istore_2 rfl ct_9_10 ?_
        refine wi_iload_2 ct_9_11 ?_
        refine wi_ifle_f ct_9_12 ki_3 (by decide) ?_
        refine wi_iload_2 ct_9_15 ?_
        refine wi_aload_1 ct_9_16 ?_
        refine wi_len (z := 21) ct_9_17 (sT_21 hS) (by decide) (sL_21 hS) (by decide) ?_
        refine wi_icge_f ct_9_18 ki_3 ki_21 (by decide) ?_
        refine wi_aload_1 ct_9_21 ?_
        refine wi_iload_2 ct_9_22 ?_
        refine wi_iload_0 ct_9_23 ?_
        refine wi_iast ct_9_24 (sT_21 hS) (sL_21 hS) (by decide) kn_c3 ?_
        refine wi_ret ct_9_25 (wk_v ?_)
        refine wi_aload_0 ct_12_6 ?_
        refine wi_iload_1 ct_12_7 ?_
        refine wi_aload_2 ct_12_8 ?_
        refine wi_cp2 (ls' := [some _, some _, some _]) ct_12_9 (Nat.le_of_ble_eq_true rfl) (ot.trans (by rw [hk35] <;> rfl)) (by decide) rfl (Nat.le_of_ble_eq_true rfl) ?_
        refine wi_ic ct_7_0 kc_11 ?_
        refine wi_aload_2 ct_7_2 ?_
        refine wi_cs2 (ls' := [some _, some _, none]) ct_7_3 (Nat.le_of_ble_eq_true rfl) rfl (Nat.le_of_ble_eq_true rfl) ?_
        refine wi_aload_1 ct_9_0 ?_
        refine wi_ic ct_9_1 kc_0 ?_
        refine wi_dup2 ct_9_2 rfl rfl ?_
        refine wi_iald (x := 3) ct_9_3 (sT_21 hS) (sL_21 hS) (by decide) kn_c0 (Eq.trans (up2_nj (by decide)) up2_eq) ?_
        refine wi_ic ct_9_4 kc_1 ?_
        refine wi_iadd (z := 4) ct_9_5 (by decide) ?_
        refine wi_iast ct_9_6 (sT_21 hS) (sL_21 hS) (by decide) kn_c0 ?_
        refine wi_aload_1 ct_9_7 ?_
        refine wi_ic ct_9_8 kc_0 ?_
        refine wi_iald (x := 4) ct_9_9 (sT_21 hS) (sL_21 hS) (by decide) kn_c0 up2_eq ?_
        refine wi_istore_2 rfl ct_9_10 ?_
        refine wi_iload_2 ct_9_11 ?_
        refine wi_ifle_f ct_9_12 ki_4 (by decide) ?_
        refine wi_iload_2 ct_9_15 ?_
        refine wi_aload_1 ct_9_16 ?_
        refine wi_len (z := 21) ct_9_17 (sT_21 hS) (by decide) (sL_21 hS) (by decide) ?_
        refine wi_icge_f ct_9_18 ki_4 ki_21 (by decide) ?_
        refine wi_aload_1 ct_9_21 ?_
        refine wi_iload_2 ct_9_22 ?_
        refine wi_iload_0 ct_9_23 ?_
        refine wi_iast ct_9_24 (sT_21 hS) (sL_21 hS) (by decide) kn_c4 ?_
        refine wi_ret ct_9_25 (wk_v ?_)
        refine wi_aload_0 ct_7_6 ?_
        refine wi_iload_1 ct_7_7 ?_
        refine wi_aload_2 ct_7_8 ?_
        refine wi_cv2 (ls' := [some _, some _, some _]) ct_7_9 (Nat.le_of_ble_eq_true rfl) (by decide) (ot.trans (by rw [hk35] <;> rfl)) rfl (by decide) rfl rfl (Nat.le_of_ble_eq_true rfl) ?_
        refine wi_ic ct_25_0 kc_50 ?_
        refine wi_aload_2 ct_25_2 ?_
        refine wi_cs2 (ls' := [some _, some _, none]) ct_25_3 (Nat.le_of_ble_eq_true rfl) rfl (Nat.le_of_ble_eq_true rfl) ?_
        refine wi_aload_1 ct_9_0 ?_
        refine wi_ic ct_9_1 kc_0 ?_
        refine wi_dup2 ct_9_2 rfl rfl ?_
        refine wi_iald (x := 4) ct_9_3 (sT_21 hS) (sL_21 hS) (by decide) kn_c0 (Eq.trans (up2_nj (by decide)) up2_eq) ?_
        refine wi_ic ct_9_4 kc_1 ?_
        refine wi_iadd (z := 5) ct_9_5 (by decide) ?_
        refine wi_iast ct_9_6 (sT_21 hS) (sL_21 hS) (by decide) kn_c0 ?_
        refine wi_aload_1 ct_9_7 ?_
        refine wi_ic ct_9_8 kc_0 ?_
        refine wi_iald (x := 5) ct_9_9 (sT_21 hS) (sL_21 hS) (by decide) kn_c0 up2_eq ?_
        refine wi_istore_2 rfl ct_9_10 ?_
        refine wi_iload_2 ct_9_11 ?_
        refine wi_ifle_f ct_9_12 ki_5 (by decide) ?_
        refine wi_iload_2 ct_9_15 ?_
        refine wi_aload_1 ct_9_16 ?_
        refine wi_len (z := 21) ct_9_17 (sT_21 hS) (by decide) (sL_21 hS) (by decide) ?_
        refine wi_icge_f ct_9_18 ki_5 ki_21 (by decide) ?_
        refine wi_aload_1 ct_9_21 ?_
        refine wi_iload_2 ct_9_22 ?_
        refine wi_iload_0 ct_9_23 ?_
        refine wi_iast ct_9_24 (sT_21 hS) (sL_21 hS) (by decide) kn_c5 ?_
        refine wi_ret ct_9_25 (wk_v ?_)
        refine wi_aload_0 ct_25_6 ?_
        refine wi_iload_1 ct_25_7 ?_
        refine wi_aload_2 ct_25_8 ?_
        refine wi_cp2 (ls' := [some _, some _, some _]) ct_25_9 (Nat.le_of_ble_eq_true rfl) (ot.trans (by rw [hk35] <;> rfl)) (by decide) rfl (Nat.le_of_ble_eq_true rfl) ?_
        refine wi_ic ct_6_0 kc_10 ?_
        refine wi_aload_2 ct_6_2 ?_
        refine wi_cs2 (ls' := [some _, some _, none]) ct_6_3 (Nat.le_of_ble_eq_true rfl) rfl (Nat.le_of_ble_eq_true rfl) ?_
        refine wi_aload_1 ct_9_0 ?_
        refine wi_ic ct_9_1 kc_0 ?_
        refine wi_dup2 ct_9_2 rfl rfl ?_
        refine wi_iald (x := 5) ct_9_3 (sT_21 hS) (sL_21 hS) (by decide) kn_c0 (Eq.trans (up2_nj (by decide)) up2_eq) ?_
        refine wi_ic ct_9_4 kc_1 ?_
        refine wi_iadd (z := 6) ct_9_5 (by decide) ?_
        refine wi_iast ct_9_6 (sT_21 hS) (sL_21 hS) (by decide) kn_c0 ?_
        refine wi_aload_1 ct_9_7 ?_
        refine wi_ic ct_9_8 kc_0 ?_
        refine wi_iald (x := 6) ct_9_9 (sT_21 hS) (sL_21 hS) (by decide) kn_c0 up2_eq ?_
        refine wi_istore_2 rfl ct_9_10 ?_
        refine wi_iload_2 ct_9_11 ?_
        refine wi_ifle_f ct_9_12 ki_6 (by decide) ?_
        refine wi_iload_2 ct_9_15 ?_
        refine wi_aload_1 ct_9_16 ?_
        refine wi_len (z := 21) ct_9_17 (sT_21 hS) (by decide) (sL_21 hS) (by decide) ?_
        refine wi_icge_f ct_9_18 ki_6 ki_21 (by decide) ?_
        refine wi_aload_1 ct_9_21 ?_
        refine wi_iload_2 ct_9_22 ?_
        refine wi_iload_0 ct_9_23 ?_
        refine wi_iast ct_9_24 (sT_21 hS) (sL_21 hS) (by decide) kn_c6 ?_
        refine wi_ret ct_9_25 (wk_v ?_)
        refine wi_iload_1 ct_6_6 ?_
        refine wi_aload_0 ct_6_7 ?_
        refine wi_gf (x := a1) ct_6_8 (ot.trans (by rw [hk35] <;> rfl)) rfl rfl (Eq.trans (up2_nq (dn o72 (by decide))) (Eq.trans (up2_nq (dn o72 (by decide))) (Eq.trans (up2_nq (dn o72 (by decide))) (Eq.trans (up2_nq (dn o72 (by decide))) (Eq.trans (up2_nq (dn o72 (by decide))) (Eq.trans (up2_nq (dn o72 (by decide))) (Eq.trans (up2_nq (dn o72 (by decide))) (Eq.trans (up2_nq (dn o72 (by decide))) (Eq.trans (up2_nq (dn o72 (by decide))) (Eq.trans (up2_nq (dn o72 (by decide))) (Eq.trans (up2_nq (dn o72 (by decide))) (Eq.trans (up2_nq (dn o72 (by decide))) (Eq.trans (up2_nq (dn o72 (by decide))) hpn))))))))))))) ?_
        refine wi_iadd ct_6_11 rfl ?_
        refine wi_iret ct_6_12 rfl (wk_i ?_)
        refine wi_ineg ct_25_12 rfl ?_
        refine wi_iret ct_25_13 rfl (wk_i ?_)
        refine wi_aload_0 ct_7_12 ?_
        refine wi_gf (x := fi 33 B) ct_7_13 (ot.trans (by rw [hk35] <;> rfl)) rfl rfl (Eq.trans (up2_nq (dn o72 (by decide))) (Eq.trans (up2_nq (dn o72 (by decide))) (Eq.trans (up2_nq (dn o72 (by decide))) (Eq.trans (up2_nq (dn o72 (by decide))) (Eq.trans (up2_nq (dn o72 (by decide))) (Eq.trans (up2_nq (dn o72 (by decide))) (Eq.trans (up2_nq (dn o72 (by decide))) (Eq.trans (up2_nq (dn o72 (by decide))) (Eq.trans (up2_nq (dn o72 (by decide))) (Eq.trans (up2_nq (dn o72 (by decide))) (Eq.trans (up2_nq (dn o72 (by decide))) (Eq.trans (up2_nq (dn o72 (by decide))) (Eq.trans (up2_nq (dn o72 (by decide))) ov))))))))))))) ?_
        refine wi_isub ct_7_16 rfl ?_
        refine wi_iret ct_7_17 rfl (wk_i ?_)
        refine wi_ic ct_12_12 kc_6 ?_
        refine wi_ixor ct_12_14 rfl ?_
        refine wi_iret ct_12_15 rfl (wk_i ?_)
        refine wi_iret ct_26_14 rfl (wk_i ?_)
        refine wi_ic ct_8_12 kc_2 ?_
        refine wi_imul ct_8_13 rfl ?_
        refine wi_iret ct_8_14 rfl (wk_i ?_)
        refine wi_iret ct_95_80 rfl (wk_i ?_)
        refine wi_aload_2 ct_211_1043 ?_
        refine wi_aloadT_0 ct_211_1044 ?_
        refine wi_iload_3 ct_211_1045 ?_
        refine wi_ic ct_211_1046 kc_1 ?_
        refine wi_iadd ct_211_1047 rfl ?_
        refine wi_ialdT (j := I + 1) (x := a1) ct_211_1048 (sL_SC hS) (i_in (i_add hi ki_1 (by omega)) (by omega)) (i_cl (i_add hi ki_1 (by omega)) (by omega)) ((Eq.trans (up2_nq (by decide)) (Eq.trans (up2_nq (by decide)) (Eq.trans (up2_nq (by decide)) (Eq.trans (up2_nq (by decide)) (Eq.trans (up2_nq (by decide)) (Eq.trans (up2_nq (by decide)) (Eq.trans (up2_nq (by decide)) (Eq.trans (up2_nq (by decide)) (Eq.trans (up2_nq (by decide)) (Eq.trans (up2_nq (by decide)) (Eq.trans (up2_nq (by decide)) (Eq.trans (up2_nq (by decide)) (Eq.trans (up2_nq (by decide)) ((hsc _).trans e1))))))))))))))) ?_
        refine wi_aloadT_0 ct_211_1049 ?_
        refine wi_iload_3 ct_211_1050 ?_
        refine wi_ic ct_211_1051 kc_2 ?_
        refine wi_iadd ct_211_1052 rfl ?_
        refine wi_ialdT (j := I + 2) (x := a2) ct_211_1053 (sL_SC hS) (i_in (i_add hi ki_2 (by omega)) (by omega)) (i_cl (i_add hi ki_2 (by omega)) (by omega)) ((Eq.trans (up2_nq (by decide)) (Eq.trans (up2_nq (by decide)) (Eq.trans (up2_nq (by decide)) (Eq.trans (up2_nq (by decide)) (Eq.trans (up2_nq (by decide)) (Eq.trans (up2_nq (by decide)) (Eq.trans (up2_nq (by decide)) (Eq.trans (up2_nq (by decide)) (Eq.trans (up2_nq (by decide)) (Eq.trans (up2_nq (by decide)) (Eq.trans (up2_nq (by decide)) (Eq.trans (up2_nq (by decide)) (Eq.trans (up2_nq (by decide)) ((hsc _).trans e2))))))))))))))) ?_
        refine wi_aloadT_0 ct_211_1054 ?_
        refine wi_iload_3 ct_211_1055 ?_
        refine wi_ic ct_211_1056 kc_3 ?_
        refine wi_iadd ct_211_1057 rfl ?_
        refine wi_ialdT (j := I + 3) (x := a3) ct_211_1058 (sL_SC hS) (i_in (i_add hi ki_3 (by omega)) (by omega)) (i_cl (i_add hi ki_3 (by omega)) (by omega)) ((Eq.trans (up2_nq (by decide)) (Eq.trans (up2_nq (by decide)) (Eq.trans (up2_nq (by decide)) (Eq.trans (up2_nq (by decide)) (Eq.trans (up2_nq (by decide)) (Eq.trans (up2_nq (by decide)) (Eq.trans (up2_nq (by decide)) (Eq.trans (up2_nq (by decide)) (Eq.trans (up2_nq (by decide)) (Eq.trans (up2_nq (by decide)) (Eq.trans (up2_nq (by decide)) (Eq.trans (up2_nq (by decide)) (Eq.trans (up2_nq (by decide)) ((hsc _).trans e3))))))))))))))) ?_
        refine wi_cv3 (ls' := [some _, some _, some _, some _]) ct_211_1059 (Nat.le_of_ble_eq_true rfl) (by decide) (sT_31 hS) rfl (by decide) rfl rfl (Nat.le_of_ble_eq_true rfl) ?_
        refine wi_aload_0 ct_190_0 ?_
        refine wi_ic ct_190_1 kc_0 ?_
        refine wi_pf ct_190_2 (sT_31 hS) rfl ?_
        refine wi_aload_0 ct_190_5 ?_
        refine wi_iload_1 ct_190_6 ?_
        refine wi_cv1 (ls' := [some _, some _]) ct_190_7 (Nat.le_of_ble_eq_true rfl) (by decide) (sT_31 hS) rfl (by decide) rfl rfl (Nat.le_of_ble_eq_true rfl) ?_
        refine wi_aload_0 ct_120_0 ?_
        refine wi_iload_1 ct_120_1 ?_
        refine wi_ic ct_120_2 kc_0 ?_
        refine wi_aload_0 ct_120_3 ?_
        refine wi_gf (x := fi 31 0) ct_120_4 (sT_31 hS) rfl rfl (Eq.trans (up2_nj (by decide)) (Eq.trans (up2_nq (by decide)) (Eq.trans (up2_nq (by decide)) (Eq.trans (up2_nq (by decide)) (Eq.trans (up2_nq (by decide)) (Eq.trans (up2_nq (by decide)) (Eq.trans (up2_nq (by decide)) (Eq.trans (up2_nq (by decide)) (Eq.trans (up2_nq (by decide)) (Eq.trans (up2_nq (by decide)) (Eq.trans (up2_nq (by decide)) (Eq.trans (up2_nq (by decide)) (Eq.trans (up2_nq (by decide)) (up2_nq (by decide))))))))))))))) ?_
        refine wi_ic ct_120_7 kc_1 ?_
        refine wi_isub ct_120_8 rfl ?_
        refine wi_cv3 (ls' := [some _, some _, some _, some _]) ct_120_9 (Nat.le_of_ble_eq_true rfl) (by decide) (sT_31 hS) rfl (by decide) rfl rfl (Nat.le_of_ble_eq_true rfl) ?_
        refine c_in hBn ki_0 (i_sub rfl ki_1 (by omega)) (fun _ => wk_i ?_) (fun h => absurd h (by omega))
        refine wi_iret ct_120_12 (by decide) (wk_i ?_)
        refine wi_ifeq_f ct_190_10 ki_1 (by decide) ?_
        refine wi_aload_0 ct_190_13 ?_
        refine wi_iload_2 ct_190_14 ?_
        refine wi_ic ct_190_15 kc_0 ?_
        refine wi_ic ct_190_16 kc_2 ?_
        refine wi_cv3 (ls' := [some _, some _, some _, some _]) ct_190_17 (Nat.le_of_ble_eq_true rfl) (by decide) (sT_31 hS) rfl (by decide) rfl rfl (Nat.le_of_ble_eq_true rfl) ?_
        refine c_in rfl ki_0 ki_2 (fun _ => wk_i ?_) (fun h => absurd h (by omega))
        refine wi_ifne_t ct_190_20 ki_1 (by decide) ?_
        refine wi_iload_2 ct_190_25 ?_
        refine wi_ifne_t ct_190_26 rfl (by omega) ?_
        refine wi_iload_2 ct_190_38 ?_
        refine wi_ic ct_190_39 kc_1 ?_
        refine wi_icne_t ct_190_40 rfl ki_1 (by omega) ?_
        refine wi_aload_0 ct_190_52 ?_
        refine wi_iload_1 ct_190_53 ?_
        refine wi_iload_3 ct_190_54 ?_
        refine wi_cv2 (ls' := [some _, some _, some _, none]) ct_190_55 (Nat.le_of_ble_eq_true rfl) (by decide) (sT_31 hS) rfl (by decide) rfl rfl (Nat.le_of_ble_eq_true rfl) ?_
        refine wi_aload_0 ct_189_0 ?_
        refine wi_gfr ct_189_1 (sT_31 hS) rfl (sR_31_2 hS) ?_
        refine wi_iload_1 ct_189_4 ?_
        refine wi_iald (x := fi 32 B) ct_189_5 (sT_32 hS) (sL_32 hS) (i_in hBn (by omega)) (i_cl (k := B) hBn (by omega)) (Eq.trans (up2_nq (by decide)) (Eq.trans (up2_nq (by decide)) (Eq.trans (up2_nq (by decide)) (Eq.trans (up2_nq (by decide)) (Eq.trans (up2_nq (by decide)) (Eq.trans (up2_nq (by decide)) (Eq.trans (up2_nq (by decide)) (Eq.trans (up2_nq (by decide)) (Eq.trans (up2_nq (by decide)) (Eq.trans (up2_nq (by decide)) (Eq.trans (up2_nq (by decide)) (Eq.trans (up2_nq (by decide)) (Eq.trans (up2_nq (by decide)) (up2_nq (by decide))))))))))))))) ?_
        refine wi_tsw (X := 4) (t := 73) ct_189_6 (by omega) rfl ?_
        refine wi_aload_0 ct_189_73 ?_
        refine wi_iload_1 ct_189_74 ?_
        refine wi_iload_2 ct_189_75 ?_
        refine wi_cv2 (ls' := [some _, some _, some _]) ct_189_76 (Nat.le_of_ble_eq_true rfl) (by decide) (sT_31 hS) rfl (by decide) rfl rfl (Nat.le_of_ble_eq_true rfl) ?_
        refine wi_aload_0 ct_188_0 ?_
        refine wi_ic ct_188_1 kc_12 ?_
        refine wi_cv1 (ls' := [some _, some _]) ct_188_3 (Nat.le_of_ble_eq_true rfl) (by decide) (sT_31 hS) rfl (by decide) rfl rfl (Nat.le_of_ble_eq_true rfl) ?_
        refine wi_aload_0 ct_182_0 ?_
        refine wi_gf (x := 0) ct_182_1 (sT_31 hS) rfl rfl up2_eq ?_
        refine wi_ic ct_182_4 kc_20 ?_
        refine wi_icge_f ct_182_6 ki_0 ki_20 (by decide) ?_
        refine wi_aload_0 ct_182_9 ?_
        refine wi_gfr ct_182_10 (sT_31 hS) rfl (sR_31_66 hS) ?_
        refine wi_aload_0 ct_182_13 ?_
        refine wi_gf (x := 0) ct_182_14 (sT_31 hS) rfl rfl up2_eq ?_
        refine wi_iload_1 ct_182_17 ?_
        refine wi_iast ct_182_18 (sT_67 hS) (sL_67 hS) (by decide) kn_c0 ?_
        refine wi_aload_0 ct_182_19 ?_
        refine wi_dup ct_182_20 rfl ?_
        refine wi_gf (x := 0) ct_182_21 (sT_31 hS) rfl rfl (Eq.trans (up2_nq (by decide)) up2_eq) ?_
        refine wi_ic ct_182_24 kc_1 ?_
        refine wi_iadd (z := 1) ct_182_25 (by decide) ?_
        refine wi_pf ct_182_26 (sT_31 hS) rfl ?_
        refine wi_ret ct_182_29 (wk_v ?_)
        refine wi_aload_0 ct_188_6 ?_
        refine wi_iload_1 ct_188_7 ?_
        refine wi_iload_2 ct_188_8 ?_
        refine wi_cv2 (ls' := [some _, some _, some _, none]) ct_188_9 (Nat.le_of_ble_eq_true rfl) (by decide) (sT_31 hS) rfl (by decide) rfl rfl (Nat.le_of_ble_eq_true rfl) ?_
        refine wi_aload_0 ct_187_0 ?_
        refine wi_gfr ct_187_1 (sT_31 hS) rfl (sR_31_2 hS) ?_
        refine wi_iload_1 ct_187_4 ?_
        refine wi_iald (x := fi 32 B) ct_187_5 (sT_32 hS) (sL_32 hS) (i_in hBn (by omega)) (i_cl (k := B) hBn (by omega)) (Eq.trans (up2_nq (by decide)) (Eq.trans (up2_nq (by decide)) (Eq.trans (up2_nq (by decide)) (Eq.trans (up2_nq (by decide)) (Eq.trans (up2_nq (by decide)) (Eq.trans (up2_nq (by decide)) (Eq.trans (up2_nq (by decide)) (Eq.trans (up2_nq (by decide)) (Eq.trans (up2_nq (by decide)) (Eq.trans (up2_nq (by decide)) (Eq.trans (up2_nq (by decide)) (Eq.trans (up2_nq (by decide)) (Eq.trans (up2_nq (by decide)) (Eq.trans (up2_nq (by decide)) (Eq.trans (up2_nq (by decide)) (up2_nq (by decide))))))))))))))))) ?_
        refine wi_lsw (X := 4) (t := 47) ct_187_6 (by omega) (by decide) ?_
        refine wi_aload_0 ct_187_47 ?_
        refine wi_ic ct_187_48 kc_51 ?_
        refine wi_cv1 (ls' := [some _, some _]) ct_187_50 (Nat.le_of_ble_eq_true rfl) (by decide) (sT_31 hS) rfl (by decide) rfl rfl (Nat.le_of_ble_eq_true rfl) ?_
        refine wi_aload_0 ct_182_0 ?_
        refine wi_gf (x := 1) ct_182_1 (sT_31 hS) rfl rfl up2_eq ?_
        refine wi_ic ct_182_4 kc_20 ?_
        refine wi_icge_f ct_182_6 ki_1 ki_20 (by decide) ?_
        refine wi_aload_0 ct_182_9 ?_
        refine wi_gfr ct_182_10 (sT_31 hS) rfl (sR_31_66 hS) ?_
        refine wi_aload_0 ct_182_13 ?_
        refine wi_gf (x := 1) ct_182_14 (sT_31 hS) rfl rfl up2_eq ?_
        refine wi_iload_1 ct_182_17 ?_
        refine wi_iast ct_182_18 (sT_67 hS) (sL_67 hS) (by decide) kn_c1 ?_
        refine wi_aload_0 ct_182_19 ?_
        refine wi_dup ct_182_20 rfl ?_
        refine wi_gf (x := 1) ct_182_21 (sT_31 hS) rfl rfl (Eq.trans (up2_nq (by decide)) up2_eq) ?_
        refine wi_ic ct_182_24 kc_1 ?_
        refine wi_iadd (z := 2) ct_182_25 (by decide) ?_
        refine wi_pf ct_182_26 (sT_31 hS) rfl ?_
        refine wi_ret ct_182_29 (wk_v ?_)
        refine wi_aload_0 ct_187_53 ?_
        refine wi_iload_1 ct_187_54 ?_
        refine wi_iload_2 ct_187_55 ?_
        refine wi_ic ct_187_56 kc_1 ?_
        refine wi_iadd ct_187_57 rfl ?_
        refine wi_cv2 (ls' := [some _, some _, some _]) ct_187_58 (Nat.le_of_ble_eq_true rfl) (by decide) (sT_31 hS) rfl (by decide) rfl rfl (Nat.le_of_ble_eq_true rfl) ?_
        refine wi_aload_0 ct_186_0 ?_
        refine wi_ic ct_186_1 kc_20 ?_
        refine wi_cv1 (ls' := [some _, some _]) ct_186_3 (Nat.le_of_ble_eq_true rfl) (by decide) (sT_31 hS) rfl (by decide) rfl rfl (Nat.le_of_ble_eq_true rfl) ?_
        refine wi_aload_0 ct_182_0 ?_
        refine wi_gf (x := 2) ct_182_1 (sT_31 hS) rfl rfl up2_eq ?_
        refine wi_ic ct_182_4 kc_20 ?_
        refine wi_icge_f ct_182_6 ki_2 ki_20 (by decide) ?_
        refine wi_aload_0 ct_182_9 ?_
        refine wi_gfr ct_182_10 (sT_31 hS) rfl (sR_31_66 hS) ?_
        refine wi_aload_0 ct_182_13 ?_
        refine wi_gf (x := 2) ct_182_14 (sT_31 hS) rfl rfl up2_eq ?_
        refine wi_iload_1 ct_182_17 ?_
        refine wi_iast ct_182_18 (sT_67 hS) (sL_67 hS) (by decide) kn_c2 ?_
        refine wi_aload_0 ct_182_19 ?_
        refine wi_dup ct_182_20 rfl ?_
        refine wi_gf (x := 2) ct_182_21 (sT_31 hS) rfl rfl (Eq.trans (up2_nq (by decide)) up2_eq) ?_
        refine wi_ic ct_182_24 kc_1 ?_
        refine wi_iadd (z := 3) ct_182_25 (by decide) ?_
        refine wi_pf ct_182_26 (sT_31 hS) rfl ?_
        refine wi_ret ct_182_29 (wk_v ?_)
        refine wi_aload_0 ct_186_6 ?_
        refine wi_iload_1 ct_186_7 ?_
        refine wi_iload_2 ct_186_8 ?_
        refine wi_cv2 (ls' := [some _, some _, some _]) ct_186_9 (Nat.le_of_ble_eq_true rfl) (by decide) (sT_31 hS) rfl (by decide) rfl rfl (Nat.le_of_ble_eq_true rfl) ?_
        refine wi_aload_0 ct_185_0 ?_
        refine wi_ic ct_185_1 kc_11 ?_
        refine wi_cv1 (ls' := [some _, some _]) ct_185_3 (Nat.le_of_ble_eq_true rfl) (by decide) (sT_31 hS) rfl (by decide) rfl rfl (Nat.le_of_ble_eq_true rfl) ?_
        refine wi_aload_0 ct_182_0 ?_
        refine wi_gf (x := 3) ct_182_1 (sT_31 hS) rfl rfl up2_eq ?_
        refine wi_ic ct_182_4 kc_20 ?_
        refine wi_icge_f ct_182_6 ki_3 ki_20 (by decide) ?_
        refine wi_aload_0 ct_182_9 ?_
        refine wi_gfr ct_182_10 (sT_31 hS) rfl (sR_31_66 hS) ?_
        refine wi_aload_0 ct_182_13 ?_
        refine wi_gf (x := 3) ct_182_14 (sT_31 hS) rfl rfl up2_eq ?_
        refine wi_iload_1 ct_182_17 ?_
        refine wi_iast ct_182_18 (sT_67 hS) (sL_67 hS) (by decide) kn_c3 ?_
        refine wi_aload_0 ct_182_19 ?_
        refine wi_dup ct_182_20 rfl ?_
        refine wi_gf (x := 3) ct_182_21 (sT_31 hS) rfl rfl (Eq.trans (up2_nq (by decide)) up2_eq) ?_
        refine wi_ic ct_182_24 kc_1 ?_
        refine wi_iadd (z := 4) ct_182_25 (by decide) ?_
        refine wi_pf ct_182_26 (sT_31 hS) rfl ?_
        refine wi_ret ct_182_29 (wk_v ?_)
        refine wi_aload_0 ct_185_6 ?_
        refine wi_iload_1 ct_185_7 ?_
        refine wi_iload_2 ct_185_8 ?_
        refine wi_cv2 (ls' := [some _, some _, some _]) ct_185_9 (Nat.le_of_ble_eq_true rfl) (by decide) (sT_31 hS) rfl (by decide) rfl rfl (Nat.le_of_ble_eq_true rfl) ?_
        refine wi_aload_0 ct_184_0 ?_
        refine wi_gfr ct_184_1 (sT_31 hS) rfl (sR_31_2 hS) ?_
        refine wi_iload_1 ct_184_4 ?_
        refine wi_iald (x := fi 32 B) ct_184_5 (sT_32 hS) (sL_32 hS) (i_in hBn (by omega)) (i_cl (k := B) hBn (by omega)) (Eq.trans (up2_nq (by decide)) (Eq.trans (up2_nq (by decide)) (Eq.trans (up2_nq (by decide)) (Eq.trans (up2_nq (by decide)) (Eq.trans (up2_nq (by decide)) (Eq.trans (up2_nq (by decide)) (Eq.trans (up2_nq (by decide)) (Eq.trans (up2_nq (by decide)) (Eq.trans (up2_nq (by decide)) (Eq.trans (up2_nq (by decide)) (Eq.trans (up2_nq (by decide)) (Eq.trans (up2_nq (by decide)) (Eq.trans (up2_nq (by decide)) (Eq.trans (up2_nq (by decide)) (Eq.trans (up2_nq (by decide)) (Eq.trans (up2_nq (by decide)) (Eq.trans (up2_nq (by decide)) (Eq.trans (up2_nq (by decide)) (Eq.trans (up2_nq (by decide)) (Eq.trans (up2_nq (by decide)) (Eq.trans (up2_nq (by decide)) (up2_nq (by decide))))))))))))))))))))))) ?_
        refine wi_tsw (X := 4) (t := 55) ct_184_6 (by omega) rfl ?_
        refine wi_aload_0 ct_184_55 ?_
        refine wi_ic ct_184_56 kc_50 ?_
        refine wi_cv1 (ls' := [some _, some _]) ct_184_58 (Nat.le_of_ble_eq_true rfl) (by decide) (sT_31 hS) rfl (by decide) rfl rfl (Nat.le_of_ble_eq_true rfl) ?_
        refine wi_aload_0 ct_182_0 ?_
        refine wi_gf (x := 4) ct_182_1 (sT_31 hS) rfl rfl up2_eq ?_
        refine wi_ic ct_182_4 kc_20 ?_
        refine wi_icge_f ct_182_6 ki_4 ki_20 (by decide) ?_
        refine wi_aload_0 ct_182_9 ?_
        refine wi_gfr ct_182_10 (sT_31 hS) rfl (sR_31_66 hS) ?_
        refine wi_aload_0 ct_182_13 ?_
        refine wi_gf (x := 4) ct_182_14 (sT_31 hS) rfl rfl up2_eq ?_
        refine wi_iload_1 ct_182_17 ?_
        refine wi_iast ct_182_18 (sT_67 hS) (sL_67 hS) (by decide) kn_c4 ?_
        refine wi_aload_0 ct_182_19 ?_
        refine wi_dup ct_182_20 rfl ?_
        refine wi_gf (x := 4) ct_182_21 (sT_31 hS) rfl rfl (Eq.trans (up2_nq (by decide)) up2_eq) ?_
        refine wi_ic ct_182_24 kc_1 ?_
        refine wi_iadd (z := 5) ct_182_25 (by decide) ?_
        refine wi_pf ct_182_26 (sT_31 hS) rfl ?_
        refine wi_ret ct_182_29 (wk_v ?_)
        refine wi_aload_0 ct_184_61 ?_
        refine wi_iload_1 ct_184_62 ?_
        refine wi_iload_2 ct_184_63 ?_
        refine wi_cv2 (ls' := [some _, some _, some _]) ct_184_64 (Nat.le_of_ble_eq_true rfl) (by decide) (sT_31 hS) rfl (by decide) rfl rfl (Nat.le_of_ble_eq_true rfl) ?_
        refine wi_aload_0 ct_183_0 ?_
        refine wi_ic ct_183_1 kc_10 ?_
        refine wi_cv1 (ls' := [some _, some _]) ct_183_3 (Nat.le_of_ble_eq_true rfl) (by decide) (sT_31 hS) rfl (by decide) rfl rfl (Nat.le_of_ble_eq_true rfl) ?_
        refine wi_aload_0 ct_182_0 ?_
        refine wi_gf (x := 5) ct_182_1 (sT_31 hS) rfl rfl up2_eq ?_
        refine wi_ic ct_182_4 kc_20 ?_
        refine wi_icge_f ct_182_6 ki_5 ki_20 (by decide) ?_
        refine wi_aload_0 ct_182_9 ?_
        refine wi_gfr ct_182_10 (sT_31 hS) rfl (sR_31_66 hS) ?_
        refine wi_aload_0 ct_182_13 ?_
        refine wi_gf (x := 5) ct_182_14 (sT_31 hS) rfl rfl up2_eq ?_
        refine wi_iload_1 ct_182_17 ?_
        refine wi_iast ct_182_18 (sT_67 hS) (sL_67 hS) (by decide) kn_c5 ?_
        refine wi_aload_0 ct_182_19 ?_
        refine wi_dup ct_182_20 rfl ?_
        refine wi_gf (x := 5) ct_182_21 (sT_31 hS) rfl rfl (Eq.trans (up2_nq (by decide)) up2_eq) ?_
        refine wi_ic ct_182_24 kc_1 ?_
        refine wi_iadd (z := 6) ct_182_25 (by decide) ?_
        refine wi_pf ct_182_26 (sT_31 hS) rfl ?_
        refine wi_ret ct_182_29 (wk_v ?_)
        refine wi_iload_2 ct_183_6 ?_
        refine wi_iload_1 ct_183_7 ?_
        refine wi_iadd ct_183_8 rfl ?_
        refine wi_iret ct_183_9 rfl (wk_i ?_)
        refine wi_ineg ct_184_67 rfl ?_
        refine wi_iret ct_184_68 rfl (wk_i ?_)
        refine wi_aload_0 ct_185_12 ?_
        refine wi_gfr ct_185_13 (sT_31 hS) rfl (sR_31_3 hS) ?_
        refine wi_iload_1 ct_185_16 ?_
        refine wi_iald (x := fi 33 B) ct_185_17 (sT_33 hS) (sL_33 hS) (i_in hBn (by omega)) (i_cl (k := B) hBn (by omega)) (Eq.trans (up2_nq (by decide)) (Eq.trans (up2_nq (by decide)) (Eq.trans (up2_nq (by decide)) (Eq.trans (up2_nq (by decide)) (Eq.trans (up2_nq (by decide)) (Eq.trans (up2_nq (by decide)) (Eq.trans (up2_nq (by decide)) (Eq.trans (up2_nq (by decide)) (Eq.trans (up2_nq (by decide)) (Eq.trans (up2_nq (by decide)) (Eq.trans (up2_nq (by decide)) (Eq.trans (up2_nq (by decide)) (Eq.trans (up2_nq (by decide)) (Eq.trans (up2_nq (by decide)) (Eq.trans (up2_nq (by decide)) (Eq.trans (up2_nq (by decide)) (Eq.trans (up2_nq (by decide)) (Eq.trans (up2_nq (by decide)) (Eq.trans (up2_nq (by decide)) (Eq.trans (up2_nq (by decide)) (Eq.trans (up2_nq (by decide)) (Eq.trans (up2_nq (by decide)) (Eq.trans (up2_nq (by decide)) (Eq.trans (up2_nq (by decide)) (Eq.trans (up2_nq (by decide)) (up2_nq (by decide))))))))))))))))))))))))))) ?_
        refine wi_isub ct_185_18 rfl ?_
        refine wi_iret ct_185_19 rfl (wk_i ?_)
        refine wi_ic ct_186_12 kc_6 ?_
        refine wi_ixor ct_186_14 rfl ?_
        refine wi_iret ct_186_15 rfl (wk_i ?_)
        refine wi_iret ct_187_61 rfl (wk_i ?_)
        refine wi_ic ct_188_12 kc_2 ?_
        refine wi_imul ct_188_13 rfl ?_
        refine wi_iret ct_188_14 rfl (wk_i ?_)
        refine wi_iret ct_189_79 rfl (wk_i ?_)
        refine wi_iret ct_190_58 rfl (wk_i ?_)
        refine wi_iceq_t ct_211_1062 rfl rfl (by omega) ?_
        refine kk own g _ fl (hR.act (fun q h1 h2 h3 => (Eq.trans (funext fun _ => up2_nq h2) (Eq.trans (funext fun _ => up2_nq h3) (Eq.trans (funext fun _ => up2_nq h2) (Eq.trans (funext fun _ => up2_nq h3) (Eq.trans (funext fun _ => up2_nq h2) (Eq.trans (funext fun _ => up2_nq h3) (Eq.trans (funext fun _ => up2_nq h2) (Eq.trans (funext fun _ => up2_nq h3) (Eq.trans (funext fun _ => up2_nq h2) (Eq.trans (funext fun _ => up2_nq h3) (Eq.trans (funext fun _ => up2_nq h2) (Eq.trans (funext fun _ => up2_nq h3) (Eq.trans (funext fun _ => up2_nq h2) (Eq.trans (funext fun _ => up2_nq h1) (Eq.trans (funext fun _ => up2_nq h1) (Eq.trans (funext fun _ => up2_nq h1) (Eq.trans (funext fun _ => up2_nq h1) (Eq.trans (funext fun _ => up2_nq h1) (Eq.trans (funext fun _ => up2_nq h1) (Eq.trans (funext fun _ => up2_nq h1) (Eq.trans (funext fun _ => up2_nq h1) (Eq.trans (funext fun _ => up2_nq h1) (Eq.trans (funext fun _ => up2_nq h1) (Eq.trans (funext fun _ => up2_nq h1) (Eq.trans (funext fun _ => up2_nq h1) (funext fun _ => up2_nq h1))))))))))))))))))))))))))) (fun j hj => (Eq.trans (up2_nj hj) (Eq.trans (up2_nq (by decide)) (Eq.trans (up2_nj hj) (Eq.trans (up2_nq (by decide)) (Eq.trans (up2_nj hj) (Eq.trans (up2_nq (by decide)) (Eq.trans (up2_nj hj) (Eq.trans (up2_nq (by decide)) (Eq.trans (up2_nj hj) (Eq.trans (up2_nq (by decide)) (Eq.trans (up2_nj hj) (Eq.trans (up2_nq (by decide)) (Eq.trans (up2_nj hj) (Eq.trans (up2_nq (by decide)) (Eq.trans (up2_nq (by decide)) (Eq.trans (up2_nq (by decide)) (Eq.trans (up2_nq (by decide)) (Eq.trans (up2_nq (by decide)) (Eq.trans (up2_nq (by decide)) (Eq.trans (up2_nq (by decide)) (Eq.trans (up2_nq (by decide)) (Eq.trans (up2_nq (by decide)) (Eq.trans (up2_nq (by decide)) (Eq.trans (up2_nq (by decide)) (Eq.trans (up2_nq (by decide)) (up2_nq (by decide)))))))))))))))))))))))))))) ⟨((Eq.trans (up2_nq (by decide)) (Eq.trans (up2_nq (by decide)) (Eq.trans (up2_nq (by decide)) (Eq.trans (up2_nq (by decide)) (Eq.trans (up2_nq (by decide)) (Eq.trans (up2_nq (by decide)) (Eq.trans (up2_nq (by decide)) (Eq.trans (up2_nq (by decide)) (Eq.trans (up2_nq (by decide)) (Eq.trans (up2_nq (by decide)) (Eq.trans (up2_nq (by decide)) (Eq.trans (up2_nq (by decide)) (Eq.trans (up2_nq (by decide)) (Eq.trans (up2_nj (by decide)) up2_eq))))))))))))))).trans (up2_eq).symm, by rw [up2_eq]; decide, by rw [up2_eq]; decide⟩ ?_) (by omega) (by omega)
        intro j hj hn
        rw [up2_eq] at hn
        replace hn : (j : Int) < 6 := hn
        match j, (by omega : j < 6) with
        | 0, _ => exact ((Eq.trans (up2_nq (by decide)) (Eq.trans (up2_nq (by decide)) (Eq.trans (up2_nq (by decide)) (Eq.trans (up2_nq (by decide)) (Eq.trans (up2_nq (by decide)) (Eq.trans (up2_nq (by decide)) (Eq.trans (up2_nq (by decide)) (Eq.trans (up2_nq (by decide)) (Eq.trans (up2_nq (by decide)) (Eq.trans (up2_nq (by decide)) (Eq.trans (up2_nq (by decide)) (Eq.trans (up2_nq (by decide)) (Eq.trans (up2_nq (by decide)) (Eq.trans (up2_nj (by decide)) (Eq.trans (up2_nj (by decide)) (Eq.trans (up2_nj (by decide)) (Eq.trans (up2_nj (by decide)) (Eq.trans (up2_nj (by decide)) (Eq.trans (up2_nj (by decide)) (Eq.trans (up2_nj (by decide)) (Eq.trans (up2_nj (by decide)) (Eq.trans (up2_nj (by decide)) (Eq.trans (up2_nj (by decide)) up2_eq)))))))))))))))))))))))).trans ((Eq.trans (up2_nq (by decide)) (Eq.trans (up2_nj (by decide)) (Eq.trans (up2_nq (by decide)) (Eq.trans (up2_nj (by decide)) (Eq.trans (up2_nq (by decide)) (Eq.trans (up2_nj (by decide)) (Eq.trans (up2_nq (by decide)) (Eq.trans (up2_nj (by decide)) (Eq.trans (up2_nq (by decide)) (Eq.trans (up2_nj (by decide)) (Eq.trans (up2_nq (by decide)) up2_eq)))))))))))).symm
        | 1, _ => exact ((Eq.trans (up2_nq (by decide)) (Eq.trans (up2_nq (by decide)) (Eq.trans (up2_nq (by decide)) (Eq.trans (up2_nq (by decide)) (Eq.trans (up2_nq (by decide)) (Eq.trans (up2_nq (by decide)) (Eq.trans (up2_nq (by decide)) (Eq.trans (up2_nq (by decide)) (Eq.trans (up2_nq (by decide)) (Eq.trans (up2_nq (by decide)) (Eq.trans (up2_nq (by decide)) (Eq.trans (up2_nq (by decide)) (Eq.trans (up2_nq (by decide)) (Eq.trans (up2_nj (by decide)) (Eq.trans (up2_nj (by decide)) (Eq.trans (up2_nj (by decide)) (Eq.trans (up2_nj (by decide)) (Eq.trans (up2_nj (by decide)) (Eq.trans (up2_nj (by decide)) (Eq.trans (up2_nj (by decide)) (Eq.trans (up2_nj (by decide)) up2_eq)))))))))))))))))))))).trans ((Eq.trans (up2_nq (by decide)) (Eq.trans (up2_nj (by decide)) (Eq.trans (up2_nq (by decide)) (Eq.trans (up2_nj (by decide)) (Eq.trans (up2_nq (by decide)) (Eq.trans (up2_nj (by decide)) (Eq.trans (up2_nq (by decide)) (Eq.trans (up2_nj (by decide)) (Eq.trans (up2_nq (by decide)) up2_eq)))))))))).symm
        | 2, _ => exact ((Eq.trans (up2_nq (by decide)) (Eq.trans (up2_nq (by decide)) (Eq.trans (up2_nq (by decide)) (Eq.trans (up2_nq (by decide)) (Eq.trans (up2_nq (by decide)) (Eq.trans (up2_nq (by decide)) (Eq.trans (up2_nq (by decide)) (Eq.trans (up2_nq (by decide)) (Eq.trans (up2_nq (by decide)) (Eq.trans (up2_nq (by decide)) (Eq.trans (up2_nq (by decide)) (Eq.trans (up2_nq (by decide)) (Eq.trans (up2_nq (by decide)) (Eq.trans (up2_nj (by decide)) (Eq.trans (up2_nj (by decide)) (Eq.trans (up2_nj (by decide)) (Eq.trans (up2_nj (by decide)) (Eq.trans (up2_nj (by decide)) (Eq.trans (up2_nj (by decide)) up2_eq)))))))))))))))))))).trans ((Eq.trans (up2_nq (by decide)) (Eq.trans (up2_nj (by decide)) (Eq.trans (up2_nq (by decide)) (Eq.trans (up2_nj (by decide)) (Eq.trans (up2_nq (by decide)) (Eq.trans (up2_nj (by decide)) (Eq.trans (up2_nq (by decide)) up2_eq)))))))).symm
        | 3, _ => exact ((Eq.trans (up2_nq (by decide)) (Eq.trans (up2_nq (by decide)) (Eq.trans (up2_nq (by decide)) (Eq.trans (up2_nq (by decide)) (Eq.trans (up2_nq (by decide)) (Eq.trans (up2_nq (by decide)) (Eq.trans (up2_nq (by decide)) (Eq.trans (up2_nq (by decide)) (Eq.trans (up2_nq (by decide)) (Eq.trans (up2_nq (by decide)) (Eq.trans (up2_nq (by decide)) (Eq.trans (up2_nq (by decide)) (Eq.trans (up2_nq (by decide)) (Eq.trans (up2_nj (by decide)) (Eq.trans (up2_nj (by decide)) (Eq.trans (up2_nj (by decide)) (Eq.trans (up2_nj (by decide)) up2_eq)))))))))))))))))).trans ((Eq.trans (up2_nq (by decide)) (Eq.trans (up2_nj (by decide)) (Eq.trans (up2_nq (by decide)) (Eq.trans (up2_nj (by decide)) (Eq.trans (up2_nq (by decide)) up2_eq)))))).symm
        | 4, _ => exact ((Eq.trans (up2_nq (by decide)) (Eq.trans (up2_nq (by decide)) (Eq.trans (up2_nq (by decide)) (Eq.trans (up2_nq (by decide)) (Eq.trans (up2_nq (by decide)) (Eq.trans (up2_nq (by decide)) (Eq.trans (up2_nq (by decide)) (Eq.trans (up2_nq (by decide)) (Eq.trans (up2_nq (by decide)) (Eq.trans (up2_nq (by decide)) (Eq.trans (up2_nq (by decide)) (Eq.trans (up2_nq (by decide)) (Eq.trans (up2_nq (by decide)) (Eq.trans (up2_nj (by decide)) (Eq.trans (up2_nj (by decide)) up2_eq)))))))))))))))).trans ((Eq.trans (up2_nq (by decide)) (Eq.trans (up2_nj (by decide)) (Eq.trans (up2_nq (by decide)) up2_eq)))).symm
        | 5, _ => exact ((Eq.trans (up2_nq (by decide)) (Eq.trans (up2_nq (by decide)) (Eq.trans (up2_nq (by decide)) (Eq.trans (up2_nq (by decide)) (Eq.trans (up2_nq (by decide)) (Eq.trans (up2_nq (by decide)) (Eq.trans (up2_nq (by decide)) (Eq.trans (up2_nq (by decide)) (Eq.trans (up2_nq (by decide)) (Eq.trans (up2_nq (by decide)) (Eq.trans (up2_nq (by decide)) (Eq.trans (up2_nq (by decide)) (Eq.trans (up2_nq (by decide)) up2_eq)))))))))))))).trans ((Eq.trans (up2_nq (by decide)) up2_eq)).symm
        | j + 6, h => exact absurd h (by omega)
      · skip
        refine wi_cv2 (ls' := [some _, some _, some _]) ct_95_77 (Nat.le_of_ble_eq_true rfl) (by decide) (ot.trans (by rw [hk36] <;> rfl)) rfl (by decide) rfl rfl (Nat.le_of_ble_eq_true rfl) ?_
        refine wi_ic ct_65_0 kc_60 ?_
        refine wi_aload_2 ct_65_2 ?_
        refine wi_cs2 (ls' := [some _, some _, none]) ct_65_3 (Nat.le_of_ble_eq_true rfl) rfl (Nat.le_of_ble_eq_true rfl) ?_
        refine wi_aload_1 ct_9_0 ?_
        refine wi_ic ct_9_1 kc_0 ?_
        refine wi_dup2 ct_9_2 rfl rfl ?_
        refine wi_iald (x := 0) ct_9_3 (sT_21 hS) (sL_21 hS) (by decide) kn_c0 up2_eq ?_
        refine wi_ic ct_9_4 kc_1 ?_
        refine wi_iadd (z := 1) ct_9_5 (by decide) ?_
        refine wi_iast ct_9_6 (sT_21 hS) (sL_21 hS) (by decide) kn_c0 ?_
        refine wi_aload_1 ct_9_7 ?_
        refine wi_ic ct_9_8 kc_0 ?_
        refine wi_iald (x := 1) ct_9_9 (sT_21 hS) (sL_21 hS) (by decide) kn_c0 up2_eq ?_
        refine wi_istore_2 rfl ct_9_10 ?_
        refine wi_iload_2 ct_9_11 ?_
        refine wi_ifle_f ct_9_12 ki_1 (by decide) ?_
        refine wi_iload_2 ct_9_15 ?_
        refine wi_aload_1 ct_9_16 ?_
        refine wi_len (z := 21) ct_9_17 (sT_21 hS) (by decide) (sL_21 hS) (by decide) ?_
        refine wi_icge_f ct_9_18 ki_1 ki_21 (by decide) ?_
        refine wi_aload_1 ct_9_21 ?_
        refine wi_iload_2 ct_9_22 ?_
        refine wi_iload_0 ct_9_23 ?_
        refine wi_iast ct_9_24 (sT_21 hS) (sL_21 hS) (by decide) kn_c1 ?_
        refine wi_ret ct_9_25 (wk_v ?_)
        refine wi_aload_0 ct_65_6 ?_
        refine wi_iload_1 ct_65_7 ?_
        refine wi_aload_0 ct_65_8 ?_
        refine wi_gf (x := a1) ct_65_9 (ot.trans (by rw [hk36] <;> rfl)) rfl rfl (Eq.trans (up2_nq (dn o72 (by decide))) (Eq.trans (up2_nq (dn o72 (by decide))) (Eq.trans (up2_nq (dn o72 (by decide))) hpn))) ?_
        refine wi_isub ct_65_12 rfl ?_
        refine wi_aload_2 ct_65_13 ?_
        refine wi_cp2 (ls' := [some _, some _, some _]) ct_65_14 (Nat.le_of_ble_eq_true rfl) (ot.trans (by rw [hk36] <;> rfl)) (by decide) rfl (Nat.le_of_ble_eq_true rfl) ?_
        refine wi_ic ct_8_0 kc_12 ?_
        refine wi_aload_2 ct_8_2 ?_
        refine wi_cs2 (ls' := [some _, some _, none]) ct_8_3 (Nat.le_of_ble_eq_true rfl) rfl (Nat.le_of_ble_eq_true rfl) ?_
        refine wi_aload_1 ct_9_0 ?_
        refine wi_ic ct_9_1 kc_0 ?_
        refine wi_dup2 ct_9_2 rfl rfl ?_
        refine wi_iald (x := 1) ct_9_3 (sT_21 hS) (sL_21 hS) (by decide) kn_c0 (Eq.trans (up2_nj (by decide)) up2_eq) ?_
        refine wi_ic ct_9_4 kc_1 ?_
        refine wi_iadd (z := 2) ct_9_5 (by decide) ?_
        refine wi_iast ct_9_6 (sT_21 hS) (sL_21 hS) (by decide) kn_c0 ?_
        refine wi_aload_1 ct_9_7 ?_
        refine wi_ic ct_9_8 kc_0 ?_
        refine wi_iald (x := 2) ct_9_9 (sT_21 hS) (sL_21 hS) (by decide) kn_c0 up2_eq ?_
        refine wi_istore_2 rfl ct_9_10 ?_
        refine wi_iload_2 ct_9_11 ?_
        refine wi_ifle_f ct_9_12 ki_2 (by decide) ?_
        refine wi_iload_2 ct_9_15 ?_
        refine wi_aload_1 ct_9_16 ?_
        refine wi_len (z := 21) ct_9_17 (sT_21 hS) (by decide) (sL_21 hS) (by decide) ?_
        refine wi_icge_f ct_9_18 ki_2 ki_21 (by decide) ?_
        refine wi_aload_1 ct_9_21 ?_
        refine wi_iload_2 ct_9_22 ?_
        refine wi_iload_0 ct_9_23 ?_
        refine wi_iast ct_9_24 (sT_21 hS) (sL_21 hS) (by decide) kn_c2 ?_
        refine wi_ret ct_9_25 (wk_v ?_)
        refine wi_aload_0 ct_8_6 ?_
        refine wi_iload_1 ct_8_7 ?_
        refine wi_aload_2 ct_8_8 ?_
        refine wi_cv2 (ls' := [some _, some _, some _]) ct_8_9 (Nat.le_of_ble_eq_true rfl) (by decide) (ot.trans (by rw [hk36] <;> rfl)) rfl (by decide) rfl rfl (Nat.le_of_ble_eq_true rfl) ?_
        refine wi_ic ct_7_0 kc_11 ?_
        refine wi_aload_2 ct_7_2 ?_
        refine wi_cs2 (ls' := [some _, some _, none]) ct_7_3 (Nat.le_of_ble_eq_true rfl) rfl (Nat.le_of_ble_eq_true rfl) ?_
        refine wi_aload_1 ct_9_0 ?_
        refine wi_ic ct_9_1 kc_0 ?_
        refine wi_dup2 ct_9_2 rfl rfl ?_
        refine wi_iald (x := 2) ct_9_3 (sT_21 hS) (sL_21 hS) (by decide) kn_c0 (Eq.trans (up2_nj (by decide)) up2_eq) ?_
        refine wi_ic ct_9_4 kc_1 ?_
        refine wi_iadd (z := 3) ct_9_5 (by decide) ?_
        refine wi_iast ct_9_6 (sT_21 hS) (sL_21 hS) (by decide) kn_c0 ?_
        refine wi_aload_1 ct_9_7 ?_
        refine wi_ic ct_9_8 kc_0 ?_
        refine wi_iald (x := 3) ct_9_9 (sT_21 hS) (sL_21 hS) (by decide) kn_c0 up2_eq ?_
        refine wi_istore_2 rfl ct_9_10 ?_
        refine wi_iload_2 ct_9_11 ?_
        refine wi_ifle_f ct_9_12 ki_3 (by decide) ?_
        refine wi_iload_2 ct_9_15 ?_
        refine wi_aload_1 ct_9_16 ?_
        refine wi_len (z := 21) ct_9_17 (sT_21 hS) (by decide) (sL_21 hS) (by decide) ?_
        refine wi_icge_f ct_9_18 ki_3 ki_21 (by decide) ?_
        refine wi_aload_1 ct_9_21 ?_
        refine wi_iload_2 ct_9_22 ?_
        refine wi_iload_0 ct_9_23 ?_
        refine wi_iast ct_9_24 (sT_21 hS) (sL_21 hS) (by decide) kn_c3 ?_
        refine wi_ret ct_9_25 (wk_v ?_)
        refine wi_aload_0 ct_7_6 ?_
        refine wi_iload_1 ct_7_7 ?_
        refine wi_aload_2 ct_7_8 ?_
        refine wi_cv2 (ls' := [some _, some _, some _]) ct_7_9 (Nat.le_of_ble_eq_true rfl) (by decide) (ot.trans (by rw [hk36] <;> rfl)) rfl (by decide) rfl rfl (Nat.le_of_ble_eq_true rfl) ?_
        refine wi_ic ct_15_0 kc_30 ?_
        refine wi_aload_2 ct_15_2 ?_
        refine wi_cs2 (ls' := [some _, some _, none]) ct_15_3 (Nat.le_of_ble_eq_true rfl) rfl (Nat.le_of_ble_eq_true rfl) ?_
        refine wi_aload_1 ct_9_0 ?_
        refine wi_ic ct_9_1 kc_0 ?_
        refine wi_dup2 ct_9_2 rfl rfl ?_
        refine wi_iald (x := 3) ct_9_3 (sT_21 hS) (sL_21 hS) (by decide) kn_c0 (Eq.trans (up2_nj (by decide)) up2_eq) ?_
        refine wi_ic ct_9_4 kc_1 ?_
        refine wi_iadd (z := 4) ct_9_5 (by decide) ?_
        refine wi_iast ct_9_6 (sT_21 hS) (sL_21 hS) (by decide) kn_c0 ?_
        refine wi_aload_1 ct_9_7 ?_
        refine wi_ic ct_9_8 kc_0 ?_
        refine wi_iald (x := 4) ct_9_9 (sT_21 hS) (sL_21 hS) (by decide) kn_c0 up2_eq ?_
        refine wi_istore_2 rfl ct_9_10 ?_
        refine wi_iload_2 ct_9_11 ?_
        refine wi_ifle_f ct_9_12 ki_4 (by decide) ?_
        refine wi_iload_2 ct_9_15 ?_
        refine wi_aload_1 ct_9_16 ?_
        refine wi_len (z := 21) ct_9_17 (sT_21 hS) (by decide) (sL_21 hS) (by decide) ?_
        refine wi_icge_f ct_9_18 ki_4 ki_21 (by decide) ?_
        refine wi_aload_1 ct_9_21 ?_
        refine wi_iload_2 ct_9_22 ?_
        refine wi_iload_0 ct_9_23 ?_
        refine wi_iast ct_9_24 (sT_21 hS) (sL_21 hS) (by decide) kn_c4 ?_
        refine wi_ret ct_9_25 (wk_v ?_)
        refine wi_aload_0 ct_15_6 ?_
        refine wi_iload_1 ct_15_7 ?_
        refine wi_ic ct_15_8 kc_3 ?_
        refine wi_imul ct_15_9 rfl ?_
        refine wi_aload_2 ct_15_10 ?_
        refine wi_cp2 (ls' := [some _, some _, some _]) ct_15_11 (Nat.le_of_ble_eq_true rfl) (ot.trans (by rw [hk36] <;> rfl)) (by decide) rfl (Nat.le_of_ble_eq_true rfl) ?_
        refine wi_ic ct_6_0 kc_10 ?_
        refine wi_aload_2 ct_6_2 ?_
        refine wi_cs2 (ls' := [some _, some _, none]) ct_6_3 (Nat.le_of_ble_eq_true rfl) rfl (Nat.le_of_ble_eq_true rfl) ?_
        refine wi_aload_1 ct_9_0 ?_
        refine wi_ic ct_9_1 kc_0 ?_
        refine wi_dup2 ct_9_2 rfl rfl ?_
        refine wi_iald (x := 4) ct_9_3 (sT_21 hS) (sL_21 hS) (by decide) kn_c0 (Eq.trans (up2_nj (by decide)) up2_eq) ?_
        refine wi_ic ct_9_4 kc_1 ?_
        refine wi_iadd (z := 5) ct_9_5 (by decide) ?_
        refine wi_iast ct_9_6 (sT_21 hS) (sL_21 hS) (by decide) kn_c0 ?_
        refine wi_aload_1 ct_9_7 ?_
        refine wi_ic ct_9_8 kc_0 ?_
        refine wi_iald (x := 5) ct_9_9 (sT_21 hS) (sL_21 hS) (by decide) kn_c0 up2_eq ?_
        refine wi_istore_2 rfl ct_9_10 ?_
        refine wi_iload_2 ct_9_11 ?_
        refine wi_ifle_f ct_9_12 ki_5 (by decide) ?_
        refine wi_iload_2 ct_9_15 ?_
        refine wi_aload_1 ct_9_16 ?_
        refine wi_len (z := 21) ct_9_17 (sT_21 hS) (by decide) (sL_21 hS) (by decide) ?_
        refine wi_icge_f ct_9_18 ki_5 ki_21 (by decide) ?_
        refine wi_aload_1 ct_9_21 ?_
        refine wi_iload_2 ct_9_22 ?_
        refine wi_iload_0 ct_9_23 ?_
        refine wi_iast ct_9_24 (sT_21 hS) (sL_21 hS) (by decide) kn_c5 ?_
        refine wi_ret ct_9_25 (wk_v ?_)
        refine wi_iload_1 ct_6_6 ?_
        refine wi_aload_0 ct_6_7 ?_
        refine wi_gf (x := a1) ct_6_8 (ot.trans (by rw [hk36] <;> rfl)) rfl rfl (Eq.trans (up2_nq (dn o72 (by decide))) (Eq.trans (up2_nq (dn o72 (by decide))) (Eq.trans (up2_nq (dn o72 (by decide))) (Eq.trans (up2_nq (dn o72 (by decide))) (Eq.trans (up2_nq (dn o72 (by decide))) (Eq.trans (up2_nq (dn o72 (by decide))) (Eq.trans (up2_nq (dn o72 (by decide))) (Eq.trans (up2_nq (dn o72 (by decide))) (Eq.trans (up2_nq (dn o72 (by decide))) (Eq.trans (up2_nq (dn o72 (by decide))) (Eq.trans (up2_nq (dn o72 (by decide))) hpn))))))))))) ?_
        refine wi_iadd ct_6_11 rfl ?_
        refine wi_iret ct_6_12 rfl (wk_i ?_)
        refine wi_iret ct_15_14 rfl (wk_i ?_)
        refine wi_aload_0 ct_7_12 ?_
        refine wi_gf (x := fi 33 B) ct_7_13 (ot.trans (by rw [hk36] <;> rfl)) rfl rfl (Eq.trans (up2_nq (dn o72 (by decide))) (Eq.trans (up2_nq (dn o72 (by decide))) (Eq.trans (up2_nq (dn o72 (by decide))) (Eq.trans (up2_nq (dn o72 (by decide))) (Eq.trans (up2_nq (dn o72 (by decide))) (Eq.trans (up2_nq (dn o72 (by decide))) (Eq.trans (up2_nq (dn o72 (by decide))) (Eq.trans (up2_nq (dn o72 (by decide))) (Eq.trans (up2_nq (dn o72 (by decide))) (Eq.trans (up2_nq (dn o72 (by decide))) (Eq.trans (up2_nq (dn o72 (by decide))) ov))))))))))) ?_
        refine wi_isub ct_7_16 rfl ?_
        refine wi_iret ct_7_17 rfl (wk_i ?_)
        refine wi_ic ct_8_12 kc_2 ?_
        refine wi_imul ct_8_13 rfl ?_
        refine wi_iret ct_8_14 rfl (wk_i ?_)
        refine wi_iret ct_65_17 rfl (wk_i ?_)
        refine wi_iret ct_95_80 rfl (wk_i ?_)
        refine wi_aload_2 ct_211_1043 ?_
        refine wi_aloadT_0 ct_211_1044 ?_
        refine wi_iload_3 ct_211_1045 ?_
        refine wi_ic ct_211_1046 kc_1 ?_
        refine wi_iadd ct_211_1047 rfl ?_
        refine wi_ialdT (j := I + 1) (x := a1) ct_211_1048 (sL_SC hS) (i_in (i_add hi ki_1 (by omega)) (by omega)) (i_cl (i_add hi ki_1 (by omega)) (by omega)) ((Eq.trans (up2_nq (by decide)) (Eq.trans (up2_nq (by decide)) (Eq.trans (up2_nq (by decide)) (Eq.trans (up2_nq (by decide)) (Eq.trans (up2_nq (by decide)) (Eq.trans (up2_nq (by decide)) (Eq.trans (up2_nq (by decide)) (Eq.trans (up2_nq (by decide)) (Eq.trans (up2_nq (by decide)) (Eq.trans (up2_nq (by decide)) (Eq.trans (up2_nq (by decide)) ((hsc _).trans e1))))))))))))) ?_
        refine wi_aloadT_0 ct_211_1049 ?_
        refine wi_iload_3 ct_211_1050 ?_
        refine wi_ic ct_211_1051 kc_2 ?_
        refine wi_iadd ct_211_1052 rfl ?_
        refine wi_ialdT (j := I + 2) (x := a2) ct_211_1053 (sL_SC hS) (i_in (i_add hi ki_2 (by omega)) (by omega)) (i_cl (i_add hi ki_2 (by omega)) (by omega)) ((Eq.trans (up2_nq (by decide)) (Eq.trans (up2_nq (by decide)) (Eq.trans (up2_nq (by decide)) (Eq.trans (up2_nq (by decide)) (Eq.trans (up2_nq (by decide)) (Eq.trans (up2_nq (by decide)) (Eq.trans (up2_nq (by decide)) (Eq.trans (up2_nq (by decide)) (Eq.trans (up2_nq (by decide)) (Eq.trans (up2_nq (by decide)) (Eq.trans (up2_nq (by decide)) ((hsc _).trans e2))))))))))))) ?_
        refine wi_aloadT_0 ct_211_1054 ?_
        refine wi_iload_3 ct_211_1055 ?_
        refine wi_ic ct_211_1056 kc_3 ?_
        refine wi_iadd ct_211_1057 rfl ?_
        refine wi_ialdT (j := I + 3) (x := a3) ct_211_1058 (sL_SC hS) (i_in (i_add hi ki_3 (by omega)) (by omega)) (i_cl (i_add hi ki_3 (by omega)) (by omega)) ((Eq.trans (up2_nq (by decide)) (Eq.trans (up2_nq (by decide)) (Eq.trans (up2_nq (by decide)) (Eq.trans (up2_nq (by decide)) (Eq.trans (up2_nq (by decide)) (Eq.trans (up2_nq (by decide)) (Eq.trans (up2_nq (by decide)) (Eq.trans (up2_nq (by decide)) (Eq.trans (up2_nq (by decide)) (Eq.trans (up2_nq (by decide)) (Eq.trans (up2_nq (by decide)) ((hsc _).trans e3))))))))))))) ?_
        refine wi_cv3 (ls' := [some _, some _, some _, some _]) ct_211_1059 (Nat.le_of_ble_eq_true rfl) (by decide) (sT_31 hS) rfl (by decide) rfl rfl (Nat.le_of_ble_eq_true rfl) ?_
        refine wi_aload_0 ct_190_0 ?_
        refine wi_ic ct_190_1 kc_0 ?_
        refine wi_pf ct_190_2 (sT_31 hS) rfl ?_
        refine wi_aload_0 ct_190_5 ?_
        refine wi_iload_1 ct_190_6 ?_
        refine wi_cv1 (ls' := [some _, some _]) ct_190_7 (Nat.le_of_ble_eq_true rfl) (by decide) (sT_31 hS) rfl (by decide) rfl rfl (Nat.le_of_ble_eq_true rfl) ?_
        refine wi_aload_0 ct_120_0 ?_
        refine wi_iload_1 ct_120_1 ?_
        refine wi_ic ct_120_2 kc_0 ?_
        refine wi_aload_0 ct_120_3 ?_
        refine wi_gf (x := fi 31 0) ct_120_4 (sT_31 hS) rfl rfl (Eq.trans (up2_nj (by decide)) (Eq.trans (up2_nq (by decide)) (Eq.trans (up2_nq (by decide)) (Eq.trans (up2_nq (by decide)) (Eq.trans (up2_nq (by decide)) (Eq.trans (up2_nq (by decide)) (Eq.trans (up2_nq (by decide)) (Eq.trans (up2_nq (by decide)) (Eq.trans (up2_nq (by decide)) (Eq.trans (up2_nq (by decide)) (Eq.trans (up2_nq (by decide)) (up2_nq (by decide))))))))))))) ?_
        refine wi_ic ct_120_7 kc_1 ?_
        refine wi_isub ct_120_8 rfl ?_
        refine wi_cv3 (ls' := [some _, some _, some _, some _]) ct_120_9 (Nat.le_of_ble_eq_true rfl) (by decide) (sT_31 hS) rfl (by decide) rfl rfl (Nat.le_of_ble_eq_true rfl) ?_
        refine c_in hBn ki_0 (i_sub rfl ki_1 (by omega)) (fun _ => wk_i ?_) (fun h => absurd h (by omega))
        refine wi_iret ct_120_12 (by decide) (wk_i ?_)
        refine wi_ifeq_f ct_190_10 ki_1 (by decide) ?_
        refine wi_aload_0 ct_190_13 ?_
        refine wi_iload_2 ct_190_14 ?_
        refine wi_ic ct_190_15 kc_0 ?_
        refine wi_ic ct_190_16 kc_2 ?_
        refine wi_cv3 (ls' := [some _, some _, some _, some _]) ct_190_17 (Nat.le_of_ble_eq_true rfl) (by decide) (sT_31 hS) rfl (by decide) rfl rfl (Nat.le_of_ble_eq_true rfl) ?_
        refine c_in rfl ki_0 ki_2 (fun _ => wk_i ?_) (fun h => absurd h (by omega))
        refine wi_ifne_t ct_190_20 ki_1 (by decide) ?_
        refine wi_iload_2 ct_190_25 ?_
        refine wi_ifne_t ct_190_26 rfl (by omega) ?_
        refine wi_iload_2 ct_190_38 ?_
        refine wi_ic ct_190_39 kc_1 ?_
        refine wi_icne_t ct_190_40 rfl ki_1 (by omega) ?_
        refine wi_aload_0 ct_190_52 ?_
        refine wi_iload_1 ct_190_53 ?_
        refine wi_iload_3 ct_190_54 ?_
        refine wi_cv2 (ls' := [some _, some _, some _, none]) ct_190_55 (Nat.le_of_ble_eq_true rfl) (by decide) (sT_31 hS) rfl (by decide) rfl rfl (Nat.le_of_ble_eq_true rfl) ?_
        refine wi_aload_0 ct_189_0 ?_
        refine wi_gfr ct_189_1 (sT_31 hS) rfl (sR_31_2 hS) ?_
        refine wi_iload_1 ct_189_4 ?_
        refine wi_iald (x := fi 32 B) ct_189_5 (sT_32 hS) (sL_32 hS) (i_in hBn (by omega)) (i_cl (k := B) hBn (by omega)) (Eq.trans (up2_nq (by decide)) (Eq.trans (up2_nq (by decide)) (Eq.trans (up2_nq (by decide)) (Eq.trans (up2_nq (by decide)) (Eq.trans (up2_nq (by decide)) (Eq.trans (up2_nq (by decide)) (Eq.trans (up2_nq (by decide)) (Eq.trans (up2_nq (by decide)) (Eq.trans (up2_nq (by decide)) (Eq.trans (up2_nq (by decide)) (Eq.trans (up2_nq (by decide)) (up2_nq (by decide))))))))))))) ?_
        refine wi_tsw (X := 5) (t := 58) ct_189_6 (by omega) rfl ?_
        refine wi_aload_0 ct_189_58 ?_
        refine wi_ic ct_189_59 kc_60 ?_
        refine wi_cv1 (ls' := [some _, some _]) ct_189_61 (Nat.le_of_ble_eq_true rfl) (by decide) (sT_31 hS) rfl (by decide) rfl rfl (Nat.le_of_ble_eq_true rfl) ?_
        refine wi_aload_0 ct_182_0 ?_
        refine wi_gf (x := 0) ct_182_1 (sT_31 hS) rfl rfl up2_eq ?_
        refine wi_ic ct_182_4 kc_20 ?_
        refine wi_icge_f ct_182_6 ki_0 ki_20 (by decide) ?_
        refine wi_aload_0 ct_182_9 ?_
        refine wi_gfr ct_182_10 (sT_31 hS) rfl (sR_31_66 hS) ?_
        refine wi_aload_0 ct_182_13 ?_
        refine wi_gf (x := 0) ct_182_14 (sT_31 hS) rfl rfl up2_eq ?_
        refine wi_iload_1 ct_182_17 ?_
        refine wi_iast ct_182_18 (sT_67 hS) (sL_67 hS) (by decide) kn_c0 ?_
        refine wi_aload_0 ct_182_19 ?_
        refine wi_dup ct_182_20 rfl ?_
        refine wi_gf (x := 0) ct_182_21 (sT_31 hS) rfl rfl (Eq.trans (up2_nq (by decide)) up2_eq) ?_
        refine wi_ic ct_182_24 kc_1 ?_
        refine wi_iadd (z := 1) ct_182_25 (by decide) ?_
        refine wi_pf ct_182_26 (sT_31 hS) rfl ?_
        refine wi_ret ct_182_29 (wk_v ?_)
        refine wi_aload_0 ct_189_64 ?_
        refine wi_iload_1 ct_189_65 ?_
        refine wi_iload_2 ct_189_66 ?_
        refine wi_iload_1 ct_189_67 ?_
        refine wi_isub ct_189_68 rfl ?_
        refine wi_cv2 (ls' := [some _, some _, some _]) ct_189_69 (Nat.le_of_ble_eq_true rfl) (by decide) (sT_31 hS) rfl (by decide) rfl rfl (Nat.le_of_ble_eq_true rfl) ?_
        refine wi_aload_0 ct_188_0 ?_
        refine wi_ic ct_188_1 kc_12 ?_
        refine wi_cv1 (ls' := [some _, some _]) ct_188_3 (Nat.le_of_ble_eq_true rfl) (by decide) (sT_31 hS) rfl (by decide) rfl rfl (Nat.le_of_ble_eq_true rfl) ?_
        refine wi_aload_0 ct_182_0 ?_
        refine wi_gf (x := 1) ct_182_1 (sT_31 hS) rfl rfl up2_eq ?_
        refine wi_ic ct_182_4 kc_20 ?_
        refine wi_icge_f ct_182_6 ki_1 ki_20 (by decide) ?_
        refine wi_aload_0 ct_182_9 ?_
        refine wi_gfr ct_182_10 (sT_31 hS) rfl (sR_31_66 hS) ?_
        refine wi_aload_0 ct_182_13 ?_
        refine wi_gf (x := 1) ct_182_14 (sT_31 hS) rfl rfl up2_eq ?_
        refine wi_iload_1 ct_182_17 ?_
        refine wi_iast ct_182_18 (sT_67 hS) (sL_67 hS) (by decide) kn_c1 ?_
        refine wi_aload_0 ct_182_19 ?_
        refine wi_dup ct_182_20 rfl ?_
        refine wi_gf (x := 1) ct_182_21 (sT_31 hS) rfl rfl (Eq.trans (up2_nq (by decide)) up2_eq) ?_
        refine wi_ic ct_182_24 kc_1 ?_
        refine wi_iadd (z := 2) ct_182_25 (by decide) ?_
        refine wi_pf ct_182_26 (sT_31 hS) rfl ?_
        refine wi_ret ct_182_29 (wk_v ?_)
        refine wi_aload_0 ct_188_6 ?_
        refine wi_iload_1 ct_188_7 ?_
        refine wi_iload_2 ct_188_8 ?_
        refine wi_cv2 (ls' := [some _, some _, some _, none]) ct_188_9 (Nat.le_of_ble_eq_true rfl) (by decide) (sT_31 hS) rfl (by decide) rfl rfl (Nat.le_of_ble_eq_true rfl) ?_
        refine wi_aload_0 ct_187_0 ?_
        refine wi_gfr ct_187_1 (sT_31 hS) rfl (sR_31_2 hS) ?_
        refine wi_iload_1 ct_187_4 ?_
        refine wi_iald (x := fi 32 B) ct_187_5 (sT_32 hS) (sL_32 hS) (i_in hBn (by omega)) (i_cl (k := B) hBn (by omega)) (Eq.trans (up2_nq (by decide)) (Eq.trans (up2_nq (by decide)) (Eq.trans (up2_nq (by decide)) (Eq.trans (up2_nq (by decide)) (Eq.trans (up2_nq (by decide)) (Eq.trans (up2_nq (by decide)) (Eq.trans (up2_nq (by decide)) (Eq.trans (up2_nq (by decide)) (Eq.trans (up2_nq (by decide)) (Eq.trans (up2_nq (by decide)) (Eq.trans (up2_nq (by decide)) (Eq.trans (up2_nq (by decide)) (Eq.trans (up2_nq (by decide)) (Eq.trans (up2_nq (by decide)) (Eq.trans (up2_nq (by decide)) (up2_nq (by decide))))))))))))))))) ?_
        refine wi_lsw (X := 5) (t := 84) ct_187_6 (by omega) (by decide) ?_
        refine wi_aload_0 ct_187_84 ?_
        refine wi_iload_1 ct_187_85 ?_
        refine wi_iload_2 ct_187_86 ?_
        refine wi_cv2 (ls' := [some _, some _, some _]) ct_187_87 (Nat.le_of_ble_eq_true rfl) (by decide) (sT_31 hS) rfl (by decide) rfl rfl (Nat.le_of_ble_eq_true rfl) ?_
        refine wi_aload_0 ct_185_0 ?_
        refine wi_ic ct_185_1 kc_11 ?_
        refine wi_cv1 (ls' := [some _, some _]) ct_185_3 (Nat.le_of_ble_eq_true rfl) (by decide) (sT_31 hS) rfl (by decide) rfl rfl (Nat.le_of_ble_eq_true rfl) ?_
        refine wi_aload_0 ct_182_0 ?_
        refine wi_gf (x := 2) ct_182_1 (sT_31 hS) rfl rfl up2_eq ?_
        refine wi_ic ct_182_4 kc_20 ?_
        refine wi_icge_f ct_182_6 ki_2 ki_20 (by decide) ?_
        refine wi_aload_0 ct_182_9 ?_
        refine wi_gfr ct_182_10 (sT_31 hS) rfl (sR_31_66 hS) ?_
        refine wi_aload_0 ct_182_13 ?_
        refine wi_gf (x := 2) ct_182_14 (sT_31 hS) rfl rfl up2_eq ?_
        refine wi_iload_1 ct_182_17 ?_
        refine wi_iast ct_182_18 (sT_67 hS) (sL_67 hS) (by decide) kn_c2 ?_
        refine wi_aload_0 ct_182_19 ?_
        refine wi_dup ct_182_20 rfl ?_
        refine wi_gf (x := 2) ct_182_21 (sT_31 hS) rfl rfl (Eq.trans (up2_nq (by decide)) up2_eq) ?_
        refine wi_ic ct_182_24 kc_1 ?_
        refine wi_iadd (z := 3) ct_182_25 (by decide) ?_
        refine wi_pf ct_182_26 (sT_31 hS) rfl ?_
        refine wi_ret ct_182_29 (wk_v ?_)
        refine wi_aload_0 ct_185_6 ?_
        refine wi_iload_1 ct_185_7 ?_
        refine wi_iload_2 ct_185_8 ?_
        refine wi_cv2 (ls' := [some _, some _, some _]) ct_185_9 (Nat.le_of_ble_eq_true rfl) (by decide) (sT_31 hS) rfl (by decide) rfl rfl (Nat.le_of_ble_eq_true rfl) ?_
        refine wi_aload_0 ct_184_0 ?_
        refine wi_gfr ct_184_1 (sT_31 hS) rfl (sR_31_2 hS) ?_
        refine wi_iload_1 ct_184_4 ?_
        refine wi_iald (x := fi 32 B) ct_184_5 (sT_32 hS) (sL_32 hS) (i_in hBn (by omega)) (i_cl (k := B) hBn (by omega)) (Eq.trans (up2_nq (by decide)) (Eq.trans (up2_nq (by decide)) (Eq.trans (up2_nq (by decide)) (Eq.trans (up2_nq (by decide)) (Eq.trans (up2_nq (by decide)) (Eq.trans (up2_nq (by decide)) (Eq.trans (up2_nq (by decide)) (Eq.trans (up2_nq (by decide)) (Eq.trans (up2_nq (by decide)) (Eq.trans (up2_nq (by decide)) (Eq.trans (up2_nq (by decide)) (Eq.trans (up2_nq (by decide)) (Eq.trans (up2_nq (by decide)) (Eq.trans (up2_nq (by decide)) (Eq.trans (up2_nq (by decide)) (Eq.trans (up2_nq (by decide)) (Eq.trans (up2_nq (by decide)) (up2_nq (by decide))))))))))))))))))) ?_
        refine wi_tsw (X := 5) (t := 40) ct_184_6 (by omega) rfl ?_
        refine wi_aload_0 ct_184_40 ?_
        refine wi_ic ct_184_41 kc_30 ?_
        refine wi_cv1 (ls' := [some _, some _]) ct_184_43 (Nat.le_of_ble_eq_true rfl) (by decide) (sT_31 hS) rfl (by decide) rfl rfl (Nat.le_of_ble_eq_true rfl) ?_
        refine wi_aload_0 ct_182_0 ?_
        refine wi_gf (x := 3) ct_182_1 (sT_31 hS) rfl rfl up2_eq ?_
        refine wi_ic ct_182_4 kc_20 ?_
        refine wi_icge_f ct_182_6 ki_3 ki_20 (by decide) ?_
        refine wi_aload_0 ct_182_9 ?_
        refine wi_gfr ct_182_10 (sT_31 hS) rfl (sR_31_66 hS) ?_
        refine wi_aload_0 ct_182_13 ?_
        refine wi_gf (x := 3) ct_182_14 (sT_31 hS) rfl rfl up2_eq ?_
        refine wi_iload_1 ct_182_17 ?_
        refine wi_iast ct_182_18 (sT_67 hS) (sL_67 hS) (by decide) kn_c3 ?_
        refine wi_aload_0 ct_182_19 ?_
        refine wi_dup ct_182_20 rfl ?_
        refine wi_gf (x := 3) ct_182_21 (sT_31 hS) rfl rfl (Eq.trans (up2_nq (by decide)) up2_eq) ?_
        refine wi_ic ct_182_24 kc_1 ?_
        refine wi_iadd (z := 4) ct_182_25 (by decide) ?_
        refine wi_pf ct_182_26 (sT_31 hS) rfl ?_
        refine wi_ret ct_182_29 (wk_v ?_)
        refine wi_aload_0 ct_184_46 ?_
        refine wi_iload_1 ct_184_47 ?_
        refine wi_iload_2 ct_184_48 ?_
        refine wi_ic ct_184_49 kc_3 ?_
        refine wi_imul ct_184_50 rfl ?_
        refine wi_cv2 (ls' := [some _, some _, some _]) ct_184_51 (Nat.le_of_ble_eq_true rfl) (by decide) (sT_31 hS) rfl (by decide) rfl rfl (Nat.le_of_ble_eq_true rfl) ?_
        refine wi_aload_0 ct_183_0 ?_
        refine wi_ic ct_183_1 kc_10 ?_
        refine wi_cv1 (ls' := [some _, some _]) ct_183_3 (Nat.le_of_ble_eq_true rfl) (by decide) (sT_31 hS) rfl (by decide) rfl rfl (Nat.le_of_ble_eq_true rfl) ?_
        refine wi_aload_0 ct_182_0 ?_
        refine wi_gf (x := 4) ct_182_1 (sT_31 hS) rfl rfl up2_eq ?_
        refine wi_ic ct_182_4 kc_20 ?_
        refine wi_icge_f ct_182_6 ki_4 ki_20 (by decide) ?_
        refine wi_aload_0 ct_182_9 ?_
        refine wi_gfr ct_182_10 (sT_31 hS) rfl (sR_31_66 hS) ?_
        refine wi_aload_0 ct_182_13 ?_
        refine wi_gf (x := 4) ct_182_14 (sT_31 hS) rfl rfl up2_eq ?_
        refine wi_iload_1 ct_182_17 ?_
        refine wi_iast ct_182_18 (sT_67 hS) (sL_67 hS) (by decide) kn_c4 ?_
        refine wi_aload_0 ct_182_19 ?_
        refine wi_dup ct_182_20 rfl ?_
        refine wi_gf (x := 4) ct_182_21 (sT_31 hS) rfl rfl (Eq.trans (up2_nq (by decide)) up2_eq) ?_
        refine wi_ic ct_182_24 kc_1 ?_
        refine wi_iadd (z := 5) ct_182_25 (by decide) ?_
        refine wi_pf ct_182_26 (sT_31 hS) rfl ?_
        refine wi_ret ct_182_29 (wk_v ?_)
        refine wi_iload_2 ct_183_6 ?_
        refine wi_iload_1 ct_183_7 ?_
        refine wi_iadd ct_183_8 rfl ?_
        refine wi_iret ct_183_9 rfl (wk_i ?_)
        refine wi_iret ct_184_54 rfl (wk_i ?_)
        refine wi_aload_0 ct_185_12 ?_
        refine wi_gfr ct_185_13 (sT_31 hS) rfl (sR_31_3 hS) ?_
        refine wi_iload_1 ct_185_16 ?_
        refine wi_iald (x := fi 33 B) ct_185_17 (sT_33 hS) (sL_33 hS) (i_in hBn (by omega)) (i_cl (k := B) hBn (by omega)) (Eq.trans (up2_nq (by decide)) (Eq.trans (up2_nq (by decide)) (Eq.trans (up2_nq (by decide)) (Eq.trans (up2_nq (by decide)) (Eq.trans (up2_nq (by decide)) (Eq.trans (up2_nq (by decide)) (Eq.trans (up2_nq (by decide)) (Eq.trans (up2_nq (by decide)) (Eq.trans (up2_nq (by decide)) (Eq.trans (up2_nq (by decide)) (Eq.trans (up2_nq (by decide)) (Eq.trans (up2_nq (by decide)) (Eq.trans (up2_nq (by decide)) (Eq.trans (up2_nq (by decide)) (Eq.trans (up2_nq (by decide)) (Eq.trans (up2_nq (by decide)) (Eq.trans (up2_nq (by decide)) (Eq.trans (up2_nq (by decide)) (Eq.trans (up2_nq (by decide)) (Eq.trans (up2_nq (by decide)) (Eq.trans (up2_nq (by decide)) (up2_nq (by decide))))))))))))))))))))))) ?_
        refine wi_isub ct_185_18 rfl ?_
        refine wi_iret ct_185_19 rfl (wk_i ?_)
        refine wi_iret ct_187_90 rfl (wk_i ?_)
        refine wi_ic ct_188_12 kc_2 ?_
        refine wi_imul ct_188_13 rfl ?_
        refine wi_iret ct_188_14 rfl (wk_i ?_)
        refine wi_iret ct_189_72 rfl (wk_i ?_)
        refine wi_iret ct_190_58 rfl (wk_i ?_)
        refine wi_iceq_t ct_211_1062 rfl rfl (by omega) ?_
        refine kk own g _ fl (hR.act (fun q h1 h2 h3 => (Eq.trans (funext fun _ => up2_nq h2) (Eq.trans (funext fun _ => up2_nq h3) (Eq.trans (funext fun _ => up2_nq h2) (Eq.trans (funext fun _ => up2_nq h3) (Eq.trans (funext fun _ => up2_nq h2) (Eq.trans (funext fun _ => up2_nq h3) (Eq.trans (funext fun _ => up2_nq h2) (Eq.trans (funext fun _ => up2_nq h3) (Eq.trans (funext fun _ => up2_nq h2) (Eq.trans (funext fun _ => up2_nq h3) (Eq.trans (funext fun _ => up2_nq h2) (Eq.trans (funext fun _ => up2_nq h1) (Eq.trans (funext fun _ => up2_nq h1) (Eq.trans (funext fun _ => up2_nq h1) (Eq.trans (funext fun _ => up2_nq h1) (Eq.trans (funext fun _ => up2_nq h1) (Eq.trans (funext fun _ => up2_nq h1) (Eq.trans (funext fun _ => up2_nq h1) (Eq.trans (funext fun _ => up2_nq h1) (Eq.trans (funext fun _ => up2_nq h1) (Eq.trans (funext fun _ => up2_nq h1) (funext fun _ => up2_nq h1))))))))))))))))))))))) (fun j hj => (Eq.trans (up2_nj hj) (Eq.trans (up2_nq (by decide)) (Eq.trans (up2_nj hj) (Eq.trans (up2_nq (by decide)) (Eq.trans (up2_nj hj) (Eq.trans (up2_nq (by decide)) (Eq.trans (up2_nj hj) (Eq.trans (up2_nq (by decide)) (Eq.trans (up2_nj hj) (Eq.trans (up2_nq (by decide)) (Eq.trans (up2_nj hj) (Eq.trans (up2_nq (by decide)) (Eq.trans (up2_nq (by decide)) (Eq.trans (up2_nq (by decide)) (Eq.trans (up2_nq (by decide)) (Eq.trans (up2_nq (by decide)) (Eq.trans (up2_nq (by decide)) (Eq.trans (up2_nq (by decide)) (Eq.trans (up2_nq (by decide)) (Eq.trans (up2_nq (by decide)) (Eq.trans (up2_nq (by decide)) (up2_nq (by decide)))))))))))))))))))))))) ⟨((Eq.trans (up2_nq (by decide)) (Eq.trans (up2_nq (by decide)) (Eq.trans (up2_nq (by decide)) (Eq.trans (up2_nq (by decide)) (Eq.trans (up2_nq (by decide)) (Eq.trans (up2_nq (by decide)) (Eq.trans (up2_nq (by decide)) (Eq.trans (up2_nq (by decide)) (Eq.trans (up2_nq (by decide)) (Eq.trans (up2_nq (by decide)) (Eq.trans (up2_nq (by decide)) (Eq.trans (up2_nj (by decide)) up2_eq))))))))))))).trans (up2_eq).symm, by rw [up2_eq]; decide, by rw [up2_eq]; decide⟩ ?_) (by omega) (by omega)
        intro j hj hn
        rw [up2_eq] at hn
        replace hn : (j : Int) < 5 := hn
        match j, (by omega : j < 5) with
        | 0, _ => exact ((Eq.trans (up2_nq (by decide)) (Eq.trans (up2_nq (by decide)) (Eq.trans (up2_nq (by decide)) (Eq.trans (up2_nq (by decide)) (Eq.trans (up2_nq (by decide)) (Eq.trans (up2_nq (by decide)) (Eq.trans (up2_nq (by decide)) (Eq.trans (up2_nq (by decide)) (Eq.trans (up2_nq (by decide)) (Eq.trans (up2_nq (by decide)) (Eq.trans (up2_nq (by decide)) (Eq.trans (up2_nj (by decide)) (Eq.trans (up2_nj (by decide)) (Eq.trans (up2_nj (by decide)) (Eq.trans (up2_nj (by decide)) (Eq.trans (up2_nj (by decide)) (Eq.trans (up2_nj (by decide)) (Eq.trans (up2_nj (by decide)) (Eq.trans (up2_nj (by decide)) up2_eq)))))))))))))))))))).trans ((Eq.trans (up2_nq (by decide)) (Eq.trans (up2_nj (by decide)) (Eq.trans (up2_nq (by decide)) (Eq.trans (up2_nj (by decide)) (Eq.trans (up2_nq (by decide)) (Eq.trans (up2_nj (by decide)) (Eq.trans (up2_nq (by decide)) (Eq.trans (up2_nj (by decide)) (Eq.trans (up2_nq (by decide)) up2_eq)))))))))).symm
        | 1, _ => exact ((Eq.trans (up2_nq (by decide)) (Eq.trans (up2_nq (by decide)) (Eq.trans (up2_nq (by decide)) (Eq.trans (up2_nq (by decide)) (Eq.trans (up2_nq (by decide)) (Eq.trans (up2_nq (by decide)) (Eq.trans (up2_nq (by decide)) (Eq.trans (up2_nq (by decide)) (Eq.trans (up2_nq (by decide)) (Eq.trans (up2_nq (by decide)) (Eq.trans (up2_nq (by decide)) (Eq.trans (up2_nj (by decide)) (Eq.trans (up2_nj (by decide)) (Eq.trans (up2_nj (by decide)) (Eq.trans (up2_nj (by decide)) (Eq.trans (up2_nj (by decide)) (Eq.trans (up2_nj (by decide)) up2_eq)))))))))))))))))).trans ((Eq.trans (up2_nq (by decide)) (Eq.trans (up2_nj (by decide)) (Eq.trans (up2_nq (by decide)) (Eq.trans (up2_nj (by decide)) (Eq.trans (up2_nq (by decide)) (Eq.trans (up2_nj (by decide)) (Eq.trans (up2_nq (by decide)) up2_eq)))))))).symm
        | 2, _ => exact ((Eq.trans (up2_nq (by decide)) (Eq.trans (up2_nq (by decide)) (Eq.trans (up2_nq (by decide)) (Eq.trans (up2_nq (by decide)) (Eq.trans (up2_nq (by decide)) (Eq.trans (up2_nq (by decide)) (Eq.trans (up2_nq (by decide)) (Eq.trans (up2_nq (by decide)) (Eq.trans (up2_nq (by decide)) (Eq.trans (up2_nq (by decide)) (Eq.trans (up2_nq (by decide)) (Eq.trans (up2_nj (by decide)) (Eq.trans (up2_nj (by decide)) (Eq.trans (up2_nj (by decide)) (Eq.trans (up2_nj (by decide)) up2_eq)))))))))))))))).trans ((Eq.trans (up2_nq (by decide)) (Eq.trans (up2_nj (by decide)) (Eq.trans (up2_nq (by decide)) (Eq.trans (up2_nj (by decide)) (Eq.trans (up2_nq (by decide)) up2_eq)))))).symm
        | 3, _ => exact ((Eq.trans (up2_nq (by decide)) (Eq.trans (up2_nq (by decide)) (Eq.trans (up2_nq (by decide)) (Eq.trans (up2_nq (by decide)) (Eq.trans (up2_nq (by decide)) (Eq.trans (up2_nq (by decide)) (Eq.trans (up2_nq (by decide)) (Eq.trans (up2_nq (by decide)) (Eq.trans (up2_nq (by decide)) (Eq.trans (up2_nq (by decide)) (Eq.trans (up2_nq (by decide)) (Eq.trans (up2_nj (by decide)) (Eq.trans (up2_nj (by decide)) up2_eq)))))))))))))).trans ((Eq.trans (up2_nq (by decide)) (Eq.trans (up2_nj (by decide)) (Eq.trans (up2_nq (by decide)) up2_eq)))).symm
        | 4, _ => exact ((Eq.trans (up2_nq (by decide)) (Eq.trans (up2_nq (by decide)) (Eq.trans (up2_nq (by decide)) (Eq.trans (up2_nq (by decide)) (Eq.trans (up2_nq (by decide)) (Eq.trans (up2_nq (by decide)) (Eq.trans (up2_nq (by decide)) (Eq.trans (up2_nq (by decide)) (Eq.trans (up2_nq (by decide)) (Eq.trans (up2_nq (by decide)) (Eq.trans (up2_nq (by decide)) up2_eq)))))))))))).trans ((Eq.trans (up2_nq (by decide)) up2_eq)).symm
        | j + 5, h => exact absurd h (by omega)
      · skip
        refine wi_cv2 (ls' := [some _, some _, some _]) ct_95_77 (Nat.le_of_ble_eq_true rfl) (by decide) (ot.trans (by rw [hk37] <;> rfl)) rfl (by decide) rfl rfl (Nat.le_of_ble_eq_true rfl) ?_
        refine wi_ic ct_29_0 kc_40 ?_
        refine wi_aload_2 ct_29_2 ?_
        refine wi_cs2 (ls' := [some _, some _, none]) ct_29_3 (Nat.le_of_ble_eq_true rfl) rfl (Nat.le_of_ble_eq_true rfl) ?_
        refine wi_aload_1 ct_9_0 ?_
        refine wi_ic ct_9_1 kc_0 ?_
        refine wi_dup2 ct_9_2 rfl rfl ?_
        refine wi_iald (x := 0) ct_9_3 (sT_21 hS) (sL_21 hS) (by decide) kn_c0 up2_eq ?_
        refine wi_ic ct_9_4 kc_1 ?_
        refine wi_iadd (z := 1) ct_9_5 (by decide) ?_
        refine wi_iast ct_9_6 (sT_21 hS) (sL_21 hS) (by decide) kn_c0 ?_
        refine wi_aload_1 ct_9_7 ?_
        refine wi_ic ct_9_8 kc_0 ?_
        refine wi_iald (x := 1) ct_9_9 (sT_21 hS) (sL_21 hS) (by decide) kn_c0 up2_eq ?_
        refine wi_istore_2 rfl ct_9_10 ?_
        refine wi_iload_2 ct_9_11 ?_
        refine wi_ifle_f ct_9_12 ki_1 (by decide) ?_
        refine wi_iload_2 ct_9_15 ?_
        refine wi_aload_1 ct_9_16 ?_
        refine wi_len (z := 21) ct_9_17 (sT_21 hS) (by decide) (sL_21 hS) (by decide) ?_
        refine wi_icge_f ct_9_18 ki_1 ki_21 (by decide) ?_
        refine wi_aload_1 ct_9_21 ?_
        refine wi_iload_2 ct_9_22 ?_
        refine wi_iload_0 ct_9_23 ?_
        refine wi_iast ct_9_24 (sT_21 hS) (sL_21 hS) (by decide) kn_c1 ?_
        refine wi_ret ct_9_25 (wk_v ?_)
        refine wi_aload_0 ct_29_6 ?_
        refine wi_iload_1 ct_29_7 ?_
        refine wi_aload_2 ct_29_8 ?_
        refine wi_cp2 (ls' := [some _, some _, some _]) ct_29_9 (Nat.le_of_ble_eq_true rfl) (ot.trans (by rw [hk37] <;> rfl)) (by decide) rfl (Nat.le_of_ble_eq_true rfl) ?_
        refine wi_ic ct_8_0 kc_12 ?_
        refine wi_aload_2 ct_8_2 ?_
        refine wi_cs2 (ls' := [some _, some _, none]) ct_8_3 (Nat.le_of_ble_eq_true rfl) rfl (Nat.le_of_ble_eq_true rfl) ?_
        refine wi_aload_1 ct_9_0 ?_
        refine wi_ic ct_9_1 kc_0 ?_
        refine wi_dup2 ct_9_2 rfl rfl ?_
        refine wi_iald (x := 1) ct_9_3 (sT_21 hS) (sL_21 hS) (by decide) kn_c0 (Eq.trans (up2_nj (by decide)) up2_eq) ?_
        refine wi_ic ct_9_4 kc_1 ?_
        refine wi_iadd (z := 2) ct_9_5 (by decide) ?_
        refine wi_iast ct_9_6 (sT_21 hS) (sL_21 hS) (by decide) kn_c0 ?_
        refine wi_aload_1 ct_9_7 ?_
        refine wi_ic ct_9_8 kc_0 ?_
        refine wi_iald (x := 2) ct_9_9 (sT_21 hS) (sL_21 hS) (by decide) kn_c0 up2_eq ?_
        refine wi_istore_2 rfl ct_9_10 ?_
        refine wi_iload_2 ct_9_11 ?_
        refine wi_ifle_f ct_9_12 ki_2 (by decide) ?_
        refine wi_iload_2 ct_9_15 ?_
        refine wi_aload_1 ct_9_16 ?_
        refine wi_len (z := 21) ct_9_17 (sT_21 hS) (by decide) (sL_21 hS) (by decide) ?_
        refine wi_icge_f ct_9_18 ki_2 ki_21 (by decide) ?_
        refine wi_aload_1 ct_9_21 ?_
        refine wi_iload_2 ct_9_22 ?_
        refine wi_iload_0 ct_9_23 ?_
        refine wi_iast ct_9_24 (sT_21 hS) (sL_21 hS) (by decide) kn_c2 ?_
        refine wi_ret ct_9_25 (wk_v ?_)
        refine wi_aload_0 ct_8_6 ?_
        refine wi_iload_1 ct_8_7 ?_
        refine wi_aload_2 ct_8_8 ?_
        refine wi_cv2 (ls' := [some _, some _, some _]) ct_8_9 (Nat.le_of_ble_eq_true rfl) (by decide) (ot.trans (by rw [hk37] <;> rfl)) rfl (by decide) rfl rfl (Nat.le_of_ble_eq_true rfl) ?_
        refine wi_ic ct_61_0 kc_70 ?_
        refine wi_aload_2 ct_61_2 ?_
        refine wi_cs2 (ls' := [some _, some _, none]) ct_61_3 (Nat.le_of_ble_eq_true rfl) rfl (Nat.le_of_ble_eq_true rfl) ?_
        refine wi_aload_1 ct_9_0 ?_
        refine wi_ic ct_9_1 kc_0 ?_
        refine wi_dup2 ct_9_2 rfl rfl ?_
        refine wi_iald (x := 2) ct_9_3 (sT_21 hS) (sL_21 hS) (by decide) kn_c0 (Eq.trans (up2_nj (by decide)) up2_eq) ?_
        refine wi_ic ct_9_4 kc_1 ?_
        refine wi_iadd (z := 3) ct_9_5 (by decide) ?_
        refine wi_iast ct_9_6 (sT_21 hS) (sL_21 hS) (by decide) kn_c0 ?_
        refine wi_aload_1 ct_9_7 ?_
        refine wi_ic ct_9_8 kc_0 ?_
        refine wi_iald (x := 3) ct_9_9 (sT_21 hS) (sL_21 hS) (by decide) kn_c0 up2_eq ?_
        refine wi_istore_2 rfl ct_9_10 ?_
        refine wi_iload_2 ct_9_11 ?_
        refine wi_ifle_f ct_9_12 ki_3 (by decide) ?_
        refine wi_iload_2 ct_9_15 ?_
        refine wi_aload_1 ct_9_16 ?_
        refine wi_len (z := 21) ct_9_17 (sT_21 hS) (by decide) (sL_21 hS) (by decide) ?_
        refine wi_icge_f ct_9_18 ki_3 ki_21 (by decide) ?_
        refine wi_aload_1 ct_9_21 ?_
        refine wi_iload_2 ct_9_22 ?_
        refine wi_iload_0 ct_9_23 ?_
        refine wi_iast ct_9_24 (sT_21 hS) (sL_21 hS) (by decide) kn_c3 ?_
        refine wi_ret ct_9_25 (wk_v ?_)
        refine wi_aload_0 ct_61_6 ?_
        refine wi_iload_1 ct_61_7 ?_
        refine wi_aload_2 ct_61_8 ?_
        refine wi_cp2 (ls' := [some _, some _, some _]) ct_61_9 (Nat.le_of_ble_eq_true rfl) (ot.trans (by rw [hk37] <;> rfl)) (by decide) rfl (Nat.le_of_ble_eq_true rfl) ?_
        refine wi_ic ct_7_0 kc_11 ?_
        refine wi_aload_2 ct_7_2 ?_
        refine wi_cs2 (ls' := [some _, some _, none]) ct_7_3 (Nat.le_of_ble_eq_true rfl) rfl (Nat.le_of_ble_eq_true rfl) ?_
        refine wi_aload_1 ct_9_0 ?_
        refine wi_ic ct_9_1 kc_0 ?_
        refine wi_dup2 ct_9_2 rfl rfl ?_
        refine wi_iald (x := 3) ct_9_3 (sT_21 hS) (sL_21 hS) (by decide) kn_c0 (Eq.trans (up2_nj (by decide)) up2_eq) ?_
        refine wi_ic ct_9_4 kc_1 ?_
        refine wi_iadd (z := 4) ct_9_5 (by decide) ?_
        refine wi_iast ct_9_6 (sT_21 hS) (sL_21 hS) (by decide) kn_c0 ?_
        refine wi_aload_1 ct_9_7 ?_
        refine wi_ic ct_9_8 kc_0 ?_
        refine wi_iald (x := 4) ct_9_9 (sT_21 hS) (sL_21 hS) (by decide) kn_c0 up2_eq ?_
        refine wi_istore_2 rfl ct_9_10 ?_
        refine wi_iload_2 ct_9_11 ?_
        refine wi_ifle_f ct_9_12 ki_4 (by decide) ?_
        refine wi_iload_2 ct_9_15 ?_
        refine wi_aload_1 ct_9_16 ?_
        refine wi_len (z := 21) ct_9_17 (sT_21 hS) (by decide) (sL_21 hS) (by decide) ?_
        refine wi_icge_f ct_9_18 ki_4 ki_21 (by decide) ?_
        refine wi_aload_1 ct_9_21 ?_
        refine wi_iload_2 ct_9_22 ?_
        refine wi_iload_0 ct_9_23 ?_
        refine wi_iast ct_9_24 (sT_21 hS) (sL_21 hS) (by decide) kn_c4 ?_
        refine wi_ret ct_9_25 (wk_v ?_)
        refine wi_aload_0 ct_7_6 ?_
        refine wi_iload_1 ct_7_7 ?_
        refine wi_aload_2 ct_7_8 ?_
        refine wi_cv2 (ls' := [some _, some _, some _]) ct_7_9 (Nat.le_of_ble_eq_true rfl) (by decide) (ot.trans (by rw [hk37] <;> rfl)) rfl (by decide) rfl rfl (Nat.le_of_ble_eq_true rfl) ?_
        refine wi_ic ct_62_0 kc_71 ?_
        refine wi_aload_2 ct_62_2 ?_
        refine wi_cs2 (ls' := [some _, some _, none]) ct_62_3 (Nat.le_of_ble_eq_true rfl) rfl (Nat.le_of_ble_eq_true rfl) ?_
        refine wi_aload_1 ct_9_0 ?_
        refine wi_ic ct_9_1 kc_0 ?_
        refine wi_dup2 ct_9_2 rfl rfl ?_
        refine wi_iald (x := 4) ct_9_3 (sT_21 hS) (sL_21 hS) (by decide) kn_c0 (Eq.trans (up2_nj (by decide)) up2_eq) ?_
        refine wi_ic ct_9_4 kc_1 ?_
        refine wi_iadd (z := 5) ct_9_5 (by decide) ?_
        refine wi_iast ct_9_6 (sT_21 hS) (sL_21 hS) (by decide) kn_c0 ?_
        refine wi_aload_1 ct_9_7 ?_
        refine wi_ic ct_9_8 kc_0 ?_
        refine wi_iald (x := 5) ct_9_9 (sT_21 hS) (sL_21 hS) (by decide) kn_c0 up2_eq ?_
        refine wi_istore_2 rfl ct_9_10 ?_
        refine wi_iload_2 ct_9_11 ?_
        refine wi_ifle_f ct_9_12 ki_5 (by decide) ?_
        refine wi_iload_2 ct_9_15 ?_
        refine wi_aload_1 ct_9_16 ?_
        refine wi_len (z := 21) ct_9_17 (sT_21 hS) (by decide) (sL_21 hS) (by decide) ?_
        refine wi_icge_f ct_9_18 ki_5 ki_21 (by decide) ?_
        refine wi_aload_1 ct_9_21 ?_
        refine wi_iload_2 ct_9_22 ?_
        refine wi_iload_0 ct_9_23 ?_
        refine wi_iast ct_9_24 (sT_21 hS) (sL_21 hS) (by decide) kn_c5 ?_
        refine wi_ret ct_9_25 (wk_v ?_)
        refine wi_aload_0 ct_62_6 ?_
        refine wi_iload_1 ct_62_7 ?_
        refine wi_aload_2 ct_62_8 ?_
        refine wi_cp2 (ls' := [some _, some _, some _]) ct_62_9 (Nat.le_of_ble_eq_true rfl) (ot.trans (by rw [hk37] <;> rfl)) (by decide) rfl (Nat.le_of_ble_eq_true rfl) ?_
        refine wi_ic ct_6_0 kc_10 ?_
        refine wi_aload_2 ct_6_2 ?_
        refine wi_cs2 (ls' := [some _, some _, none]) ct_6_3 (Nat.le_of_ble_eq_true rfl) rfl (Nat.le_of_ble_eq_true rfl) ?_
        refine wi_aload_1 ct_9_0 ?_
        refine wi_ic ct_9_1 kc_0 ?_
        refine wi_dup2 ct_9_2 rfl rfl ?_
        refine wi_iald (x := 5) ct_9_3 (sT_21 hS) (sL_21 hS) (by decide) kn_c0 (Eq.trans (up2_nj (by decide)) up2_eq) ?_
        refine wi_ic ct_9_4 kc_1 ?_
        refine wi_iadd (z := 6) ct_9_5 (by decide) ?_
        refine wi_iast ct_9_6 (sT_21 hS) (sL_21 hS) (by decide) kn_c0 ?_
        refine wi_aload_1 ct_9_7 ?_
        refine wi_ic ct_9_8 kc_0 ?_
        refine wi_iald (x := 6) ct_9_9 (sT_21 hS) (sL_21 hS) (by decide) kn_c0 up2_eq ?_
        refine wi_istore_2 rfl ct_9_10 ?_
        refine wi_iload_2 ct_9_11 ?_
        refine wi_ifle_f ct_9_12 ki_6 (by decide) ?_
        refine wi_iload_2 ct_9_15 ?_
        refine wi_aload_1 ct_9_16 ?_
        refine wi_len (z := 21) ct_9_17 (sT_21 hS) (by decide) (sL_21 hS) (by decide) ?_
        refine wi_icge_f ct_9_18 ki_6 ki_21 (by decide) ?_
        refine wi_aload_1 ct_9_21 ?_
        refine wi_iload_2 ct_9_22 ?_
        refine wi_iload_0 ct_9_23 ?_
        refine wi_iast ct_9_24 (sT_21 hS) (sL_21 hS) (by decide) kn_c6 ?_
        refine wi_ret ct_9_25 (wk_v ?_)
        refine wi_iload_1 ct_6_6 ?_
        refine wi_aload_0 ct_6_7 ?_
        refine wi_gf (x := a1) ct_6_8 (ot.trans (by rw [hk37] <;> rfl)) rfl rfl (Eq.trans (up2_nq (dn o72 (by decide))) (Eq.trans (up2_nq (dn o72 (by decide))) (Eq.trans (up2_nq (dn o72 (by decide))) (Eq.trans (up2_nq (dn o72 (by decide))) (Eq.trans (up2_nq (dn o72 (by decide))) (Eq.trans (up2_nq (dn o72 (by decide))) (Eq.trans (up2_nq (dn o72 (by decide))) (Eq.trans (up2_nq (dn o72 (by decide))) (Eq.trans (up2_nq (dn o72 (by decide))) (Eq.trans (up2_nq (dn o72 (by decide))) (Eq.trans (up2_nq (dn o72 (by decide))) (Eq.trans (up2_nq (dn o72 (by decide))) (Eq.trans (up2_nq (dn o72 (by decide))) hpn))))))))))))) ?_
        refine wi_iadd ct_6_11 rfl ?_
        refine wi_iret ct_6_12 rfl (wk_i ?_)
        refine wi_aload_0 ct_62_12 ?_
        refine wi_gf (x := fi 33 B) ct_62_13 (ot.trans (by rw [hk37] <;> rfl)) rfl rfl (Eq.trans (up2_nq (dn o72 (by decide))) (Eq.trans (up2_nq (dn o72 (by decide))) (Eq.trans (up2_nq (dn o72 (by decide))) (Eq.trans (up2_nq (dn o72 (by decide))) (Eq.trans (up2_nq (dn o72 (by decide))) (Eq.trans (up2_nq (dn o72 (by decide))) (Eq.trans (up2_nq (dn o72 (by decide))) (Eq.trans (up2_nq (dn o72 (by decide))) (Eq.trans (up2_nq (dn o72 (by decide))) (Eq.trans (up2_nq (dn o72 (by decide))) (Eq.trans (up2_nq (dn o72 (by decide))) (Eq.trans (up2_nq (dn o72 (by decide))) (Eq.trans (up2_nq (dn o72 (by decide))) ov))))))))))))) ?_
        refine wi_ixor ct_62_16 rfl ?_
        refine wi_iret ct_62_17 rfl (wk_i ?_)
        refine wi_aload_0 ct_7_12 ?_
        refine wi_gf (x := fi 33 B) ct_7_13 (ot.trans (by rw [hk37] <;> rfl)) rfl rfl (Eq.trans (up2_nq (dn o72 (by decide))) (Eq.trans (up2_nq (dn o72 (by decide))) (Eq.trans (up2_nq (dn o72 (by decide))) (Eq.trans (up2_nq (dn o72 (by decide))) (Eq.trans (up2_nq (dn o72 (by decide))) (Eq.trans (up2_nq (dn o72 (by decide))) (Eq.trans (up2_nq (dn o72 (by decide))) (Eq.trans (up2_nq (dn o72 (by decide))) (Eq.trans (up2_nq (dn o72 (by decide))) (Eq.trans (up2_nq (dn o72 (by decide))) (Eq.trans (up2_nq (dn o72 (by decide))) (Eq.trans (up2_nq (dn o72 (by decide))) (Eq.trans (up2_nq (dn o72 (by decide))) ov))))))))))))) ?_
        refine wi_isub ct_7_16 rfl ?_
        refine wi_iret ct_7_17 rfl (wk_i ?_)
        refine wi_aload_0 ct_61_12 ?_
        refine wi_ic ct_61_13 kc_2 ?_
        refine wi_aload_2 ct_61_14 ?_
        refine wi_cp2 (ls' := [some _, some _, some _]) ct_61_15 (Nat.le_of_ble_eq_true rfl) (ot.trans (by rw [hk37] <;> rfl)) (by decide) rfl (Nat.le_of_ble_eq_true rfl) ?_
        refine wi_ic ct_6_0 kc_10 ?_
        refine wi_aload_2 ct_6_2 ?_
        refine wi_cs2 (ls' := [some _, some _, none]) ct_6_3 (Nat.le_of_ble_eq_true rfl) rfl (Nat.le_of_ble_eq_true rfl) ?_
        refine wi_aload_1 ct_9_0 ?_
        refine wi_ic ct_9_1 kc_0 ?_
        refine wi_dup2 ct_9_2 rfl rfl ?_
        refine wi_iald (x := 6) ct_9_3 (sT_21 hS) (sL_21 hS) (by decide) kn_c0 (Eq.trans (up2_nj (by decide)) up2_eq) ?_
        refine wi_ic ct_9_4 kc_1 ?_
        refine wi_iadd (z := 7) ct_9_5 (by decide) ?_
        refine wi_iast ct_9_6 (sT_21 hS) (sL_21 hS) (by decide) kn_c0 ?_
        refine wi_aload_1 ct_9_7 ?_
        refine wi_ic ct_9_8 kc_0 ?_
        refine wi_iald (x := 7) ct_9_9 (sT_21 hS) (sL_21 hS) (by decide) kn_c0 up2_eq ?_
        refine wi_istore_2 rfl ct_9_10 ?_
        refine wi_iload_2 ct_9_11 ?_
        refine wi_ifle_f ct_9_12 ki_7 (by decide) ?_
        refine wi_iload_2 ct_9_15 ?_
        refine wi_aload_1 ct_9_16 ?_
        refine wi_len (z := 21) ct_9_17 (sT_21 hS) (by decide) (sL_21 hS) (by decide) ?_
        refine wi_icge_f ct_9_18 ki_7 ki_21 (by decide) ?_
        refine wi_aload_1 ct_9_21 ?_
        refine wi_iload_2 ct_9_22 ?_
        refine wi_iload_0 ct_9_23 ?_
        refine wi_iast ct_9_24 (sT_21 hS) (sL_21 hS) (by decide) kn_c7 ?_
        refine wi_ret ct_9_25 (wk_v ?_)
        refine wi_iload_1 ct_6_6 ?_
        refine wi_aload_0 ct_6_7 ?_
        refine wi_gf (x := a1) ct_6_8 (ot.trans (by rw [hk37] <;> rfl)) rfl rfl (Eq.trans (up2_nq (dn o72 (by decide))) (Eq.trans (up2_nq (dn o72 (by decide))) (Eq.trans (up2_nq (dn o72 (by decide))) (Eq.trans (up2_nq (dn o72 (by decide))) (Eq.trans (up2_nq (dn o72 (by decide))) (Eq.trans (up2_nq (dn o72 (by decide))) (Eq.trans (up2_nq (dn o72 (by decide))) (Eq.trans (up2_nq (dn o72 (by decide))) (Eq.trans (up2_nq (dn o72 (by decide))) (Eq.trans (up2_nq (dn o72 (by decide))) (Eq.trans (up2_nq (dn o72 (by decide))) (Eq.trans (up2_nq (dn o72 (by decide))) (Eq.trans (up2_nq (dn o72 (by decide))) (Eq.trans (up2_nq (dn o72 (by decide))) (Eq.trans (up2_nq (dn o72 (by decide))) hpn))))))))))))))) ?_
        refine wi_iadd ct_6_11 rfl ?_
        refine wi_iret ct_6_12 rfl (wk_i ?_)
        refine wi_iadd ct_61_18 rfl ?_
        refine wi_iret ct_61_19 rfl (wk_i ?_)
        refine wi_ic ct_8_12 kc_2 ?_
        refine wi_imul ct_8_13 rfl ?_
        refine wi_iret ct_8_14 rfl (wk_i ?_)
        refine wi_aload_0 ct_29_12 ?_
        refine wi_ic ct_29_13 kc_1 ?_
        refine wi_aload_2 ct_29_14 ?_
        refine wi_cv2 (ls' := [some _, some _, some _]) ct_29_15 (Nat.le_of_ble_eq_true rfl) (by decide) (ot.trans (by rw [hk37] <;> rfl)) rfl (by decide) rfl rfl (Nat.le_of_ble_eq_true rfl) ?_
        refine wi_ic ct_61_0 kc_70 ?_
        refine wi_aload_2 ct_61_2 ?_
        refine wi_cs2 (ls' := [some _, some _, none]) ct_61_3 (Nat.le_of_ble_eq_true rfl) rfl (Nat.le_of_ble_eq_true rfl) ?_
        refine wi_aload_1 ct_9_0 ?_
        refine wi_ic ct_9_1 kc_0 ?_
        refine wi_dup2 ct_9_2 rfl rfl ?_
        refine wi_iald (x := 7) ct_9_3 (sT_21 hS) (sL_21 hS) (by decide) kn_c0 (Eq.trans (up2_nj (by decide)) up2_eq) ?_
        refine wi_ic ct_9_4 kc_1 ?_
        refine wi_iadd (z := 8) ct_9_5 (by decide) ?_
        refine wi_iast ct_9_6 (sT_21 hS) (sL_21 hS) (by decide) kn_c0 ?_
        refine wi_aload_1 ct_9_7 ?_
        refine wi_ic ct_9_8 kc_0 ?_
        refine wi_iald (x := 8) ct_9_9 (sT_21 hS) (sL_21 hS) (by decide) kn_c0 up2_eq ?_
        refine wi_istore_2 rfl ct_9_10 ?_
        refine wi_iload_2 ct_9_11 ?_
        refine wi_ifle_f ct_9_12 ki_8 (by decide) ?_
        refine wi_iload_2 ct_9_15 ?_
        refine wi_aload_1 ct_9_16 ?_
        refine wi_len (z := 21) ct_9_17 (sT_21 hS) (by decide) (sL_21 hS) (by decide) ?_
        refine wi_icge_f ct_9_18 ki_8 ki_21 (by decide) ?_
        refine wi_aload_1 ct_9_21 ?_
        refine wi_iload_2 ct_9_22 ?_
        refine wi_iload_0 ct_9_23 ?_
        refine wi_iast ct_9_24 (sT_21 hS) (sL_21 hS) (by decide) kn_c8 ?_
        refine wi_ret ct_9_25 (wk_v ?_)
        refine wi_aload_0 ct_61_6 ?_
        refine wi_iload_1 ct_61_7 ?_
        refine wi_aload_2 ct_61_8 ?_
        refine wi_cp2 (ls' := [some _, some _, some _]) ct_61_9 (Nat.le_of_ble_eq_true rfl) (ot.trans (by rw [hk37] <;> rfl)) (by decide) rfl (Nat.le_of_ble_eq_true rfl) ?_
        refine wi_ic ct_7_0 kc_11 ?_
        refine wi_aload_2 ct_7_2 ?_
        refine wi_cs2 (ls' := [some _, some _, none]) ct_7_3 (Nat.le_of_ble_eq_true rfl) rfl (Nat.le_of_ble_eq_true rfl) ?_
        refine wi_aload_1 ct_9_0 ?_
        refine wi_ic ct_9_1 kc_0 ?_
        refine wi_dup2 ct_9_2 rfl rfl ?_
        refine wi_iald (x := 8) ct_9_3 (sT_21 hS) (sL_21 hS) (by decide) kn_c0 (Eq.trans (up2_nj (by decide)) up2_eq) ?_
        refine wi_ic ct_9_4 kc_1 ?_
        refine wi_iadd (z := 9) ct_9_5 (by decide) ?_
        refine wi_iast ct_9_6 (sT_21 hS) (sL_21 hS) (by decide) kn_c0 ?_
        refine wi_aload_1 ct_9_7 ?_
        refine wi_ic ct_9_8 kc_0 ?_
        refine wi_iald (x := 9) ct_9_9 (sT_21 hS) (sL_21 hS) (by decide) kn_c0 up2_eq ?_
        refine wi_istore_2 rfl ct_9_10 ?_
        refine wi_iload_2 ct_9_11 ?_
        refine wi_ifle_f ct_9_12 ki_9 (by decide) ?_
        refine wi_iload_2 ct_9_15 ?_
        refine wi_aload_1 ct_9_16 ?_
        refine wi_len (z := 21) ct_9_17 (sT_21 hS) (by decide) (sL_21 hS) (by decide) ?_
        refine wi_icge_f ct_9_18 ki_9 ki_21 (by decide) ?_
        refine wi_aload_1 ct_9_21 ?_
        refine wi_iload_2 ct_9_22 ?_
        refine wi_iload_0 ct_9_23 ?_
        refine wi_iast ct_9_24 (sT_21 hS) (sL_21 hS) (by decide) kn_c9 ?_
        refine wi_ret ct_9_25 (wk_v ?_)
        refine wi_aload_0 ct_7_6 ?_
        refine wi_iload_1 ct_7_7 ?_
        refine wi_aload_2 ct_7_8 ?_
        refine wi_cv2 (ls' := [some _, some _, some _]) ct_7_9 (Nat.le_of_ble_eq_true rfl) (by decide) (ot.trans (by rw [hk37] <;> rfl)) rfl (by decide) rfl rfl (Nat.le_of_ble_eq_true rfl) ?_
        refine wi_ic ct_62_0 kc_71 ?_
        refine wi_aload_2 ct_62_2 ?_
        refine wi_cs2 (ls' := [some _, some _, none]) ct_62_3 (Nat.le_of_ble_eq_true rfl) rfl (Nat.le_of_ble_eq_true rfl) ?_
        refine wi_aload_1 ct_9_0 ?_
        refine wi_ic ct_9_1 kc_0 ?_
        refine wi_dup2 ct_9_2 rfl rfl ?_
        refine wi_iald (x := 9) ct_9_3 (sT_21 hS) (sL_21 hS) (by decide) kn_c0 (Eq.trans (up2_nj (by decide)) up2_eq) ?_
        refine wi_ic ct_9_4 kc_1 ?_
        refine wi_iadd (z := 10) ct_9_5 (by decide) ?_
        refine wi_iast ct_9_6 (sT_21 hS) (sL_21 hS) (by decide) kn_c0 ?_
        refine wi_aload_1 ct_9_7 ?_
        refine wi_ic ct_9_8 kc_0 ?_
        refine wi_iald (x := 10) ct_9_9 (sT_21 hS) (sL_21 hS) (by decide) kn_c0 up2_eq ?_
        refine wi_istore_2 rfl ct_9_10 ?_
        refine wi_iload_2 ct_9_11 ?_
        refine wi_ifle_f ct_9_12 ki_10 (by decide) ?_
        refine wi_iload_2 ct_9_15 ?_
        refine wi_aload_1 ct_9_16 ?_
        refine wi_len (z := 21) ct_9_17 (sT_21 hS) (by decide) (sL_21 hS) (by decide) ?_
        refine wi_icge_f ct_9_18 ki_10 ki_21 (by decide) ?_
        refine wi_aload_1 ct_9_21 ?_
        refine wi_iload_2 ct_9_22 ?_
        refine wi_iload_0 ct_9_23 ?_
        refine wi_iast ct_9_24 (sT_21 hS) (sL_21 hS) (by decide) kn_c10 ?_
        refine wi_ret ct_9_25 (wk_v ?_)
        refine wi_aload_0 ct_62_6 ?_
        refine wi_iload_1 ct_62_7 ?_
        refine wi_aload_2 ct_62_8 ?_
        refine wi_cp2 (ls' := [some _, some _, some _]) ct_62_9 (Nat.le_of_ble_eq_true rfl) (ot.trans (by rw [hk37] <;> rfl)) (by decide) rfl (Nat.le_of_ble_eq_true rfl) ?_
        refine wi_ic ct_6_0 kc_10 ?_
        refine wi_aload_2 ct_6_2 ?_
        refine wi_cs2 (ls' := [some _, some _, none]) ct_6_3 (Nat.le_of_ble_eq_true rfl) rfl (Nat.le_of_ble_eq_true rfl) ?_
        refine wi_aload_1 ct_9_0 ?_
        refine wi_ic ct_9_1 kc_0 ?_
        refine wi_dup2 ct_9_2 rfl rfl ?_
        refine wi_iald (x := 10) ct_9_3 (sT_21 hS) (sL_21 hS) (by decide) kn_c0 (Eq.trans (up2_nj (by decide)) up2_eq) ?_
        refine wi_ic ct_9_4 kc_1 ?_
        refine wi_iadd (z := 11) ct_9_5 (by decide) ?_
        refine wi_iast ct_9_6 (sT_21 hS) (sL_21 hS) (by decide) kn_c0 ?_
        refine wi_aload_1 ct_9_7 ?_
        refine wi_ic ct_9_8 kc_0 ?_
        refine wi_iald (x := 11) ct_9_9 (sT_21 hS) (sL_21 hS) (by decide) kn_c0 up2_eq ?_
        refine wi_istore_2 rfl ct_9_10 ?_
        refine wi_iload_2 ct_9_11 ?_
        refine wi_ifle_f ct_9_12 ki_11 (by decide) ?_
        refine wi_iload_2 ct_9_15 ?_
        refine wi_aload_1 ct_9_16 ?_
        refine wi_len (z := 21) ct_9_17 (sT_21 hS) (by decide) (sL_21 hS) (by decide) ?_
        refine wi_icge_f ct_9_18 ki_11 ki_21 (by decide) ?_
        refine wi_aload_1 ct_9_21 ?_
        refine wi_iload_2 ct_9_22 ?_
        refine wi_iload_0 ct_9_23 ?_
        refine wi_iast ct_9_24 (sT_21 hS) (sL_21 hS) (by decide) kn_c11 ?_
        refine wi_ret ct_9_25 (wk_v ?_)
        refine wi_iload_1 ct_6_6 ?_
        refine wi_aload_0 ct_6_7 ?_
        refine wi_gf (x := a1) ct_6_8 (ot.trans (by rw [hk37] <;> rfl)) rfl rfl (Eq.trans (up2_nq (dn o72 (by decide))) (Eq.trans (up2_nq (dn o72 (by decide))) (Eq.trans (up2_nq (dn o72 (by decide))) (Eq.trans (up2_nq (dn o72 (by decide))) (Eq.trans (up2_nq (dn o72 (by decide))) (Eq.trans (up2_nq (dn o72 (by decide))) (Eq.trans (up2_nq (dn o72 (by decide))) (Eq.trans (up2_nq (dn o72 (by decide))) (Eq.trans (up2_nq (dn o72 (by decide))) (Eq.trans (up2_nq (dn o72 (by decide))) (Eq.trans (up2_nq (dn o72 (by decide))) (Eq.trans (up2_nq (dn o72 (by decide))) (Eq.trans (up2_nq (dn o72 (by decide))) (Eq.trans (up2_nq (dn o72 (by decide))) (Eq.trans (up2_nq (dn o72 (by decide))) (Eq.trans (up2_nq (dn o72 (by decide))) (Eq.trans (up2_nq (dn o72 (by decide))) (Eq.trans (up2_nq (dn o72 (by decide))) (Eq.trans (up2_nq (dn o72 (by decide))) (Eq.trans (up2_nq (dn o72 (by decide))) (Eq.trans (up2_nq (dn o72 (by decide))) (Eq.trans (up2_nq (dn o72 (by decide))) (Eq.trans (up2_nq (dn o72 (by decide))) hpn))))))))))))))))))))))) ?_
        refine wi_iadd ct_6_11 rfl ?_
        refine wi_iret ct_6_12 rfl (wk_i ?_)
        refine wi_aload_0 ct_62_12 ?_
        refine wi_gf (x := fi 33 B) ct_62_13 (ot.trans (by rw [hk37] <;> rfl)) rfl rfl (Eq.trans (up2_nq (dn o72 (by decide))) (Eq.trans (up2_nq (dn o72 (by decide))) (Eq.trans (up2_nq (dn o72 (by decide))) (Eq.trans (up2_nq (dn o72 (by decide))) (Eq.trans (up2_nq (dn o72 (by decide))) (Eq.trans (up2_nq (dn o72 (by decide))) (Eq.trans (up2_nq (dn o72 (by decide))) (Eq.trans (up2_nq (dn o72 (by decide))) (Eq.trans (up2_nq (dn o72 (by decide))) (Eq.trans (up2_nq (dn o72 (by decide))) (Eq.trans (up2_nq (dn o72 (by decide))) (Eq.trans (up2_nq (dn o72 (by decide))) (Eq.trans (up2_nq (dn o72 (by decide))) (Eq.trans (up2_nq (dn o72 (by decide))) (Eq.trans (up2_nq (dn o72 (by decide))) (Eq.trans (up2_nq (dn o72 (by decide))) (Eq.trans (up2_nq (dn o72 (by decide))) (Eq.trans (up2_nq (dn o72 (by decide))) (Eq.trans (up2_nq (dn o72 (by decide))) (Eq.trans (up2_nq (dn o72 (by decide))) (Eq.trans (up2_nq (dn o72 (by decide))) (Eq.trans (up2_nq (dn o72 (by decide))) (Eq.trans (up2_nq (dn o72 (by decide))) ov))))))))))))))))))))))) ?_
        refine wi_ixor ct_62_16 rfl ?_
        refine wi_iret ct_62_17 rfl (wk_i ?_)
        refine wi_aload_0 ct_7_12 ?_
        refine wi_gf (x := fi 33 B) ct_7_13 (ot.trans (by rw [hk37] <;> rfl)) rfl rfl (Eq.trans (up2_nq (dn o72 (by decide))) (Eq.trans (up2_nq (dn o72 (by decide))) (Eq.trans (up2_nq (dn o72 (by decide))) (Eq.trans (up2_nq (dn o72 (by decide))) (Eq.trans (up2_nq (dn o72 (by decide))) (Eq.trans (up2_nq (dn o72 (by decide))) (Eq.trans (up2_nq (dn o72 (by decide))) (Eq.trans (up2_nq (dn o72 (by decide))) (Eq.trans (up2_nq (dn o72 (by decide))) (Eq.trans (up2_nq (dn o72 (by decide))) (Eq.trans (up2_nq (dn o72 (by decide))) (Eq.trans (up2_nq (dn o72 (by decide))) (Eq.trans (up2_nq (dn o72 (by decide))) (Eq.trans (up2_nq (dn o72 (by decide))) (Eq.trans (up2_nq (dn o72 (by decide))) (Eq.trans (up2_nq (dn o72 (by decide))) (Eq.trans (up2_nq (dn o72 (by decide))) (Eq.trans (up2_nq (dn o72 (by decide))) (Eq.trans (up2_nq (dn o72 (by decide))) (Eq.trans (up2_nq (dn o72 (by decide))) (Eq.trans (up2_nq (dn o72 (by decide))) (Eq.trans (up2_nq (dn o72 (by decide))) (Eq.trans (up2_nq (dn o72 (by decide))) ov))))))))))))))))))))))) ?_
        refine wi_isub ct_7_16 rfl ?_
        refine wi_iret ct_7_17 rfl (wk_i ?_)
        refine wi_aload_0 ct_61_12 ?_
        refine wi_ic ct_61_13 kc_2 ?_
        refine wi_aload_2 ct_61_14 ?_
        refine wi_cp2 (ls' := [some _, some _, some _]) ct_61_15 (Nat.le_of_ble_eq_true rfl) (ot.trans (by rw [hk37] <;> rfl)) (by decide) rfl (Nat.le_of_ble_eq_true rfl) ?_
        refine wi_ic ct_6_0 kc_10 ?_
        refine wi_aload_2 ct_6_2 ?_
        refine wi_cs2 (ls' := [some _, some _, none]) ct_6_3 (Nat.le_of_ble_eq_true rfl) rfl (Nat.le_of_ble_eq_true rfl) ?_
        refine wi_aload_1 ct_9_0 ?_
        refine wi_ic ct_9_1 kc_0 ?_
        refine wi_dup2 ct_9_2 rfl rfl ?_
        refine wi_iald (x := 11) ct_9_3 (sT_21 hS) (sL_21 hS) (by decide) kn_c0 (Eq.trans (up2_nj (by decide)) up2_eq) ?_
        refine wi_ic ct_9_4 kc_1 ?_
        refine wi_iadd (z := 12) ct_9_5 (by decide) ?_
        refine wi_iast ct_9_6 (sT_21 hS) (sL_21 hS) (by decide) kn_c0 ?_
        refine wi_aload_1 ct_9_7 ?_
        refine wi_ic ct_9_8 kc_0 ?_
        refine wi_iald (x := 12) ct_9_9 (sT_21 hS) (sL_21 hS) (by decide) kn_c0 up2_eq ?_
        refine wi_istore_2 rfl ct_9_10 ?_
        refine wi_iload_2 ct_9_11 ?_
        refine wi_ifle_f ct_9_12 ki_12 (by decide) ?_
        refine wi_iload_2 ct_9_15 ?_
        refine wi_aload_1 ct_9_16 ?_
        refine wi_len (z := 21) ct_9_17 (sT_21 hS) (by decide) (sL_21 hS) (by decide) ?_
        refine wi_icge_f ct_9_18 ki_12 ki_21 (by decide) ?_
        refine wi_aload_1 ct_9_21 ?_
        refine wi_iload_2 ct_9_22 ?_
        refine wi_iload_0 ct_9_23 ?_
        refine wi_iast ct_9_24 (sT_21 hS) (sL_21 hS) (by decide) kn_c12 ?_
        refine wi_ret ct_9_25 (wk_v ?_)
        refine wi_iload_1 ct_6_6 ?_
        refine wi_aload_0 ct_6_7 ?_
        refine wi_gf (x := a1) ct_6_8 (ot.trans (by rw [hk37] <;> rfl)) rfl rfl (Eq.trans (up2_nq (dn o72 (by decide))) (Eq.trans (up2_nq (dn o72 (by decide))) (Eq.trans (up2_nq (dn o72 (by decide))) (Eq.trans (up2_nq (dn o72 (by decide))) (Eq.trans (up2_nq (dn o72 (by decide))) (Eq.trans (up2_nq (dn o72 (by decide))) (Eq.trans (up2_nq (dn o72 (by decide))) (Eq.trans (up2_nq (dn o72 (by decide))) (Eq.trans (up2_nq (dn o72 (by decide))) (Eq.trans (up2_nq (dn o72 (by decide))) (Eq.trans (up2_nq (dn o72 (by decide))) (Eq.trans (up2_nq (dn o72 (by decide))) (Eq.trans (up2_nq (dn o72 (by decide))) (Eq.trans (up2_nq (dn o72 (by decide))) (Eq.trans (up2_nq (dn o72 (by decide))) (Eq.trans (up2_nq (dn o72 (by decide))) (Eq.trans (up2_nq (dn o72 (by decide))) (Eq.trans (up2_nq (dn o72 (by decide))) (Eq.trans (up2_nq (dn o72 (by decide))) (Eq.trans (up2_nq (dn o72 (by decide))) (Eq.trans (up2_nq (dn o72 (by decide))) (Eq.trans (up2_nq (dn o72 (by decide))) (Eq.trans (up2_nq (dn o72 (by decide))) (Eq.trans (up2_nq (dn o72 (by decide))) (Eq.trans (up2_nq (dn o72 (by decide))) hpn))))))))))))))))))))))))) ?_
        refine wi_iadd ct_6_11 rfl ?_
        refine wi_iret ct_6_12 rfl (wk_i ?_)
        refine wi_iadd ct_61_18 rfl ?_
        refine wi_iret ct_61_19 rfl (wk_i ?_)
        refine wi_iadd ct_29_18 rfl ?_
        refine wi_iret ct_29_19 rfl (wk_i ?_)
        refine wi_iret ct_95_80 rfl (wk_i ?_)
        refine wi_aload_2 ct_211_1043 ?_
        refine wi_aloadT_0 ct_211_1044 ?_
        refine wi_iload_3 ct_211_1045 ?_
        refine wi_ic ct_211_1046 kc_1 ?_
        refine wi_iadd ct_211_1047 rfl ?_
        refine wi_ialdT (j := I + 1) (x := a1) ct_211_1048 (sL_SC hS) (i_in (i_add hi ki_1 (by omega)) (by omega)) (i_cl (i_add hi ki_1 (by omega)) (by omega)) ((Eq.trans (up2_nq (by decide)) (Eq.trans (up2_nq (by decide)) (Eq.trans (up2_nq (by decide)) (Eq.trans (up2_nq (by decide)) (Eq.trans (up2_nq (by decide)) (Eq.trans (up2_nq (by decide)) (Eq.trans (up2_nq (by decide)) (Eq.trans (up2_nq (by decide)) (Eq.trans (up2_nq (by decide)) (Eq.trans (up2_nq (by decide)) (Eq.trans (up2_nq (by decide)) (Eq.trans (up2_nq (by decide)) (Eq.trans (up2_nq (by decide)) (Eq.trans (up2_nq (by decide)) (Eq.trans (up2_nq (by decide)) (Eq.trans (up2_nq (by decide)) (Eq.trans (up2_nq (by decide)) (Eq.trans (up2_nq (by decide)) (Eq.trans (up2_nq (by decide)) (Eq.trans (up2_nq (by decide)) (Eq.trans (up2_nq (by decide)) (Eq.trans (up2_nq (by decide)) (Eq.trans (up2_nq (by decide)) (Eq.trans (up2_nq (by decide)) (Eq.trans (up2_nq (by decide)) ((hsc _).trans e1))))))))))))))))))))))))))) ?_
        refine wi_aloadT_0 ct_211_1049 ?_
        refine wi_iload_3 ct_211_1050 ?_
        refine wi_ic ct_211_1051 kc_2 ?_
        refine wi_iadd ct_211_1052 rfl ?_
        refine wi_ialdT (j := I + 2) (x := a2) ct_211_1053 (sL_SC hS) (i_in (i_add hi ki_2 (by omega)) (by omega)) (i_cl (i_add hi ki_2 (by omega)) (by omega)) ((Eq.trans (up2_nq (by decide)) (Eq.trans (up2_nq (by decide)) (Eq.trans (up2_nq (by decide)) (Eq.trans (up2_nq (by decide)) (Eq.trans (up2_nq (by decide)) (Eq.trans (up2_nq (by decide)) (Eq.trans (up2_nq (by decide)) (Eq.trans (up2_nq (by decide)) (Eq.trans (up2_nq (by decide)) (Eq.trans (up2_nq (by decide)) (Eq.trans (up2_nq (by decide)) (Eq.trans (up2_nq (by decide)) (Eq.trans (up2_nq (by decide)) (Eq.trans (up2_nq (by decide)) (Eq.trans (up2_nq (by decide)) (Eq.trans (up2_nq (by decide)) (Eq.trans (up2_nq (by decide)) (Eq.trans (up2_nq (by decide)) (Eq.trans (up2_nq (by decide)) (Eq.trans (up2_nq (by decide)) (Eq.trans (up2_nq (by decide)) (Eq.trans (up2_nq (by decide)) (Eq.trans (up2_nq (by decide)) (Eq.trans (up2_nq (by decide)) (Eq.trans (up2_nq (by decide)) ((hsc _).trans e2))))))))))))))))))))))))))) ?_
        refine wi_aloadT_0 ct_211_1054 ?_
        refine wi_iload_3 ct_211_1055 ?_
        refine wi_ic ct_211_1056 kc_3 ?_
        refine wi_iadd ct_211_1057 rfl ?_
        refine wi_ialdT (j := I + 3) (x := a3) ct_211_1058 (sL_SC hS) (i_in (i_add hi ki_3 (by omega)) (by omega)) (i_cl (i_add hi ki_3 (by omega)) (by omega)) ((Eq.trans (up2_nq (by decide)) (Eq.trans (up2_nq (by decide)) (Eq.trans (up2_nq (by decide)) (Eq.trans (up2_nq (by decide)) (Eq.trans (up2_nq (by decide)) (Eq.trans (up2_nq (by decide)) (Eq.trans (up2_nq (by decide)) (Eq.trans (up2_nq (by decide)) (Eq.trans (up2_nq (by decide)) (Eq.trans (up2_nq (by decide)) (Eq.trans (up2_nq (by decide)) (Eq.trans (up2_nq (by decide)) (Eq.trans (up2_nq (by decide)) (Eq.trans (up2_nq (by decide)) (Eq.trans (up2_nq (by decide)) (Eq.trans (up2_nq (by decide)) (Eq.trans (up2_nq (by decide)) (Eq.trans (up2_nq (by decide)) (Eq.trans (up2_nq (by decide)) (Eq.trans (up2_nq (by decide)) (Eq.trans (up2_nq (by decide)) (Eq.trans (up2_nq (by decide)) (Eq.trans (up2_nq (by decide)) (Eq.trans (up2_nq (by decide)) (Eq.trans (up2_nq (by decide)) ((hsc _).trans e3))))))))))))))))))))))))))) ?_
        refine wi_cv3 (ls' := [some _, some _, some _, some _]) ct_211_1059 (Nat.le_of_ble_eq_true rfl) (by decide) (sT_31 hS) rfl (by decide) rfl rfl (Nat.le_of_ble_eq_true rfl) ?_
        refine wi_aload_0 ct_190_0 ?_
        refine wi_ic ct_190_1 kc_0 ?_
        refine wi_pf ct_190_2 (sT_31 hS) rfl ?_
        refine wi_aload_0 ct_190_5 ?_
        refine wi_iload_1 ct_190_6 ?_
        refine wi_cv1 (ls' := [some _, some _]) ct_190_7 (Nat.le_of_ble_eq_true rfl) (by decide) (sT_31 hS) rfl (by decide) rfl rfl (Nat.le_of_ble_eq_true rfl) ?_
        refine wi_aload_0 ct_120_0 ?_
        refine wi_iload_1 ct_120_1 ?_
        refine wi_ic ct_120_2 kc_0 ?_
        refine wi_aload_0 ct_120_3 ?_
        refine wi_gf (x := fi 31 0) ct_120_4 (sT_31 hS) rfl rfl (Eq.trans (up2_nj (by decide)) (Eq.trans (up2_nq (by decide)) (Eq.trans (up2_nq (by decide)) (Eq.trans (up2_nq (by decide)) (Eq.trans (up2_nq (by decide)) (Eq.trans (up2_nq (by decide)) (Eq.trans (up2_nq (by decide)) (Eq.trans (up2_nq (by decide)) (Eq.trans (up2_nq (by decide)) (Eq.trans (up2_nq (by decide)) (Eq.trans (up2_nq (by decide)) (Eq.trans (up2_nq (by decide)) (Eq.trans (up2_nq (by decide)) (Eq.trans (up2_nq (by decide)) (Eq.trans (up2_nq (by decide)) (Eq.trans (up2_nq (by decide)) (Eq.trans (up2_nq (by decide)) (Eq.trans (up2_nq (by decide)) (Eq.trans (up2_nq (by decide)) (Eq.trans (up2_nq (by decide)) (Eq.trans (up2_nq (by decide)) (Eq.trans (up2_nq (by decide)) (Eq.trans (up2_nq (by decide)) (Eq.trans (up2_nq (by decide)) (Eq.trans (up2_nq (by decide)) (up2_nq (by decide))))))))))))))))))))))))))) ?_
        refine wi_ic ct_120_7 kc_1 ?_
        refine wi_isub ct_120_8 rfl ?_
        refine wi_cv3 (ls' := [some _, some _, some _, some _]) ct_120_9 (Nat.le_of_ble_eq_true rfl) (by decide) (sT_31 hS) rfl (by decide) rfl rfl (Nat.le_of_ble_eq_true rfl) ?_
        refine c_in hBn ki_0 (i_sub rfl ki_1 (by omega)) (fun _ => wk_i ?_) (fun h => absurd h (by omega))
        refine wi_iret ct_120_12 (by decide) (wk_i ?_)
        refine wi_ifeq_f ct_190_10 ki_1 (by decide) ?_
        refine wi_aload_0 ct_190_13 ?_
        refine wi_iload_2 ct_190_14 ?_
        refine wi_ic ct_190_15 kc_0 ?_
        refine wi_ic ct_190_16 kc_2 ?_
        refine wi_cv3 (ls' := [some _, some _, some _, some _]) ct_190_17 (Nat.le_of_ble_eq_true rfl) (by decide) (sT_31 hS) rfl (by decide) rfl rfl (Nat.le_of_ble_eq_true rfl) ?_
        refine c_in rfl ki_0 ki_2 (fun _ => wk_i ?_) (fun h => absurd h (by omega))
        refine wi_ifne_t ct_190_20 ki_1 (by decide) ?_
        refine wi_iload_2 ct_190_25 ?_
        refine wi_ifne_t ct_190_26 rfl (by omega) ?_
        refine wi_iload_2 ct_190_38 ?_
        refine wi_ic ct_190_39 kc_1 ?_
        refine wi_icne_t ct_190_40 rfl ki_1 (by omega) ?_
        refine wi_aload_0 ct_190_52 ?_
        refine wi_iload_1 ct_190_53 ?_
        refine wi_iload_3 ct_190_54 ?_
        refine wi_cv2 (ls' := [some _, some _, some _, none]) ct_190_55 (Nat.le_of_ble_eq_true rfl) (by decide) (sT_31 hS) rfl (by decide) rfl rfl (Nat.le_of_ble_eq_true rfl) ?_
        refine wi_aload_0 ct_189_0 ?_
        refine wi_gfr ct_189_1 (sT_31 hS) rfl (sR_31_2 hS) ?_
        refine wi_iload_1 ct_189_4 ?_
        refine wi_iald (x := fi 32 B) ct_189_5 (sT_32 hS) (sL_32 hS) (i_in hBn (by omega)) (i_cl (k := B) hBn (by omega)) (Eq.trans (up2_nq (by decide)) (Eq.trans (up2_nq (by decide)) (Eq.trans (up2_nq (by decide)) (Eq.trans (up2_nq (by decide)) (Eq.trans (up2_nq (by decide)) (Eq.trans (up2_nq (by decide)) (Eq.trans (up2_nq (by decide)) (Eq.trans (up2_nq (by decide)) (Eq.trans (up2_nq (by decide)) (Eq.trans (up2_nq (by decide)) (Eq.trans (up2_nq (by decide)) (Eq.trans (up2_nq (by decide)) (Eq.trans (up2_nq (by decide)) (Eq.trans (up2_nq (by decide)) (Eq.trans (up2_nq (by decide)) (Eq.trans (up2_nq (by decide)) (Eq.trans (up2_nq (by decide)) (Eq.trans (up2_nq (by decide)) (Eq.trans (up2_nq (by decide)) (Eq.trans (up2_nq (by decide)) (Eq.trans (up2_nq (by decide)) (Eq.trans (up2_nq (by decide)) (Eq.trans (up2_nq (by decide)) (Eq.trans (up2_nq (by decide)) (Eq.trans (up2_nq (by decide)) (up2_nq (by decide))))))))))))))))))))))))))) ?_
        refine wi_tsw (X := 6) (t := 36) ct_189_6 (by omega) rfl ?_
        refine wi_aload_0 ct_189_36 ?_
        refine wi_ic ct_189_37 kc_40 ?_
        refine wi_cv1 (ls' := [some _, some _]) ct_189_39 (Nat.le_of_ble_eq_true rfl) (by decide) (sT_31 hS) rfl (by decide) rfl rfl (Nat.le_of_ble_eq_true rfl) ?_
        refine wi_aload_0 ct_182_0 ?_
        refine wi_gf (x := 0) ct_182_1 (sT_31 hS) rfl rfl up2_eq ?_
        refine wi_ic ct_182_4 kc_20 ?_
        refine wi_icge_f ct_182_6 ki_0 ki_20 (by decide) ?_
        refine wi_aload_0 ct_182_9 ?_
        refine wi_gfr ct_182_10 (sT_31 hS) rfl (sR_31_66 hS) ?_
        refine wi_aload_0 ct_182_13 ?_
        refine wi_gf (x := 0) ct_182_14 (sT_31 hS) rfl rfl up2_eq ?_
        refine wi_iload_1 ct_182_17 ?_
        refine wi_iast ct_182_18 (sT_67 hS) (sL_67 hS) (by decide) kn_c0 ?_
        refine wi_aload_0 ct_182_19 ?_
        refine wi_dup ct_182_20 rfl ?_
        refine wi_gf (x := 0) ct_182_21 (sT_31 hS) rfl rfl (Eq.trans (up2_nq (by decide)) up2_eq) ?_
        refine wi_ic ct_182_24 kc_1 ?_
        refine wi_iadd (z := 1) ct_182_25 (by decide) ?_
        refine wi_pf ct_182_26 (sT_31 hS) rfl ?_
        refine wi_ret ct_182_29 (wk_v ?_)
        refine wi_aload_0 ct_189_42 ?_
        refine wi_iload_1 ct_189_43 ?_
        refine wi_iload_2 ct_189_44 ?_
        refine wi_cv2 (ls' := [some _, some _, some _]) ct_189_45 (Nat.le_of_ble_eq_true rfl) (by decide) (sT_31 hS) rfl (by decide) rfl rfl (Nat.le_of_ble_eq_true rfl) ?_
        refine wi_aload_0 ct_188_0 ?_
        refine wi_ic ct_188_1 kc_12 ?_
        refine wi_cv1 (ls' := [some _, some _]) ct_188_3 (Nat.le_of_ble_eq_true rfl) (by decide) (sT_31 hS) rfl (by decide) rfl rfl (Nat.le_of_ble_eq_true rfl) ?_
        refine wi_aload_0 ct_182_0 ?_
        refine wi_gf (x := 1) ct_182_1 (sT_31 hS) rfl rfl up2_eq ?_
        refine wi_ic ct_182_4 kc_20 ?_
        refine wi_icge_f ct_182_6 ki_1 ki_20 (by decide) ?_
        refine wi_aload_0 ct_182_9 ?_
        refine wi_gfr ct_182_10 (sT_31 hS) rfl (sR_31_66 hS) ?_
        refine wi_aload_0 ct_182_13 ?_
        refine wi_gf (x := 1) ct_182_14 (sT_31 hS) rfl rfl up2_eq ?_
        refine wi_iload_1 ct_182_17 ?_
        refine wi_iast ct_182_18 (sT_67 hS) (sL_67 hS) (by decide) kn_c1 ?_
        refine wi_aload_0 ct_182_19 ?_
        refine wi_dup ct_182_20 rfl ?_
        refine wi_gf (x := 1) ct_182_21 (sT_31 hS) rfl rfl (Eq.trans (up2_nq (by decide)) up2_eq) ?_
        refine wi_ic ct_182_24 kc_1 ?_
        refine wi_iadd (z := 2) ct_182_25 (by decide) ?_
        refine wi_pf ct_182_26 (sT_31 hS) rfl ?_
        refine wi_ret ct_182_29 (wk_v ?_)
        refine wi_aload_0 ct_188_6 ?_
        refine wi_iload_1 ct_188_7 ?_
        refine wi_iload_2 ct_188_8 ?_
        refine wi_cv2 (ls' := [some _, some _, some _, none]) ct_188_9 (Nat.le_of_ble_eq_true rfl) (by decide) (sT_31 hS) rfl (by decide) rfl rfl (Nat.le_of_ble_eq_true rfl) ?_
        refine wi_aload_0 ct_187_0 ?_
        refine wi_gfr ct_187_1 (sT_31 hS) rfl (sR_31_2 hS) ?_
        refine wi_iload_1 ct_187_4 ?_
        refine wi_iald (x := fi 32 B) ct_187_5 (sT_32 hS) (sL_32 hS) (i_in hBn (by omega)) (i_cl (k := B) hBn (by omega)) (Eq.trans (up2_nq (by decide)) (Eq.trans (up2_nq (by decide)) (Eq.trans (up2_nq (by decide)) (Eq.trans (up2_nq (by decide)) (Eq.trans (up2_nq (by decide)) (Eq.trans (up2_nq (by decide)) (Eq.trans (up2_nq (by decide)) (Eq.trans (up2_nq (by decide)) (Eq.trans (up2_nq (by decide)) (Eq.trans (up2_nq (by decide)) (Eq.trans (up2_nq (by decide)) (Eq.trans (up2_nq (by decide)) (Eq.trans (up2_nq (by decide)) (Eq.trans (up2_nq (by decide)) (Eq.trans (up2_nq (by decide)) (Eq.trans (up2_nq (by decide)) (Eq.trans (up2_nq (by decide)) (Eq.trans (up2_nq (by decide)) (Eq.trans (up2_nq (by decide)) (Eq.trans (up2_nq (by decide)) (Eq.trans (up2_nq (by decide)) (Eq.trans (up2_nq (by decide)) (Eq.trans (up2_nq (by decide)) (Eq.trans (up2_nq (by decide)) (Eq.trans (up2_nq (by decide)) (Eq.trans (up2_nq (by decide)) (Eq.trans (up2_nq (by decide)) (Eq.trans (up2_nq (by decide)) (Eq.trans (up2_nq (by decide)) (up2_nq (by decide))))))))))))))))))))))))))))))) ?_
        refine wi_lsw (X := 6) (t := 62) ct_187_6 (by omega) (by decide) ?_
        refine wi_aload_0 ct_187_62 ?_
        refine wi_ic ct_187_63 kc_70 ?_
        refine wi_cv1 (ls' := [some _, some _]) ct_187_65 (Nat.le_of_ble_eq_true rfl) (by decide) (sT_31 hS) rfl (by decide) rfl rfl (Nat.le_of_ble_eq_true rfl) ?_
        refine wi_aload_0 ct_182_0 ?_
        refine wi_gf (x := 2) ct_182_1 (sT_31 hS) rfl rfl up2_eq ?_
        refine wi_ic ct_182_4 kc_20 ?_
        refine wi_icge_f ct_182_6 ki_2 ki_20 (by decide) ?_
        refine wi_aload_0 ct_182_9 ?_
        refine wi_gfr ct_182_10 (sT_31 hS) rfl (sR_31_66 hS) ?_
        refine wi_aload_0 ct_182_13 ?_
        refine wi_gf (x := 2) ct_182_14 (sT_31 hS) rfl rfl up2_eq ?_
        refine wi_iload_1 ct_182_17 ?_
        refine wi_iast ct_182_18 (sT_67 hS) (sL_67 hS) (by decide) kn_c2 ?_
        refine wi_aload_0 ct_182_19 ?_
        refine wi_dup ct_182_20 rfl ?_
        refine wi_gf (x := 2) ct_182_21 (sT_31 hS) rfl rfl (Eq.trans (up2_nq (by decide)) up2_eq) ?_
        refine wi_ic ct_182_24 kc_1 ?_
        refine wi_iadd (z := 3) ct_182_25 (by decide) ?_
        refine wi_pf ct_182_26 (sT_31 hS) rfl ?_
        refine wi_ret ct_182_29 (wk_v ?_)
        refine wi_aload_0 ct_187_68 ?_
        refine wi_iload_1 ct_187_69 ?_
        refine wi_iload_2 ct_187_70 ?_
        refine wi_cv2 (ls' := [some _, some _, some _]) ct_187_71 (Nat.le_of_ble_eq_true rfl) (by decide) (sT_31 hS) rfl (by decide) rfl rfl (Nat.le_of_ble_eq_true rfl) ?_
        refine wi_aload_0 ct_185_0 ?_
        refine wi_ic ct_185_1 kc_11 ?_
        refine wi_cv1 (ls' := [some _, some _]) ct_185_3 (Nat.le_of_ble_eq_true rfl) (by decide) (sT_31 hS) rfl (by decide) rfl rfl (Nat.le_of_ble_eq_true rfl) ?_
        refine wi_aload_0 ct_182_0 ?_
        refine wi_gf (x := 3) ct_182_1 (sT_31 hS) rfl rfl up2_eq ?_
        refine wi_ic ct_182_4 kc_20 ?_
        refine wi_icge_f ct_182_6 ki_3 ki_20 (by decide) ?_
        refine wi_aload_0 ct_182_9 ?_
        refine wi_gfr ct_182_10 (sT_31 hS) rfl (sR_31_66 hS) ?_
        refine wi_aload_0 ct_182_13 ?_
        refine wi_gf (x := 3) ct_182_14 (sT_31 hS) rfl rfl up2_eq ?_
        refine wi_iload_1 ct_182_17 ?_
        refine wi_iast ct_182_18 (sT_67 hS) (sL_67 hS) (by decide) kn_c3 ?_
        refine wi_aload_0 ct_182_19 ?_
        refine wi_dup ct_182_20 rfl ?_
        refine wi_gf (x := 3) ct_182_21 (sT_31 hS) rfl rfl (Eq.trans (up2_nq (by decide)) up2_eq) ?_
        refine wi_ic ct_182_24 kc_1 ?_
        refine wi_iadd (z := 4) ct_182_25 (by decide) ?_
        refine wi_pf ct_182_26 (sT_31 hS) rfl ?_
        refine wi_ret ct_182_29 (wk_v ?_)
        refine wi_aload_0 ct_185_6 ?_
        refine wi_iload_1 ct_185_7 ?_
        refine wi_iload_2 ct_185_8 ?_
        refine wi_cv2 (ls' := [some _, some _, some _]) ct_185_9 (Nat.le_of_ble_eq_true rfl) (by decide) (sT_31 hS) rfl (by decide) rfl rfl (Nat.le_of_ble_eq_true rfl) ?_
        refine wi_aload_0 ct_184_0 ?_
        refine wi_gfr ct_184_1 (sT_31 hS) rfl (sR_31_2 hS) ?_
        refine wi_iload_1 ct_184_4 ?_
        refine wi_iald (x := fi 32 B) ct_184_5 (sT_32 hS) (sL_32 hS) (i_in hBn (by omega)) (i_cl (k := B) hBn (by omega)) (Eq.trans (up2_nq (by decide)) (Eq.trans (up2_nq (by decide)) (Eq.trans (up2_nq (by decide)) (Eq.trans (up2_nq (by decide)) (Eq.trans (up2_nq (by decide)) (Eq.trans (up2_nq (by decide)) (Eq.trans (up2_nq (by decide)) (Eq.trans (up2_nq (by decide)) (Eq.trans (up2_nq (by decide)) (Eq.trans (up2_nq (by decide)) (Eq.trans (up2_nq (by decide)) (Eq.trans (up2_nq (by decide)) (Eq.trans (up2_nq (by decide)) (Eq.trans (up2_nq (by decide)) (Eq.trans (up2_nq (by decide)) (Eq.trans (up2_nq (by decide)) (Eq.trans (up2_nq (by decide)) (Eq.trans (up2_nq (by decide)) (Eq.trans (up2_nq (by decide)) (Eq.trans (up2_nq (by decide)) (Eq.trans (up2_nq (by decide)) (Eq.trans (up2_nq (by decide)) (Eq.trans (up2_nq (by decide)) (Eq.trans (up2_nq (by decide)) (Eq.trans (up2_nq (by decide)) (Eq.trans (up2_nq (by decide)) (Eq.trans (up2_nq (by decide)) (Eq.trans (up2_nq (by decide)) (Eq.trans (up2_nq (by decide)) (Eq.trans (up2_nq (by decide)) (Eq.trans (up2_nq (by decide)) (Eq.trans (up2_nq (by decide)) (Eq.trans (up2_nq (by decide)) (up2_nq (by decide))))))))))))))))))))))))))))))))))) ?_
        refine wi_tsw (X := 6) (t := 69) ct_184_6 (by omega) rfl ?_
        refine wi_aload_0 ct_184_69 ?_
        refine wi_ic ct_184_70 kc_71 ?_
        refine wi_cv1 (ls' := [some _, some _]) ct_184_72 (Nat.le_of_ble_eq_true rfl) (by decide) (sT_31 hS) rfl (by decide) rfl rfl (Nat.le_of_ble_eq_true rfl) ?_
        refine wi_aload_0 ct_182_0 ?_
        refine wi_gf (x := 4) ct_182_1 (sT_31 hS) rfl rfl up2_eq ?_
        refine wi_ic ct_182_4 kc_20 ?_
        refine wi_icge_f ct_182_6 ki_4 ki_20 (by decide) ?_
        refine wi_aload_0 ct_182_9 ?_
        refine wi_gfr ct_182_10 (sT_31 hS) rfl (sR_31_66 hS) ?_
        refine wi_aload_0 ct_182_13 ?_
        refine wi_gf (x := 4) ct_182_14 (sT_31 hS) rfl rfl up2_eq ?_
        refine wi_iload_1 ct_182_17 ?_
        refine wi_iast ct_182_18 (sT_67 hS) (sL_67 hS) (by decide) kn_c4 ?_
        refine wi_aload_0 ct_182_19 ?_
        refine wi_dup ct_182_20 rfl ?_
        refine wi_gf (x := 4) ct_182_21 (sT_31 hS) rfl rfl (Eq.trans (up2_nq (by decide)) up2_eq) ?_
        refine wi_ic ct_182_24 kc_1 ?_
        refine wi_iadd (z := 5) ct_182_25 (by decide) ?_
        refine wi_pf ct_182_26 (sT_31 hS) rfl ?_
        refine wi_ret ct_182_29 (wk_v ?_)
        refine wi_aload_0 ct_184_75 ?_
        refine wi_iload_1 ct_184_76 ?_
        refine wi_iload_2 ct_184_77 ?_
        refine wi_cv2 (ls' := [some _, some _, some _]) ct_184_78 (Nat.le_of_ble_eq_true rfl) (by decide) (sT_31 hS) rfl (by decide) rfl rfl (Nat.le_of_ble_eq_true rfl) ?_
        refine wi_aload_0 ct_183_0 ?_
        refine wi_ic ct_183_1 kc_10 ?_
        refine wi_cv1 (ls' := [some _, some _]) ct_183_3 (Nat.le_of_ble_eq_true rfl) (by decide) (sT_31 hS) rfl (by decide) rfl rfl (Nat.le_of_ble_eq_true rfl) ?_
        refine wi_aload_0 ct_182_0 ?_
        refine wi_gf (x := 5) ct_182_1 (sT_31 hS) rfl rfl up2_eq ?_
        refine wi_ic ct_182_4 kc_20 ?_
        refine wi_icge_f ct_182_6 ki_5 ki_20 (by decide) ?_
        refine wi_aload_0 ct_182_9 ?_
        refine wi_gfr ct_182_10 (sT_31 hS) rfl (sR_31_66 hS) ?_
        refine wi_aload_0 ct_182_13 ?_
        refine wi_gf (x := 5) ct_182_14 (sT_31 hS) rfl rfl up2_eq ?_
        refine wi_iload_1 ct_182_17 ?_
        refine wi_iast ct_182_18 (sT_67 hS) (sL_67 hS) (by decide) kn_c5 ?_
        refine wi_aload_0 ct_182_19 ?_
        refine wi_dup ct_182_20 rfl ?_
        refine wi_gf (x := 5) ct_182_21 (sT_31 hS) rfl rfl (Eq.trans (up2_nq (by decide)) up2_eq) ?_
        refine wi_ic ct_182_24 kc_1 ?_
        refine wi_iadd (z := 6) ct_182_25 (by decide) ?_
        refine wi_pf ct_182_26 (sT_31 hS) rfl ?_
        refine wi_ret ct_182_29 (wk_v ?_)
        refine wi_iload_2 ct_183_6 ?_
        refine wi_iload_1 ct_183_7 ?_
        refine wi_iadd ct_183_8 rfl ?_
        refine wi_iret ct_183_9 rfl (wk_i ?_)
        refine wi_aload_0 ct_184_81 ?_
        refine wi_gfr ct_184_82 (sT_31 hS) rfl (sR_31_3 hS) ?_
        refine wi_iload_1 ct_184_85 ?_
        refine wi_iald (x := fi 33 B) ct_184_86 (sT_33 hS) (sL_33 hS) (i_in hBn (by omega)) (i_cl (k := B) hBn (by omega)) (Eq.trans (up2_nq (by decide)) (Eq.trans (up2_nq (by decide)) (Eq.trans (up2_nq (by decide)) (Eq.trans (up2_nq (by decide)) (Eq.trans (up2_nq (by decide)) (Eq.trans (up2_nq (by decide)) (Eq.trans (up2_nq (by decide)) (Eq.trans (up2_nq (by decide)) (Eq.trans (up2_nq (by decide)) (Eq.trans (up2_nq (by decide)) (Eq.trans (up2_nq (by decide)) (Eq.trans (up2_nq (by decide)) (Eq.trans (up2_nq (by decide)) (Eq.trans (up2_nq (by decide)) (Eq.trans (up2_nq (by decide)) (Eq.trans (up2_nq (by decide)) (Eq.trans (up2_nq (by decide)) (Eq.trans (up2_nq (by decide)) (Eq.trans (up2_nq (by decide)) (Eq.trans (up2_nq (by decide)) (Eq.trans (up2_nq (by decide)) (Eq.trans (up2_nq (by decide)) (Eq.trans (up2_nq (by decide)) (Eq.trans (up2_nq (by decide)) (Eq.trans (up2_nq (by decide)) (Eq.trans (up2_nq (by decide)) (Eq.trans (up2_nq (by decide)) (Eq.trans (up2_nq (by decide)) (Eq.trans (up2_nq (by decide)) (Eq.trans (up2_nq (by decide)) (Eq.trans (up2_nq (by decide)) (Eq.trans (up2_nq (by decide)) (Eq.trans (up2_nq (by decide)) (Eq.trans (up2_nq (by decide)) (Eq.trans (up2_nq (by decide)) (Eq.trans (up2_nq (by decide)) (Eq.trans (up2_nq (by decide)) (up2_nq (by decide))))))))))))))))))))))))))))))))))))))) ?_
        refine wi_ixor ct_184_87 rfl ?_
        refine wi_iret ct_184_88 rfl (wk_i ?_)
        refine wi_aload_0 ct_185_12 ?_
        refine wi_gfr ct_185_13 (sT_31 hS) rfl (sR_31_3 hS) ?_
        refine wi_iload_1 ct_185_16 ?_
        refine wi_iald (x := fi 33 B) ct_185_17 (sT_33 hS) (sL_33 hS) (i_in hBn (by omega)) (i_cl (k := B) hBn (by omega)) (Eq.trans (up2_nq (by decide)) (Eq.trans (up2_nq (by decide)) (Eq.trans (up2_nq (by decide)) (Eq.trans (up2_nq (by decide)) (Eq.trans (up2_nq (by decide)) (Eq.trans (up2_nq (by decide)) (Eq.trans (up2_nq (by decide)) (Eq.trans (up2_nq (by decide)) (Eq.trans (up2_nq (by decide)) (Eq.trans (up2_nq (by decide)) (Eq.trans (up2_nq (by decide)) (Eq.trans (up2_nq (by decide)) (Eq.trans (up2_nq (by decide)) (Eq.trans (up2_nq (by decide)) (Eq.trans (up2_nq (by decide)) (Eq.trans (up2_nq (by decide)) (Eq.trans (up2_nq (by decide)) (Eq.trans (up2_nq (by decide)) (Eq.trans (up2_nq (by decide)) (Eq.trans (up2_nq (by decide)) (Eq.trans (up2_nq (by decide)) (Eq.trans (up2_nq (by decide)) (Eq.trans (up2_nq (by decide)) (Eq.trans (up2_nq (by decide)) (Eq.trans (up2_nq (by decide)) (Eq.trans (up2_nq (by decide)) (Eq.trans (up2_nq (by decide)) (Eq.trans (up2_nq (by decide)) (Eq.trans (up2_nq (by decide)) (Eq.trans (up2_nq (by decide)) (Eq.trans (up2_nq (by decide)) (Eq.trans (up2_nq (by decide)) (Eq.trans (up2_nq (by decide)) (Eq.trans (up2_nq (by decide)) (Eq.trans (up2_nq (by decide)) (Eq.trans (up2_nq (by decide)) (Eq.trans (up2_nq (by decide)) (up2_nq (by decide))))))))))))))))))))))))))))))))))))))) ?_
        refine wi_isub ct_185_18 rfl ?_
        refine wi_iret ct_185_19 rfl (wk_i ?_)
        refine wi_istore_3 rfl ct_187_74 ?_
        refine wi_iload_3 ct_187_75 ?_
        refine wi_aload_0 ct_187_76 ?_
        refine wi_iload_1 ct_187_77 ?_
        refine wi_ic ct_187_78 kc_2 ?_
        refine wi_cv2 (ls' := [some _, some _, some _]) ct_187_79 (Nat.le_of_ble_eq_true rfl) (by decide) (sT_31 hS) rfl (by decide) rfl rfl (Nat.le_of_ble_eq_true rfl) ?_
        refine wi_aload_0 ct_183_0 ?_
        refine wi_ic ct_183_1 kc_10 ?_
        refine wi_cv1 (ls' := [some _, some _]) ct_183_3 (Nat.le_of_ble_eq_true rfl) (by decide) (sT_31 hS) rfl (by decide) rfl rfl (Nat.le_of_ble_eq_true rfl) ?_
        refine wi_aload_0 ct_182_0 ?_
        refine wi_gf (x := 6) ct_182_1 (sT_31 hS) rfl rfl up2_eq ?_
        refine wi_ic ct_182_4 kc_20 ?_
        refine wi_icge_f ct_182_6 ki_6 ki_20 (by decide) ?_
        refine wi_aload_0 ct_182_9 ?_
        refine wi_gfr ct_182_10 (sT_31 hS) rfl (sR_31_66 hS) ?_
        refine wi_aload_0 ct_182_13 ?_
        refine wi_gf (x := 6) ct_182_14 (sT_31 hS) rfl rfl up2_eq ?_
        refine wi_iload_1 ct_182_17 ?_
        refine wi_iast ct_182_18 (sT_67 hS) (sL_67 hS) (by decide) kn_c6 ?_
        refine wi_aload_0 ct_182_19 ?_
        refine wi_dup ct_182_20 rfl ?_
        refine wi_gf (x := 6) ct_182_21 (sT_31 hS) rfl rfl (Eq.trans (up2_nq (by decide)) up2_eq) ?_
        refine wi_ic ct_182_24 kc_1 ?_
        refine wi_iadd (z := 7) ct_182_25 (by decide) ?_
        refine wi_pf ct_182_26 (sT_31 hS) rfl ?_
        refine wi_ret ct_182_29 (wk_v ?_)
        refine wi_iload_2 ct_183_6 ?_
        refine wi_iload_1 ct_183_7 ?_
        refine wi_iadd ct_183_8 rfl ?_
        refine wi_iret ct_183_9 rfl (wk_i ?_)
        refine wi_iadd ct_187_82 rfl ?_
        refine wi_iret ct_187_83 rfl (wk_i ?_)
        refine wi_ic ct_188_12 kc_2 ?_
        refine wi_imul ct_188_13 rfl ?_
        refine wi_iret ct_188_14 rfl (wk_i ?_)
        refine wi_istore_3 rfl ct_189_48 ?_
        refine wi_iload_3 ct_189_49 ?_
        refine wi_aload_0 ct_189_50 ?_
        refine wi_iload_1 ct_189_51 ?_
        refine wi_ic ct_189_52 kc_1 ?_
        refine wi_cv2 (ls' := [some _, some _, some _, none]) ct_189_53 (Nat.le_of_ble_eq_true rfl) (by decide) (sT_31 hS) rfl (by decide) rfl rfl (Nat.le_of_ble_eq_true rfl) ?_
        refine wi_aload_0 ct_187_0 ?_
        refine wi_gfr ct_187_1 (sT_31 hS) rfl (sR_31_2 hS) ?_
        refine wi_iload_1 ct_187_4 ?_
        refine wi_iald (x := fi 32 B) ct_187_5 (sT_32 hS) (sL_32 hS) (i_in hBn (by omega)) (i_cl (k := B) hBn (by omega)) (Eq.trans (up2_nq (by decide)) (Eq.trans (up2_nq (by decide)) (Eq.trans (up2_nq (by decide)) (Eq.trans (up2_nq (by decide)) (Eq.trans (up2_nq (by decide)) (Eq.trans (up2_nq (by decide)) (Eq.trans (up2_nq (by decide)) (Eq.trans (up2_nq (by decide)) (Eq.trans (up2_nq (by decide)) (Eq.trans (up2_nq (by decide)) (Eq.trans (up2_nq (by decide)) (Eq.trans (up2_nq (by decide)) (Eq.trans (up2_nq (by decide)) (Eq.trans (up2_nq (by decide)) (Eq.trans (up2_nq (by decide)) (Eq.trans (up2_nq (by decide)) (Eq.trans (up2_nq (by decide)) (Eq.trans (up2_nq (by decide)) (Eq.trans (up2_nq (by decide)) (Eq.trans (up2_nq (by decide)) (Eq.trans (up2_nq (by decide)) (Eq.trans (up2_nq (by decide)) (Eq.trans (up2_nq (by decide)) (Eq.trans (up2_nq (by decide)) (Eq.trans (up2_nq (by decide)) (Eq.trans (up2_nq (by decide)) (Eq.trans (up2_nq (by decide)) (Eq.trans (up2_nq (by decide)) (Eq.trans (up2_nq (by decide)) (Eq.trans (up2_nq (by decide)) (Eq.trans (up2_nq (by decide)) (Eq.trans (up2_nq (by decide)) (Eq.trans (up2_nq (by decide)) (Eq.trans (up2_nq (by decide)) (Eq.trans (up2_nq (by decide)) (Eq.trans (up2_nq (by decide)) (Eq.trans (up2_nq (by decide)) (Eq.trans (up2_nq (by decide)) (Eq.trans (up2_nq (by decide)) (up2_nq (by decide))))))))))))))))))))))))))))))))))))))))) ?_
        refine wi_lsw (X := 6) (t := 62) ct_187_6 (by omega) (by decide) ?_
        refine wi_aload_0 ct_187_62 ?_
        refine wi_ic ct_187_63 kc_70 ?_
        refine wi_cv1 (ls' := [some _, some _]) ct_187_65 (Nat.le_of_ble_eq_true rfl) (by decide) (sT_31 hS) rfl (by decide) rfl rfl (Nat.le_of_ble_eq_true rfl) ?_
        refine wi_aload_0 ct_182_0 ?_
        refine wi_gf (x := 7) ct_182_1 (sT_31 hS) rfl rfl up2_eq ?_
        refine wi_ic ct_182_4 kc_20 ?_
        refine wi_icge_f ct_182_6 ki_7 ki_20 (by decide) ?_
        refine wi_aload_0 ct_182_9 ?_
        refine wi_gfr ct_182_10 (sT_31 hS) rfl (sR_31_66 hS) ?_
        refine wi_aload_0 ct_182_13 ?_
        refine wi_gf (x := 7) ct_182_14 (sT_31 hS) rfl rfl up2_eq ?_
        refine wi_iload_1 ct_182_17 ?_
        refine wi_iast ct_182_18 (sT_67 hS) (sL_67 hS) (by decide) kn_c7 ?_
        refine wi_aload_0 ct_182_19 ?_
        refine wi_dup ct_182_20 rfl ?_
        refine wi_gf (x := 7) ct_182_21 (sT_31 hS) rfl rfl (Eq.trans (up2_nq (by decide)) up2_eq) ?_
        refine wi_ic ct_182_24 kc_1 ?_
        refine wi_iadd (z := 8) ct_182_25 (by decide) ?_
        refine wi_pf ct_182_26 (sT_31 hS) rfl ?_
        refine wi_ret ct_182_29 (wk_v ?_)
        refine wi_aload_0 ct_187_68 ?_
        refine wi_iload_1 ct_187_69 ?_
        refine wi_iload_2 ct_187_70 ?_
        refine wi_cv2 (ls' := [some _, some _, some _]) ct_187_71 (Nat.le_of_ble_eq_true rfl) (by decide) (sT_31 hS) rfl (by decide) rfl rfl (Nat.le_of_ble_eq_true rfl) ?_
        refine wi_aload_0 ct_185_0 ?_
        refine wi_ic ct_185_1 kc_11 ?_
        refine wi_cv1 (ls' := [some _, some _]) ct_185_3 (Nat.le_of_ble_eq_true rfl) (by decide) (sT_31 hS) rfl (by decide) rfl rfl (Nat.le_of_ble_eq_true rfl) ?_
        refine wi_aload_0 ct_182_0 ?_
        refine wi_gf (x := 8) ct_182_1 (sT_31 hS) rfl rfl up2_eq ?_
        refine wi_ic ct_182_4 kc_20 ?_
        refine wi_icge_f ct_182_6 ki_8 ki_20 (by decide) ?_
        refine wi_aload_0 ct_182_9 ?_
        refine wi_gfr ct_182_10 (sT_31 hS) rfl (sR_31_66 hS) ?_
        refine wi_aload_0 ct_182_13 ?_
        refine wi_gf (x := 8) ct_182_14 (sT_31 hS) rfl rfl up2_eq ?_
        refine wi_iload_1 ct_182_17 ?_
        refine wi_iast ct_182_18 (sT_67 hS) (sL_67 hS) (by decide) kn_c8 ?_
        refine wi_aload_0 ct_182_19 ?_
        refine wi_dup ct_182_20 rfl ?_
        refine wi_gf (x := 8) ct_182_21 (sT_31 hS) rfl rfl (Eq.trans (up2_nq (by decide)) up2_eq) ?_
        refine wi_ic ct_182_24 kc_1 ?_
        refine wi_iadd (z := 9) ct_182_25 (by decide) ?_
        refine wi_pf ct_182_26 (sT_31 hS) rfl ?_
        refine wi_ret ct_182_29 (wk_v ?_)
        refine wi_aload_0 ct_185_6 ?_
        refine wi_iload_1 ct_185_7 ?_
        refine wi_iload_2 ct_185_8 ?_
        refine wi_cv2 (ls' := [some _, some _, some _]) ct_185_9 (Nat.le_of_ble_eq_true rfl) (by decide) (sT_31 hS) rfl (by decide) rfl rfl (Nat.le_of_ble_eq_true rfl) ?_
        refine wi_aload_0 ct_184_0 ?_
        refine wi_gfr ct_184_1 (sT_31 hS) rfl (sR_31_2 hS) ?_
        refine wi_iload_1 ct_184_4 ?_
        refine wi_iald (x := fi 32 B) ct_184_5 (sT_32 hS) (sL_32 hS) (i_in hBn (by omega)) (i_cl (k := B) hBn (by omega)) (Eq.trans (up2_nq (by decide)) (Eq.trans (up2_nq (by decide)) (Eq.trans (up2_nq (by decide)) (Eq.trans (up2_nq (by decide)) (Eq.trans (up2_nq (by decide)) (Eq.trans (up2_nq (by decide)) (Eq.trans (up2_nq (by decide)) (Eq.trans (up2_nq (by decide)) (Eq.trans (up2_nq (by decide)) (Eq.trans (up2_nq (by decide)) (Eq.trans (up2_nq (by decide)) (Eq.trans (up2_nq (by decide)) (Eq.trans (up2_nq (by decide)) (Eq.trans (up2_nq (by decide)) (Eq.trans (up2_nq (by decide)) (Eq.trans (up2_nq (by decide)) (Eq.trans (up2_nq (by decide)) (Eq.trans (up2_nq (by decide)) (Eq.trans (up2_nq (by decide)) (Eq.trans (up2_nq (by decide)) (Eq.trans (up2_nq (by decide)) (Eq.trans (up2_nq (by decide)) (Eq.trans (up2_nq (by decide)) (Eq.trans (up2_nq (by decide)) (Eq.trans (up2_nq (by decide)) (Eq.trans (up2_nq (by decide)) (Eq.trans (up2_nq (by decide)) (Eq.trans (up2_nq (by decide)) (Eq.trans (up2_nq (by decide)) (Eq.trans (up2_nq (by decide)) (Eq.trans (up2_nq (by decide)) (Eq.trans (up2_nq (by decide)) (Eq.trans (up2_nq (by decide)) (Eq.trans (up2_nq (by decide)) (Eq.trans (up2_nq (by decide)) (Eq.trans (up2_nq (by decide)) (Eq.trans (up2_nq (by decide)) (Eq.trans (up2_nq (by decide)) (Eq.trans (up2_nq (by decide)) (Eq.trans (up2_nq (by decide)) (Eq.trans (up2_nq (by decide)) (Eq.trans (up2_nq (by decide)) (Eq.trans (up2_nq (by decide)) (up2_nq (by decide))))))))))))))))))))))))))))))))))))))))))))) ?_
        refine wi_tsw (X := 6) (t := 69) ct_184_6 (by omega) rfl ?_
        refine wi_aload_0 ct_184_69 ?_
        refine wi_ic ct_184_70 kc_71 ?_
        refine wi_cv1 (ls' := [some _, some _]) ct_184_72 (Nat.le_of_ble_eq_true rfl) (by decide) (sT_31 hS) rfl (by decide) rfl rfl (Nat.le_of_ble_eq_true rfl) ?_
        refine wi_aload_0 ct_182_0 ?_
        refine wi_gf (x := 9) ct_182_1 (sT_31 hS) rfl rfl up2_eq ?_
        refine wi_ic ct_182_4 kc_20 ?_
        refine wi_icge_f ct_182_6 ki_9 ki_20 (by decide) ?_
        refine wi_aload_0 ct_182_9 ?_
        refine wi_gfr ct_182_10 (sT_31 hS) rfl (sR_31_66 hS) ?_
        refine wi_aload_0 ct_182_13 ?_
        refine wi_gf (x := 9) ct_182_14 (sT_31 hS) rfl rfl up2_eq ?_
        refine wi_iload_1 ct_182_17 ?_
        refine wi_iast ct_182_18 (sT_67 hS) (sL_67 hS) (by decide) kn_c9 ?_
        refine wi_aload_0 ct_182_19 ?_
        refine wi_dup ct_182_20 rfl ?_
        refine wi_gf (x := 9) ct_182_21 (sT_31 hS) rfl rfl (Eq.trans (up2_nq (by decide)) up2_eq) ?_
        refine wi_ic ct_182_24 kc_1 ?_
        refine wi_iadd (z := 10) ct_182_25 (by decide) ?_
        refine wi_pf ct_182_26 (sT_31 hS) rfl ?_
        refine wi_ret ct_182_29 (wk_v ?_)
        refine wi_aload_0 ct_184_75 ?_
        refine wi_iload_1 ct_184_76 ?_
        refine wi_iload_2 ct_184_77 ?_
        refine wi_cv2 (ls' := [some _, some _, some _]) ct_184_78 (Nat.le_of_ble_eq_true rfl) (by decide) (sT_31 hS) rfl (by decide) rfl rfl (Nat.le_of_ble_eq_true rfl) ?_
        refine wi_aload_0 ct_183_0 ?_
        refine wi_ic ct_183_1 kc_10 ?_
        refine wi_cv1 (ls' := [some _, some _]) ct_183_3 (Nat.le_of_ble_eq_true rfl) (by decide) (sT_31 hS) rfl (by decide) rfl rfl (Nat.le_of_ble_eq_true rfl) ?_
        refine wi_aload_0 ct_182_0 ?_
        refine wi_gf (x := 10) ct_182_1 (sT_31 hS) rfl rfl up2_eq ?_
        refine wi_ic ct_182_4 kc_20 ?_
        refine wi_icge_f ct_182_6 ki_10 ki_20 (by decide) ?_
        refine wi_aload_0 ct_182_9 ?_
        refine wi_gfr ct_182_10 (sT_31 hS) rfl (sR_31_66 hS) ?_
        refine wi_aload_0 ct_182_13 ?_
        refine wi_gf (x := 10) ct_182_14 (sT_31 hS) rfl rfl up2_eq ?_
        refine wi_iload_1 ct_182_17 ?_
        refine wi_iast ct_182_18 (sT_67 hS) (sL_67 hS) (by decide) kn_c10 ?_
        refine wi_aload_0 ct_182_19 ?_
        refine wi_dup ct_182_20 rfl ?_
        refine wi_gf (x := 10) ct_182_21 (sT_31 hS) rfl rfl (Eq.trans (up2_nq (by decide)) up2_eq) ?_
        refine wi_ic ct_182_24 kc_1 ?_
        refine wi_iadd (z := 11) ct_182_25 (by decide) ?_
        refine wi_pf ct_182_26 (sT_31 hS) rfl ?_
        refine wi_ret ct_182_29 (wk_v ?_)
        refine wi_iload_2 ct_183_6 ?_
        refine wi_iload_1 ct_183_7 ?_
        refine wi_iadd ct_183_8 rfl ?_
        refine wi_iret ct_183_9 rfl (wk_i ?_)
        refine wi_aload_0 ct_184_81 ?_
        refine wi_gfr ct_184_82 (sT_31 hS) rfl (sR_31_3 hS) ?_
        refine wi_iload_1 ct_184_85 ?_
        refine wi_iald (x := fi 33 B) ct_184_86 (sT_33 hS) (sL_33 hS) (i_in hBn (by omega)) (i_cl (k := B) hBn (by omega)) (Eq.trans (up2_nq (by decide)) (Eq.trans (up2_nq (by decide)) (Eq.trans (up2_nq (by decide)) (Eq.trans (up2_nq (by decide)) (Eq.trans (up2_nq (by decide)) (Eq.trans (up2_nq (by decide)) (Eq.trans (up2_nq (by decide)) (Eq.trans (up2_nq (by decide)) (Eq.trans (up2_nq (by decide)) (Eq.trans (up2_nq (by decide)) (Eq.trans (up2_nq (by decide)) (Eq.trans (up2_nq (by decide)) (Eq.trans (up2_nq (by decide)) (Eq.trans (up2_nq (by decide)) (Eq.trans (up2_nq (by decide)) (Eq.trans (up2_nq (by decide)) (Eq.trans (up2_nq (by decide)) (Eq.trans (up2_nq (by decide)) (Eq.trans (up2_nq (by decide)) (Eq.trans (up2_nq (by decide)) (Eq.trans (up2_nq (by decide)) (Eq.trans (up2_nq (by decide)) (Eq.trans (up2_nq (by decide)) (Eq.trans (up2_nq (by decide)) (Eq.trans (up2_nq (by decide)) (Eq.trans (up2_nq (by decide)) (Eq.trans (up2_nq (by decide)) (Eq.trans (up2_nq (by decide)) (Eq.trans (up2_nq (by decide)) (Eq.trans (up2_nq (by decide)) (Eq.trans (up2_nq (by decide)) (Eq.trans (up2_nq (by decide)) (Eq.trans (up2_nq (by decide)) (Eq.trans (up2_nq (by decide)) (Eq.trans (up2_nq (by decide)) (Eq.trans (up2_nq (by decide)) (Eq.trans (up2_nq (by decide)) (Eq.trans (up2_nq (by decide)) (Eq.trans (up2_nq (by decide)) (Eq.trans (up2_nq (by decide)) (Eq.trans (up2_nq (by decide)) (Eq.trans (up2_nq (by decide)) (Eq.trans (up2_nq (by decide)) (Eq.trans (up2_nq (by decide)) (Eq.trans (up2_nq (by decide)) (Eq.trans (up2_nq (by decide)) (Eq.trans (up2_nq (by decide)) (up2_nq (by decide))))))))))))))))))))))))))))))))))))))))))))))))) ?_
        refine wi_ixor ct_184_87 rfl ?_
        refine wi_iret ct_184_88 rfl (wk_i ?_)
        refine wi_aload_0 ct_185_12 ?_
        refine wi_gfr ct_185_13 (sT_31 hS) rfl (sR_31_3 hS) ?_
        refine wi_iload_1 ct_185_16 ?_
        refine wi_iald (x := fi 33 B) ct_185_17 (sT_33 hS) (sL_33 hS) (i_in hBn (by omega)) (i_cl (k := B) hBn (by omega)) (Eq.trans (up2_nq (by decide)) (Eq.trans (up2_nq (by decide)) (Eq.trans (up2_nq (by decide)) (Eq.trans (up2_nq (by decide)) (Eq.trans (up2_nq (by decide)) (Eq.trans (up2_nq (by decide)) (Eq.trans (up2_nq (by decide)) (Eq.trans (up2_nq (by decide)) (Eq.trans (up2_nq (by decide)) (Eq.trans (up2_nq (by decide)) (Eq.trans (up2_nq (by decide)) (Eq.trans (up2_nq (by decide)) (Eq.trans (up2_nq (by decide)) (Eq.trans (up2_nq (by decide)) (Eq.trans (up2_nq (by decide)) (Eq.trans (up2_nq (by decide)) (Eq.trans (up2_nq (by decide)) (Eq.trans (up2_nq (by decide)) (Eq.trans (up2_nq (by decide)) (Eq.trans (up2_nq (by decide)) (Eq.trans (up2_nq (by decide)) (Eq.trans (up2_nq (by decide)) (Eq.trans (up2_nq (by decide)) (Eq.trans (up2_nq (by decide)) (Eq.trans (up2_nq (by decide)) (Eq.trans (up2_nq (by decide)) (Eq.trans (up2_nq (by decide)) (Eq.trans (up2_nq (by decide)) (Eq.trans (up2_nq (by decide)) (Eq.trans (up2_nq (by decide)) (Eq.trans (up2_nq (by decide)) (Eq.trans (up2_nq (by decide)) (Eq.trans (up2_nq (by decide)) (Eq.trans (up2_nq (by decide)) (Eq.trans (up2_nq (by decide)) (Eq.trans (up2_nq (by decide)) (Eq.trans (up2_nq (by decide)) (Eq.trans (up2_nq (by decide)) (Eq.trans (up2_nq (by decide)) (Eq.trans (up2_nq (by decide)) (Eq.trans (up2_nq (by decide)) (Eq.trans (up2_nq (by decide)) (Eq.trans (up2_nq (by decide)) (Eq.trans (up2_nq (by decide)) (Eq.trans (up2_nq (by decide)) (Eq.trans (up2_nq (by decide)) (Eq.trans (up2_nq (by decide)) (up2_nq (by decide))))))))))))))))))))))))))))))))))))))))))))))))) ?_
        refine wi_isub ct_185_18 rfl ?_
        refine wi_iret ct_185_19 rfl (wk_i ?_)
        refine wi_istore_3 rfl ct_187_74 ?_
        refine wi_iload_3 ct_187_75 ?_
        refine wi_aload_0 ct_187_76 ?_
        refine wi_iload_1 ct_187_77 ?_
        refine wi_ic ct_187_78 kc_2 ?_
        refine wi_cv2 (ls' := [some _, some _, some _]) ct_187_79 (Nat.le_of_ble_eq_true rfl) (by decide) (sT_31 hS) rfl (by decide) rfl rfl (Nat.le_of_ble_eq_true rfl) ?_
        refine wi_aload_0 ct_183_0 ?_
        refine wi_ic ct_183_1 kc_10 ?_
        refine wi_cv1 (ls' := [some _, some _]) ct_183_3 (Nat.le_of_ble_eq_true rfl) (by decide) (sT_31 hS) rfl (by decide) rfl rfl (Nat.le_of_ble_eq_true rfl) ?_
        refine wi_aload_0 ct_182_0 ?_
        refine wi_gf (x := 11) ct_182_1 (sT_31 hS) rfl rfl up2_eq ?_
        refine wi_ic ct_182_4 kc_20 ?_
        refine wi_icge_f ct_182_6 ki_11 ki_20 (by decide) ?_
        refine wi_aload_0 ct_182_9 ?_
        refine wi_gfr ct_182_10 (sT_31 hS) rfl (sR_31_66 hS) ?_
        refine wi_aload_0 ct_182_13 ?_
        refine wi_gf (x := 11) ct_182_14 (sT_31 hS) rfl rfl up2_eq ?_
        refine wi_iload_1 ct_182_17 ?_
        refine wi_iast ct_182_18 (sT_67 hS) (sL_67 hS) (by decide) kn_c11 ?_
        refine wi_aload_0 ct_182_19 ?_
        refine wi_dup ct_182_20 rfl ?_
        refine wi_gf (x := 11) ct_182_21 (sT_31 hS) rfl rfl (Eq.trans (up2_nq (by decide)) up2_eq) ?_
        refine wi_ic ct_182_24 kc_1 ?_
        refine wi_iadd (z := 12) ct_182_25 (by decide) ?_
        refine wi_pf ct_182_26 (sT_31 hS) rfl ?_
        refine wi_ret ct_182_29 (wk_v ?_)
        refine wi_iload_2 ct_183_6 ?_
        refine wi_iload_1 ct_183_7 ?_
        refine wi_iadd ct_183_8 rfl ?_
        refine wi_iret ct_183_9 rfl (wk_i ?_)
        refine wi_iadd ct_187_82 rfl ?_
        refine wi_iret ct_187_83 rfl (wk_i ?_)
        refine wi_iadd ct_189_56 rfl ?_
        refine wi_iret ct_189_57 rfl (wk_i ?_)
        refine wi_iret ct_190_58 rfl (wk_i ?_)
        refine wi_iceq_t ct_211_1062 rfl rfl (by omega) ?_
        refine kk own g _ fl (hR.act (fun q h1 h2 h3 => (Eq.trans (funext fun _ => up2_nq h2) (Eq.trans (funext fun _ => up2_nq h3) (Eq.trans (funext fun _ => up2_nq h2) (Eq.trans (funext fun _ => up2_nq h3) (Eq.trans (funext fun _ => up2_nq h2) (Eq.trans (funext fun _ => up2_nq h3) (Eq.trans (funext fun _ => up2_nq h2) (Eq.trans (funext fun _ => up2_nq h3) (Eq.trans (funext fun _ => up2_nq h2) (Eq.trans (funext fun _ => up2_nq h3) (Eq.trans (funext fun _ => up2_nq h2) (Eq.trans (funext fun _ => up2_nq h3) (Eq.trans (funext fun _ => up2_nq h2) (Eq.trans (funext fun _ => up2_nq h3) (Eq.trans (funext fun _ => up2_nq h2) (Eq.trans (funext fun _ => up2_nq h3) (Eq.trans (funext fun _ => up2_nq h2) (Eq.trans (funext fun _ => up2_nq h3) (Eq.trans (funext fun _ => up2_nq h2) (Eq.trans (funext fun _ => up2_nq h3) (Eq.trans (funext fun _ => up2_nq h2) (Eq.trans (funext fun _ => up2_nq h3) (Eq.trans (funext fun _ => up2_nq h2) (Eq.trans (funext fun _ => up2_nq h3) (Eq.trans (funext fun _ => up2_nq h2) (Eq.trans (funext fun _ => up2_nq h1) (Eq.trans (funext fun _ => up2_nq h1) (Eq.trans (funext fun _ => up2_nq h1) (Eq.trans (funext fun _ => up2_nq h1) (Eq.trans (funext fun _ => up2_nq h1) (Eq.trans (funext fun _ => up2_nq h1) (Eq.trans (funext fun _ => up2_nq h1) (Eq.trans (funext fun _ => up2_nq h1) (Eq.trans (funext fun _ => up2_nq h1) (Eq.trans (funext fun _ => up2_nq h1) (Eq.trans (funext fun _ => up2_nq h1) (Eq.trans (funext fun _ => up2_nq h1) (Eq.trans (funext fun _ => up2_nq h1) (Eq.trans (funext fun _ => up2_nq h1) (Eq.trans (funext fun _ => up2_nq h1) (Eq.trans (funext fun _ => up2_nq h1) (Eq.trans (funext fun _ => up2_nq h1) (Eq.trans (funext fun _ => up2_nq h1) (Eq.trans (funext fun _ => up2_nq h1) (Eq.trans (funext fun _ => up2_nq h1) (Eq.trans (funext fun _ => up2_nq h1) (Eq.trans (funext fun _ => up2_nq h1) (Eq.trans (funext fun _ => up2_nq h1) (Eq.trans (funext fun _ => up2_nq h1) (funext fun _ => up2_nq h1))))))))))))))))))))))))))))))))))))))))))))))))))) (fun j hj => (Eq.trans (up2_nj hj) (Eq.trans (up2_nq (by decide)) (Eq.trans (up2_nj hj) (Eq.trans (up2_nq (by decide)) (Eq.trans (up2_nj hj) (Eq.trans (up2_nq (by decide)) (Eq.trans (up2_nj hj) (Eq.trans (up2_nq (by decide)) (Eq.trans (up2_nj hj) (Eq.trans (up2_nq (by decide)) (Eq.trans (up2_nj hj) (Eq.trans (up2_nq (by decide)) (Eq.trans (up2_nj hj) (Eq.trans (up2_nq (by decide)) (Eq.trans (up2_nj hj) (Eq.trans (up2_nq (by decide)) (Eq.trans (up2_nj hj) (Eq.trans (up2_nq (by decide)) (Eq.trans (up2_nj hj) (Eq.trans (up2_nq (by decide)) (Eq.trans (up2_nj hj) (Eq.trans (up2_nq (by decide)) (Eq.trans (up2_nj hj) (Eq.trans (up2_nq (by decide)) (Eq.trans (up2_nj hj) (Eq.trans (up2_nq (by decide)) (Eq.trans (up2_nq (by decide)) (Eq.trans (up2_nq (by decide)) (Eq.trans (up2_nq (by decide)) (Eq.trans (up2_nq (by decide)) (Eq.trans (up2_nq (by decide)) (Eq.trans (up2_nq (by decide)) (Eq.trans (up2_nq (by decide)) (Eq.trans (up2_nq (by decide)) (Eq.trans (up2_nq (by decide)) (Eq.trans (up2_nq (by decide)) (Eq.trans (up2_nq (by decide)) (Eq.trans (up2_nq (by decide)) (Eq.trans (up2_nq (by decide)) (Eq.trans (up2_nq (by decide)) (Eq.trans (up2_nq (by decide)) (Eq.trans (up2_nq (by decide)) (Eq.trans (up2_nq (by decide)) (Eq.trans (up2_nq (by decide)) (Eq.trans (up2_nq (by decide)) (Eq.trans (up2_nq (by decide)) (Eq.trans (up2_nq (by decide)) (Eq.trans (up2_nq (by decide)) (Eq.trans (up2_nq (by decide)) (up2_nq (by decide)))))))))))))))))))))))))))))))))))))))))))))))))))) ⟨((Eq.trans (up2_nq (by decide)) (Eq.trans (up2_nq (by decide)) (Eq.trans (up2_nq (by decide)) (Eq.trans (up2_nq (by decide)) (Eq.trans (up2_nq (by decide)) (Eq.trans (up2_nq (by decide)) (Eq.trans (up2_nq (by decide)) (Eq.trans (up2_nq (by decide)) (Eq.trans (up2_nq (by decide)) (Eq.trans (up2_nq (by decide)) (Eq.trans (up2_nq (by decide)) (Eq.trans (up2_nq (by decide)) (Eq.trans (up2_nq (by decide)) (Eq.trans (up2_nq (by decide)) (Eq.trans (up2_nq (by decide)) (Eq.trans (up2_nq (by decide)) (Eq.trans (up2_nq (by decide)) (Eq.trans (up2_nq (by decide)) (Eq.trans (up2_nq (by decide)) (Eq.trans (up2_nq (by decide)) (Eq.trans (up2_nq (by decide)) (Eq.trans (up2_nq (by decide)) (Eq.trans (up2_nq (by decide)) (Eq.trans (up2_nq (by decide)) (Eq.trans (up2_nq (by decide)) (Eq.trans (up2_nj (by decide)) up2_eq))))))))))))))))))))))))))).trans (up2_eq).symm, by rw [up2_eq]; decide, by rw [up2_eq]; decide⟩ ?_) (by omega) (by omega)
        intro j hj hn
        rw [up2_eq] at hn
        replace hn : (j : Int) < 12 := hn
        match j, (by omega : j < 12) with
        | 0, _ => exact ((Eq.trans (up2_nq (by decide)) (Eq.trans (up2_nq (by decide)) (Eq.trans (up2_nq (by decide)) (Eq.trans (up2_nq (by decide)) (Eq.trans (up2_nq (by decide)) (Eq.trans (up2_nq (by decide)) (Eq.trans (up2_nq (by decide)) (Eq.trans (up2_nq (by decide)) (Eq.trans (up2_nq (by decide)) (Eq.trans (up2_nq (by decide)) (Eq.trans (up2_nq (by decide)) (Eq.trans (up2_nq (by decide)) (Eq.trans (up2_nq (by decide)) (Eq.trans (up2_nq (by decide)) (Eq.trans (up2_nq (by decide)) (Eq.trans (up2_nq (by decide)) (Eq.trans (up2_nq (by decide)) (Eq.trans (up2_nq (by decide)) (Eq.trans (up2_nq (by decide)) (Eq.trans (up2_nq (by decide)) (Eq.trans (up2_nq (by decide)) (Eq.trans (up2_nq (by decide)) (Eq.trans (up2_nq (by decide)) (Eq.trans (up2_nq (by decide)) (Eq.trans (up2_nq (by decide)) (Eq.trans (up2_nj (by decide)) (Eq.trans (up2_nj (by decide)) (Eq.trans (up2_nj (by decide)) (Eq.trans (up2_nj (by decide)) (Eq.trans (up2_nj (by decide)) (Eq.trans (up2_nj (by decide)) (Eq.trans (up2_nj (by decide)) (Eq.trans (up2_nj (by decide)) (Eq.trans (up2_nj (by decide)) (Eq.trans (up2_nj (by decide)) (Eq.trans (up2_nj (by decide)) (Eq.trans (up2_nj (by decide)) (Eq.trans (up2_nj (by decide)) (Eq.trans (up2_nj (by decide)) (Eq.trans (up2_nj (by decide)) (Eq.trans (up2_nj (by decide)) (Eq.trans (up2_nj (by decide)) (Eq.trans (up2_nj (by decide)) (Eq.trans (up2_nj (by decide)) (Eq.trans (up2_nj (by decide)) (Eq.trans (up2_nj (by decide)) (Eq.trans (up2_nj (by decide)) up2_eq)))))))))))))))))))))))))))))))))))))))))))))))).trans ((Eq.trans (up2_nq (by decide)) (Eq.trans (up2_nj (by decide)) (Eq.trans (up2_nq (by decide)) (Eq.trans (up2_nj (by decide)) (Eq.trans (up2_nq (by decide)) (Eq.trans (up2_nj (by decide)) (Eq.trans (up2_nq (by decide)) (Eq.trans (up2_nj (by decide)) (Eq.trans (up2_nq (by decide)) (Eq.trans (up2_nj (by decide)) (Eq.trans (up2_nq (by decide)) (Eq.trans (up2_nj (by decide)) (Eq.trans (up2_nq (by decide)) (Eq.trans (up2_nj (by decide)) (Eq.trans (up2_nq (by decide)) (Eq.trans (up2_nj (by decide)) (Eq.trans (up2_nq (by decide)) (Eq.trans (up2_nj (by decide)) (Eq.trans (up2_nq (by decide)) (Eq.trans (up2_nj (by decide)) (Eq.trans (up2_nq (by decide)) (Eq.trans (up2_nj (by decide)) (Eq.trans (up2_nq (by decide)) up2_eq)))))))))))))))))))))))).symm
        | 1, _ => exact ((Eq.trans (up2_nq (by decide)) (Eq.trans (up2_nq (by decide)) (Eq.trans (up2_nq (by decide)) (Eq.trans (up2_nq (by decide)) (Eq.trans (up2_nq (by decide)) (Eq.trans (up2_nq (by decide)) (Eq.trans (up2_nq (by decide)) (Eq.trans (up2_nq (by decide)) (Eq.trans (up2_nq (by decide)) (Eq.trans (up2_nq (by decide)) (Eq.trans (up2_nq (by decide)) (Eq.trans (up2_nq (by decide)) (Eq.trans (up2_nq (by decide)) (Eq.trans (up2_nq (by decide)) (Eq.trans (up2_nq (by decide)) (Eq.trans (up2_nq (by decide)) (Eq.trans (up2_nq (by decide)) (Eq.trans (up2_nq (by decide)) (Eq.trans (up2_nq (by decide)) (Eq.trans (up2_nq (by decide)) (Eq.trans (up2_nq (by decide)) (Eq.trans (up2_nq (by decide)) (Eq.trans (up2_nq (by decide)) (Eq.trans (up2_nq (by decide)) (Eq.trans (up2_nq (by decide)) (Eq.trans (up2_nj (by decide)) (Eq.trans (up2_nj (by decide)) (Eq.trans (up2_nj (by decide)) (Eq.trans (up2_nj (by decide)) (Eq.trans (up2_nj (by decide)) (Eq.trans (up2_nj (by decide)) (Eq.trans (up2_nj (by decide)) (Eq.trans (up2_nj (by decide)) (Eq.trans (up2_nj (by decide)) (Eq.trans (up2_nj (by decide)) (Eq.trans (up2_nj (by decide)) (Eq.trans (up2_nj (by decide)) (Eq.trans (up2_nj (by decide)) (Eq.trans (up2_nj (by decide)) (Eq.trans (up2_nj (by decide)) (Eq.trans (up2_nj (by decide)) (Eq.trans (up2_nj (by decide)) (Eq.trans (up2_nj (by decide)) (Eq.trans (up2_nj (by decide)) (Eq.trans (up2_nj (by decide)) up2_eq)))))))))))))))))))))))))))))))))))))))))))))).trans ((Eq.trans (up2_nq (by decide)) (Eq.trans (up2_nj (by decide)) (Eq.trans (up2_nq (by decide)) (Eq.trans (up2_nj (by decide)) (Eq.trans (up2_nq (by decide)) (Eq.trans (up2_nj (by decide)) (Eq.trans (up2_nq (by decide)) (Eq.trans (up2_nj (by decide)) (Eq.trans (up2_nq (by decide)) (Eq.trans (up2_nj (by decide)) (Eq.trans (up2_nq (by decide)) (Eq.trans (up2_nj (by decide)) (Eq.trans (up2_nq (by decide)) (Eq.trans (up2_nj (by decide)) (Eq.trans (up2_nq (by decide)) (Eq.trans (up2_nj (by decide)) (Eq.trans (up2_nq (by decide)) (Eq.trans (up2_nj (by decide)) (Eq.trans (up2_nq (by decide)) (Eq.trans (up2_nj (by decide)) (Eq.trans (up2_nq (by decide)) up2_eq)))))))))))))))))))))).symm
        | 2, _ => exact ((Eq.trans (up2_nq (by decide)) (Eq.trans (up2_nq (by decide)) (Eq.trans (up2_nq (by decide)) (Eq.trans (up2_nq (by decide)) (Eq.trans (up2_nq (by decide)) (Eq.trans (up2_nq (by decide)) (Eq.trans (up2_nq (by decide)) (Eq.trans (up2_nq (by decide)) (Eq.trans (up2_nq (by decide)) (Eq.trans (up2_nq (by decide)) (Eq.trans (up2_nq (by decide)) (Eq.trans (up2_nq (by decide)) (Eq.trans (up2_nq (by decide)) (Eq.trans (up2_nq (by decide)) (Eq.trans (up2_nq (by decide)) (Eq.trans (up2_nq (by decide)) (Eq.trans (up2_nq (by decide)) (Eq.trans (up2_nq (by decide)) (Eq.trans (up2_nq (by decide)) (Eq.trans (up2_nq (by decide)) (Eq.trans (up2_nq (by decide)) (Eq.trans (up2_nq (by decide)) (Eq.trans (up2_nq (by decide)) (Eq.trans (up2_nq (by decide)) (Eq.trans (up2_nq (by decide)) (Eq.trans (up2_nj (by decide)) (Eq.trans (up2_nj (by decide)) (Eq.trans (up2_nj (by decide)) (Eq.trans (up2_nj (by decide)) (Eq.trans (up2_nj (by decide)) (Eq.trans (up2_nj (by decide)) (Eq.trans (up2_nj (by decide)) (Eq.trans (up2_nj (by decide)) (Eq.trans (up2_nj (by decide)) (Eq.trans (up2_nj (by decide)) (Eq.trans (up2_nj (by decide)) (Eq.trans (up2_nj (by decide)) (Eq.trans (up2_nj (by decide)) (Eq.trans (up2_nj (by decide)) (Eq.trans (up2_nj (by decide)) (Eq.trans (up2_nj (by decide)) (Eq.trans (up2_nj (by decide)) (Eq.trans (up2_nj (by decide)) up2_eq)))))))))))))))))))))))))))))))))))))))))))).trans ((Eq.trans (up2_nq (by decide)) (Eq.trans (up2_nj (by decide)) (Eq.trans (up2_nq (by decide)) (Eq.trans (up2_nj (by decide)) (Eq.trans (up2_nq (by decide)) (Eq.trans (up2_nj (by decide)) (Eq.trans (up2_nq (by decide)) (Eq.trans (up2_nj (by decide)) (Eq.trans (up2_nq (by decide)) (Eq.trans (up2_nj (by decide)) (Eq.trans (up2_nq (by decide)) (Eq.trans (up2_nj (by decide)) (Eq.trans (up2_nq (by decide)) (Eq.trans (up2_nj (by decide)) (Eq.trans (up2_nq (by decide)) (Eq.trans (up2_nj (by decide)) (Eq.trans (up2_nq (by decide)) (Eq.trans (up2_nj (by decide)) (Eq.trans (up2_nq (by decide)) up2_eq)))))))))))))))))))).symm
        | 3, _ => exact ((Eq.trans (up2_nq (by decide)) (Eq.trans (up2_nq (by decide)) (Eq.trans (up2_nq (by decide)) (Eq.trans (up2_nq (by decide)) (Eq.trans (up2_nq (by decide)) (Eq.trans (up2_nq (by decide)) (Eq.trans (up2_nq (by decide)) (Eq.trans (up2_nq (by decide)) (Eq.trans (up2_nq (by decide)) (Eq.trans (up2_nq (by decide)) (Eq.trans (up2_nq (by decide)) (Eq.trans (up2_nq (by decide)) (Eq.trans (up2_nq (by decide)) (Eq.trans (up2_nq (by decide)) (Eq.trans (up2_nq (by decide)) (Eq.trans (up2_nq (by decide)) (Eq.trans (up2_nq (by decide)) (Eq.trans (up2_nq (by decide)) (Eq.trans (up2_nq (by decide)) (Eq.trans (up2_nq (by decide)) (Eq.trans (up2_nq (by decide)) (Eq.trans (up2_nq (by decide)) (Eq.trans (up2_nq (by decide)) (Eq.trans (up2_nq (by decide)) (Eq.trans (up2_nq (by decide)) (Eq.trans (up2_nj (by decide)) (Eq.trans (up2_nj (by decide)) (Eq.trans (up2_nj (by decide)) (Eq.trans (up2_nj (by decide)) (Eq.trans (up2_nj (by decide)) (Eq.trans (up2_nj (by decide)) (Eq.trans (up2_nj (by decide)) (Eq.trans (up2_nj (by decide)) (Eq.trans (up2_nj (by decide)) (Eq.trans (up2_nj (by decide)) (Eq.trans (up2_nj (by decide)) (Eq.trans (up2_nj (by decide)) (Eq.trans (up2_nj (by decide)) (Eq.trans (up2_nj (by decide)) (Eq.trans (up2_nj (by decide)) (Eq.trans (up2_nj (by decide)) up2_eq)))))))))))))))))))))))))))))))))))))))))).trans ((Eq.trans (up2_nq (by decide)) (Eq.trans (up2_nj (by decide)) (Eq.trans (up2_nq (by decide)) (Eq.trans (up2_nj (by decide)) (Eq.trans (up2_nq (by decide)) (Eq.trans (up2_nj (by decide)) (Eq.trans (up2_nq (by decide)) (Eq.trans (up2_nj (by decide)) (Eq.trans (up2_nq (by decide)) (Eq.trans (up2_nj (by decide)) (Eq.trans (up2_nq (by decide)) (Eq.trans (up2_nj (by decide)) (Eq.trans (up2_nq (by decide)) (Eq.trans (up2_nj (by decide)) (Eq.trans (up2_nq (by decide)) (Eq.trans (up2_nj (by decide)) (Eq.trans (up2_nq (by decide)) up2_eq)))))))))))))))))).symm
        | 4, _ => exact ((Eq.trans (up2_nq (by decide)) (Eq.trans (up2_nq (by decide)) (Eq.trans (up2_nq (by decide)) (Eq.trans (up2_nq (by decide)) (Eq.trans (up2_nq (by decide)) (Eq.trans (up2_nq (by decide)) (Eq.trans (up2_nq (by decide)) (Eq.trans (up2_nq (by decide)) (Eq.trans (up2_nq (by decide)) (Eq.trans (up2_nq (by decide)) (Eq.trans (up2_nq (by decide)) (Eq.trans (up2_nq (by decide)) (Eq.trans (up2_nq (by decide)) (Eq.trans (up2_nq (by decide)) (Eq.trans (up2_nq (by decide)) (Eq.trans (up2_nq (by decide)) (Eq.trans (up2_nq (by decide)) (Eq.trans (up2_nq (by decide)) (Eq.trans (up2_nq (by decide)) (Eq.trans (up2_nq (by decide)) (Eq.trans (up2_nq (by decide)) (Eq.trans (up2_nq (by decide)) (Eq.trans (up2_nq (by decide)) (Eq.trans (up2_nq (by decide)) (Eq.trans (up2_nq (by decide)) (Eq.trans (up2_nj (by decide)) (Eq.trans (up2_nj (by decide)) (Eq.trans (up2_nj (by decide)) (Eq.trans (up2_nj (by decide)) (Eq.trans (up2_nj (by decide)) (Eq.trans (up2_nj (by decide)) (Eq.trans (up2_nj (by decide)) (Eq.trans (up2_nj (by decide)) (Eq.trans (up2_nj (by decide)) (Eq.trans (up2_nj (by decide)) (Eq.trans (up2_nj (by decide)) (Eq.trans (up2_nj (by decide)) (Eq.trans (up2_nj (by decide)) (Eq.trans (up2_nj (by decide)) up2_eq)))))))))))))))))))))))))))))))))))))))).trans ((Eq.trans (up2_nq (by decide)) (Eq.trans (up2_nj (by decide)) (Eq.trans (up2_nq (by decide)) (Eq.trans (up2_nj (by decide)) (Eq.trans (up2_nq (by decide)) (Eq.trans (up2_nj (by decide)) (Eq.trans (up2_nq (by decide)) (Eq.trans (up2_nj (by decide)) (Eq.trans (up2_nq (by decide)) (Eq.trans (up2_nj (by decide)) (Eq.trans (up2_nq (by decide)) (Eq.trans (up2_nj (by decide)) (Eq.trans (up2_nq (by decide)) (Eq.trans (up2_nj (by decide)) (Eq.trans (up2_nq (by decide)) up2_eq)))))))))))))))).symm
        | 5, _ => exact ((Eq.trans (up2_nq (by decide)) (Eq.trans (up2_nq (by decide)) (Eq.trans (up2_nq (by decide)) (Eq.trans (up2_nq (by decide)) (Eq.trans (up2_nq (by decide)) (Eq.trans (up2_nq (by decide)) (Eq.trans (up2_nq (by decide)) (Eq.trans (up2_nq (by decide)) (Eq.trans (up2_nq (by decide)) (Eq.trans (up2_nq (by decide)) (Eq.trans (up2_nq (by decide)) (Eq.trans (up2_nq (by decide)) (Eq.trans (up2_nq (by decide)) (Eq.trans (up2_nq (by decide)) (Eq.trans (up2_nq (by decide)) (Eq.trans (up2_nq (by decide)) (Eq.trans (up2_nq (by decide)) (Eq.trans (up2_nq (by decide)) (Eq.trans (up2_nq (by decide)) (Eq.trans (up2_nq (by decide)) (Eq.trans (up2_nq (by decide)) (Eq.trans (up2_nq (by decide)) (Eq.trans (up2_nq (by decide)) (Eq.trans (up2_nq (by decide)) (Eq.trans (up2_nq (by decide)) (Eq.trans (up2_nj (by decide)) (Eq.trans (up2_nj (by decide)) (Eq.trans (up2_nj (by decide)) (Eq.trans (up2_nj (by decide)) (Eq.trans (up2_nj (by decide)) (Eq.trans (up2_nj (by decide)) (Eq.trans (up2_nj (by decide)) (Eq.trans (up2_nj (by decide)) (Eq.trans (up2_nj (by decide)) (Eq.trans (up2_nj (by decide)) (Eq.trans (up2_nj (by decide)) (Eq.trans (up2_nj (by decide)) up2_eq)))))))))))))))))))))))))))))))))))))).trans ((Eq.trans (up2_nq (by decide)) (Eq.trans (up2_nj (by decide)) (Eq.trans (up2_nq (by decide)) (Eq.trans (up2_nj (by decide)) (Eq.trans (up2_nq (by decide)) (Eq.trans (up2_nj (by decide)) (Eq.trans (up2_nq (by decide)) (Eq.trans (up2_nj (by decide)) (Eq.trans (up2_nq (by decide)) (Eq.trans (up2_nj (by decide)) (Eq.trans (up2_nq (by decide)) (Eq.trans (up2_nj (by decide)) (Eq.trans (up2_nq (by decide)) up2_eq)))))))))))))).symm
        | 6, _ => exact ((Eq.trans (up2_nq (by decide)) (Eq.trans (up2_nq (by decide)) (Eq.trans (up2_nq (by decide)) (Eq.trans (up2_nq (by decide)) (Eq.trans (up2_nq (by decide)) (Eq.trans (up2_nq (by decide)) (Eq.trans (up2_nq (by decide)) (Eq.trans (up2_nq (by decide)) (Eq.trans (up2_nq (by decide)) (Eq.trans (up2_nq (by decide)) (Eq.trans (up2_nq (by decide)) (Eq.trans (up2_nq (by decide)) (Eq.trans (up2_nq (by decide)) (Eq.trans (up2_nq (by decide)) (Eq.trans (up2_nq (by decide)) (Eq.trans (up2_nq (by decide)) (Eq.trans (up2_nq (by decide)) (Eq.trans (up2_nq (by decide)) (Eq.trans (up2_nq (by decide)) (Eq.trans (up2_nq (by decide)) (Eq.trans (up2_nq (by decide)) (Eq.trans (up2_nq (by decide)) (Eq.trans (up2_nq (by decide)) (Eq.trans (up2_nq (by decide)) (Eq.trans (up2_nq (by decide)) (Eq.trans (up2_nj (by decide)) (Eq.trans (up2_nj (by decide)) (Eq.trans (up2_nj (by decide)) (Eq.trans (up2_nj (by decide)) (Eq.trans (up2_nj (by decide)) (Eq.trans (up2_nj (by decide)) (Eq.trans (up2_nj (by decide)) (Eq.trans (up2_nj (by decide)) (Eq.trans (up2_nj (by decide)) (Eq.trans (up2_nj (by decide)) up2_eq)))))))))))))))))))))))))))))))))))).trans ((Eq.trans (up2_nq (by decide)) (Eq.trans (up2_nj (by decide)) (Eq.trans (up2_nq (by decide)) (Eq.trans (up2_nj (by decide)) (Eq.trans (up2_nq (by decide)) (Eq.trans (up2_nj (by decide)) (Eq.trans (up2_nq (by decide)) (Eq.trans (up2_nj (by decide)) (Eq.trans (up2_nq (by decide)) (Eq.trans (up2_nj (by decide)) (Eq.trans (up2_nq (by decide)) up2_eq)))))))))))).symm
        | 7, _ => exact ((Eq.trans (up2_nq (by decide)) (Eq.trans (up2_nq (by decide)) (Eq.trans (up2_nq (by decide)) (Eq.trans (up2_nq (by decide)) (Eq.trans (up2_nq (by decide)) (Eq.trans (up2_nq (by decide)) (Eq.trans (up2_nq (by decide)) (Eq.trans (up2_nq (by decide)) (Eq.trans (up2_nq (by decide)) (Eq.trans (up2_nq (by decide)) (Eq.trans (up2_nq (by decide)) (Eq.trans (up2_nq (by decide)) (Eq.trans (up2_nq (by decide)) (Eq.trans (up2_nq (by decide)) (Eq.trans (up2_nq (by decide)) (Eq.trans (up2_nq (by decide)) (Eq.trans (up2_nq (by decide)) (Eq.trans (up2_nq (by decide)) (Eq.trans (up2_nq (by decide)) (Eq.trans (up2_nq (by decide)) (Eq.trans (up2_nq (by decide)) (Eq.trans (up2_nq (by decide)) (Eq.trans (up2_nq (by decide)) (Eq.trans (up2_nq (by decide)) (Eq.trans (up2_nq (by decide)) (Eq.trans (up2_nj (by decide)) (Eq.trans (up2_nj (by decide)) (Eq.trans (up2_nj (by decide)) (Eq.trans (up2_nj (by decide)) (Eq.trans (up2_nj (by decide)) (Eq.trans (up2_nj (by decide)) (Eq.trans (up2_nj (by decide)) (Eq.trans (up2_nj (by decide)) up2_eq)))))))))))))))))))))))))))))))))).trans ((Eq.trans (up2_nq (by decide)) (Eq.trans (up2_nj (by decide)) (Eq.trans (up2_nq (by decide)) (Eq.trans (up2_nj (by decide)) (Eq.trans (up2_nq (by decide)) (Eq.trans (up2_nj (by decide)) (Eq.trans (up2_nq (by decide)) (Eq.trans (up2_nj (by decide)) (Eq.trans (up2_nq (by decide)) up2_eq)))))))))).symm
        | 8, _ => exact ((Eq.trans (up2_nq (by decide)) (Eq.trans (up2_nq (by decide)) (Eq.trans (up2_nq (by decide)) (Eq.trans (up2_nq (by decide)) (Eq.trans (up2_nq (by decide)) (Eq.trans (up2_nq (by decide)) (Eq.trans (up2_nq (by decide)) (Eq.trans (up2_nq (by decide)) (Eq.trans (up2_nq (by decide)) (Eq.trans (up2_nq (by decide)) (Eq.trans (up2_nq (by decide)) (Eq.trans (up2_nq (by decide)) (Eq.trans (up2_nq (by decide)) (Eq.trans (up2_nq (by decide)) (Eq.trans (up2_nq (by decide)) (Eq.trans (up2_nq (by decide)) (Eq.trans (up2_nq (by decide)) (Eq.trans (up2_nq (by decide)) (Eq.trans (up2_nq (by decide)) (Eq.trans (up2_nq (by decide)) (Eq.trans (up2_nq (by decide)) (Eq.trans (up2_nq (by decide)) (Eq.trans (up2_nq (by decide)) (Eq.trans (up2_nq (by decide)) (Eq.trans (up2_nq (by decide)) (Eq.trans (up2_nj (by decide)) (Eq.trans (up2_nj (by decide)) (Eq.trans (up2_nj (by decide)) (Eq.trans (up2_nj (by decide)) (Eq.trans (up2_nj (by decide)) (Eq.trans (up2_nj (by decide)) up2_eq)))))))))))))))))))))))))))))))).trans ((Eq.trans (up2_nq (by decide)) (Eq.trans (up2_nj (by decide)) (Eq.trans (up2_nq (by decide)) (Eq.trans (up2_nj (by decide)) (Eq.trans (up2_nq (by decide)) (Eq.trans (up2_nj (by decide)) (Eq.trans (up2_nq (by decide)) up2_eq)))))))).symm
        | 9, _ => exact ((Eq.trans (up2_nq (by decide)) (Eq.trans (up2_nq (by decide)) (Eq.trans (up2_nq (by decide)) (Eq.trans (up2_nq (by decide)) (Eq.trans (up2_nq (by decide)) (Eq.trans (up2_nq (by decide)) (Eq.trans (up2_nq (by decide)) (Eq.trans (up2_nq (by decide)) (Eq.trans (up2_nq (by decide)) (Eq.trans (up2_nq (by decide)) (Eq.trans (up2_nq (by decide)) (Eq.trans (up2_nq (by decide)) (Eq.trans (up2_nq (by decide)) (Eq.trans (up2_nq (by decide)) (Eq.trans (up2_nq (by decide)) (Eq.trans (up2_nq (by decide)) (Eq.trans (up2_nq (by decide)) (Eq.trans (up2_nq (by decide)) (Eq.trans (up2_nq (by decide)) (Eq.trans (up2_nq (by decide)) (Eq.trans (up2_nq (by decide)) (Eq.trans (up2_nq (by decide)) (Eq.trans (up2_nq (by decide)) (Eq.trans (up2_nq (by decide)) (Eq.trans (up2_nq (by decide)) (Eq.trans (up2_nj (by decide)) (Eq.trans (up2_nj (by decide)) (Eq.trans (up2_nj (by decide)) (Eq.trans (up2_nj (by decide)) up2_eq)))))))))))))))))))))))))))))).trans ((Eq.trans (up2_nq (by decide)) (Eq.trans (up2_nj (by decide)) (Eq.trans (up2_nq (by decide)) (Eq.trans (up2_nj (by decide)) (Eq.trans (up2_nq (by decide)) up2_eq)))))).symm
        | 10, _ => exact ((Eq.trans (up2_nq (by decide)) (Eq.trans (up2_nq (by decide)) (Eq.trans (up2_nq (by decide)) (Eq.trans (up2_nq (by decide)) (Eq.trans (up2_nq (by decide)) (Eq.trans (up2_nq (by decide)) (Eq.trans (up2_nq (by decide)) (Eq.trans (up2_nq (by decide)) (Eq.trans (up2_nq (by decide)) (Eq.trans (up2_nq (by decide)) (Eq.trans (up2_nq (by decide)) (Eq.trans (up2_nq (by decide)) (Eq.trans (up2_nq (by decide)) (Eq.trans (up2_nq (by decide)) (Eq.trans (up2_nq (by decide)) (Eq.trans (up2_nq (by decide)) (Eq.trans (up2_nq (by decide)) (Eq.trans (up2_nq (by decide)) (Eq.trans (up2_nq (by decide)) (Eq.trans (up2_nq (by decide)) (Eq.trans (up2_nq (by decide)) (Eq.trans (up2_nq (by decide)) (Eq.trans (up2_nq (by decide)) (Eq.trans (up2_nq (by decide)) (Eq.trans (up2_nq (by decide)) (Eq.trans (up2_nj (by decide)) (Eq.trans (up2_nj (by decide)) up2_eq)))))))))))))))))))))))))))).trans ((Eq.trans (up2_nq (by decide)) (Eq.trans (up2_nj (by decide)) (Eq.trans (up2_nq (by decide)) up2_eq)))).symm
        | 11, _ => exact ((Eq.trans (up2_nq (by decide)) (Eq.trans (up2_nq (by decide)) (Eq.trans (up2_nq (by decide)) (Eq.trans (up2_nq (by decide)) (Eq.trans (up2_nq (by decide)) (Eq.trans (up2_nq (by decide)) (Eq.trans (up2_nq (by decide)) (Eq.trans (up2_nq (by decide)) (Eq.trans (up2_nq (by decide)) (Eq.trans (up2_nq (by decide)) (Eq.trans (up2_nq (by decide)) (Eq.trans (up2_nq (by decide)) (Eq.trans (up2_nq (by decide)) (Eq.trans (up2_nq (by decide)) (Eq.trans (up2_nq (by decide)) (Eq.trans (up2_nq (by decide)) (Eq.trans (up2_nq (by decide)) (Eq.trans (up2_nq (by decide)) (Eq.trans (up2_nq (by decide)) (Eq.trans (up2_nq (by decide)) (Eq.trans (up2_nq (by decide)) (Eq.trans (up2_nq (by decide)) (Eq.trans (up2_nq (by decide)) (Eq.trans (up2_nq (by decide)) (Eq.trans (up2_nq (by decide)) up2_eq)))))))))))))))))))))))))).trans ((Eq.trans (up2_nq (by decide)) up2_eq)).symm
        | j + 12, h => exact absurd h (by omega)
    refine wi_tsw (t := 81) ct_95_22 rfl ((am_tswD (by omega)).trans rfl) ?_
    refine wi_ic ct_95_81 kc_0 ?_
    refine wi_iret ct_95_82 rfl (wk_i ?_)
    refine wi_aload_2 ct_211_1043 ?_
    refine wi_aloadT_0 ct_211_1044 ?_
    refine wi_iload_3 ct_211_1045 ?_
    refine wi_ic ct_211_1046 kc_1 ?_
    refine wi_iadd ct_211_1047 rfl ?_
    refine wi_ialdT (j := I + 1) (x := a1) ct_211_1048 (sL_SC hS) (i_in (i_add hi ki_1 (by omega)) (by omega)) (i_cl (i_add hi ki_1 (by omega)) (by omega)) ((Eq.trans (up2_nq (by decide)) ((hsc _).trans e1))) ?_
    refine wi_aloadT_0 ct_211_1049 ?_
    refine wi_iload_3 ct_211_1050 ?_
    refine wi_ic ct_211_1051 kc_2 ?_
    refine wi_iadd ct_211_1052 rfl ?_
    refine wi_ialdT (j := I + 2) (x := a2) ct_211_1053 (sL_SC hS) (i_in (i_add hi ki_2 (by omega)) (by omega)) (i_cl (i_add hi ki_2 (by omega)) (by omega)) ((Eq.trans (up2_nq (by decide)) ((hsc _).trans e2))) ?_
    refine wi_aloadT_0 ct_211_1054 ?_
    refine wi_iload_3 ct_211_1055 ?_
    refine wi_ic ct_211_1056 kc_3 ?_
    refine wi_iadd ct_211_1057 rfl ?_
    refine wi_ialdT (j := I + 3) (x := a3) ct_211_1058 (sL_SC hS) (i_in (i_add hi ki_3 (by omega)) (by omega)) (i_cl (i_add hi ki_3 (by omega)) (by omega)) ((Eq.trans (up2_nq (by decide)) ((hsc _).trans e3))) ?_
    refine wi_cv3 (ls' := [some _, some _, some _, some _]) ct_211_1059 (Nat.le_of_ble_eq_true rfl) (by decide) (sT_31 hS) rfl (by decide) rfl rfl (Nat.le_of_ble_eq_true rfl) ?_
    refine wi_aload_0 ct_190_0 ?_
    refine wi_ic ct_190_1 kc_0 ?_
    refine wi_pf ct_190_2 (sT_31 hS) rfl ?_
    refine wi_aload_0 ct_190_5 ?_
    refine wi_iload_1 ct_190_6 ?_
    refine wi_cv1 (ls' := [some _, some _]) ct_190_7 (Nat.le_of_ble_eq_true rfl) (by decide) (sT_31 hS) rfl (by decide) rfl rfl (Nat.le_of_ble_eq_true rfl) ?_
    refine wi_aload_0 ct_120_0 ?_
    refine wi_iload_1 ct_120_1 ?_
    refine wi_ic ct_120_2 kc_0 ?_
    refine wi_aload_0 ct_120_3 ?_
    refine wi_gf (x := fi 31 0) ct_120_4 (sT_31 hS) rfl rfl (Eq.trans (up2_nj (by decide)) (up2_nq (by decide))) ?_
    refine wi_ic ct_120_7 kc_1 ?_
    refine wi_isub ct_120_8 rfl ?_
    refine wi_cv3 (ls' := [some _, some _, some _, some _]) ct_120_9 (Nat.le_of_ble_eq_true rfl) (by decide) (sT_31 hS) rfl (by decide) rfl rfl (Nat.le_of_ble_eq_true rfl) ?_
    refine c_in hBn ki_0 (i_sub rfl ki_1 (by omega)) (fun _ => wk_i ?_) (fun h => absurd h (by omega))
    refine wi_iret ct_120_12 (by decide) (wk_i ?_)
    refine wi_ifeq_f ct_190_10 ki_1 (by decide) ?_
    refine wi_aload_0 ct_190_13 ?_
    refine wi_iload_2 ct_190_14 ?_
    refine wi_ic ct_190_15 kc_0 ?_
    refine wi_ic ct_190_16 kc_2 ?_
    refine wi_cv3 (ls' := [some _, some _, some _, some _]) ct_190_17 (Nat.le_of_ble_eq_true rfl) (by decide) (sT_31 hS) rfl (by decide) rfl rfl (Nat.le_of_ble_eq_true rfl) ?_
    refine c_in rfl ki_0 ki_2 (fun h => absurd h (by omega)) (fun _ => wk_i ?_)
    refine wi_ifne_f ct_190_20 ki_0 (by decide) ?_
    refine wi_ic ct_190_23 kc_0 ?_
    refine wi_iret ct_190_24 rfl (wk_i ?_)
    refine wi_iceq_t ct_211_1062 ki_0 ki_0 (by decide) ?_
    refine kk own g _ fl (hR.act (fun q h1 h2 h3 => (Eq.trans (funext fun _ => up2_nq h2) (funext fun _ => up2_nq h1))) (fun j hj => (Eq.trans (up2_nj hj) (up2_nq (by decide)))) ⟨((Eq.trans (up2_nq (by decide)) up2_eq)).trans (up2_eq).symm, by rw [up2_eq]; decide, by rw [up2_eq]; decide⟩ ?_) (by omega) (by omega)
    intro j hj hn
    rw [up2_eq] at hn
    replace hn : (j : Int) < 0 := hn
    exact absurd hn (by omega)
  · skip
    refine wi_aload_1 ct_211_1024 ?_
    refine wi_aloadT_0 ct_211_1025 ?_
    refine wi_iload_3 ct_211_1026 ?_
    refine wi_ic ct_211_1027 kc_1 ?_
    refine wi_iadd ct_211_1028 rfl ?_
    refine wi_ialdT (j := I + 1) (x := a1) ct_211_1029 (sL_SC hS) (i_in (i_add hi ki_1 (by omega)) (by omega)) (i_cl (i_add hi ki_1 (by omega)) (by omega)) (((hsc _).trans e1)) ?_
    refine wi_aloadT_0 ct_211_1030 ?_
    refine wi_iload_3 ct_211_1031 ?_
    refine wi_ic ct_211_1032 kc_2 ?_
    refine wi_iadd ct_211_1033 rfl ?_
    refine wi_ialdT (j := I + 2) (x := a2) ct_211_1034 (sL_SC hS) (i_in (i_add hi ki_2 (by omega)) (by omega)) (i_cl (i_add hi ki_2 (by omega)) (by omega)) (((hsc _).trans e2)) ?_
    refine wi_aloadT_0 ct_211_1035 ?_
    refine wi_iload_3 ct_211_1036 ?_
    refine wi_ic ct_211_1037 kc_3 ?_
    refine wi_iadd ct_211_1038 rfl ?_
    refine wi_ialdT (j := I + 3) (x := a3) ct_211_1039 (sL_SC hS) (i_in (i_add hi ki_3 (by omega)) (by omega)) (i_cl (i_add hi ki_3 (by omega)) (by omega)) (((hsc _).trans e3)) ?_
    refine wi_cv3 (ls' := [some _, some _, some _, some _, none]) ct_211_1040 (Nat.le_of_ble_eq_true rfl) (by decide) (sT_0 hS) rfl (by decide) rfl rfl (Nat.le_of_ble_eq_true rfl) ?_
    refine wi_aload_0 ct_95_0 ?_
    refine wi_gfr ct_95_1 (sT_0 hS) rfl (sR_0_10 hS) ?_
    refine wi_ic ct_95_4 kc_0 ?_
    refine wi_ic ct_95_5 kc_0 ?_
    refine wi_iast ct_95_6 (sT_21 hS) (sL_21 hS) (by decide) kn_c0 ?_
    refine wi_aload_0 ct_95_7 ?_
    refine wi_iload_1 ct_95_8 ?_
    refine wi_cv1 (ls' := [some _, some _]) ct_95_9 (Nat.le_of_ble_eq_true rfl) (by decide) (sT_0 hS) rfl (by decide) rfl rfl (Nat.le_of_ble_eq_true rfl) ?_
    refine wi_iload_1 ct_104_0 ?_
    refine wi_ic ct_104_1 kc_0 ?_
    refine wi_aload_0 ct_104_2 ?_
    refine wi_gfr ct_104_3 (sT_0 hS) rfl (sR_0_0 hS) ?_
    refine wi_gf (x := fi 31 0) ct_104_6 (sT_1 hS) rfl rfl (Eq.trans (up2_nq (by decide)) c0) ?_
    refine wi_ic ct_104_9 kc_1 ?_
    refine wi_isub ct_104_10 rfl ?_
    refine wi_cs3 (ls' := [some _, some _, some _]) ct_104_11 (Nat.le_of_ble_eq_true rfl) rfl (Nat.le_of_ble_eq_true rfl) ?_
    refine c_within rfl ki_0 (i_sub rfl ki_1 (by omega)) (fun h => absurd h (by omega)) (fun _ => wk_i ?_)
    refine wi_ifeq_t ct_104_14 ki_0 (by decide) ?_
    refine wi_null ct_104_29 ?_
    refine wi_aretn ct_104_30 (wk_n ?_)
    refine wi_astoreN_4 rfl ct_95_12 ?_
    refine wi_aloadN_4 ct_95_14 ?_
    refine wi_ifnonnull_n ct_95_16 ?_
    refine wi_ic ct_95_19 kc_0 ?_
    refine wi_iret ct_95_20 rfl (wk_i ?_)
    refine wi_aload_2 ct_211_1043 ?_
    refine wi_aloadT_0 ct_211_1044 ?_
    refine wi_iload_3 ct_211_1045 ?_
    refine wi_ic ct_211_1046 kc_1 ?_
    refine wi_iadd ct_211_1047 rfl ?_
    refine wi_ialdT (j := I + 1) (x := a1) ct_211_1048 (sL_SC hS) (i_in (i_add hi ki_1 (by omega)) (by omega)) (i_cl (i_add hi ki_1 (by omega)) (by omega)) ((Eq.trans (up2_nq (by decide)) ((hsc _).trans e1))) ?_
    refine wi_aloadT_0 ct_211_1049 ?_
    refine wi_iload_3 ct_211_1050 ?_
    refine wi_ic ct_211_1051 kc_2 ?_
    refine wi_iadd ct_211_1052 rfl ?_
    refine wi_ialdT (j := I + 2) (x := a2) ct_211_1053 (sL_SC hS) (i_in (i_add hi ki_2 (by omega)) (by omega)) (i_cl (i_add hi ki_2 (by omega)) (by omega)) ((Eq.trans (up2_nq (by decide)) ((hsc _).trans e2))) ?_
    refine wi_aloadT_0 ct_211_1054 ?_
    refine wi_iload_3 ct_211_1055 ?_
    refine wi_ic ct_211_1056 kc_3 ?_
    refine wi_iadd ct_211_1057 rfl ?_
    refine wi_ialdT (j := I + 3) (x := a3) ct_211_1058 (sL_SC hS) (i_in (i_add hi ki_3 (by omega)) (by omega)) (i_cl (i_add hi ki_3 (by omega)) (by omega)) ((Eq.trans (up2_nq (by decide)) ((hsc _).trans e3))) ?_
    refine wi_cv3 (ls' := [some _, some _, some _, some _]) ct_211_1059 (Nat.le_of_ble_eq_true rfl) (by decide) (sT_31 hS) rfl (by decide) rfl rfl (Nat.le_of_ble_eq_true rfl) ?_
    refine wi_aload_0 ct_190_0 ?_
    refine wi_ic ct_190_1 kc_0 ?_
    refine wi_pf ct_190_2 (sT_31 hS) rfl ?_
    refine wi_aload_0 ct_190_5 ?_
    refine wi_iload_1 ct_190_6 ?_
    refine wi_cv1 (ls' := [some _, some _]) ct_190_7 (Nat.le_of_ble_eq_true rfl) (by decide) (sT_31 hS) rfl (by decide) rfl rfl (Nat.le_of_ble_eq_true rfl) ?_
    refine wi_aload_0 ct_120_0 ?_
    refine wi_iload_1 ct_120_1 ?_
    refine wi_ic ct_120_2 kc_0 ?_
    refine wi_aload_0 ct_120_3 ?_
    refine wi_gf (x := fi 31 0) ct_120_4 (sT_31 hS) rfl rfl (Eq.trans (up2_nj (by decide)) (up2_nq (by decide))) ?_
    refine wi_ic ct_120_7 kc_1 ?_
    refine wi_isub ct_120_8 rfl ?_
    refine wi_cv3 (ls' := [some _, some _, some _, some _]) ct_120_9 (Nat.le_of_ble_eq_true rfl) (by decide) (sT_31 hS) rfl (by decide) rfl rfl (Nat.le_of_ble_eq_true rfl) ?_
    refine c_in rfl ki_0 (i_sub rfl ki_1 (by omega)) (fun h => absurd h (by omega)) (fun _ => wk_i ?_)
    refine wi_iret ct_120_12 (by decide) (wk_i ?_)
    refine wi_ifeq_t ct_190_10 ki_0 (by decide) ?_
    refine wi_ic ct_190_23 kc_0 ?_
    refine wi_iret ct_190_24 rfl (wk_i ?_)
    refine wi_iceq_t ct_211_1062 ki_0 ki_0 (by decide) ?_
    refine kk own g _ fl (hR.act (fun q h1 h2 h3 => (Eq.trans (funext fun _ => up2_nq h2) (funext fun _ => up2_nq h1))) (fun j hj => (Eq.trans (up2_nj hj) (up2_nq (by decide)))) ⟨((Eq.trans (up2_nq (by decide)) up2_eq)).trans (up2_eq).symm, by rw [up2_eq]; decide, by rw [up2_eq]; decide⟩ ?_) (by omega) (by omega)
    intro j hj hn
    rw [up2_eq] at hn
    replace hn : (j : Int) < 0 := hn
    exact absurd hn (by omega)
