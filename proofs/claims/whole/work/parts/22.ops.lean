set_option maxHeartbeats 1000000 in
theorem op_mix {L I : Nat} {xs : Nat → Int32} {own : Nat → Nat} {d : Nat} {g : am_G} {fi : am_I} {fl : am_L} {P : Option Value → am_G → am_I → am_L → Prop} {i : Int32} (hi : i.toInt = (I : Int)) (hI6 : I + 6 ≤ L) (hL : L ≤ 3072) (hR : Rel L xs own g fi fl) (hnx : am_nx g ≤ 800000) (kk : ∀ own' g' fi' fl', Rel L xs own' g' fi' fl' → am_nx g' ≤ am_nx g + 30 → am_sl g' ≤ am_sl g + 1000 → WP (d + 60) 211 1359 [some (.retAddr 0), some (.ref 0), some (.ref 31), some (.int i)] [] g' fi' fl' P) : WP (d + 60) 211 321 [some (.retAddr 0), some (.ref 0), some (.ref 31), some (.int i)] [] g fi fl P := by
  obtain ⟨hS, hsc, hC, hK, hX, hV, hT, hP, hB, hN, hQ, hZ, hI⟩ := hR
  obtain ⟨⟨c0, c0a, c0b⟩, ⟨c1, c1a, c1b⟩, ⟨c2, c2a, c2b⟩, ⟨c3, c3a, c3b⟩, ⟨c4, c4a, c4b⟩, ⟨c5, c5a, c5b⟩, ⟨c6, c6a, c6b⟩, ⟨c7, c7a, c7b⟩, c8, c9⟩ := id hC
  obtain ⟨a1, e1⟩ : ∃ a, xs (I + 1) = a := ⟨_, rfl⟩
  obtain ⟨a2, e2⟩ : ∃ a, xs (I + 2) = a := ⟨_, rfl⟩
  by_cases hA : 0 ≤ (a1).toInt ∧ (a1).toInt ≤ 3
  · skip
    obtain ⟨N1, hN1⟩ : ∃ k : Nat, (a1).toInt = (k : Int) := ⟨_, (i_cln (by omega)).symm⟩
    refine wi_aload_1 ct_211_321 ?_
    refine wi_aloadT_0 ct_211_322 ?_
    refine wi_iload_3 ct_211_323 ?_
    refine wi_ic ct_211_324 kc_1 ?_
    refine wi_iadd ct_211_325 rfl ?_
    refine wi_ialdT (j := I + 1) (x := a1) ct_211_326 (sL_SC hS) (i_in (i_add hi ki_1 (by omega)) (by omega)) (i_cl (i_add hi ki_1 (by omega)) (by omega)) (((hsc _).trans e1)) ?_
    refine wi_aloadT_0 ct_211_327 ?_
    refine wi_iload_3 ct_211_328 ?_
    refine wi_ic ct_211_329 kc_2 ?_
    refine wi_iadd ct_211_330 rfl ?_
    refine wi_ialdT (j := I + 2) (x := a2) ct_211_331 (sL_SC hS) (i_in (i_add hi ki_2 (by omega)) (by omega)) (i_cl (i_add hi ki_2 (by omega)) (by omega)) (((hsc _).trans e2)) ?_
    refine wi_cv2 (ls' := [some _, some _, some _, none]) ct_211_332 (Nat.le_of_ble_eq_true rfl) (by decide) (sT_0 hS) rfl (by decide) rfl rfl (Nat.le_of_ble_eq_true rfl) ?_
    refine wi_iload_1 ct_70_0 ?_
    refine wi_ic ct_70_1 kc_0 ?_
    refine wi_ic ct_70_2 kc_3 ?_
    refine wi_cs3 (ls' := [some _, some _, some _]) ct_70_3 (Nat.le_of_ble_eq_true rfl) rfl (Nat.le_of_ble_eq_true rfl) ?_
    refine c_within hN1 ki_0 ki_3 (fun _ => wk_i ?_) (fun h => absurd h (by omega))
    refine wi_ifne_t ct_70_6 ki_1 (by decide) ?_
    refine wi_iload_2 ct_70_11 ?_
    refine wi_ic ct_70_12 kc_0 ?_
    refine wi_iload_1 ct_70_13 ?_
    refine wi_ic ct_70_14 kc_3 ?_
    refine wi_icne ct_70_15 hN1 ki_3 (fun h2 => ?_) (fun h2 => ?_)
    · skip
      refine wi_ic ct_70_23 kc_9 ?_
      refine wi_cs3 (ls' := [some _, some _, some _]) ct_70_25 (Nat.le_of_ble_eq_true rfl) rfl (Nat.le_of_ble_eq_true rfl) ?_
      refine c_within rfl ki_0 ki_9 (fun h3 => wk_i ?_) (fun h3 => wk_i ?_)
      · skip
        refine wi_ifne_t ct_70_28 ki_1 (by decide) ?_
        refine wi_aload_0 ct_70_34 ?_
        refine wi_gfr ct_70_35 (sT_0 hS) rfl (sR_0_0 hS) ?_
        refine wi_gfr ct_70_38 (sT_1 hS) rfl (sR_1_2 hS) ?_
        refine wi_iload_1 ct_70_41 ?_
        have hk4 := hK N1 (by omega)
        refine wi_iald (x := fi 38 N1) ct_70_42 (sT_3 hS) (sL_3 hS) (i_in hN1 (by omega)) (i_cl (k := N1) hN1 (by omega)) hk4.1 ?_
        refine wi_istore_3 rfl ct_70_43 ?_
        refine wi_aload_0 ct_70_44 ?_
        refine wi_gfr ct_70_45 (sT_0 hS) rfl (sR_0_0 hS) ?_
        refine wi_gfr ct_70_48 (sT_1 hS) rfl (sR_1_2 hS) ?_
        refine wi_iload_1 ct_70_51 ?_
        refine wi_iload_2 ct_70_52 ?_
        refine wi_iast ct_70_53 (sT_3 hS) (sL_3 hS) (i_in hN1 (by omega)) (i_cl (k := N1) hN1 (by omega)) ?_
        refine wi_iload_3 ct_70_54 ?_
        refine wi_iret ct_70_55 rfl (wk_i ?_)
        refine wi_aload_2 ct_211_335 ?_
        refine wi_aloadT_0 ct_211_336 ?_
        refine wi_iload_3 ct_211_337 ?_
        refine wi_ic ct_211_338 kc_1 ?_
        refine wi_iadd ct_211_339 rfl ?_
        refine wi_ialdT (j := I + 1) (x := a1) ct_211_340 (sL_SC hS) (i_in (i_add hi ki_1 (by omega)) (by omega)) (i_cl (i_add hi ki_1 (by omega)) (by omega)) ((Eq.trans (up2_nq (by decide)) ((hsc _).trans e1))) ?_
        refine wi_aloadT_0 ct_211_341 ?_
        refine wi_iload_3 ct_211_342 ?_
        refine wi_ic ct_211_343 kc_2 ?_
        refine wi_iadd ct_211_344 rfl ?_
        refine wi_ialdT (j := I + 2) (x := a2) ct_211_345 (sL_SC hS) (i_in (i_add hi ki_2 (by omega)) (by omega)) (i_cl (i_add hi ki_2 (by omega)) (by omega)) ((Eq.trans (up2_nq (by decide)) ((hsc _).trans e2))) ?_
        refine wi_cv2 (ls' := [some _, some _, some _, none]) ct_211_346 (Nat.le_of_ble_eq_true rfl) (by decide) (sT_31 hS) rfl (by decide) rfl rfl (Nat.le_of_ble_eq_true rfl) ?_
        refine wi_aload_0 ct_124_0 ?_
        refine wi_iload_1 ct_124_1 ?_
        refine wi_ic ct_124_2 kc_0 ?_
        refine wi_ic ct_124_3 kc_3 ?_
        refine wi_cv3 (ls' := [some _, some _, some _, some _]) ct_124_4 (Nat.le_of_ble_eq_true rfl) (by decide) (sT_31 hS) rfl (by decide) rfl rfl (Nat.le_of_ble_eq_true rfl) ?_
        refine c_in hN1 ki_0 ki_3 (fun _ => wk_i ?_) (fun h => absurd h (by omega))
        refine wi_ifne_t ct_124_7 ki_1 (by decide) ?_
        refine wi_aload_0 ct_124_12 ?_
        refine wi_iload_2 ct_124_13 ?_
        refine wi_ic ct_124_14 kc_0 ?_
        refine wi_iload_1 ct_124_15 ?_
        refine wi_ic ct_124_16 kc_3 ?_
        refine wi_icne_t ct_124_17 hN1 ki_3 (by omega) ?_
        refine wi_ic ct_124_25 kc_9 ?_
        refine wi_cv3 (ls' := [some _, some _, some _, some _]) ct_124_27 (Nat.le_of_ble_eq_true rfl) (by decide) (sT_31 hS) rfl (by decide) rfl rfl (Nat.le_of_ble_eq_true rfl) ?_
        refine c_in rfl ki_0 ki_9 (fun _ => wk_i ?_) (fun h => absurd h (by omega))
        refine wi_ifne_t ct_124_30 ki_1 (by decide) ?_
        refine wi_aload_0 ct_124_36 ?_
        refine wi_gfr ct_124_37 (sT_31 hS) rfl (sR_31_8 hS) ?_
        refine wi_iload_1 ct_124_40 ?_
        refine wi_iald (x := fi 38 N1) ct_124_41 (sT_38 hS) (sL_38 hS) (i_in hN1 (by omega)) (i_cl (k := N1) hN1 (by omega)) (up2_nq (by decide)) ?_
        refine wi_istore_3 rfl ct_124_42 ?_
        refine wi_aload_0 ct_124_43 ?_
        refine wi_gfr ct_124_44 (sT_31 hS) rfl (sR_31_8 hS) ?_
        refine wi_iload_1 ct_124_47 ?_
        refine wi_iload_2 ct_124_48 ?_
        refine wi_iast ct_124_49 (sT_38 hS) (sL_38 hS) (i_in hN1 (by omega)) (i_cl (k := N1) hN1 (by omega)) ?_
        refine wi_iload_3 ct_124_50 ?_
        refine wi_iret ct_124_51 rfl (wk_i ?_)
        refine wi_iceq_t ct_211_349 rfl rfl (by omega) ?_
        exact kk own g _ fl ⟨hS, hsc, hC, hK.put (by omega) (by omega) (by omega), hX, hV, hT, hP, (hB.fr c0b (am_frL (fun q hq => funext fun j => (Eq.trans (up2_nq (dn hq (by decide))) (up2_nq (dn hq (by decide)))))) (fun _ _ => trivial) rfl rfl rfl rfl rfl rfl rfl rfl), hN, (hQ.fr (am_frL (fun q hq => funext fun j => (Eq.trans (up2_nq (dn hq (by decide))) (up2_nq (dn hq (by decide)))))) trivial rfl rfl rfl rfl rfl rfl rfl rfl), hZ, (hI.fr c0b (am_frL (fun q hq => funext fun j => (Eq.trans (up2_nq (dn hq (by decide))) (up2_nq (dn hq (by decide)))))) (fun _ _ _ => trivial) (fun _ _ => rfl) rfl (fun _ _ => rfl) (Int.le_refl _) (Int.le_refl _) rfl rfl rfl rfl rfl rfl (fun _ _ => rfl) (fun _ _ => rfl) rfl rfl rfl rfl rfl rfl rfl rfl rfl rfl rfl rfl)⟩ (Nat.le_add_right _ _) (Nat.le_add_right _ _)
      · skip
        refine wi_ifne_f ct_70_28 ki_0 (by decide) ?_
        refine wi_ic ct_70_31 kc_m2 ?_
        refine wi_iret ct_70_33 rfl (wk_i ?_)
        refine wi_aload_2 ct_211_335 ?_
        refine wi_aloadT_0 ct_211_336 ?_
        refine wi_iload_3 ct_211_337 ?_
        refine wi_ic ct_211_338 kc_1 ?_
        refine wi_iadd ct_211_339 rfl ?_
        refine wi_ialdT (j := I + 1) (x := a1) ct_211_340 (sL_SC hS) (i_in (i_add hi ki_1 (by omega)) (by omega)) (i_cl (i_add hi ki_1 (by omega)) (by omega)) (((hsc _).trans e1)) ?_
        refine wi_aloadT_0 ct_211_341 ?_
        refine wi_iload_3 ct_211_342 ?_
        refine wi_ic ct_211_343 kc_2 ?_
        refine wi_iadd ct_211_344 rfl ?_
        refine wi_ialdT (j := I + 2) (x := a2) ct_211_345 (sL_SC hS) (i_in (i_add hi ki_2 (by omega)) (by omega)) (i_cl (i_add hi ki_2 (by omega)) (by omega)) (((hsc _).trans e2)) ?_
        refine wi_cv2 (ls' := [some _, some _, some _, none]) ct_211_346 (Nat.le_of_ble_eq_true rfl) (by decide) (sT_31 hS) rfl (by decide) rfl rfl (Nat.le_of_ble_eq_true rfl) ?_
        refine wi_aload_0 ct_124_0 ?_
        refine wi_iload_1 ct_124_1 ?_
        refine wi_ic ct_124_2 kc_0 ?_
        refine wi_ic ct_124_3 kc_3 ?_
        refine wi_cv3 (ls' := [some _, some _, some _, some _]) ct_124_4 (Nat.le_of_ble_eq_true rfl) (by decide) (sT_31 hS) rfl (by decide) rfl rfl (Nat.le_of_ble_eq_true rfl) ?_
        refine c_in hN1 ki_0 ki_3 (fun _ => wk_i ?_) (fun h => absurd h (by omega))
        refine wi_ifne_t ct_124_7 ki_1 (by decide) ?_
        refine wi_aload_0 ct_124_12 ?_
        refine wi_iload_2 ct_124_13 ?_
        refine wi_ic ct_124_14 kc_0 ?_
        refine wi_iload_1 ct_124_15 ?_
        refine wi_ic ct_124_16 kc_3 ?_
        refine wi_icne_t ct_124_17 hN1 ki_3 (by omega) ?_
        refine wi_ic ct_124_25 kc_9 ?_
        refine wi_cv3 (ls' := [some _, some _, some _, some _]) ct_124_27 (Nat.le_of_ble_eq_true rfl) (by decide) (sT_31 hS) rfl (by decide) rfl rfl (Nat.le_of_ble_eq_true rfl) ?_
        refine c_in rfl ki_0 ki_9 (fun h => absurd h (by omega)) (fun _ => wk_i ?_)
        refine wi_ifne_f ct_124_30 ki_0 (by decide) ?_
        refine wi_ic ct_124_33 kc_m2 ?_
        refine wi_iret ct_124_35 rfl (wk_i ?_)
        refine wi_iceq_t ct_211_349 ki_m2 ki_m2 (by decide) ?_
        exact kk own g _ fl ⟨hS, hsc, hC, hK, hX, hV, hT, hP, hB, hN, hQ, hZ, hI⟩ (Nat.le_add_right _ _) (Nat.le_add_right _ _)
    · skip
      refine wi_ic ct_70_18 kc_99 ?_
      refine wi_goto ct_70_20 ?_
      refine wi_cs3 (ls' := [some _, some _, some _]) ct_70_25 (Nat.le_of_ble_eq_true rfl) rfl (Nat.le_of_ble_eq_true rfl) ?_
      refine c_within rfl ki_0 ki_99 (fun h5 => wk_i ?_) (fun h5 => wk_i ?_)
      · skip
        refine wi_ifne_t ct_70_28 ki_1 (by decide) ?_
        refine wi_aload_0 ct_70_34 ?_
        refine wi_gfr ct_70_35 (sT_0 hS) rfl (sR_0_0 hS) ?_
        refine wi_gfr ct_70_38 (sT_1 hS) rfl (sR_1_2 hS) ?_
        refine wi_iload_1 ct_70_41 ?_
        have hk6 := hK N1 (by omega)
        refine wi_iald (x := fi 38 N1) ct_70_42 (sT_3 hS) (sL_3 hS) (i_in hN1 (by omega)) (i_cl (k := N1) hN1 (by omega)) hk6.1 ?_
        refine wi_istore_3 rfl ct_70_43 ?_
        refine wi_aload_0 ct_70_44 ?_
        refine wi_gfr ct_70_45 (sT_0 hS) rfl (sR_0_0 hS) ?_
        refine wi_gfr ct_70_48 (sT_1 hS) rfl (sR_1_2 hS) ?_
        refine wi_iload_1 ct_70_51 ?_
        refine wi_iload_2 ct_70_52 ?_
        refine wi_iast ct_70_53 (sT_3 hS) (sL_3 hS) (i_in hN1 (by omega)) (i_cl (k := N1) hN1 (by omega)) ?_
        refine wi_iload_3 ct_70_54 ?_
        refine wi_iret ct_70_55 rfl (wk_i ?_)
        refine wi_aload_2 ct_211_335 ?_
        refine wi_aloadT_0 ct_211_336 ?_
        refine wi_iload_3 ct_211_337 ?_
        refine wi_ic ct_211_338 kc_1 ?_
        refine wi_iadd ct_211_339 rfl ?_
        refine wi_ialdT (j := I + 1) (x := a1) ct_211_340 (sL_SC hS) (i_in (i_add hi ki_1 (by omega)) (by omega)) (i_cl (i_add hi ki_1 (by omega)) (by omega)) ((Eq.trans (up2_nq (by decide)) ((hsc _).trans e1))) ?_
        refine wi_aloadT_0 ct_211_341 ?_
        refine wi_iload_3 ct_211_342 ?_
        refine wi_ic ct_211_343 kc_2 ?_
        refine wi_iadd ct_211_344 rfl ?_
        refine wi_ialdT (j := I + 2) (x := a2) ct_211_345 (sL_SC hS) (i_in (i_add hi ki_2 (by omega)) (by omega)) (i_cl (i_add hi ki_2 (by omega)) (by omega)) ((Eq.trans (up2_nq (by decide)) ((hsc _).trans e2))) ?_
        refine wi_cv2 (ls' := [some _, some _, some _, none]) ct_211_346 (Nat.le_of_ble_eq_true rfl) (by decide) (sT_31 hS) rfl (by decide) rfl rfl (Nat.le_of_ble_eq_true rfl) ?_
        refine wi_aload_0 ct_124_0 ?_
        refine wi_iload_1 ct_124_1 ?_
        refine wi_ic ct_124_2 kc_0 ?_
        refine wi_ic ct_124_3 kc_3 ?_
        refine wi_cv3 (ls' := [some _, some _, some _, some _]) ct_124_4 (Nat.le_of_ble_eq_true rfl) (by decide) (sT_31 hS) rfl (by decide) rfl rfl (Nat.le_of_ble_eq_true rfl) ?_
        refine c_in hN1 ki_0 ki_3 (fun _ => wk_i ?_) (fun h => absurd h (by omega))
        refine wi_ifne_t ct_124_7 ki_1 (by decide) ?_
        refine wi_aload_0 ct_124_12 ?_
        refine wi_iload_2 ct_124_13 ?_
        refine wi_ic ct_124_14 kc_0 ?_
        refine wi_iload_1 ct_124_15 ?_
        refine wi_ic ct_124_16 kc_3 ?_
        refine wi_icne_f ct_124_17 hN1 ki_3 (by omega) ?_
        refine wi_ic ct_124_20 kc_99 ?_
        refine wi_goto ct_124_22 ?_
        refine wi_cv3 (ls' := [some _, some _, some _, some _]) ct_124_27 (Nat.le_of_ble_eq_true rfl) (by decide) (sT_31 hS) rfl (by decide) rfl rfl (Nat.le_of_ble_eq_true rfl) ?_
        refine c_in rfl ki_0 ki_99 (fun _ => wk_i ?_) (fun h => absurd h (by omega))
        refine wi_ifne_t ct_124_30 ki_1 (by decide) ?_
        refine wi_aload_0 ct_124_36 ?_
        refine wi_gfr ct_124_37 (sT_31 hS) rfl (sR_31_8 hS) ?_
        refine wi_iload_1 ct_124_40 ?_
        refine wi_iald (x := fi 38 N1) ct_124_41 (sT_38 hS) (sL_38 hS) (i_in hN1 (by omega)) (i_cl (k := N1) hN1 (by omega)) (up2_nq (by decide)) ?_
        refine wi_istore_3 rfl ct_124_42 ?_
        refine wi_aload_0 ct_124_43 ?_
        refine wi_gfr ct_124_44 (sT_31 hS) rfl (sR_31_8 hS) ?_
        refine wi_iload_1 ct_124_47 ?_
        refine wi_iload_2 ct_124_48 ?_
        refine wi_iast ct_124_49 (sT_38 hS) (sL_38 hS) (i_in hN1 (by omega)) (i_cl (k := N1) hN1 (by omega)) ?_
        refine wi_iload_3 ct_124_50 ?_
        refine wi_iret ct_124_51 rfl (wk_i ?_)
        refine wi_iceq_t ct_211_349 rfl rfl (by omega) ?_
        exact kk own g _ fl ⟨hS, hsc, hC, hK.put (by omega) (by omega) (by omega), hX, hV, hT, hP, (hB.fr c0b (am_frL (fun q hq => funext fun j => (Eq.trans (up2_nq (dn hq (by decide))) (up2_nq (dn hq (by decide)))))) (fun _ _ => trivial) rfl rfl rfl rfl rfl rfl rfl rfl), hN, (hQ.fr (am_frL (fun q hq => funext fun j => (Eq.trans (up2_nq (dn hq (by decide))) (up2_nq (dn hq (by decide)))))) trivial rfl rfl rfl rfl rfl rfl rfl rfl), hZ, (hI.fr c0b (am_frL (fun q hq => funext fun j => (Eq.trans (up2_nq (dn hq (by decide))) (up2_nq (dn hq (by decide)))))) (fun _ _ _ => trivial) (fun _ _ => rfl) rfl (fun _ _ => rfl) (Int.le_refl _) (Int.le_refl _) rfl rfl rfl rfl rfl rfl (fun _ _ => rfl) (fun _ _ => rfl) rfl rfl rfl rfl rfl rfl rfl rfl rfl rfl rfl rfl)⟩ (Nat.le_add_right _ _) (Nat.le_add_right _ _)
      · skip
        refine wi_ifne_f ct_70_28 ki_0 (by decide) ?_
        refine wi_ic ct_70_31 kc_m2 ?_
        refine wi_iret ct_70_33 rfl (wk_i ?_)
        refine wi_aload_2 ct_211_335 ?_
        refine wi_aloadT_0 ct_211_336 ?_
        refine wi_iload_3 ct_211_337 ?_
        refine wi_ic ct_211_338 kc_1 ?_
        refine wi_iadd ct_211_339 rfl ?_
        refine wi_ialdT (j := I + 1) (x := a1) ct_211_340 (sL_SC hS) (i_in (i_add hi ki_1 (by omega)) (by omega)) (i_cl (i_add hi ki_1 (by omega)) (by omega)) (((hsc _).trans e1)) ?_
        refine wi_aloadT_0 ct_211_341 ?_
        refine wi_iload_3 ct_211_342 ?_
        refine wi_ic ct_211_343 kc_2 ?_
        refine wi_iadd ct_211_344 rfl ?_
        refine wi_ialdT (j := I + 2) (x := a2) ct_211_345 (sL_SC hS) (i_in (i_add hi ki_2 (by omega)) (by omega)) (i_cl (i_add hi ki_2 (by omega)) (by omega)) (((hsc _).trans e2)) ?_
        refine wi_cv2 (ls' := [some _, some _, some _, none]) ct_211_346 (Nat.le_of_ble_eq_true rfl) (by decide) (sT_31 hS) rfl (by decide) rfl rfl (Nat.le_of_ble_eq_true rfl) ?_
        refine wi_aload_0 ct_124_0 ?_
        refine wi_iload_1 ct_124_1 ?_
        refine wi_ic ct_124_2 kc_0 ?_
        refine wi_ic ct_124_3 kc_3 ?_
        refine wi_cv3 (ls' := [some _, some _, some _, some _]) ct_124_4 (Nat.le_of_ble_eq_true rfl) (by decide) (sT_31 hS) rfl (by decide) rfl rfl (Nat.le_of_ble_eq_true rfl) ?_
        refine c_in hN1 ki_0 ki_3 (fun _ => wk_i ?_) (fun h => absurd h (by omega))
        refine wi_ifne_t ct_124_7 ki_1 (by decide) ?_
        refine wi_aload_0 ct_124_12 ?_
        refine wi_iload_2 ct_124_13 ?_
        refine wi_ic ct_124_14 kc_0 ?_
        refine wi_iload_1 ct_124_15 ?_
        refine wi_ic ct_124_16 kc_3 ?_
        refine wi_icne_f ct_124_17 hN1 ki_3 (by omega) ?_
        refine wi_ic ct_124_20 kc_99 ?_
        refine wi_goto ct_124_22 ?_
        refine wi_cv3 (ls' := [some _, some _, some _, some _]) ct_124_27 (Nat.le_of_ble_eq_true rfl) (by decide) (sT_31 hS) rfl (by decide) rfl rfl (Nat.le_of_ble_eq_true rfl) ?_
        refine c_in rfl ki_0 ki_99 (fun h => absurd h (by omega)) (fun _ => wk_i ?_)
        refine wi_ifne_f ct_124_30 ki_0 (by decide) ?_
        refine wi_ic ct_124_33 kc_m2 ?_
        refine wi_iret ct_124_35 rfl (wk_i ?_)
        refine wi_iceq_t ct_211_349 ki_m2 ki_m2 (by decide) ?_
        exact kk own g _ fl ⟨hS, hsc, hC, hK, hX, hV, hT, hP, hB, hN, hQ, hZ, hI⟩ (Nat.le_add_right _ _) (Nat.le_add_right _ _)
  · skip
    refine wi_aload_1 ct_211_321 ?_
    refine wi_aloadT_0 ct_211_322 ?_
    refine wi_iload_3 ct_211_323 ?_
    refine wi_ic ct_211_324 kc_1 ?_
    refine wi_iadd ct_211_325 rfl ?_
    refine wi_ialdT (j := I + 1) (x := a1) ct_211_326 (sL_SC hS) (i_in (i_add hi ki_1 (by omega)) (by omega)) (i_cl (i_add hi ki_1 (by omega)) (by omega)) (((hsc _).trans e1)) ?_
    refine wi_aloadT_0 ct_211_327 ?_
    refine wi_iload_3 ct_211_328 ?_
    refine wi_ic ct_211_329 kc_2 ?_
    refine wi_iadd ct_211_330 rfl ?_
    refine wi_ialdT (j := I + 2) (x := a2) ct_211_331 (sL_SC hS) (i_in (i_add hi ki_2 (by omega)) (by omega)) (i_cl (i_add hi ki_2 (by omega)) (by omega)) (((hsc _).trans e2)) ?_
    refine wi_cv2 (ls' := [some _, some _, some _, none]) ct_211_332 (Nat.le_of_ble_eq_true rfl) (by decide) (sT_0 hS) rfl (by decide) rfl rfl (Nat.le_of_ble_eq_true rfl) ?_
    refine wi_iload_1 ct_70_0 ?_
    refine wi_ic ct_70_1 kc_0 ?_
    refine wi_ic ct_70_2 kc_3 ?_
    refine wi_cs3 (ls' := [some _, some _, some _]) ct_70_3 (Nat.le_of_ble_eq_true rfl) rfl (Nat.le_of_ble_eq_true rfl) ?_
    refine c_within rfl ki_0 ki_3 (fun h => absurd h (by omega)) (fun _ => wk_i ?_)
    refine wi_ifne_f ct_70_6 ki_0 (by decide) ?_
    refine wi_ic ct_70_9 kc_m1 ?_
    refine wi_iret ct_70_10 rfl (wk_i ?_)
    refine wi_aload_2 ct_211_335 ?_
    refine wi_aloadT_0 ct_211_336 ?_
    refine wi_iload_3 ct_211_337 ?_
    refine wi_ic ct_211_338 kc_1 ?_
    refine wi_iadd ct_211_339 rfl ?_
    refine wi_ialdT (j := I + 1) (x := a1) ct_211_340 (sL_SC hS) (i_in (i_add hi ki_1 (by omega)) (by omega)) (i_cl (i_add hi ki_1 (by omega)) (by omega)) (((hsc _).trans e1)) ?_
    refine wi_aloadT_0 ct_211_341 ?_
    refine wi_iload_3 ct_211_342 ?_
    refine wi_ic ct_211_343 kc_2 ?_
    refine wi_iadd ct_211_344 rfl ?_
    refine wi_ialdT (j := I + 2) (x := a2) ct_211_345 (sL_SC hS) (i_in (i_add hi ki_2 (by omega)) (by omega)) (i_cl (i_add hi ki_2 (by omega)) (by omega)) (((hsc _).trans e2)) ?_
    refine wi_cv2 (ls' := [some _, some _, some _, none]) ct_211_346 (Nat.le_of_ble_eq_true rfl) (by decide) (sT_31 hS) rfl (by decide) rfl rfl (Nat.le_of_ble_eq_true rfl) ?_
    refine wi_aload_0 ct_124_0 ?_
    refine wi_iload_1 ct_124_1 ?_
    refine wi_ic ct_124_2 kc_0 ?_
    refine wi_ic ct_124_3 kc_3 ?_
    refine wi_cv3 (ls' := [some _, some _, some _, some _]) ct_124_4 (Nat.le_of_ble_eq_true rfl) (by decide) (sT_31 hS) rfl (by decide) rfl rfl (Nat.le_of_ble_eq_true rfl) ?_
    refine c_in rfl ki_0 ki_3 (fun h => absurd h (by omega)) (fun _ => wk_i ?_)
    refine wi_ifne_f ct_124_7 ki_0 (by decide) ?_
    refine wi_ic ct_124_10 kc_m1 ?_
    refine wi_iret ct_124_11 rfl (wk_i ?_)
    refine wi_iceq_t ct_211_349 ki_m1 ki_m1 (by decide) ?_
    exact kk own g _ fl ⟨hS, hsc, hC, hK, hX, hV, hT, hP, hB, hN, hQ, hZ, hI⟩ (Nat.le_add_right _ _) (Nat.le_add_right _ _)
set_option maxHeartbeats 1000000 in
theorem op_pause {L I : Nat} {xs : Nat → Int32} {own : Nat → Nat} {d : Nat} {g : am_G} {fi : am_I} {fl : am_L} {P : Option Value → am_G → am_I → am_L → Prop} {i : Int32} (hi : i.toInt = (I : Int)) (hI6 : I + 6 ≤ L) (hL : L ≤ 3072) (hR : Rel L xs own g fi fl) (hnx : am_nx g ≤ 800000) (kk : ∀ own' g' fi' fl', Rel L xs own' g' fi' fl' → am_nx g' ≤ am_nx g + 30 → am_sl g' ≤ am_sl g + 1000 → WP (d + 60) 211 1359 [some (.retAddr 0), some (.ref 0), some (.ref 31), some (.int i)] [] g' fi' fl' P) : WP (d + 60) 211 456 [some (.retAddr 0), some (.ref 0), some (.ref 31), some (.int i)] [] g fi fl P := by
  obtain ⟨hS, hsc, hC, hK, hX, hV, hT, hP, hB, hN, hQ, hZ, hI⟩ := hR
  obtain ⟨⟨c0, c0a, c0b⟩, ⟨c1, c1a, c1b⟩, ⟨c2, c2a, c2b⟩, ⟨c3, c3a, c3b⟩, ⟨c4, c4a, c4b⟩, ⟨c5, c5a, c5b⟩, ⟨c6, c6a, c6b⟩, ⟨c7, c7a, c7b⟩, c8, c9⟩ := id hC
  obtain ⟨a1, e1⟩ : ∃ a, xs (I + 1) = a := ⟨_, rfl⟩
  refine wi_aload_1 ct_211_456 ?_
  refine wi_aloadT_0 ct_211_457 ?_
  refine wi_iload_3 ct_211_458 ?_
  refine wi_ic ct_211_459 kc_1 ?_
  refine wi_iadd ct_211_460 rfl ?_
  refine wi_ialdT (j := I + 1) (x := a1) ct_211_461 (sL_SC hS) (i_in (i_add hi ki_1 (by omega)) (by omega)) (i_cl (i_add hi ki_1 (by omega)) (by omega)) (((hsc _).trans e1)) ?_
  refine wi_cv1 (ls' := [some _, some _]) ct_211_462 (Nat.le_of_ble_eq_true rfl) (by decide) (sT_0 hS) rfl (by decide) rfl rfl (Nat.le_of_ble_eq_true rfl) ?_
  refine wi_iload_1 ct_75_0 ?_
  refine wi_ic ct_75_1 kc_0 ?_
  refine wi_ic ct_75_2 kc_60 ?_
  refine wi_cs3 (ls' := [some _, some _, some _]) ct_75_4 (Nat.le_of_ble_eq_true rfl) rfl (Nat.le_of_ble_eq_true rfl) ?_
  refine c_within rfl ki_0 ki_60 (fun h1 => wk_i ?_) (fun h1 => wk_i ?_)
  · skip
    refine wi_ifne_t ct_75_7 ki_1 (by decide) ?_
    refine wi_aload_0 ct_75_13 ?_
    refine wi_gfr ct_75_14 (sT_0 hS) rfl (sR_0_0 hS) ?_
    refine wi_gf (x := fi 31 1) ct_75_17 (sT_1 hS) rfl rfl c1 ?_
    refine wi_iload_1 ct_75_20 ?_
    refine wi_iadd ct_75_21 rfl ?_
    refine wi_ic ct_75_22 kc_9999 ?_
    refine wi_icle ct_75_25 (i_add rfl rfl (by omega)) ki_9999 (fun h2 => ?_) (fun h2 => ?_)
    · skip
      refine wi_aload_0 ct_75_31 ?_
      refine wi_gfr ct_75_32 (sT_0 hS) rfl (sR_0_0 hS) ?_
      refine wi_dup ct_75_35 rfl ?_
      refine wi_gf (x := fi 31 1) ct_75_36 (sT_1 hS) rfl rfl c1 ?_
      refine wi_iload_1 ct_75_39 ?_
      refine wi_iadd ct_75_40 rfl ?_
      refine wi_pf ct_75_41 (sT_1 hS) rfl ?_
      refine wi_aload_0 ct_75_44 ?_
      refine wi_gfr ct_75_45 (sT_0 hS) rfl (sR_0_0 hS) ?_
      refine wi_gf (x := (fi 31 1 + a1)) ct_75_48 (sT_1 hS) rfl rfl up2_eq ?_
      refine wi_iret ct_75_51 rfl (wk_i ?_)
      refine wi_aload_2 ct_211_465 ?_
      refine wi_aloadT_0 ct_211_466 ?_
      refine wi_iload_3 ct_211_467 ?_
      refine wi_ic ct_211_468 kc_1 ?_
      refine wi_iadd ct_211_469 rfl ?_
      refine wi_ialdT (j := I + 1) (x := a1) ct_211_470 (sL_SC hS) (i_in (i_add hi ki_1 (by omega)) (by omega)) (i_cl (i_add hi ki_1 (by omega)) (by omega)) ((Eq.trans (up2_nq (by decide)) ((hsc _).trans e1))) ?_
      refine wi_cv1 (ls' := [some _, some _]) ct_211_471 (Nat.le_of_ble_eq_true rfl) (by decide) (sT_31 hS) rfl (by decide) rfl rfl (Nat.le_of_ble_eq_true rfl) ?_
      refine wi_aload_0 ct_152_0 ?_
      refine wi_iload_1 ct_152_1 ?_
      refine wi_ic ct_152_2 kc_0 ?_
      refine wi_ic ct_152_3 kc_60 ?_
      refine wi_cv3 (ls' := [some _, some _, some _, some _]) ct_152_5 (Nat.le_of_ble_eq_true rfl) (by decide) (sT_31 hS) rfl (by decide) rfl rfl (Nat.le_of_ble_eq_true rfl) ?_
      refine c_in rfl ki_0 ki_60 (fun _ => wk_i ?_) (fun h => absurd h (by omega))
      refine wi_ifne_t ct_152_8 ki_1 (by decide) ?_
      refine wi_aload_0 ct_152_14 ?_
      refine wi_gf (x := fi 31 1) ct_152_15 (sT_31 hS) rfl rfl (up2_nq (by decide)) ?_
      refine wi_iload_1 ct_152_18 ?_
      refine wi_iadd ct_152_19 rfl ?_
      refine wi_ic ct_152_20 kc_9999 ?_
      refine wi_icle_t ct_152_23 (i_add rfl rfl (by omega)) ki_9999 (by omega) ?_
      refine wi_aload_0 ct_152_29 ?_
      refine wi_dup ct_152_30 rfl ?_
      refine wi_gf (x := fi 31 1) ct_152_31 (sT_31 hS) rfl rfl (up2_nq (by decide)) ?_
      refine wi_iload_1 ct_152_34 ?_
      refine wi_iadd ct_152_35 rfl ?_
      refine wi_pf ct_152_36 (sT_31 hS) rfl ?_
      refine wi_aload_0 ct_152_39 ?_
      refine wi_gf (x := (fi 31 1 + a1)) ct_152_40 (sT_31 hS) rfl rfl up2_eq ?_
      refine wi_iret ct_152_43 rfl (wk_i ?_)
      refine wi_iceq_t ct_211_474 (i_add rfl rfl (by omega)) (i_add rfl rfl (by omega)) (by omega) ?_
      exact kk own g _ fl ⟨hS, hsc, ⟨⟨c0, c0a, c0b⟩, ⟨rfl, fld_bd (show ((fi 31 1 + a1)).toInt = _ from (i_add rfl rfl (by omega))) (by omega)⟩, ⟨c2, c2a, c2b⟩, ⟨c3, c3a, c3b⟩, ⟨c4, c4a, c4b⟩, ⟨c5, c5a, c5b⟩, ⟨c6, c6a, c6b⟩, ⟨c7, c7a, c7b⟩, c8, c9⟩, hK, hX, hV, hT, hP, (hB.fr c0b (am_frL (fun q hq => funext fun j => (Eq.trans (up2_nq (dn hq (by decide))) (up2_nq (dn hq (by decide)))))) (fun _ _ => trivial) rfl rfl rfl rfl rfl rfl rfl rfl), hN, (hQ.fr (am_frL (fun q hq => funext fun j => (Eq.trans (up2_nq (dn hq (by decide))) (up2_nq (dn hq (by decide)))))) trivial rfl rfl rfl rfl rfl rfl rfl rfl), hZ, (hI.fr c0b (am_frL (fun q hq => funext fun j => (Eq.trans (up2_nq (dn hq (by decide))) (up2_nq (dn hq (by decide)))))) (fun _ _ _ => trivial) (fun _ _ => rfl) rfl (fun _ _ => rfl) (Int.le_refl _) (Int.le_refl _) rfl rfl rfl rfl rfl rfl (fun _ _ => rfl) (fun _ _ => rfl) rfl rfl rfl rfl rfl rfl rfl rfl rfl rfl rfl rfl)⟩ (Nat.le_add_right _ _) (Nat.le_add_right _ _)
    · skip
      refine wi_ic ct_75_28 kc_m3 ?_
      refine wi_iret ct_75_30 rfl (wk_i ?_)
      refine wi_aload_2 ct_211_465 ?_
      refine wi_aloadT_0 ct_211_466 ?_
      refine wi_iload_3 ct_211_467 ?_
      refine wi_ic ct_211_468 kc_1 ?_
      refine wi_iadd ct_211_469 rfl ?_
      refine wi_ialdT (j := I + 1) (x := a1) ct_211_470 (sL_SC hS) (i_in (i_add hi ki_1 (by omega)) (by omega)) (i_cl (i_add hi ki_1 (by omega)) (by omega)) (((hsc _).trans e1)) ?_
      refine wi_cv1 (ls' := [some _, some _]) ct_211_471 (Nat.le_of_ble_eq_true rfl) (by decide) (sT_31 hS) rfl (by decide) rfl rfl (Nat.le_of_ble_eq_true rfl) ?_
      refine wi_aload_0 ct_152_0 ?_
      refine wi_iload_1 ct_152_1 ?_
      refine wi_ic ct_152_2 kc_0 ?_
      refine wi_ic ct_152_3 kc_60 ?_
      refine wi_cv3 (ls' := [some _, some _, some _, some _]) ct_152_5 (Nat.le_of_ble_eq_true rfl) (by decide) (sT_31 hS) rfl (by decide) rfl rfl (Nat.le_of_ble_eq_true rfl) ?_
      refine c_in rfl ki_0 ki_60 (fun _ => wk_i ?_) (fun h => absurd h (by omega))
      refine wi_ifne_t ct_152_8 ki_1 (by decide) ?_
      refine wi_aload_0 ct_152_14 ?_
      refine wi_gf (x := fi 31 1) ct_152_15 (sT_31 hS) rfl rfl rfl ?_
      refine wi_iload_1 ct_152_18 ?_
      refine wi_iadd ct_152_19 rfl ?_
      refine wi_ic ct_152_20 kc_9999 ?_
      refine wi_icle_f ct_152_23 (i_add rfl rfl (by omega)) ki_9999 (by omega) ?_
      refine wi_ic ct_152_26 kc_m3 ?_
      refine wi_iret ct_152_28 rfl (wk_i ?_)
      refine wi_iceq_t ct_211_474 ki_m3 ki_m3 (by decide) ?_
      exact kk own g _ fl ⟨hS, hsc, hC, hK, hX, hV, hT, hP, hB, hN, hQ, hZ, hI⟩ (Nat.le_add_right _ _) (Nat.le_add_right _ _)
  · skip
    refine wi_ifne_f ct_75_7 ki_0 (by decide) ?_
    refine wi_ic ct_75_10 kc_m2 ?_
    refine wi_iret ct_75_12 rfl (wk_i ?_)
    refine wi_aload_2 ct_211_465 ?_
    refine wi_aloadT_0 ct_211_466 ?_
    refine wi_iload_3 ct_211_467 ?_
    refine wi_ic ct_211_468 kc_1 ?_
    refine wi_iadd ct_211_469 rfl ?_
    refine wi_ialdT (j := I + 1) (x := a1) ct_211_470 (sL_SC hS) (i_in (i_add hi ki_1 (by omega)) (by omega)) (i_cl (i_add hi ki_1 (by omega)) (by omega)) (((hsc _).trans e1)) ?_
    refine wi_cv1 (ls' := [some _, some _]) ct_211_471 (Nat.le_of_ble_eq_true rfl) (by decide) (sT_31 hS) rfl (by decide) rfl rfl (Nat.le_of_ble_eq_true rfl) ?_
    refine wi_aload_0 ct_152_0 ?_
    refine wi_iload_1 ct_152_1 ?_
    refine wi_ic ct_152_2 kc_0 ?_
    refine wi_ic ct_152_3 kc_60 ?_
    refine wi_cv3 (ls' := [some _, some _, some _, some _]) ct_152_5 (Nat.le_of_ble_eq_true rfl) (by decide) (sT_31 hS) rfl (by decide) rfl rfl (Nat.le_of_ble_eq_true rfl) ?_
    refine c_in rfl ki_0 ki_60 (fun h => absurd h (by omega)) (fun _ => wk_i ?_)
    refine wi_ifne_f ct_152_8 ki_0 (by decide) ?_
    refine wi_ic ct_152_11 kc_m2 ?_
    refine wi_iret ct_152_13 rfl (wk_i ?_)
    refine wi_iceq_t ct_211_474 ki_m2 ki_m2 (by decide) ?_
    exact kk own g _ fl ⟨hS, hsc, hC, hK, hX, hV, hT, hP, hB, hN, hQ, hZ, hI⟩ (Nat.le_add_right _ _) (Nat.le_add_right _ _)
set_option maxHeartbeats 1000000 in
theorem op_feed {L I : Nat} {xs : Nat → Int32} {own : Nat → Nat} {d : Nat} {g : am_G} {fi : am_I} {fl : am_L} {P : Option Value → am_G → am_I → am_L → Prop} {i : Int32} (hi : i.toInt = (I : Int)) (hI6 : I + 6 ≤ L) (hL : L ≤ 3072) (hR : Rel L xs own g fi fl) (hnx : am_nx g ≤ 800000) (kk : ∀ own' g' fi' fl', Rel L xs own' g' fi' fl' → am_nx g' ≤ am_nx g + 30 → am_sl g' ≤ am_sl g + 1000 → WP (d + 60) 211 1359 [some (.retAddr 0), some (.ref 0), some (.ref 31), some (.int i)] [] g' fi' fl' P) : WP (d + 60) 211 397 [some (.retAddr 0), some (.ref 0), some (.ref 31), some (.int i)] [] g fi fl P := by
  obtain ⟨hS, hsc, hC, hK, hX, hV, hT, hP, hB, hN, hQ, hZ, hI⟩ := hR
  obtain ⟨⟨c0, c0a, c0b⟩, ⟨c1, c1a, c1b⟩, ⟨c2, c2a, c2b⟩, ⟨c3, c3a, c3b⟩, ⟨c4, c4a, c4b⟩, ⟨c5, c5a, c5b⟩, ⟨c6, c6a, c6b⟩, ⟨c7, c7a, c7b⟩, c8, c9⟩ := id hC
  obtain ⟨a1, e1⟩ : ∃ a, xs (I + 1) = a := ⟨_, rfl⟩
  obtain ⟨N1, hN1⟩ : ∃ k : Nat, (fi 31 11).toInt = (k : Int) := ⟨_, (i_cln (by omega)).symm⟩
  refine wi_aload_1 ct_211_397 ?_
  refine wi_aloadT_0 ct_211_398 ?_
  refine wi_iload_3 ct_211_399 ?_
  refine wi_ic ct_211_400 kc_1 ?_
  refine wi_iadd ct_211_401 rfl ?_
  refine wi_ialdT (j := I + 1) (x := a1) ct_211_402 (sL_SC hS) (i_in (i_add hi ki_1 (by omega)) (by omega)) (i_cl (i_add hi ki_1 (by omega)) (by omega)) (((hsc _).trans e1)) ?_
  refine wi_cv1 (ls' := [some _, some _]) ct_211_403 (Nat.le_of_ble_eq_true rfl) (by decide) (sT_0 hS) rfl (by decide) rfl rfl (Nat.le_of_ble_eq_true rfl) ?_
  refine wi_iload_1 ct_72_0 ?_
  refine wi_ic ct_72_1 kc_0 ?_
  refine wi_ic ct_72_2 kc_127 ?_
  refine wi_cs3 (ls' := [some _, some _, some _]) ct_72_4 (Nat.le_of_ble_eq_true rfl) rfl (Nat.le_of_ble_eq_true rfl) ?_
  refine c_within rfl ki_0 ki_127 (fun h2 => wk_i ?_) (fun h2 => wk_i ?_)
  · skip
    refine wi_ifne_t ct_72_7 ki_1 (by decide) ?_
    refine wi_aload_0 ct_72_13 ?_
    refine wi_gfr ct_72_14 (sT_0 hS) rfl (sR_0_3 hS) ?_
    refine wi_cv0 (ls' := [some _]) ct_72_17 (Nat.le_of_ble_eq_true rfl) (by decide) (sT_17 hS) rfl (by decide) rfl rfl (Nat.le_of_ble_eq_true rfl) ?_
    refine wi_aload_0 ct_43_0 ?_
    refine wi_gf (x := fi 31 11) ct_43_1 (sT_17 hS) rfl rfl c4 ?_
    refine wi_ic ct_43_4 kc_100 ?_
    refine wi_iclt ct_43_6 hN1 ki_100 (fun h3 => ?_) (fun h3 => ?_)
    · skip
      refine wi_ic ct_43_13 kc_0 ?_
      refine wi_iret ct_43_14 (by decide) (wk_i ?_)
      refine wi_ifeq_t ct_72_20 ki_0 (by decide) ?_
      refine wi_aload_0 ct_72_26 ?_
      refine wi_gfr ct_72_27 (sT_0 hS) rfl (sR_0_3 hS) ?_
      refine wi_iload_1 ct_72_30 ?_
      refine wi_cv1 (ls' := [some _, some _]) ct_72_31 (Nat.le_of_ble_eq_true rfl) (by decide) (sT_17 hS) rfl (by decide) rfl rfl (Nat.le_of_ble_eq_true rfl) ?_
      refine wi_aload_0 ct_44_0 ?_
      refine wi_cv0 (ls' := [some _]) ct_44_1 (Nat.le_of_ble_eq_true rfl) (by decide) (sT_17 hS) rfl (by decide) rfl rfl (Nat.le_of_ble_eq_true rfl) ?_
      refine wi_aload_0 ct_43_0 ?_
      refine wi_gf (x := fi 31 11) ct_43_1 (sT_17 hS) rfl rfl c4 ?_
      refine wi_ic ct_43_4 kc_100 ?_
      refine wi_iclt_t ct_43_6 hN1 ki_100 (by omega) ?_
      refine wi_ic ct_43_13 kc_0 ?_
      refine wi_iret ct_43_14 (by decide) (wk_i ?_)
      refine wi_ifeq_t ct_44_4 ki_0 (by decide) ?_
      refine wi_aload_0 ct_44_8 ?_
      refine wi_gfr ct_44_9 (sT_17 hS) rfl (sR_17_0 hS) ?_
      refine wi_aload_0 ct_44_12 ?_
      refine wi_gf (x := fi 31 11) ct_44_13 (sT_17 hS) rfl rfl c4 ?_
      refine wi_iload_1 ct_44_16 ?_
      refine wi_i2b ct_44_17 (i_b8 rfl (by omega)) ?_
      refine wi_bast (z := a1) ct_44_18 (sT_18 hS) (sL_18 hS) (i_in hN1 (by omega)) (i_cl (k := N1) hN1 (by omega)) (i_b8 rfl (by omega)) ?_
      refine wi_aload_0 ct_44_19 ?_
      refine wi_dup ct_44_20 rfl ?_
      refine wi_gf (x := fi 31 11) ct_44_21 (sT_17 hS) rfl rfl (Eq.trans (up2_nq (by decide)) c4) ?_
      refine wi_ic ct_44_24 kc_1 ?_
      refine wi_iadd ct_44_25 rfl ?_
      refine wi_pf ct_44_26 (sT_17 hS) rfl ?_
      refine wi_ret ct_44_29 (wk_v ?_)
      refine wi_aload_0 ct_72_34 ?_
      refine wi_gfr ct_72_35 (sT_0 hS) rfl (sR_0_3 hS) ?_
      refine wi_gf (x := (fi 31 11 + 1)) ct_72_38 (sT_17 hS) rfl rfl up2_eq ?_
      refine wi_iret ct_72_41 rfl (wk_i ?_)
      refine wi_aload_2 ct_211_406 ?_
      refine wi_aloadT_0 ct_211_407 ?_
      refine wi_iload_3 ct_211_408 ?_
      refine wi_ic ct_211_409 kc_1 ?_
      refine wi_iadd ct_211_410 rfl ?_
      refine wi_ialdT (j := I + 1) (x := a1) ct_211_411 (sL_SC hS) (i_in (i_add hi ki_1 (by omega)) (by omega)) (i_cl (i_add hi ki_1 (by omega)) (by omega)) ((Eq.trans (up2_nq (by decide)) (Eq.trans (up2_nq (by decide)) ((hsc _).trans e1)))) ?_
      refine wi_cv1 (ls' := [some _, some _]) ct_211_412 (Nat.le_of_ble_eq_true rfl) (by decide) (sT_31 hS) rfl (by decide) rfl rfl (Nat.le_of_ble_eq_true rfl) ?_
      refine wi_aload_0 ct_126_0 ?_
      refine wi_iload_1 ct_126_1 ?_
      refine wi_ic ct_126_2 kc_0 ?_
      refine wi_ic ct_126_3 kc_127 ?_
      refine wi_cv3 (ls' := [some _, some _, some _, some _]) ct_126_5 (Nat.le_of_ble_eq_true rfl) (by decide) (sT_31 hS) rfl (by decide) rfl rfl (Nat.le_of_ble_eq_true rfl) ?_
      refine c_in rfl ki_0 ki_127 (fun _ => wk_i ?_) (fun h => absurd h (by omega))
      refine wi_ifne_t ct_126_8 ki_1 (by decide) ?_
      refine wi_aload_0 ct_126_14 ?_
      refine wi_gf (x := fi 31 11) ct_126_15 (sT_31 hS) rfl rfl (Eq.trans (up2_nq (by decide)) (up2_nq (by decide))) ?_
      refine wi_ic ct_126_18 kc_100 ?_
      refine wi_icne_t ct_126_20 hN1 ki_100 (by omega) ?_
      refine wi_aload_0 ct_126_26 ?_
      refine wi_gfr ct_126_27 (sT_31 hS) rfl (sR_31_14 hS) ?_
      refine wi_aload_0 ct_126_30 ?_
      refine wi_gf (x := fi 31 11) ct_126_31 (sT_31 hS) rfl rfl (Eq.trans (up2_nq (by decide)) (up2_nq (by decide))) ?_
      refine wi_iload_1 ct_126_34 ?_
      refine wi_iast ct_126_35 (sT_39 hS) (sL_39 hS) (i_in hN1 (by omega)) (i_cl (k := N1) hN1 (by omega)) ?_
      refine wi_aload_0 ct_126_36 ?_
      refine wi_dup ct_126_37 rfl ?_
      refine wi_gf (x := fi 31 11) ct_126_38 (sT_31 hS) rfl rfl (Eq.trans (up2_nq (by decide)) (Eq.trans (up2_nq (by decide)) (up2_nq (by decide)))) ?_
      refine wi_ic ct_126_41 kc_1 ?_
      refine wi_iadd ct_126_42 rfl ?_
      refine wi_pf ct_126_43 (sT_31 hS) rfl ?_
      refine wi_aload_0 ct_126_46 ?_
      refine wi_gf (x := (fi 31 11 + 1)) ct_126_47 (sT_31 hS) rfl rfl up2_eq ?_
      refine wi_iret ct_126_50 rfl (wk_i ?_)
      refine wi_iceq_t ct_211_415 (i_add hN1 ki_1 (by omega)) (i_add hN1 ki_1 (by omega)) (by omega) ?_
      exact kk own g _ fl ⟨hS, hsc, ⟨⟨c0, c0a, c0b⟩, ⟨c1, c1a, c1b⟩, ⟨c2, c2a, c2b⟩, ⟨c3, c3a, c3b⟩, ⟨rfl, fld_bd (show (fi 31 11 + 1).toInt = _ from i_add hN1 ki_1 (by omega)) (by omega)⟩, ⟨c5, c5a, c5b⟩, ⟨c6, c6a, c6b⟩, ⟨c7, c7a, c7b⟩, c8, c9⟩, hK, hX.put (w := N1) (x := a1) (by omega) (by omega) (show (fi 31 11 + 1).toInt = _ from i_add hN1 ki_1 (by omega)) rfl rfl (fun j => Eq.trans (b := up2 fi 18 N1 a1 18 j) rfl (up2_if j)) (fun j => Eq.trans (b := up2 fi 39 N1 a1 39 j) rfl (up2_if j)), hV, hT, hP, (hB.fr c0b (am_frL (fun q hq => funext fun j => (Eq.trans (up2_nq (dn hq (by decide))) (Eq.trans (up2_nq (dn hq (by decide))) (Eq.trans (up2_nq (dn hq (by decide))) (up2_nq (dn hq (by decide)))))))) (fun _ _ => trivial) rfl rfl rfl rfl rfl rfl rfl rfl), hN, (hQ.fr (am_frL (fun q hq => funext fun j => (Eq.trans (up2_nq (dn hq (by decide))) (Eq.trans (up2_nq (dn hq (by decide))) (Eq.trans (up2_nq (dn hq (by decide))) (up2_nq (dn hq (by decide)))))))) trivial rfl rfl rfl rfl rfl rfl rfl rfl), hZ, (hI.fr c0b (am_frL (fun q hq => funext fun j => (Eq.trans (up2_nq (dn hq (by decide))) (Eq.trans (up2_nq (dn hq (by decide))) (Eq.trans (up2_nq (dn hq (by decide))) (up2_nq (dn hq (by decide)))))))) (fun _ _ _ => trivial) (fun _ _ => rfl) rfl (fun _ _ => rfl) (Int.le_refl _) (Int.le_refl _) rfl rfl rfl rfl rfl rfl (fun _ _ => rfl) (fun _ _ => rfl) rfl rfl rfl rfl rfl rfl rfl rfl rfl rfl rfl rfl)⟩ (Nat.le_add_right _ _) (Nat.le_add_right _ _)
    · skip
      refine wi_ic ct_43_9 kc_1 ?_
      refine wi_goto ct_43_10 ?_
      refine wi_iret ct_43_14 (by decide) (wk_i ?_)
      refine wi_ifeq_f ct_72_20 ki_1 (by decide) ?_
      refine wi_ic ct_72_23 kc_m4 ?_
      refine wi_iret ct_72_25 rfl (wk_i ?_)
      refine wi_aload_2 ct_211_406 ?_
      refine wi_aloadT_0 ct_211_407 ?_
      refine wi_iload_3 ct_211_408 ?_
      refine wi_ic ct_211_409 kc_1 ?_
      refine wi_iadd ct_211_410 rfl ?_
      refine wi_ialdT (j := I + 1) (x := a1) ct_211_411 (sL_SC hS) (i_in (i_add hi ki_1 (by omega)) (by omega)) (i_cl (i_add hi ki_1 (by omega)) (by omega)) (((hsc _).trans e1)) ?_
      refine wi_cv1 (ls' := [some _, some _]) ct_211_412 (Nat.le_of_ble_eq_true rfl) (by decide) (sT_31 hS) rfl (by decide) rfl rfl (Nat.le_of_ble_eq_true rfl) ?_
      refine wi_aload_0 ct_126_0 ?_
      refine wi_iload_1 ct_126_1 ?_
      refine wi_ic ct_126_2 kc_0 ?_
      refine wi_ic ct_126_3 kc_127 ?_
      refine wi_cv3 (ls' := [some _, some _, some _, some _]) ct_126_5 (Nat.le_of_ble_eq_true rfl) (by decide) (sT_31 hS) rfl (by decide) rfl rfl (Nat.le_of_ble_eq_true rfl) ?_
      refine c_in rfl ki_0 ki_127 (fun _ => wk_i ?_) (fun h => absurd h (by omega))
      refine wi_ifne_t ct_126_8 ki_1 (by decide) ?_
      refine wi_aload_0 ct_126_14 ?_
      refine wi_gf (x := fi 31 11) ct_126_15 (sT_31 hS) rfl rfl rfl ?_
      refine wi_ic ct_126_18 kc_100 ?_
      refine wi_icne_f ct_126_20 hN1 ki_100 (by omega) ?_
      refine wi_ic ct_126_23 kc_m4 ?_
      refine wi_iret ct_126_25 rfl (wk_i ?_)
      refine wi_iceq_t ct_211_415 ki_m4 ki_m4 (by decide) ?_
      exact kk own g _ fl ⟨hS, hsc, hC, hK, hX, hV, hT, hP, hB, hN, hQ, hZ, hI⟩ (Nat.le_add_right _ _) (Nat.le_add_right _ _)
  · skip
    refine wi_ifne_f ct_72_7 ki_0 (by decide) ?_
    refine wi_ic ct_72_10 kc_m2 ?_
    refine wi_iret ct_72_12 rfl (wk_i ?_)
    refine wi_aload_2 ct_211_406 ?_
    refine wi_aloadT_0 ct_211_407 ?_
    refine wi_iload_3 ct_211_408 ?_
    refine wi_ic ct_211_409 kc_1 ?_
    refine wi_iadd ct_211_410 rfl ?_
    refine wi_ialdT (j := I + 1) (x := a1) ct_211_411 (sL_SC hS) (i_in (i_add hi ki_1 (by omega)) (by omega)) (i_cl (i_add hi ki_1 (by omega)) (by omega)) (((hsc _).trans e1)) ?_
    refine wi_cv1 (ls' := [some _, some _]) ct_211_412 (Nat.le_of_ble_eq_true rfl) (by decide) (sT_31 hS) rfl (by decide) rfl rfl (Nat.le_of_ble_eq_true rfl) ?_
    refine wi_aload_0 ct_126_0 ?_
    refine wi_iload_1 ct_126_1 ?_
    refine wi_ic ct_126_2 kc_0 ?_
    refine wi_ic ct_126_3 kc_127 ?_
    refine wi_cv3 (ls' := [some _, some _, some _, some _]) ct_126_5 (Nat.le_of_ble_eq_true rfl) (by decide) (sT_31 hS) rfl (by decide) rfl rfl (Nat.le_of_ble_eq_true rfl) ?_
    refine c_in rfl ki_0 ki_127 (fun h => absurd h (by omega)) (fun _ => wk_i ?_)
    refine wi_ifne_f ct_126_8 ki_0 (by decide) ?_
    refine wi_ic ct_126_11 kc_m2 ?_
    refine wi_iret ct_126_13 rfl (wk_i ?_)
    refine wi_iceq_t ct_211_415 ki_m2 ki_m2 (by decide) ?_
    exact kk own g _ fl ⟨hS, hsc, hC, hK, hX, hV, hT, hP, hB, hN, hQ, hZ, hI⟩ (Nat.le_add_right _ _) (Nat.le_add_right _ _)
set_option maxHeartbeats 1000000 in
theorem op_count {L I : Nat} {xs : Nat → Int32} {own : Nat → Nat} {d : Nat} {g : am_G} {fi : am_I} {fl : am_L} {P : Option Value → am_G → am_I → am_L → Prop} {i : Int32} (hi : i.toInt = (I : Int)) (hI6 : I + 6 ≤ L) (hL : L ≤ 3072) (hR : Rel L xs own g fi fl) (hnx : am_nx g ≤ 800000) (kk : ∀ own' g' fi' fl', Rel L xs own' g' fi' fl' → am_nx g' ≤ am_nx g + 30 → am_sl g' ≤ am_sl g + 1000 → WP (d + 60) 211 1359 [some (.retAddr 0), some (.ref 0), some (.ref 31), some (.int i)] [] g' fi' fl' P) : WP (d + 60) 211 1123 [some (.retAddr 0), some (.ref 0), some (.ref 31), some (.int i)] [] g fi fl P := by
  obtain ⟨hS, hsc, hC, hK, hX, hV, hT, hP, hB, hN, hQ, hZ, hI⟩ := hR
  obtain ⟨⟨c0, c0a, c0b⟩, ⟨c1, c1a, c1b⟩, ⟨c2, c2a, c2b⟩, ⟨c3, c3a, c3b⟩, ⟨c4, c4a, c4b⟩, ⟨c5, c5a, c5b⟩, ⟨c6, c6a, c6b⟩, ⟨c7, c7a, c7b⟩, c8, c9⟩ := id hC
  obtain ⟨a1, e1⟩ : ∃ a, xs (I + 1) = a := ⟨_, rfl⟩
  refine wi_aload_1 ct_211_1123 ?_
  refine wi_aloadT_0 ct_211_1124 ?_
  refine wi_iload_3 ct_211_1125 ?_
  refine wi_ic ct_211_1126 kc_1 ?_
  refine wi_iadd ct_211_1127 rfl ?_
  refine wi_ialdT (j := I + 1) (x := a1) ct_211_1128 (sL_SC hS) (i_in (i_add hi ki_1 (by omega)) (by omega)) (i_cl (i_add hi ki_1 (by omega)) (by omega)) (((hsc _).trans e1)) ?_
  refine wi_cv1 (ls' := [some _, some _]) ct_211_1129 (Nat.le_of_ble_eq_true rfl) (by decide) (sT_0 hS) rfl (by decide) rfl rfl (Nat.le_of_ble_eq_true rfl) ?_
  refine wi_iload_1 ct_98_0 ?_
  rcases Decidable.em ((a1).toInt = 0) with h1 | h1
  · refine wi_tsw (X := 0) (t := 40) ct_98_1 (by omega) rfl ?_
    refine wi_aload_0 ct_98_40 ?_
    refine wi_gfr ct_98_41 (sT_0 hS) rfl (sR_0_0 hS) ?_
    refine wi_gf (x := fi 31 0) ct_98_44 (sT_1 hS) rfl rfl c0 ?_
    refine wi_iret ct_98_47 rfl (wk_i ?_)
    refine wi_aload_2 ct_211_1132 ?_
    refine wi_aloadT_0 ct_211_1133 ?_
    refine wi_iload_3 ct_211_1134 ?_
    refine wi_ic ct_211_1135 kc_1 ?_
    refine wi_iadd ct_211_1136 rfl ?_
    refine wi_ialdT (j := I + 1) (x := a1) ct_211_1137 (sL_SC hS) (i_in (i_add hi ki_1 (by omega)) (by omega)) (i_cl (i_add hi ki_1 (by omega)) (by omega)) (((hsc _).trans e1)) ?_
    refine wi_cv1 (ls' := [some _, some _]) ct_211_1138 (Nat.le_of_ble_eq_true rfl) (by decide) (sT_31 hS) rfl (by decide) rfl rfl (Nat.le_of_ble_eq_true rfl) ?_
    refine wi_iload_1 ct_193_0 ?_
    refine wi_tsw (X := 0) (t := 40) ct_193_1 (by omega) rfl ?_
    refine wi_aload_0 ct_193_40 ?_
    refine wi_gf (x := fi 31 0) ct_193_41 (sT_31 hS) rfl rfl rfl ?_
    refine wi_iret ct_193_44 rfl (wk_i ?_)
    refine wi_iceq_t ct_211_1141 rfl rfl (by omega) ?_
    exact kk own g _ fl ⟨hS, hsc, hC, hK, hX, hV, hT, hP, hB, hN, hQ, hZ, hI⟩ (by omega) (by omega)
  rcases Decidable.em ((a1).toInt = 1) with h3 | h3
  · refine wi_tsw (X := 1) (t := 48) ct_98_1 (by omega) rfl ?_
    refine wi_aload_0 ct_98_48 ?_
    refine wi_gf (x := fi 31 9) ct_98_49 (sT_0 hS) rfl rfl c3 ?_
    refine wi_iret ct_98_52 rfl (wk_i ?_)
    refine wi_aload_2 ct_211_1132 ?_
    refine wi_aloadT_0 ct_211_1133 ?_
    refine wi_iload_3 ct_211_1134 ?_
    refine wi_ic ct_211_1135 kc_1 ?_
    refine wi_iadd ct_211_1136 rfl ?_
    refine wi_ialdT (j := I + 1) (x := a1) ct_211_1137 (sL_SC hS) (i_in (i_add hi ki_1 (by omega)) (by omega)) (i_cl (i_add hi ki_1 (by omega)) (by omega)) (((hsc _).trans e1)) ?_
    refine wi_cv1 (ls' := [some _, some _]) ct_211_1138 (Nat.le_of_ble_eq_true rfl) (by decide) (sT_31 hS) rfl (by decide) rfl rfl (Nat.le_of_ble_eq_true rfl) ?_
    refine wi_iload_1 ct_193_0 ?_
    refine wi_tsw (X := 1) (t := 45) ct_193_1 (by omega) rfl ?_
    refine wi_aload_0 ct_193_45 ?_
    refine wi_gf (x := fi 31 9) ct_193_46 (sT_31 hS) rfl rfl rfl ?_
    refine wi_iret ct_193_49 rfl (wk_i ?_)
    refine wi_iceq_t ct_211_1141 rfl rfl (by omega) ?_
    exact kk own g _ fl ⟨hS, hsc, hC, hK, hX, hV, hT, hP, hB, hN, hQ, hZ, hI⟩ (by omega) (by omega)
  rcases Decidable.em ((a1).toInt = 2) with h5 | h5
  · refine wi_tsw (X := 2) (t := 53) ct_98_1 (by omega) rfl ?_
    refine wi_aload_0 ct_98_53 ?_
    refine wi_gfr ct_98_54 (sT_0 hS) rfl (sR_0_0 hS) ?_
    refine wi_gf (x := fi 31 40) ct_98_57 (sT_1 hS) rfl rfl c5 ?_
    refine wi_iret ct_98_60 rfl (wk_i ?_)
    refine wi_aload_2 ct_211_1132 ?_
    refine wi_aloadT_0 ct_211_1133 ?_
    refine wi_iload_3 ct_211_1134 ?_
    refine wi_ic ct_211_1135 kc_1 ?_
    refine wi_iadd ct_211_1136 rfl ?_
    refine wi_ialdT (j := I + 1) (x := a1) ct_211_1137 (sL_SC hS) (i_in (i_add hi ki_1 (by omega)) (by omega)) (i_cl (i_add hi ki_1 (by omega)) (by omega)) (((hsc _).trans e1)) ?_
    refine wi_cv1 (ls' := [some _, some _]) ct_211_1138 (Nat.le_of_ble_eq_true rfl) (by decide) (sT_31 hS) rfl (by decide) rfl rfl (Nat.le_of_ble_eq_true rfl) ?_
    refine wi_iload_1 ct_193_0 ?_
    refine wi_tsw (X := 2) (t := 50) ct_193_1 (by omega) rfl ?_
    refine wi_aload_0 ct_193_50 ?_
    refine wi_gf (x := fi 31 40) ct_193_51 (sT_31 hS) rfl rfl rfl ?_
    refine wi_iret ct_193_54 rfl (wk_i ?_)
    refine wi_iceq_t ct_211_1141 rfl rfl (by omega) ?_
    exact kk own g _ fl ⟨hS, hsc, hC, hK, hX, hV, hT, hP, hB, hN, hQ, hZ, hI⟩ (by omega) (by omega)
  rcases Decidable.em ((a1).toInt = 3) with h7 | h7
  · refine wi_tsw (X := 3) (t := 61) ct_98_1 (by omega) rfl ?_
    refine wi_aload_0 ct_98_61 ?_
    refine wi_gfr ct_98_62 (sT_0 hS) rfl (sR_0_0 hS) ?_
    refine wi_gf (x := fi 31 44) ct_98_65 (sT_1 hS) rfl rfl c6 ?_
    refine wi_iret ct_98_68 rfl (wk_i ?_)
    refine wi_aload_2 ct_211_1132 ?_
    refine wi_aloadT_0 ct_211_1133 ?_
    refine wi_iload_3 ct_211_1134 ?_
    refine wi_ic ct_211_1135 kc_1 ?_
    refine wi_iadd ct_211_1136 rfl ?_
    refine wi_ialdT (j := I + 1) (x := a1) ct_211_1137 (sL_SC hS) (i_in (i_add hi ki_1 (by omega)) (by omega)) (i_cl (i_add hi ki_1 (by omega)) (by omega)) (((hsc _).trans e1)) ?_
    refine wi_cv1 (ls' := [some _, some _]) ct_211_1138 (Nat.le_of_ble_eq_true rfl) (by decide) (sT_31 hS) rfl (by decide) rfl rfl (Nat.le_of_ble_eq_true rfl) ?_
    refine wi_iload_1 ct_193_0 ?_
    refine wi_tsw (X := 3) (t := 55) ct_193_1 (by omega) rfl ?_
    refine wi_aload_0 ct_193_55 ?_
    refine wi_gf (x := fi 31 44) ct_193_56 (sT_31 hS) rfl rfl rfl ?_
    refine wi_iret ct_193_59 rfl (wk_i ?_)
    refine wi_iceq_t ct_211_1141 rfl rfl (by omega) ?_
    exact kk own g _ fl ⟨hS, hsc, hC, hK, hX, hV, hT, hP, hB, hN, hQ, hZ, hI⟩ (by omega) (by omega)
  rcases Decidable.em ((a1).toInt = 4) with h9 | h9
  · refine wi_tsw (X := 4) (t := 69) ct_98_1 (by omega) rfl ?_
    refine wi_aload_0 ct_98_69 ?_
    refine wi_gfr ct_98_70 (sT_0 hS) rfl (sR_0_3 hS) ?_
    refine wi_gf (x := fi 31 11) ct_98_73 (sT_17 hS) rfl rfl c4 ?_
    refine wi_iret ct_98_76 rfl (wk_i ?_)
    refine wi_aload_2 ct_211_1132 ?_
    refine wi_aloadT_0 ct_211_1133 ?_
    refine wi_iload_3 ct_211_1134 ?_
    refine wi_ic ct_211_1135 kc_1 ?_
    refine wi_iadd ct_211_1136 rfl ?_
    refine wi_ialdT (j := I + 1) (x := a1) ct_211_1137 (sL_SC hS) (i_in (i_add hi ki_1 (by omega)) (by omega)) (i_cl (i_add hi ki_1 (by omega)) (by omega)) (((hsc _).trans e1)) ?_
    refine wi_cv1 (ls' := [some _, some _]) ct_211_1138 (Nat.le_of_ble_eq_true rfl) (by decide) (sT_31 hS) rfl (by decide) rfl rfl (Nat.le_of_ble_eq_true rfl) ?_
    refine wi_iload_1 ct_193_0 ?_
    refine wi_tsw (X := 4) (t := 60) ct_193_1 (by omega) rfl ?_
    refine wi_aload_0 ct_193_60 ?_
    refine wi_gf (x := fi 31 11) ct_193_61 (sT_31 hS) rfl rfl rfl ?_
    refine wi_iret ct_193_64 rfl (wk_i ?_)
    refine wi_iceq_t ct_211_1141 rfl rfl (by omega) ?_
    exact kk own g _ fl ⟨hS, hsc, hC, hK, hX, hV, hT, hP, hB, hN, hQ, hZ, hI⟩ (by omega) (by omega)
  rcases Decidable.em ((a1).toInt = 5) with h11 | h11
  · refine wi_tsw (X := 5) (t := 77) ct_98_1 (by omega) rfl ?_
    refine wi_aload_0 ct_98_77 ?_
    refine wi_gfr ct_98_78 (sT_0 hS) rfl (sR_0_10 hS) ?_
    refine wi_ic ct_98_81 kc_0 ?_
    refine wi_iald (x := fi 31 65) ct_98_82 (sT_21 hS) (sL_21 hS) (by decide) kn_c0 c7 ?_
    refine wi_iret ct_98_83 rfl (wk_i ?_)
    refine wi_aload_2 ct_211_1132 ?_
    refine wi_aloadT_0 ct_211_1133 ?_
    refine wi_iload_3 ct_211_1134 ?_
    refine wi_ic ct_211_1135 kc_1 ?_
    refine wi_iadd ct_211_1136 rfl ?_
    refine wi_ialdT (j := I + 1) (x := a1) ct_211_1137 (sL_SC hS) (i_in (i_add hi ki_1 (by omega)) (by omega)) (i_cl (i_add hi ki_1 (by omega)) (by omega)) (((hsc _).trans e1)) ?_
    refine wi_cv1 (ls' := [some _, some _]) ct_211_1138 (Nat.le_of_ble_eq_true rfl) (by decide) (sT_31 hS) rfl (by decide) rfl rfl (Nat.le_of_ble_eq_true rfl) ?_
    refine wi_iload_1 ct_193_0 ?_
    refine wi_tsw (X := 5) (t := 65) ct_193_1 (by omega) rfl ?_
    refine wi_aload_0 ct_193_65 ?_
    refine wi_gf (x := fi 31 65) ct_193_66 (sT_31 hS) rfl rfl rfl ?_
    refine wi_iret ct_193_69 rfl (wk_i ?_)
    refine wi_iceq_t ct_211_1141 rfl rfl (by omega) ?_
    exact kk own g _ fl ⟨hS, hsc, hC, hK, hX, hV, hT, hP, hB, hN, hQ, hZ, hI⟩ (by omega) (by omega)
  refine wi_tsw (t := 84) ct_98_1 rfl ((am_tswD (by omega)).trans rfl) ?_
  refine wi_ic ct_98_84 kc_m2 ?_
  refine wi_iret ct_98_86 rfl (wk_i ?_)
  refine wi_aload_2 ct_211_1132 ?_
  refine wi_aloadT_0 ct_211_1133 ?_
  refine wi_iload_3 ct_211_1134 ?_
  refine wi_ic ct_211_1135 kc_1 ?_
  refine wi_iadd ct_211_1136 rfl ?_
  refine wi_ialdT (j := I + 1) (x := a1) ct_211_1137 (sL_SC hS) (i_in (i_add hi ki_1 (by omega)) (by omega)) (i_cl (i_add hi ki_1 (by omega)) (by omega)) (((hsc _).trans e1)) ?_
  refine wi_cv1 (ls' := [some _, some _]) ct_211_1138 (Nat.le_of_ble_eq_true rfl) (by decide) (sT_31 hS) rfl (by decide) rfl rfl (Nat.le_of_ble_eq_true rfl) ?_
  refine wi_iload_1 ct_193_0 ?_
  refine wi_tsw (t := 70) ct_193_1 rfl ((am_tswD (by omega)).trans rfl) ?_
  refine wi_ic ct_193_70 kc_m2 ?_
  refine wi_iret ct_193_72 rfl (wk_i ?_)
  refine wi_iceq_t ct_211_1141 ki_m2 ki_m2 (by decide) ?_
  exact kk own g _ fl ⟨hS, hsc, hC, hK, hX, hV, hT, hP, hB, hN, hQ, hZ, hI⟩ (by omega) (by omega)
set_option maxHeartbeats 1000000 in
theorem op_see {L I : Nat} {xs : Nat → Int32} {own : Nat → Nat} {d : Nat} {g : am_G} {fi : am_I} {fl : am_L} {P : Option Value → am_G → am_I → am_L → Prop} {i : Int32} (hi : i.toInt = (I : Int)) (hI6 : I + 6 ≤ L) (hL : L ≤ 3072) (hR : Rel L xs own g fi fl) (hnx : am_nx g ≤ 800000) (kk : ∀ own' g' fi' fl', Rel L xs own' g' fi' fl' → am_nx g' ≤ am_nx g + 30 → am_sl g' ≤ am_sl g + 1000 → WP (d + 60) 211 1359 [some (.retAddr 0), some (.ref 0), some (.ref 31), some (.int i)] [] g' fi' fl' P) : WP (d + 60) 211 756 [some (.retAddr 0), some (.ref 0), some (.ref 31), some (.int i)] [] g fi fl P := by
  obtain ⟨hS, hsc, hC, hK, hX, hV, hT, hP, hB, hN, hQ, hZ, hI⟩ := hR
  obtain ⟨⟨c0, c0a, c0b⟩, ⟨c1, c1a, c1b⟩, ⟨c2, c2a, c2b⟩, ⟨c3, c3a, c3b⟩, ⟨c4, c4a, c4b⟩, ⟨c5, c5a, c5b⟩, ⟨c6, c6a, c6b⟩, ⟨c7, c7a, c7b⟩, c8, c9⟩ := id hC
  obtain ⟨a1, e1⟩ : ∃ a, xs (I + 1) = a := ⟨_, rfl⟩
  obtain ⟨a2, e2⟩ : ∃ a, xs (I + 2) = a := ⟨_, rfl⟩
  obtain ⟨a3, e3⟩ : ∃ a, xs (I + 3) = a := ⟨_, rfl⟩
  obtain ⟨N1, hN1⟩ : ∃ k : Nat, (fi 31 40).toInt = (k : Int) := ⟨_, (i_cln (by omega)).symm⟩
  refine wi_aload_1 ct_211_756 ?_
  refine wi_aloadT_0 ct_211_757 ?_
  refine wi_iload_3 ct_211_758 ?_
  refine wi_ic ct_211_759 kc_1 ?_
  refine wi_iadd ct_211_760 rfl ?_
  refine wi_ialdT (j := I + 1) (x := a1) ct_211_761 (sL_SC hS) (i_in (i_add hi ki_1 (by omega)) (by omega)) (i_cl (i_add hi ki_1 (by omega)) (by omega)) (((hsc _).trans e1)) ?_
  refine wi_aloadT_0 ct_211_762 ?_
  refine wi_iload_3 ct_211_763 ?_
  refine wi_ic ct_211_764 kc_2 ?_
  refine wi_iadd ct_211_765 rfl ?_
  refine wi_ialdT (j := I + 2) (x := a2) ct_211_766 (sL_SC hS) (i_in (i_add hi ki_2 (by omega)) (by omega)) (i_cl (i_add hi ki_2 (by omega)) (by omega)) (((hsc _).trans e2)) ?_
  refine wi_aloadT_0 ct_211_767 ?_
  refine wi_iload_3 ct_211_768 ?_
  refine wi_ic ct_211_769 kc_3 ?_
  refine wi_iadd ct_211_770 rfl ?_
  refine wi_ialdT (j := I + 3) (x := a3) ct_211_771 (sL_SC hS) (i_in (i_add hi ki_3 (by omega)) (by omega)) (i_cl (i_add hi ki_3 (by omega)) (by omega)) (((hsc _).trans e3)) ?_
  refine wi_cv3 (ls' := [some _, some _, some _, some _]) ct_211_772 (Nat.le_of_ble_eq_true rfl) (by decide) (sT_0 hS) rfl (by decide) rfl rfl (Nat.le_of_ble_eq_true rfl) ?_
  refine wi_iload_1 ct_85_0 ?_
  refine wi_ic ct_85_1 kc_m1 ?_
  refine wi_icne ct_85_2 rfl ki_m1 (fun h2 => ?_) (fun h2 => ?_)
  · skip
    refine wi_aload_0 ct_85_15 ?_
    refine wi_iload_1 ct_85_16 ?_
    refine wi_cv1 (ls' := [some _, some _]) ct_85_17 (Nat.le_of_ble_eq_true rfl) (by decide) (sT_0 hS) rfl (by decide) rfl rfl (Nat.le_of_ble_eq_true rfl) ?_
    refine wi_iload_1 ct_104_0 ?_
    refine wi_ic ct_104_1 kc_0 ?_
    refine wi_aload_0 ct_104_2 ?_
    refine wi_gfr ct_104_3 (sT_0 hS) rfl (sR_0_0 hS) ?_
    refine wi_gf (x := fi 31 0) ct_104_6 (sT_1 hS) rfl rfl c0 ?_
    refine wi_ic ct_104_9 kc_1 ?_
    refine wi_isub ct_104_10 rfl ?_
    refine wi_cs3 (ls' := [some _, some _, some _]) ct_104_11 (Nat.le_of_ble_eq_true rfl) rfl (Nat.le_of_ble_eq_true rfl) ?_
    refine c_within rfl ki_0 (i_sub rfl ki_1 (by omega)) (fun h3 => wk_i ?_) (fun h3 => wk_i ?_)
    · skip
      refine wi_ifeq_f ct_104_14 ki_1 (by decide) ?_
      refine wi_aload_0 ct_104_17 ?_
      refine wi_gfr ct_104_18 (sT_0 hS) rfl (sR_0_0 hS) ?_
      refine wi_gfr ct_104_21 (sT_1 hS) rfl (sR_1_0 hS) ?_
      refine wi_iload_1 ct_104_24 ?_
      obtain ⟨N4, hN4⟩ : ∃ k : Nat, (a1).toInt = (k : Int) := ⟨_, (i_cln (by omega)).symm⟩
      obtain ⟨hM5, p5, r5, hO5⟩ := hB N4 (by omega)
      obtain ⟨⟨m5_0, m5_0b⟩, ⟨m5_1, m5_1b⟩, ⟨m5_2, m5_2b⟩, ⟨m5_3, m5_3b⟩, ⟨m5_4, m5_4b⟩, m5_5⟩ := id hM5
      obtain ⟨o5_0, ⟨o5_72, o5_nx, o5_ow⟩, o5_t, o5_k, o5_n, o5_v, o5_c, o5_a, o5_m, o5_r⟩ := id hO5
      refine wi_aald ct_104_25 (sT_2 hS) (by decide) (sL_2 hS) (i_in hN4 (by omega)) (i_cl (k := N4) hN4 (by omega)) o5_0 ?_
      refine wi_goto ct_104_26 ?_
      refine wi_aret ct_104_30 (wk_r ?_)
      refine wi_ifnonnull_r ct_85_20 ?_
      refine wi_iload_2 ct_85_25 ?_
      refine wi_ic ct_85_26 kc_0 ?_
      refine wi_ic ct_85_27 kc_30 ?_
      refine wi_cs3 (ls' := [some _, some _, some _]) ct_85_29 (Nat.le_of_ble_eq_true rfl) rfl (Nat.le_of_ble_eq_true rfl) ?_
      refine c_within rfl ki_0 ki_30 (fun h6 => wk_i ?_) (fun h6 => wk_i ?_)
      · skip
        refine wi_ifeq_f ct_85_32 ki_1 (by decide) ?_
        refine wi_iload_3 ct_85_35 ?_
        refine wi_ic ct_85_36 kc_0 ?_
        refine wi_ic ct_85_37 kc_99 ?_
        refine wi_cs3 (ls' := [some _, some _, some _]) ct_85_39 (Nat.le_of_ble_eq_true rfl) rfl (Nat.le_of_ble_eq_true rfl) ?_
        refine c_within rfl ki_0 ki_99 (fun h7 => wk_i ?_) (fun h7 => wk_i ?_)
        · skip
          refine wi_ifne_t ct_85_42 ki_1 (by decide) ?_
          refine wi_aload_0 ct_85_48 ?_
          refine wi_gfr ct_85_49 (sT_0 hS) rfl (sR_0_0 hS) ?_
          refine wi_gf (x := fi 31 40) ct_85_52 (sT_1 hS) rfl rfl c5 ?_
          refine wi_ic ct_85_55 kc_6 ?_
          refine wi_iclt ct_85_57 hN1 ki_6 (fun h8 => ?_) (fun h8 => ?_)
          · skip
            refine wi_aload_0 ct_85_63 ?_
            refine wi_gfr ct_85_64 (sT_0 hS) rfl (sR_0_0 hS) ?_
            refine wi_gfr ct_85_67 (sT_1 hS) rfl (sR_1_5 hS) ?_
            refine wi_aload_0 ct_85_70 ?_
            refine wi_gfr ct_85_71 (sT_0 hS) rfl (sR_0_0 hS) ?_
            refine wi_gf (x := fi 31 40) ct_85_74 (sT_1 hS) rfl rfl c5 ?_
            refine wi_iload_1 ct_85_77 ?_
            refine wi_iast ct_85_78 (sT_4 hS) (sL_4 hS) (i_in hN1 (by omega)) (i_cl (k := N1) hN1 (by omega)) ?_
            refine wi_aload_0 ct_85_79 ?_
            refine wi_gfr ct_85_80 (sT_0 hS) rfl (sR_0_0 hS) ?_
            refine wi_gfr ct_85_83 (sT_1 hS) rfl (sR_1_6 hS) ?_
            refine wi_aload_0 ct_85_86 ?_
            refine wi_gfr ct_85_87 (sT_0 hS) rfl (sR_0_0 hS) ?_
            refine wi_gf (x := fi 31 40) ct_85_90 (sT_1 hS) rfl rfl (Eq.trans (up2_nq (by decide)) c5) ?_
            refine wi_iload_2 ct_85_93 ?_
            refine wi_iast ct_85_94 (sT_5 hS) (sL_5 hS) (i_in hN1 (by omega)) (i_cl (k := N1) hN1 (by omega)) ?_
            refine wi_aload_0 ct_85_95 ?_
            refine wi_gfr ct_85_96 (sT_0 hS) rfl (sR_0_0 hS) ?_
            refine wi_gfr ct_85_99 (sT_1 hS) rfl (sR_1_7 hS) ?_
            refine wi_aload_0 ct_85_102 ?_
            refine wi_gfr ct_85_103 (sT_0 hS) rfl (sR_0_0 hS) ?_
            refine wi_gf (x := fi 31 40) ct_85_106 (sT_1 hS) rfl rfl (Eq.trans (up2_nq (by decide)) (Eq.trans (up2_nq (by decide)) c5)) ?_
            refine wi_iload_3 ct_85_109 ?_
            refine wi_iast ct_85_110 (sT_6 hS) (sL_6 hS) (i_in hN1 (by omega)) (i_cl (k := N1) hN1 (by omega)) ?_
            refine wi_aload_0 ct_85_111 ?_
            refine wi_gfr ct_85_112 (sT_0 hS) rfl (sR_0_0 hS) ?_
            refine wi_dup ct_85_115 rfl ?_
            refine wi_gf (x := fi 31 40) ct_85_116 (sT_1 hS) rfl rfl (Eq.trans (up2_nq (by decide)) (Eq.trans (up2_nq (by decide)) (Eq.trans (up2_nq (by decide)) c5))) ?_
            refine wi_ic ct_85_119 kc_1 ?_
            refine wi_iadd ct_85_120 rfl ?_
            refine wi_pf ct_85_121 (sT_1 hS) rfl ?_
            refine wi_aload_0 ct_85_124 ?_
            refine wi_gfr ct_85_125 (sT_0 hS) rfl (sR_0_0 hS) ?_
            refine wi_gf (x := (fi 31 40 + 1)) ct_85_128 (sT_1 hS) rfl rfl up2_eq ?_
            refine wi_iret ct_85_131 rfl (wk_i ?_)
            refine wi_aload_2 ct_211_775 ?_
            refine wi_aloadT_0 ct_211_776 ?_
            refine wi_iload_3 ct_211_777 ?_
            refine wi_ic ct_211_778 kc_1 ?_
            refine wi_iadd ct_211_779 rfl ?_
            refine wi_ialdT (j := I + 1) (x := a1) ct_211_780 (sL_SC hS) (i_in (i_add hi ki_1 (by omega)) (by omega)) (i_cl (i_add hi ki_1 (by omega)) (by omega)) ((Eq.trans (up2_nq (by decide)) (Eq.trans (up2_nq (by decide)) (Eq.trans (up2_nq (by decide)) (Eq.trans (up2_nq (by decide)) ((hsc _).trans e1)))))) ?_
            refine wi_aloadT_0 ct_211_781 ?_
            refine wi_iload_3 ct_211_782 ?_
            refine wi_ic ct_211_783 kc_2 ?_
            refine wi_iadd ct_211_784 rfl ?_
            refine wi_ialdT (j := I + 2) (x := a2) ct_211_785 (sL_SC hS) (i_in (i_add hi ki_2 (by omega)) (by omega)) (i_cl (i_add hi ki_2 (by omega)) (by omega)) ((Eq.trans (up2_nq (by decide)) (Eq.trans (up2_nq (by decide)) (Eq.trans (up2_nq (by decide)) (Eq.trans (up2_nq (by decide)) ((hsc _).trans e2)))))) ?_
            refine wi_aloadT_0 ct_211_786 ?_
            refine wi_iload_3 ct_211_787 ?_
            refine wi_ic ct_211_788 kc_3 ?_
            refine wi_iadd ct_211_789 rfl ?_
            refine wi_ialdT (j := I + 3) (x := a3) ct_211_790 (sL_SC hS) (i_in (i_add hi ki_3 (by omega)) (by omega)) (i_cl (i_add hi ki_3 (by omega)) (by omega)) ((Eq.trans (up2_nq (by decide)) (Eq.trans (up2_nq (by decide)) (Eq.trans (up2_nq (by decide)) (Eq.trans (up2_nq (by decide)) ((hsc _).trans e3)))))) ?_
            refine wi_cv3 (ls' := [some _, some _, some _, some _]) ct_211_791 (Nat.le_of_ble_eq_true rfl) (by decide) (sT_31 hS) rfl (by decide) rfl rfl (Nat.le_of_ble_eq_true rfl) ?_
            refine wi_iload_1 ct_169_0 ?_
            refine wi_ic ct_169_1 kc_m1 ?_
            refine wi_icne_t ct_169_2 hN4 ki_m1 (by omega) ?_
            refine wi_aload_0 ct_169_12 ?_
            refine wi_iload_1 ct_169_13 ?_
            refine wi_cv1 (ls' := [some _, some _]) ct_169_14 (Nat.le_of_ble_eq_true rfl) (by decide) (sT_31 hS) rfl (by decide) rfl rfl (Nat.le_of_ble_eq_true rfl) ?_
            refine wi_aload_0 ct_120_0 ?_
            refine wi_iload_1 ct_120_1 ?_
            refine wi_ic ct_120_2 kc_0 ?_
            refine wi_aload_0 ct_120_3 ?_
            refine wi_gf (x := fi 31 0) ct_120_4 (sT_31 hS) rfl rfl (Eq.trans (up2_nq (by decide)) (Eq.trans (up2_nq (by decide)) (Eq.trans (up2_nq (by decide)) (up2_nq (by decide))))) ?_
            refine wi_ic ct_120_7 kc_1 ?_
            refine wi_isub ct_120_8 rfl ?_
            refine wi_cv3 (ls' := [some _, some _, some _, some _]) ct_120_9 (Nat.le_of_ble_eq_true rfl) (by decide) (sT_31 hS) rfl (by decide) rfl rfl (Nat.le_of_ble_eq_true rfl) ?_
            refine c_in hN4 ki_0 (i_sub rfl ki_1 (by omega)) (fun _ => wk_i ?_) (fun h => absurd h (by omega))
            refine wi_iret ct_120_12 (by decide) (wk_i ?_)
            refine wi_ifne_t ct_169_17 ki_1 (by decide) ?_
            refine wi_aload_0 ct_169_22 ?_
            refine wi_iload_2 ct_169_23 ?_
            refine wi_ic ct_169_24 kc_0 ?_
            refine wi_ic ct_169_25 kc_30 ?_
            refine wi_cv3 (ls' := [some _, some _, some _, some _]) ct_169_27 (Nat.le_of_ble_eq_true rfl) (by decide) (sT_31 hS) rfl (by decide) rfl rfl (Nat.le_of_ble_eq_true rfl) ?_
            refine c_in rfl ki_0 ki_30 (fun _ => wk_i ?_) (fun h => absurd h (by omega))
            refine wi_ifeq_f ct_169_30 ki_1 (by decide) ?_
            refine wi_aload_0 ct_169_33 ?_
            refine wi_iload_3 ct_169_34 ?_
            refine wi_ic ct_169_35 kc_0 ?_
            refine wi_ic ct_169_36 kc_99 ?_
            refine wi_cv3 (ls' := [some _, some _, some _, some _]) ct_169_38 (Nat.le_of_ble_eq_true rfl) (by decide) (sT_31 hS) rfl (by decide) rfl rfl (Nat.le_of_ble_eq_true rfl) ?_
            refine c_in rfl ki_0 ki_99 (fun _ => wk_i ?_) (fun h => absurd h (by omega))
            refine wi_ifne_t ct_169_41 ki_1 (by decide) ?_
            refine wi_aload_0 ct_169_47 ?_
            refine wi_gf (x := fi 31 40) ct_169_48 (sT_31 hS) rfl rfl (Eq.trans (up2_nq (by decide)) (Eq.trans (up2_nq (by decide)) (Eq.trans (up2_nq (by decide)) (up2_nq (by decide))))) ?_
            refine wi_ic ct_169_51 kc_6 ?_
            refine wi_icne_t ct_169_53 hN1 ki_6 (by omega) ?_
            refine wi_aload_0 ct_169_59 ?_
            refine wi_gfr ct_169_60 (sT_31 hS) rfl (sR_31_41 hS) ?_
            refine wi_aload_0 ct_169_63 ?_
            refine wi_gf (x := fi 31 40) ct_169_64 (sT_31 hS) rfl rfl (Eq.trans (up2_nq (by decide)) (Eq.trans (up2_nq (by decide)) (Eq.trans (up2_nq (by decide)) (up2_nq (by decide))))) ?_
            refine wi_iload_1 ct_169_67 ?_
            refine wi_iast ct_169_68 (sT_50 hS) (sL_50 hS) (i_in hN1 (by omega)) (i_cl (k := N1) hN1 (by omega)) ?_
            refine wi_aload_0 ct_169_69 ?_
            refine wi_gfr ct_169_70 (sT_31 hS) rfl (sR_31_42 hS) ?_
            refine wi_aload_0 ct_169_73 ?_
            refine wi_gf (x := fi 31 40) ct_169_74 (sT_31 hS) rfl rfl (Eq.trans (up2_nq (by decide)) (Eq.trans (up2_nq (by decide)) (Eq.trans (up2_nq (by decide)) (Eq.trans (up2_nq (by decide)) (up2_nq (by decide)))))) ?_
            refine wi_iload_2 ct_169_77 ?_
            refine wi_iast ct_169_78 (sT_51 hS) (sL_51 hS) (i_in hN1 (by omega)) (i_cl (k := N1) hN1 (by omega)) ?_
            refine wi_aload_0 ct_169_79 ?_
            refine wi_gfr ct_169_80 (sT_31 hS) rfl (sR_31_43 hS) ?_
            refine wi_aload_0 ct_169_83 ?_
            refine wi_gf (x := fi 31 40) ct_169_84 (sT_31 hS) rfl rfl (Eq.trans (up2_nq (by decide)) (Eq.trans (up2_nq (by decide)) (Eq.trans (up2_nq (by decide)) (Eq.trans (up2_nq (by decide)) (Eq.trans (up2_nq (by decide)) (up2_nq (by decide))))))) ?_
            refine wi_iload_3 ct_169_87 ?_
            refine wi_iast ct_169_88 (sT_52 hS) (sL_52 hS) (i_in hN1 (by omega)) (i_cl (k := N1) hN1 (by omega)) ?_
            refine wi_aload_0 ct_169_89 ?_
            refine wi_dup ct_169_90 rfl ?_
            refine wi_gf (x := fi 31 40) ct_169_91 (sT_31 hS) rfl rfl (Eq.trans (up2_nq (by decide)) (Eq.trans (up2_nq (by decide)) (Eq.trans (up2_nq (by decide)) (Eq.trans (up2_nq (by decide)) (Eq.trans (up2_nq (by decide)) (Eq.trans (up2_nq (by decide)) (up2_nq (by decide)))))))) ?_
            refine wi_ic ct_169_94 kc_1 ?_
            refine wi_iadd ct_169_95 rfl ?_
            refine wi_pf ct_169_96 (sT_31 hS) rfl ?_
            refine wi_aload_0 ct_169_99 ?_
            refine wi_gf (x := (fi 31 40 + 1)) ct_169_100 (sT_31 hS) rfl rfl up2_eq ?_
            refine wi_iret ct_169_103 rfl (wk_i ?_)
            refine wi_iceq_t ct_211_794 (i_add hN1 ki_1 (by omega)) (i_add hN1 ki_1 (by omega)) (by omega) ?_
            exact kk own g _ fl ⟨hS, hsc, ⟨⟨c0, c0a, c0b⟩, ⟨c1, c1a, c1b⟩, ⟨c2, c2a, c2b⟩, ⟨c3, c3a, c3b⟩, ⟨c4, c4a, c4b⟩, ⟨rfl, fld_bd (show (fi 31 40 + 1).toInt = _ from i_add hN1 ki_1 (by omega)) (by omega)⟩, ⟨c6, c6a, c6b⟩, ⟨c7, c7a, c7b⟩, c8, c9⟩, hK, hX, hV.seen (w := N1) (b := a1) (n := a2) (c := a3) (by omega) (by omega) (by omega) (show (fi 31 40 + 1).toInt = _ from i_add hN1 ki_1 (by omega)) rfl rfl rfl (fun j => Eq.trans (b := up2 fi 4 N1 a1 4 j) rfl (up2_if j)) (fun j => Eq.trans (b := up2 fi 5 N1 a2 5 j) rfl (up2_if j)) (fun j => Eq.trans (b := up2 fi 6 N1 a3 6 j) rfl (up2_if j)) (fun j => Eq.trans (b := up2 fi 50 N1 a1 50 j) rfl (up2_if j)) (fun j => Eq.trans (b := up2 fi 51 N1 a2 51 j) rfl (up2_if j)) (fun j => Eq.trans (b := up2 fi 52 N1 a3 52 j) rfl (up2_if j)) rfl rfl rfl rfl, hT, hP, (hB.fr c0b (am_frL (fun q hq => funext fun j => (Eq.trans (up2_nq (dn hq (by decide))) (Eq.trans (up2_nq (dn hq (by decide))) (Eq.trans (up2_nq (dn hq (by decide))) (Eq.trans (up2_nq (dn hq (by decide))) (Eq.trans (up2_nq (dn hq (by decide))) (Eq.trans (up2_nq (dn hq (by decide))) (Eq.trans (up2_nq (dn hq (by decide))) (up2_nq (dn hq (by decide)))))))))))) (fun _ _ => trivial) rfl rfl rfl rfl rfl rfl rfl rfl), hN, (hQ.fr (am_frL (fun q hq => funext fun j => (Eq.trans (up2_nq (dn hq (by decide))) (Eq.trans (up2_nq (dn hq (by decide))) (Eq.trans (up2_nq (dn hq (by decide))) (Eq.trans (up2_nq (dn hq (by decide))) (Eq.trans (up2_nq (dn hq (by decide))) (Eq.trans (up2_nq (dn hq (by decide))) (Eq.trans (up2_nq (dn hq (by decide))) (up2_nq (dn hq (by decide)))))))))))) trivial rfl rfl rfl rfl rfl rfl rfl rfl), hZ, (hI.fr c0b (am_frL (fun q hq => funext fun j => (Eq.trans (up2_nq (dn hq (by decide))) (Eq.trans (up2_nq (dn hq (by decide))) (Eq.trans (up2_nq (dn hq (by decide))) (Eq.trans (up2_nq (dn hq (by decide))) (Eq.trans (up2_nq (dn hq (by decide))) (Eq.trans (up2_nq (dn hq (by decide))) (Eq.trans (up2_nq (dn hq (by decide))) (up2_nq (dn hq (by decide)))))))))))) (fun _ _ _ => trivial) (fun _ _ => rfl) rfl (fun _ _ => rfl) (Int.le_refl _) (Int.le_refl _) rfl rfl rfl rfl rfl rfl (fun _ _ => rfl) (fun _ _ => rfl) rfl rfl rfl rfl rfl rfl rfl rfl rfl rfl rfl rfl)⟩ (Nat.le_add_right _ _) (Nat.le_add_right _ _)
          · skip
            refine wi_ic ct_85_60 kc_m4 ?_
            refine wi_iret ct_85_62 rfl (wk_i ?_)
            refine wi_aload_2 ct_211_775 ?_
            refine wi_aloadT_0 ct_211_776 ?_
            refine wi_iload_3 ct_211_777 ?_
            refine wi_ic ct_211_778 kc_1 ?_
            refine wi_iadd ct_211_779 rfl ?_
            refine wi_ialdT (j := I + 1) (x := a1) ct_211_780 (sL_SC hS) (i_in (i_add hi ki_1 (by omega)) (by omega)) (i_cl (i_add hi ki_1 (by omega)) (by omega)) (((hsc _).trans e1)) ?_
            refine wi_aloadT_0 ct_211_781 ?_
            refine wi_iload_3 ct_211_782 ?_
            refine wi_ic ct_211_783 kc_2 ?_
            refine wi_iadd ct_211_784 rfl ?_
            refine wi_ialdT (j := I + 2) (x := a2) ct_211_785 (sL_SC hS) (i_in (i_add hi ki_2 (by omega)) (by omega)) (i_cl (i_add hi ki_2 (by omega)) (by omega)) (((hsc _).trans e2)) ?_
            refine wi_aloadT_0 ct_211_786 ?_
            refine wi_iload_3 ct_211_787 ?_
            refine wi_ic ct_211_788 kc_3 ?_
            refine wi_iadd ct_211_789 rfl ?_
            refine wi_ialdT (j := I + 3) (x := a3) ct_211_790 (sL_SC hS) (i_in (i_add hi ki_3 (by omega)) (by omega)) (i_cl (i_add hi ki_3 (by omega)) (by omega)) (((hsc _).trans e3)) ?_
            refine wi_cv3 (ls' := [some _, some _, some _, some _]) ct_211_791 (Nat.le_of_ble_eq_true rfl) (by decide) (sT_31 hS) rfl (by decide) rfl rfl (Nat.le_of_ble_eq_true rfl) ?_
            refine wi_iload_1 ct_169_0 ?_
            refine wi_ic ct_169_1 kc_m1 ?_
            refine wi_icne_t ct_169_2 hN4 ki_m1 (by omega) ?_
            refine wi_aload_0 ct_169_12 ?_
            refine wi_iload_1 ct_169_13 ?_
            refine wi_cv1 (ls' := [some _, some _]) ct_169_14 (Nat.le_of_ble_eq_true rfl) (by decide) (sT_31 hS) rfl (by decide) rfl rfl (Nat.le_of_ble_eq_true rfl) ?_
            refine wi_aload_0 ct_120_0 ?_
            refine wi_iload_1 ct_120_1 ?_
            refine wi_ic ct_120_2 kc_0 ?_
            refine wi_aload_0 ct_120_3 ?_
            refine wi_gf (x := fi 31 0) ct_120_4 (sT_31 hS) rfl rfl rfl ?_
            refine wi_ic ct_120_7 kc_1 ?_
            refine wi_isub ct_120_8 rfl ?_
            refine wi_cv3 (ls' := [some _, some _, some _, some _]) ct_120_9 (Nat.le_of_ble_eq_true rfl) (by decide) (sT_31 hS) rfl (by decide) rfl rfl (Nat.le_of_ble_eq_true rfl) ?_
            refine c_in hN4 ki_0 (i_sub rfl ki_1 (by omega)) (fun _ => wk_i ?_) (fun h => absurd h (by omega))
            refine wi_iret ct_120_12 (by decide) (wk_i ?_)
            refine wi_ifne_t ct_169_17 ki_1 (by decide) ?_
            refine wi_aload_0 ct_169_22 ?_
            refine wi_iload_2 ct_169_23 ?_
            refine wi_ic ct_169_24 kc_0 ?_
            refine wi_ic ct_169_25 kc_30 ?_
            refine wi_cv3 (ls' := [some _, some _, some _, some _]) ct_169_27 (Nat.le_of_ble_eq_true rfl) (by decide) (sT_31 hS) rfl (by decide) rfl rfl (Nat.le_of_ble_eq_true rfl) ?_
            refine c_in rfl ki_0 ki_30 (fun _ => wk_i ?_) (fun h => absurd h (by omega))
            refine wi_ifeq_f ct_169_30 ki_1 (by decide) ?_
            refine wi_aload_0 ct_169_33 ?_
            refine wi_iload_3 ct_169_34 ?_
            refine wi_ic ct_169_35 kc_0 ?_
            refine wi_ic ct_169_36 kc_99 ?_
            refine wi_cv3 (ls' := [some _, some _, some _, some _]) ct_169_38 (Nat.le_of_ble_eq_true rfl) (by decide) (sT_31 hS) rfl (by decide) rfl rfl (Nat.le_of_ble_eq_true rfl) ?_
            refine c_in rfl ki_0 ki_99 (fun _ => wk_i ?_) (fun h => absurd h (by omega))
            refine wi_ifne_t ct_169_41 ki_1 (by decide) ?_
            refine wi_aload_0 ct_169_47 ?_
            refine wi_gf (x := fi 31 40) ct_169_48 (sT_31 hS) rfl rfl rfl ?_
            refine wi_ic ct_169_51 kc_6 ?_
            refine wi_icne_f ct_169_53 hN1 ki_6 (by omega) ?_
            refine wi_ic ct_169_56 kc_m4 ?_
            refine wi_iret ct_169_58 rfl (wk_i ?_)
            refine wi_iceq_t ct_211_794 ki_m4 ki_m4 (by decide) ?_
            exact kk own g _ fl ⟨hS, hsc, hC, hK, hX, hV, hT, hP, hB, hN, hQ, hZ, hI⟩ (Nat.le_add_right _ _) (Nat.le_add_right _ _)
        · skip
          refine wi_ifne_f ct_85_42 ki_0 (by decide) ?_
          refine wi_ic ct_85_45 kc_m2 ?_
          refine wi_iret ct_85_47 rfl (wk_i ?_)
          refine wi_aload_2 ct_211_775 ?_
          refine wi_aloadT_0 ct_211_776 ?_
          refine wi_iload_3 ct_211_777 ?_
          refine wi_ic ct_211_778 kc_1 ?_
          refine wi_iadd ct_211_779 rfl ?_
          refine wi_ialdT (j := I + 1) (x := a1) ct_211_780 (sL_SC hS) (i_in (i_add hi ki_1 (by omega)) (by omega)) (i_cl (i_add hi ki_1 (by omega)) (by omega)) (((hsc _).trans e1)) ?_
          refine wi_aloadT_0 ct_211_781 ?_
          refine wi_iload_3 ct_211_782 ?_
          refine wi_ic ct_211_783 kc_2 ?_
          refine wi_iadd ct_211_784 rfl ?_
          refine wi_ialdT (j := I + 2) (x := a2) ct_211_785 (sL_SC hS) (i_in (i_add hi ki_2 (by omega)) (by omega)) (i_cl (i_add hi ki_2 (by omega)) (by omega)) (((hsc _).trans e2)) ?_
          refine wi_aloadT_0 ct_211_786 ?_
          refine wi_iload_3 ct_211_787 ?_
          refine wi_ic ct_211_788 kc_3 ?_
          refine wi_iadd ct_211_789 rfl ?_
          refine wi_ialdT (j := I + 3) (x := a3) ct_211_790 (sL_SC hS) (i_in (i_add hi ki_3 (by omega)) (by omega)) (i_cl (i_add hi ki_3 (by omega)) (by omega)) (((hsc _).trans e3)) ?_
          refine wi_cv3 (ls' := [some _, some _, some _, some _]) ct_211_791 (Nat.le_of_ble_eq_true rfl) (by decide) (sT_31 hS) rfl (by decide) rfl rfl (Nat.le_of_ble_eq_true rfl) ?_
          refine wi_iload_1 ct_169_0 ?_
          refine wi_ic ct_169_1 kc_m1 ?_
          refine wi_icne_t ct_169_2 hN4 ki_m1 (by omega) ?_
          refine wi_aload_0 ct_169_12 ?_
          refine wi_iload_1 ct_169_13 ?_
          refine wi_cv1 (ls' := [some _, some _]) ct_169_14 (Nat.le_of_ble_eq_true rfl) (by decide) (sT_31 hS) rfl (by decide) rfl rfl (Nat.le_of_ble_eq_true rfl) ?_
          refine wi_aload_0 ct_120_0 ?_
          refine wi_iload_1 ct_120_1 ?_
          refine wi_ic ct_120_2 kc_0 ?_
          refine wi_aload_0 ct_120_3 ?_
          refine wi_gf (x := fi 31 0) ct_120_4 (sT_31 hS) rfl rfl rfl ?_
          refine wi_ic ct_120_7 kc_1 ?_
          refine wi_isub ct_120_8 rfl ?_
          refine wi_cv3 (ls' := [some _, some _, some _, some _]) ct_120_9 (Nat.le_of_ble_eq_true rfl) (by decide) (sT_31 hS) rfl (by decide) rfl rfl (Nat.le_of_ble_eq_true rfl) ?_
          refine c_in hN4 ki_0 (i_sub rfl ki_1 (by omega)) (fun _ => wk_i ?_) (fun h => absurd h (by omega))
          refine wi_iret ct_120_12 (by decide) (wk_i ?_)
          refine wi_ifne_t ct_169_17 ki_1 (by decide) ?_
          refine wi_aload_0 ct_169_22 ?_
          refine wi_iload_2 ct_169_23 ?_
          refine wi_ic ct_169_24 kc_0 ?_
          refine wi_ic ct_169_25 kc_30 ?_
          refine wi_cv3 (ls' := [some _, some _, some _, some _]) ct_169_27 (Nat.le_of_ble_eq_true rfl) (by decide) (sT_31 hS) rfl (by decide) rfl rfl (Nat.le_of_ble_eq_true rfl) ?_
          refine c_in rfl ki_0 ki_30 (fun _ => wk_i ?_) (fun h => absurd h (by omega))
          refine wi_ifeq_f ct_169_30 ki_1 (by decide) ?_
          refine wi_aload_0 ct_169_33 ?_
          refine wi_iload_3 ct_169_34 ?_
          refine wi_ic ct_169_35 kc_0 ?_
          refine wi_ic ct_169_36 kc_99 ?_
          refine wi_cv3 (ls' := [some _, some _, some _, some _]) ct_169_38 (Nat.le_of_ble_eq_true rfl) (by decide) (sT_31 hS) rfl (by decide) rfl rfl (Nat.le_of_ble_eq_true rfl) ?_
          refine c_in rfl ki_0 ki_99 (fun h => absurd h (by omega)) (fun _ => wk_i ?_)
          refine wi_ifne_f ct_169_41 ki_0 (by decide) ?_
          refine wi_ic ct_169_44 kc_m2 ?_
          refine wi_iret ct_169_46 rfl (wk_i ?_)
          refine wi_iceq_t ct_211_794 ki_m2 ki_m2 (by decide) ?_
          exact kk own g _ fl ⟨hS, hsc, hC, hK, hX, hV, hT, hP, hB, hN, hQ, hZ, hI⟩ (Nat.le_add_right _ _) (Nat.le_add_right _ _)
      · skip
        refine wi_ifeq_t ct_85_32 ki_0 (by decide) ?_
        refine wi_ic ct_85_45 kc_m2 ?_
        refine wi_iret ct_85_47 rfl (wk_i ?_)
        refine wi_aload_2 ct_211_775 ?_
        refine wi_aloadT_0 ct_211_776 ?_
        refine wi_iload_3 ct_211_777 ?_
        refine wi_ic ct_211_778 kc_1 ?_
        refine wi_iadd ct_211_779 rfl ?_
        refine wi_ialdT (j := I + 1) (x := a1) ct_211_780 (sL_SC hS) (i_in (i_add hi ki_1 (by omega)) (by omega)) (i_cl (i_add hi ki_1 (by omega)) (by omega)) (((hsc _).trans e1)) ?_
        refine wi_aloadT_0 ct_211_781 ?_
        refine wi_iload_3 ct_211_782 ?_
        refine wi_ic ct_211_783 kc_2 ?_
        refine wi_iadd ct_211_784 rfl ?_
        refine wi_ialdT (j := I + 2) (x := a2) ct_211_785 (sL_SC hS) (i_in (i_add hi ki_2 (by omega)) (by omega)) (i_cl (i_add hi ki_2 (by omega)) (by omega)) (((hsc _).trans e2)) ?_
        refine wi_aloadT_0 ct_211_786 ?_
        refine wi_iload_3 ct_211_787 ?_
        refine wi_ic ct_211_788 kc_3 ?_
        refine wi_iadd ct_211_789 rfl ?_
        refine wi_ialdT (j := I + 3) (x := a3) ct_211_790 (sL_SC hS) (i_in (i_add hi ki_3 (by omega)) (by omega)) (i_cl (i_add hi ki_3 (by omega)) (by omega)) (((hsc _).trans e3)) ?_
        refine wi_cv3 (ls' := [some _, some _, some _, some _]) ct_211_791 (Nat.le_of_ble_eq_true rfl) (by decide) (sT_31 hS) rfl (by decide) rfl rfl (Nat.le_of_ble_eq_true rfl) ?_
        refine wi_iload_1 ct_169_0 ?_
        refine wi_ic ct_169_1 kc_m1 ?_
        refine wi_icne_t ct_169_2 hN4 ki_m1 (by omega) ?_
        refine wi_aload_0 ct_169_12 ?_
        refine wi_iload_1 ct_169_13 ?_
        refine wi_cv1 (ls' := [some _, some _]) ct_169_14 (Nat.le_of_ble_eq_true rfl) (by decide) (sT_31 hS) rfl (by decide) rfl rfl (Nat.le_of_ble_eq_true rfl) ?_
        refine wi_aload_0 ct_120_0 ?_
        refine wi_iload_1 ct_120_1 ?_
        refine wi_ic ct_120_2 kc_0 ?_
        refine wi_aload_0 ct_120_3 ?_
        refine wi_gf (x := fi 31 0) ct_120_4 (sT_31 hS) rfl rfl rfl ?_
        refine wi_ic ct_120_7 kc_1 ?_
        refine wi_isub ct_120_8 rfl ?_
        refine wi_cv3 (ls' := [some _, some _, some _, some _]) ct_120_9 (Nat.le_of_ble_eq_true rfl) (by decide) (sT_31 hS) rfl (by decide) rfl rfl (Nat.le_of_ble_eq_true rfl) ?_
        refine c_in hN4 ki_0 (i_sub rfl ki_1 (by omega)) (fun _ => wk_i ?_) (fun h => absurd h (by omega))
        refine wi_iret ct_120_12 (by decide) (wk_i ?_)
        refine wi_ifne_t ct_169_17 ki_1 (by decide) ?_
        refine wi_aload_0 ct_169_22 ?_
        refine wi_iload_2 ct_169_23 ?_
        refine wi_ic ct_169_24 kc_0 ?_
        refine wi_ic ct_169_25 kc_30 ?_
        refine wi_cv3 (ls' := [some _, some _, some _, some _]) ct_169_27 (Nat.le_of_ble_eq_true rfl) (by decide) (sT_31 hS) rfl (by decide) rfl rfl (Nat.le_of_ble_eq_true rfl) ?_
        refine c_in rfl ki_0 ki_30 (fun h => absurd h (by omega)) (fun _ => wk_i ?_)
        refine wi_ifeq_t ct_169_30 ki_0 (by decide) ?_
        refine wi_ic ct_169_44 kc_m2 ?_
        refine wi_iret ct_169_46 rfl (wk_i ?_)
        refine wi_iceq_t ct_211_794 ki_m2 ki_m2 (by decide) ?_
        exact kk own g _ fl ⟨hS, hsc, hC, hK, hX, hV, hT, hP, hB, hN, hQ, hZ, hI⟩ (Nat.le_add_right _ _) (Nat.le_add_right _ _)
    · skip
      refine wi_ifeq_t ct_104_14 ki_0 (by decide) ?_
      refine wi_null ct_104_29 ?_
      refine wi_aretn ct_104_30 (wk_n ?_)
      refine wi_ifnonnull_n ct_85_20 ?_
      refine wi_ic ct_85_23 kc_m1 ?_
      refine wi_iret ct_85_24 rfl (wk_i ?_)
      refine wi_aload_2 ct_211_775 ?_
      refine wi_aloadT_0 ct_211_776 ?_
      refine wi_iload_3 ct_211_777 ?_
      refine wi_ic ct_211_778 kc_1 ?_
      refine wi_iadd ct_211_779 rfl ?_
      refine wi_ialdT (j := I + 1) (x := a1) ct_211_780 (sL_SC hS) (i_in (i_add hi ki_1 (by omega)) (by omega)) (i_cl (i_add hi ki_1 (by omega)) (by omega)) (((hsc _).trans e1)) ?_
      refine wi_aloadT_0 ct_211_781 ?_
      refine wi_iload_3 ct_211_782 ?_
      refine wi_ic ct_211_783 kc_2 ?_
      refine wi_iadd ct_211_784 rfl ?_
      refine wi_ialdT (j := I + 2) (x := a2) ct_211_785 (sL_SC hS) (i_in (i_add hi ki_2 (by omega)) (by omega)) (i_cl (i_add hi ki_2 (by omega)) (by omega)) (((hsc _).trans e2)) ?_
      refine wi_aloadT_0 ct_211_786 ?_
      refine wi_iload_3 ct_211_787 ?_
      refine wi_ic ct_211_788 kc_3 ?_
      refine wi_iadd ct_211_789 rfl ?_
      refine wi_ialdT (j := I + 3) (x := a3) ct_211_790 (sL_SC hS) (i_in (i_add hi ki_3 (by omega)) (by omega)) (i_cl (i_add hi ki_3 (by omega)) (by omega)) (((hsc _).trans e3)) ?_
      refine wi_cv3 (ls' := [some _, some _, some _, some _]) ct_211_791 (Nat.le_of_ble_eq_true rfl) (by decide) (sT_31 hS) rfl (by decide) rfl rfl (Nat.le_of_ble_eq_true rfl) ?_
      refine wi_iload_1 ct_169_0 ?_
      refine wi_ic ct_169_1 kc_m1 ?_
      refine wi_icne_t ct_169_2 rfl ki_m1 (by omega) ?_
      refine wi_aload_0 ct_169_12 ?_
      refine wi_iload_1 ct_169_13 ?_
      refine wi_cv1 (ls' := [some _, some _]) ct_169_14 (Nat.le_of_ble_eq_true rfl) (by decide) (sT_31 hS) rfl (by decide) rfl rfl (Nat.le_of_ble_eq_true rfl) ?_
      refine wi_aload_0 ct_120_0 ?_
      refine wi_iload_1 ct_120_1 ?_
      refine wi_ic ct_120_2 kc_0 ?_
      refine wi_aload_0 ct_120_3 ?_
      refine wi_gf (x := fi 31 0) ct_120_4 (sT_31 hS) rfl rfl rfl ?_
      refine wi_ic ct_120_7 kc_1 ?_
      refine wi_isub ct_120_8 rfl ?_
      refine wi_cv3 (ls' := [some _, some _, some _, some _]) ct_120_9 (Nat.le_of_ble_eq_true rfl) (by decide) (sT_31 hS) rfl (by decide) rfl rfl (Nat.le_of_ble_eq_true rfl) ?_
      refine c_in rfl ki_0 (i_sub rfl ki_1 (by omega)) (fun h => absurd h (by omega)) (fun _ => wk_i ?_)
      refine wi_iret ct_120_12 (by decide) (wk_i ?_)
      refine wi_ifne_f ct_169_17 ki_0 (by decide) ?_
      refine wi_ic ct_169_20 kc_m1 ?_
      refine wi_iret ct_169_21 rfl (wk_i ?_)
      refine wi_iceq_t ct_211_794 ki_m1 ki_m1 (by decide) ?_
      exact kk own g _ fl ⟨hS, hsc, hC, hK, hX, hV, hT, hP, hB, hN, hQ, hZ, hI⟩ (Nat.le_add_right _ _) (Nat.le_add_right _ _)
  · skip
    refine wi_aload_0 ct_85_5 ?_
    refine wi_gfr ct_85_6 (sT_0 hS) rfl (sR_0_0 hS) ?_
    refine wi_ic ct_85_9 kc_0 ?_
    refine wi_pf ct_85_10 (sT_1 hS) rfl ?_
    refine wi_ic ct_85_13 kc_0 ?_
    refine wi_iret ct_85_14 rfl (wk_i ?_)
    refine wi_aload_2 ct_211_775 ?_
    refine wi_aloadT_0 ct_211_776 ?_
    refine wi_iload_3 ct_211_777 ?_
    refine wi_ic ct_211_778 kc_1 ?_
    refine wi_iadd ct_211_779 rfl ?_
    refine wi_ialdT (j := I + 1) (x := a1) ct_211_780 (sL_SC hS) (i_in (i_add hi ki_1 (by omega)) (by omega)) (i_cl (i_add hi ki_1 (by omega)) (by omega)) ((Eq.trans (up2_nq (by decide)) ((hsc _).trans e1))) ?_
    refine wi_aloadT_0 ct_211_781 ?_
    refine wi_iload_3 ct_211_782 ?_
    refine wi_ic ct_211_783 kc_2 ?_
    refine wi_iadd ct_211_784 rfl ?_
    refine wi_ialdT (j := I + 2) (x := a2) ct_211_785 (sL_SC hS) (i_in (i_add hi ki_2 (by omega)) (by omega)) (i_cl (i_add hi ki_2 (by omega)) (by omega)) ((Eq.trans (up2_nq (by decide)) ((hsc _).trans e2))) ?_
    refine wi_aloadT_0 ct_211_786 ?_
    refine wi_iload_3 ct_211_787 ?_
    refine wi_ic ct_211_788 kc_3 ?_
    refine wi_iadd ct_211_789 rfl ?_
    refine wi_ialdT (j := I + 3) (x := a3) ct_211_790 (sL_SC hS) (i_in (i_add hi ki_3 (by omega)) (by omega)) (i_cl (i_add hi ki_3 (by omega)) (by omega)) ((Eq.trans (up2_nq (by decide)) ((hsc _).trans e3))) ?_
    refine wi_cv3 (ls' := [some _, some _, some _, some _]) ct_211_791 (Nat.le_of_ble_eq_true rfl) (by decide) (sT_31 hS) rfl (by decide) rfl rfl (Nat.le_of_ble_eq_true rfl) ?_
    refine wi_iload_1 ct_169_0 ?_
    refine wi_ic ct_169_1 kc_m1 ?_
    refine wi_icne_f ct_169_2 rfl ki_m1 (by omega) ?_
    refine wi_aload_0 ct_169_5 ?_
    refine wi_ic ct_169_6 kc_0 ?_
    refine wi_pf ct_169_7 (sT_31 hS) rfl ?_
    refine wi_ic ct_169_10 kc_0 ?_
    refine wi_iret ct_169_11 rfl (wk_i ?_)
    refine wi_iceq_t ct_211_794 ki_0 ki_0 (by decide) ?_
    exact kk own g _ fl ⟨hS, hsc, ⟨⟨c0, c0a, c0b⟩, ⟨c1, c1a, c1b⟩, ⟨c2, c2a, c2b⟩, ⟨c3, c3a, c3b⟩, ⟨c4, c4a, c4b⟩, ⟨rfl, fld_bd (show (0 : Int32).toInt = 0 from rfl) (by decide)⟩, ⟨c6, c6a, c6b⟩, ⟨c7, c7a, c7b⟩, c8, c9⟩, hK, hX, ⟨fun j hj => absurd (show (j : Int) < 0 from hj) (by omega), hV.2⟩, hT, hP, (hB.fr c0b (am_frL (fun q hq => funext fun j => (Eq.trans (up2_nq (dn hq (by decide))) (up2_nq (dn hq (by decide)))))) (fun _ _ => trivial) rfl rfl rfl rfl rfl rfl rfl rfl), hN, (hQ.fr (am_frL (fun q hq => funext fun j => (Eq.trans (up2_nq (dn hq (by decide))) (up2_nq (dn hq (by decide)))))) trivial rfl rfl rfl rfl rfl rfl rfl rfl), hZ, (hI.fr c0b (am_frL (fun q hq => funext fun j => (Eq.trans (up2_nq (dn hq (by decide))) (up2_nq (dn hq (by decide)))))) (fun _ _ _ => trivial) (fun _ _ => rfl) rfl (fun _ _ => rfl) (Int.le_refl _) (Int.le_refl _) rfl rfl rfl rfl rfl rfl (fun _ _ => rfl) (fun _ _ => rfl) rfl rfl rfl rfl rfl rfl rfl rfl rfl rfl rfl rfl)⟩ (Nat.le_add_right _ _) (Nat.le_add_right _ _)
set_option maxHeartbeats 1000000 in
theorem op_book {L I : Nat} {xs : Nat → Int32} {own : Nat → Nat} {d : Nat} {g : am_G} {fi : am_I} {fl : am_L} {P : Option Value → am_G → am_I → am_L → Prop} {i : Int32} (hi : i.toInt = (I : Int)) (hI6 : I + 6 ≤ L) (hL : L ≤ 3072) (hR : Rel L xs own g fi fl) (hnx : am_nx g ≤ 800000) (kk : ∀ own' g' fi' fl', Rel L xs own' g' fi' fl' → am_nx g' ≤ am_nx g + 30 → am_sl g' ≤ am_sl g + 1000 → WP (d + 60) 211 1359 [some (.retAddr 0), some (.ref 0), some (.ref 31), some (.int i)] [] g' fi' fl' P) : WP (d + 60) 211 903 [some (.retAddr 0), some (.ref 0), some (.ref 31), some (.int i)] [] g fi fl P := by
  obtain ⟨hS, hsc, hC, hK, hX, hV, hT, hP, hB, hN, hQ, hZ, hI⟩ := hR
  obtain ⟨⟨c0, c0a, c0b⟩, ⟨c1, c1a, c1b⟩, ⟨c2, c2a, c2b⟩, ⟨c3, c3a, c3b⟩, ⟨c4, c4a, c4b⟩, ⟨c5, c5a, c5b⟩, ⟨c6, c6a, c6b⟩, ⟨c7, c7a, c7b⟩, c8, c9⟩ := id hC
  obtain ⟨a1, e1⟩ : ∃ a, xs (I + 1) = a := ⟨_, rfl⟩
  obtain ⟨a2, e2⟩ : ∃ a, xs (I + 2) = a := ⟨_, rfl⟩
  obtain ⟨N1, hN1⟩ : ∃ k : Nat, (fi 31 44).toInt = (k : Int) := ⟨_, (i_cln (by omega)).symm⟩
  refine wi_aload_1 ct_211_903 ?_
  refine wi_aloadT_0 ct_211_904 ?_
  refine wi_iload_3 ct_211_905 ?_
  refine wi_ic ct_211_906 kc_1 ?_
  refine wi_iadd ct_211_907 rfl ?_
  refine wi_ialdT (j := I + 1) (x := a1) ct_211_908 (sL_SC hS) (i_in (i_add hi ki_1 (by omega)) (by omega)) (i_cl (i_add hi ki_1 (by omega)) (by omega)) (((hsc _).trans e1)) ?_
  refine wi_aloadT_0 ct_211_909 ?_
  refine wi_iload_3 ct_211_910 ?_
  refine wi_ic ct_211_911 kc_2 ?_
  refine wi_iadd ct_211_912 rfl ?_
  refine wi_ialdT (j := I + 2) (x := a2) ct_211_913 (sL_SC hS) (i_in (i_add hi ki_2 (by omega)) (by omega)) (i_cl (i_add hi ki_2 (by omega)) (by omega)) (((hsc _).trans e2)) ?_
  refine wi_ifeq ct_211_914 rfl (fun h2 => ?_) (fun h2 => ?_)
  · skip
    refine wi_ic ct_211_921 kc_0 ?_
    refine wi_cv2 (ls' := [some _, some _, some _]) ct_211_922 (Nat.le_of_ble_eq_true rfl) (by decide) (sT_0 hS) rfl (by decide) rfl rfl (Nat.le_of_ble_eq_true rfl) ?_
    refine wi_iload_1 ct_90_0 ?_
    refine wi_ic ct_90_1 kc_m1 ?_
    refine wi_icne ct_90_2 rfl ki_m1 (fun h3 => ?_) (fun h3 => ?_)
    · skip
      refine wi_aload_0 ct_90_15 ?_
      refine wi_iload_1 ct_90_16 ?_
      refine wi_cv1 (ls' := [some _, some _]) ct_90_17 (Nat.le_of_ble_eq_true rfl) (by decide) (sT_0 hS) rfl (by decide) rfl rfl (Nat.le_of_ble_eq_true rfl) ?_
      refine wi_iload_1 ct_104_0 ?_
      refine wi_ic ct_104_1 kc_0 ?_
      refine wi_aload_0 ct_104_2 ?_
      refine wi_gfr ct_104_3 (sT_0 hS) rfl (sR_0_0 hS) ?_
      refine wi_gf (x := fi 31 0) ct_104_6 (sT_1 hS) rfl rfl c0 ?_
      refine wi_ic ct_104_9 kc_1 ?_
      refine wi_isub ct_104_10 rfl ?_
      refine wi_cs3 (ls' := [some _, some _, some _]) ct_104_11 (Nat.le_of_ble_eq_true rfl) rfl (Nat.le_of_ble_eq_true rfl) ?_
      refine c_within rfl ki_0 (i_sub rfl ki_1 (by omega)) (fun h4 => wk_i ?_) (fun h4 => wk_i ?_)
      · skip
        refine wi_ifeq_f ct_104_14 ki_1 (by decide) ?_
        refine wi_aload_0 ct_104_17 ?_
        refine wi_gfr ct_104_18 (sT_0 hS) rfl (sR_0_0 hS) ?_
        refine wi_gfr ct_104_21 (sT_1 hS) rfl (sR_1_0 hS) ?_
        refine wi_iload_1 ct_104_24 ?_
        obtain ⟨N5, hN5⟩ : ∃ k : Nat, (a1).toInt = (k : Int) := ⟨_, (i_cln (by omega)).symm⟩
        obtain ⟨hM6, p6, r6, hO6⟩ := hB N5 (by omega)
        obtain ⟨⟨m6_0, m6_0b⟩, ⟨m6_1, m6_1b⟩, ⟨m6_2, m6_2b⟩, ⟨m6_3, m6_3b⟩, ⟨m6_4, m6_4b⟩, m6_5⟩ := id hM6
        obtain ⟨o6_0, ⟨o6_72, o6_nx, o6_ow⟩, o6_t, o6_k, o6_n, o6_v, o6_c, o6_a, o6_m, o6_r⟩ := id hO6
        refine wi_aald ct_104_25 (sT_2 hS) (by decide) (sL_2 hS) (i_in hN5 (by omega)) (i_cl (k := N5) hN5 (by omega)) o6_0 ?_
        refine wi_goto ct_104_26 ?_
        refine wi_aret ct_104_30 (wk_r ?_)
        refine wi_ifnonnull_r ct_90_20 ?_
        refine wi_aload_0 ct_90_25 ?_
        refine wi_gfr ct_90_26 (sT_0 hS) rfl (sR_0_0 hS) ?_
        refine wi_gf (x := fi 31 44) ct_90_29 (sT_1 hS) rfl rfl c6 ?_
        refine wi_ic ct_90_32 kc_12 ?_
        refine wi_iclt ct_90_34 hN1 ki_12 (fun h7 => ?_) (fun h7 => ?_)
        · skip
          refine wi_aload_0 ct_90_40 ?_
          refine wi_gfr ct_90_41 (sT_0 hS) rfl (sR_0_0 hS) ?_
          refine wi_gfr ct_90_44 (sT_1 hS) rfl (sR_1_9 hS) ?_
          refine wi_aload_0 ct_90_47 ?_
          refine wi_gfr ct_90_48 (sT_0 hS) rfl (sR_0_0 hS) ?_
          refine wi_gf (x := fi 31 44) ct_90_51 (sT_1 hS) rfl rfl c6 ?_
          refine wi_iload_1 ct_90_54 ?_
          refine wi_iast ct_90_55 (sT_7 hS) (sL_7 hS) (i_in hN1 (by omega)) (i_cl (k := N1) hN1 (by omega)) ?_
          refine wi_aload_0 ct_90_56 ?_
          refine wi_gfr ct_90_57 (sT_0 hS) rfl (sR_0_0 hS) ?_
          refine wi_gfr ct_90_60 (sT_1 hS) rfl (sR_1_10 hS) ?_
          refine wi_aload_0 ct_90_63 ?_
          refine wi_gfr ct_90_64 (sT_0 hS) rfl (sR_0_0 hS) ?_
          refine wi_gf (x := fi 31 44) ct_90_67 (sT_1 hS) rfl rfl (Eq.trans (up2_nq (by decide)) c6) ?_
          refine wi_iload_2 ct_90_70 ?_
          refine wi_zast ct_90_71 (sT_8 hS) (sL_8 hS) (i_in hN1 (by omega)) (i_cl (k := N1) hN1 (by omega)) (by decide) ?_
          refine wi_aload_0 ct_90_72 ?_
          refine wi_gfr ct_90_73 (sT_0 hS) rfl (sR_0_0 hS) ?_
          refine wi_dup ct_90_76 rfl ?_
          refine wi_gf (x := fi 31 44) ct_90_77 (sT_1 hS) rfl rfl (Eq.trans (up2_nq (by decide)) (Eq.trans (up2_nq (by decide)) c6)) ?_
          refine wi_ic ct_90_80 kc_1 ?_
          refine wi_iadd ct_90_81 rfl ?_
          refine wi_pf ct_90_82 (sT_1 hS) rfl ?_
          refine wi_aload_0 ct_90_85 ?_
          refine wi_gfr ct_90_86 (sT_0 hS) rfl (sR_0_0 hS) ?_
          refine wi_gf (x := (fi 31 44 + 1)) ct_90_89 (sT_1 hS) rfl rfl up2_eq ?_
          refine wi_iret ct_90_92 rfl (wk_i ?_)
          refine wi_aload_2 ct_211_925 ?_
          refine wi_aloadT_0 ct_211_926 ?_
          refine wi_iload_3 ct_211_927 ?_
          refine wi_ic ct_211_928 kc_1 ?_
          refine wi_iadd ct_211_929 rfl ?_
          refine wi_ialdT (j := I + 1) (x := a1) ct_211_930 (sL_SC hS) (i_in (i_add hi ki_1 (by omega)) (by omega)) (i_cl (i_add hi ki_1 (by omega)) (by omega)) ((Eq.trans (up2_nq (by decide)) (Eq.trans (up2_nq (by decide)) (Eq.trans (up2_nq (by decide)) ((hsc _).trans e1))))) ?_
          refine wi_aloadT_0 ct_211_931 ?_
          refine wi_iload_3 ct_211_932 ?_
          refine wi_ic ct_211_933 kc_2 ?_
          refine wi_iadd ct_211_934 rfl ?_
          refine wi_ialdT (j := I + 2) (x := a2) ct_211_935 (sL_SC hS) (i_in (i_add hi ki_2 (by omega)) (by omega)) (i_cl (i_add hi ki_2 (by omega)) (by omega)) ((Eq.trans (up2_nq (by decide)) (Eq.trans (up2_nq (by decide)) (Eq.trans (up2_nq (by decide)) ((hsc _).trans e2))))) ?_
          refine wi_ifeq_t ct_211_936 rfl (by omega) ?_
          refine wi_ic ct_211_943 kc_0 ?_
          refine wi_cv2 (ls' := [some _, some _, some _]) ct_211_944 (Nat.le_of_ble_eq_true rfl) (by decide) (sT_31 hS) rfl (by decide) rfl rfl (Nat.le_of_ble_eq_true rfl) ?_
          refine wi_iload_1 ct_177_0 ?_
          refine wi_ic ct_177_1 kc_m1 ?_
          refine wi_icne_t ct_177_2 hN5 ki_m1 (by omega) ?_
          refine wi_aload_0 ct_177_12 ?_
          refine wi_iload_1 ct_177_13 ?_
          refine wi_cv1 (ls' := [some _, some _]) ct_177_14 (Nat.le_of_ble_eq_true rfl) (by decide) (sT_31 hS) rfl (by decide) rfl rfl (Nat.le_of_ble_eq_true rfl) ?_
          refine wi_aload_0 ct_120_0 ?_
          refine wi_iload_1 ct_120_1 ?_
          refine wi_ic ct_120_2 kc_0 ?_
          refine wi_aload_0 ct_120_3 ?_
          refine wi_gf (x := fi 31 0) ct_120_4 (sT_31 hS) rfl rfl (Eq.trans (up2_nq (by decide)) (Eq.trans (up2_nq (by decide)) (up2_nq (by decide)))) ?_
          refine wi_ic ct_120_7 kc_1 ?_
          refine wi_isub ct_120_8 rfl ?_
          refine wi_cv3 (ls' := [some _, some _, some _, some _]) ct_120_9 (Nat.le_of_ble_eq_true rfl) (by decide) (sT_31 hS) rfl (by decide) rfl rfl (Nat.le_of_ble_eq_true rfl) ?_
          refine c_in hN5 ki_0 (i_sub rfl ki_1 (by omega)) (fun _ => wk_i ?_) (fun h => absurd h (by omega))
          refine wi_iret ct_120_12 (by decide) (wk_i ?_)
          refine wi_ifne_t ct_177_17 ki_1 (by decide) ?_
          refine wi_aload_0 ct_177_22 ?_
          refine wi_gf (x := fi 31 44) ct_177_23 (sT_31 hS) rfl rfl (Eq.trans (up2_nq (by decide)) (Eq.trans (up2_nq (by decide)) (up2_nq (by decide)))) ?_
          refine wi_ic ct_177_26 kc_12 ?_
          refine wi_icne_t ct_177_28 hN1 ki_12 (by omega) ?_
          refine wi_aload_0 ct_177_34 ?_
          refine wi_gfr ct_177_35 (sT_31 hS) rfl (sR_31_45 hS) ?_
          refine wi_aload_0 ct_177_38 ?_
          refine wi_gf (x := fi 31 44) ct_177_39 (sT_31 hS) rfl rfl (Eq.trans (up2_nq (by decide)) (Eq.trans (up2_nq (by decide)) (up2_nq (by decide)))) ?_
          refine wi_iload_1 ct_177_42 ?_
          refine wi_iast ct_177_43 (sT_53 hS) (sL_53 hS) (i_in hN1 (by omega)) (i_cl (k := N1) hN1 (by omega)) ?_
          refine wi_aload_0 ct_177_44 ?_
          refine wi_gfr ct_177_45 (sT_31 hS) rfl (sR_31_46 hS) ?_
          refine wi_aload_0 ct_177_48 ?_
          refine wi_gf (x := fi 31 44) ct_177_49 (sT_31 hS) rfl rfl (Eq.trans (up2_nq (by decide)) (Eq.trans (up2_nq (by decide)) (Eq.trans (up2_nq (by decide)) (up2_nq (by decide))))) ?_
          refine wi_iload_2 ct_177_52 ?_
          refine wi_zast ct_177_53 (sT_54 hS) (sL_54 hS) (i_in hN1 (by omega)) (i_cl (k := N1) hN1 (by omega)) (by decide) ?_
          refine wi_aload_0 ct_177_54 ?_
          refine wi_dup ct_177_55 rfl ?_
          refine wi_gf (x := fi 31 44) ct_177_56 (sT_31 hS) rfl rfl (Eq.trans (up2_nq (by decide)) (Eq.trans (up2_nq (by decide)) (Eq.trans (up2_nq (by decide)) (Eq.trans (up2_nq (by decide)) (up2_nq (by decide)))))) ?_
          refine wi_ic ct_177_59 kc_1 ?_
          refine wi_iadd ct_177_60 rfl ?_
          refine wi_pf ct_177_61 (sT_31 hS) rfl ?_
          refine wi_aload_0 ct_177_64 ?_
          refine wi_gf (x := (fi 31 44 + 1)) ct_177_65 (sT_31 hS) rfl rfl up2_eq ?_
          refine wi_iret ct_177_68 rfl (wk_i ?_)
          refine wi_iceq_t ct_211_947 (i_add hN1 ki_1 (by omega)) (i_add hN1 ki_1 (by omega)) (by omega) ?_
          exact kk own g _ fl ⟨hS, hsc, ⟨⟨c0, c0a, c0b⟩, ⟨c1, c1a, c1b⟩, ⟨c2, c2a, c2b⟩, ⟨c3, c3a, c3b⟩, ⟨c4, c4a, c4b⟩, ⟨c5, c5a, c5b⟩, ⟨rfl, fld_bd (show (fi 31 44 + 1).toInt = _ from i_add hN1 ki_1 (by omega)) (by omega)⟩, ⟨c7, c7a, c7b⟩, c8, c9⟩, hK, hX, hV.book (w := N1) (b := a1) (t := 0) (by omega) (by decide) (by omega) (show (fi 31 44 + 1).toInt = _ from i_add hN1 ki_1 (by omega)) rfl rfl rfl (fun j => Eq.trans (b := up2 fi 7 N1 a1 7 j) rfl (up2_if j)) (fun j => Eq.trans (b := up2 fi 8 N1 0 8 j) rfl (up2_if j)) (fun j => Eq.trans (b := up2 fi 53 N1 a1 53 j) rfl (up2_if j)) (fun j => Eq.trans (b := up2 fi 54 N1 0 54 j) rfl (up2_if j)) rfl rfl rfl rfl rfl rfl, hT, hP, (hB.fr c0b (am_frL (fun q hq => funext fun j => (Eq.trans (up2_nq (dn hq (by decide))) (Eq.trans (up2_nq (dn hq (by decide))) (Eq.trans (up2_nq (dn hq (by decide))) (Eq.trans (up2_nq (dn hq (by decide))) (Eq.trans (up2_nq (dn hq (by decide))) (up2_nq (dn hq (by decide)))))))))) (fun _ _ => trivial) rfl rfl rfl rfl rfl rfl rfl rfl), hN, (hQ.fr (am_frL (fun q hq => funext fun j => (Eq.trans (up2_nq (dn hq (by decide))) (Eq.trans (up2_nq (dn hq (by decide))) (Eq.trans (up2_nq (dn hq (by decide))) (Eq.trans (up2_nq (dn hq (by decide))) (Eq.trans (up2_nq (dn hq (by decide))) (up2_nq (dn hq (by decide)))))))))) trivial rfl rfl rfl rfl rfl rfl rfl rfl), hZ, (hI.fr c0b (am_frL (fun q hq => funext fun j => (Eq.trans (up2_nq (dn hq (by decide))) (Eq.trans (up2_nq (dn hq (by decide))) (Eq.trans (up2_nq (dn hq (by decide))) (Eq.trans (up2_nq (dn hq (by decide))) (Eq.trans (up2_nq (dn hq (by decide))) (up2_nq (dn hq (by decide)))))))))) (fun _ _ _ => trivial) (fun _ _ => rfl) rfl (fun _ _ => rfl) (Int.le_refl _) (Int.le_refl _) rfl rfl rfl rfl rfl rfl (fun _ _ => rfl) (fun _ _ => rfl) rfl rfl rfl rfl rfl rfl rfl rfl rfl rfl rfl rfl)⟩ (Nat.le_add_right _ _) (Nat.le_add_right _ _)
        · skip
          refine wi_ic ct_90_37 kc_m4 ?_
          refine wi_iret ct_90_39 rfl (wk_i ?_)
          refine wi_aload_2 ct_211_925 ?_
          refine wi_aloadT_0 ct_211_926 ?_
          refine wi_iload_3 ct_211_927 ?_
          refine wi_ic ct_211_928 kc_1 ?_
          refine wi_iadd ct_211_929 rfl ?_
          refine wi_ialdT (j := I + 1) (x := a1) ct_211_930 (sL_SC hS) (i_in (i_add hi ki_1 (by omega)) (by omega)) (i_cl (i_add hi ki_1 (by omega)) (by omega)) (((hsc _).trans e1)) ?_
          refine wi_aloadT_0 ct_211_931 ?_
          refine wi_iload_3 ct_211_932 ?_
          refine wi_ic ct_211_933 kc_2 ?_
          refine wi_iadd ct_211_934 rfl ?_
          refine wi_ialdT (j := I + 2) (x := a2) ct_211_935 (sL_SC hS) (i_in (i_add hi ki_2 (by omega)) (by omega)) (i_cl (i_add hi ki_2 (by omega)) (by omega)) (((hsc _).trans e2)) ?_
          refine wi_ifeq_t ct_211_936 rfl (by omega) ?_
          refine wi_ic ct_211_943 kc_0 ?_
          refine wi_cv2 (ls' := [some _, some _, some _]) ct_211_944 (Nat.le_of_ble_eq_true rfl) (by decide) (sT_31 hS) rfl (by decide) rfl rfl (Nat.le_of_ble_eq_true rfl) ?_
          refine wi_iload_1 ct_177_0 ?_
          refine wi_ic ct_177_1 kc_m1 ?_
          refine wi_icne_t ct_177_2 hN5 ki_m1 (by omega) ?_
          refine wi_aload_0 ct_177_12 ?_
          refine wi_iload_1 ct_177_13 ?_
          refine wi_cv1 (ls' := [some _, some _]) ct_177_14 (Nat.le_of_ble_eq_true rfl) (by decide) (sT_31 hS) rfl (by decide) rfl rfl (Nat.le_of_ble_eq_true rfl) ?_
          refine wi_aload_0 ct_120_0 ?_
          refine wi_iload_1 ct_120_1 ?_
          refine wi_ic ct_120_2 kc_0 ?_
          refine wi_aload_0 ct_120_3 ?_
          refine wi_gf (x := fi 31 0) ct_120_4 (sT_31 hS) rfl rfl rfl ?_
          refine wi_ic ct_120_7 kc_1 ?_
          refine wi_isub ct_120_8 rfl ?_
          refine wi_cv3 (ls' := [some _, some _, some _, some _]) ct_120_9 (Nat.le_of_ble_eq_true rfl) (by decide) (sT_31 hS) rfl (by decide) rfl rfl (Nat.le_of_ble_eq_true rfl) ?_
          refine c_in hN5 ki_0 (i_sub rfl ki_1 (by omega)) (fun _ => wk_i ?_) (fun h => absurd h (by omega))
          refine wi_iret ct_120_12 (by decide) (wk_i ?_)
          refine wi_ifne_t ct_177_17 ki_1 (by decide) ?_
          refine wi_aload_0 ct_177_22 ?_
          refine wi_gf (x := fi 31 44) ct_177_23 (sT_31 hS) rfl rfl rfl ?_
          refine wi_ic ct_177_26 kc_12 ?_
          refine wi_icne_f ct_177_28 hN1 ki_12 (by omega) ?_
          refine wi_ic ct_177_31 kc_m4 ?_
          refine wi_iret ct_177_33 rfl (wk_i ?_)
          refine wi_iceq_t ct_211_947 ki_m4 ki_m4 (by decide) ?_
          exact kk own g _ fl ⟨hS, hsc, hC, hK, hX, hV, hT, hP, hB, hN, hQ, hZ, hI⟩ (Nat.le_add_right _ _) (Nat.le_add_right _ _)
      · skip
        refine wi_ifeq_t ct_104_14 ki_0 (by decide) ?_
        refine wi_null ct_104_29 ?_
        refine wi_aretn ct_104_30 (wk_n ?_)
        refine wi_ifnonnull_n ct_90_20 ?_
        refine wi_ic ct_90_23 kc_m1 ?_
        refine wi_iret ct_90_24 rfl (wk_i ?_)
        refine wi_aload_2 ct_211_925 ?_
        refine wi_aloadT_0 ct_211_926 ?_
        refine wi_iload_3 ct_211_927 ?_
        refine wi_ic ct_211_928 kc_1 ?_
        refine wi_iadd ct_211_929 rfl ?_
        refine wi_ialdT (j := I + 1) (x := a1) ct_211_930 (sL_SC hS) (i_in (i_add hi ki_1 (by omega)) (by omega)) (i_cl (i_add hi ki_1 (by omega)) (by omega)) (((hsc _).trans e1)) ?_
        refine wi_aloadT_0 ct_211_931 ?_
        refine wi_iload_3 ct_211_932 ?_
        refine wi_ic ct_211_933 kc_2 ?_
        refine wi_iadd ct_211_934 rfl ?_
        refine wi_ialdT (j := I + 2) (x := a2) ct_211_935 (sL_SC hS) (i_in (i_add hi ki_2 (by omega)) (by omega)) (i_cl (i_add hi ki_2 (by omega)) (by omega)) (((hsc _).trans e2)) ?_
        refine wi_ifeq_t ct_211_936 rfl (by omega) ?_
        refine wi_ic ct_211_943 kc_0 ?_
        refine wi_cv2 (ls' := [some _, some _, some _]) ct_211_944 (Nat.le_of_ble_eq_true rfl) (by decide) (sT_31 hS) rfl (by decide) rfl rfl (Nat.le_of_ble_eq_true rfl) ?_
        refine wi_iload_1 ct_177_0 ?_
        refine wi_ic ct_177_1 kc_m1 ?_
        refine wi_icne_t ct_177_2 rfl ki_m1 (by omega) ?_
        refine wi_aload_0 ct_177_12 ?_
        refine wi_iload_1 ct_177_13 ?_
        refine wi_cv1 (ls' := [some _, some _]) ct_177_14 (Nat.le_of_ble_eq_true rfl) (by decide) (sT_31 hS) rfl (by decide) rfl rfl (Nat.le_of_ble_eq_true rfl) ?_
        refine wi_aload_0 ct_120_0 ?_
        refine wi_iload_1 ct_120_1 ?_
        refine wi_ic ct_120_2 kc_0 ?_
        refine wi_aload_0 ct_120_3 ?_
        refine wi_gf (x := fi 31 0) ct_120_4 (sT_31 hS) rfl rfl rfl ?_
        refine wi_ic ct_120_7 kc_1 ?_
        refine wi_isub ct_120_8 rfl ?_
        refine wi_cv3 (ls' := [some _, some _, some _, some _]) ct_120_9 (Nat.le_of_ble_eq_true rfl) (by decide) (sT_31 hS) rfl (by decide) rfl rfl (Nat.le_of_ble_eq_true rfl) ?_
        refine c_in rfl ki_0 (i_sub rfl ki_1 (by omega)) (fun h => absurd h (by omega)) (fun _ => wk_i ?_)
        refine wi_iret ct_120_12 (by decide) (wk_i ?_)
        refine wi_ifne_f ct_177_17 ki_0 (by decide) ?_
        refine wi_ic ct_177_20 kc_m1 ?_
        refine wi_iret ct_177_21 rfl (wk_i ?_)
        refine wi_iceq_t ct_211_947 ki_m1 ki_m1 (by decide) ?_
        exact kk own g _ fl ⟨hS, hsc, hC, hK, hX, hV, hT, hP, hB, hN, hQ, hZ, hI⟩ (Nat.le_add_right _ _) (Nat.le_add_right _ _)
    · skip
      refine wi_aload_0 ct_90_5 ?_
      refine wi_gfr ct_90_6 (sT_0 hS) rfl (sR_0_0 hS) ?_
      refine wi_ic ct_90_9 kc_0 ?_
      refine wi_pf ct_90_10 (sT_1 hS) rfl ?_
      refine wi_ic ct_90_13 kc_0 ?_
      refine wi_iret ct_90_14 rfl (wk_i ?_)
      refine wi_aload_2 ct_211_925 ?_
      refine wi_aloadT_0 ct_211_926 ?_
      refine wi_iload_3 ct_211_927 ?_
      refine wi_ic ct_211_928 kc_1 ?_
      refine wi_iadd ct_211_929 rfl ?_
      refine wi_ialdT (j := I + 1) (x := a1) ct_211_930 (sL_SC hS) (i_in (i_add hi ki_1 (by omega)) (by omega)) (i_cl (i_add hi ki_1 (by omega)) (by omega)) ((Eq.trans (up2_nq (by decide)) ((hsc _).trans e1))) ?_
      refine wi_aloadT_0 ct_211_931 ?_
      refine wi_iload_3 ct_211_932 ?_
      refine wi_ic ct_211_933 kc_2 ?_
      refine wi_iadd ct_211_934 rfl ?_
      refine wi_ialdT (j := I + 2) (x := a2) ct_211_935 (sL_SC hS) (i_in (i_add hi ki_2 (by omega)) (by omega)) (i_cl (i_add hi ki_2 (by omega)) (by omega)) ((Eq.trans (up2_nq (by decide)) ((hsc _).trans e2))) ?_
      refine wi_ifeq_t ct_211_936 rfl (by omega) ?_
      refine wi_ic ct_211_943 kc_0 ?_
      refine wi_cv2 (ls' := [some _, some _, some _]) ct_211_944 (Nat.le_of_ble_eq_true rfl) (by decide) (sT_31 hS) rfl (by decide) rfl rfl (Nat.le_of_ble_eq_true rfl) ?_
      refine wi_iload_1 ct_177_0 ?_
      refine wi_ic ct_177_1 kc_m1 ?_
      refine wi_icne_f ct_177_2 rfl ki_m1 (by omega) ?_
      refine wi_aload_0 ct_177_5 ?_
      refine wi_ic ct_177_6 kc_0 ?_
      refine wi_pf ct_177_7 (sT_31 hS) rfl ?_
      refine wi_ic ct_177_10 kc_0 ?_
      refine wi_iret ct_177_11 rfl (wk_i ?_)
      refine wi_iceq_t ct_211_947 ki_0 ki_0 (by decide) ?_
      exact kk own g _ fl ⟨hS, hsc, ⟨⟨c0, c0a, c0b⟩, ⟨c1, c1a, c1b⟩, ⟨c2, c2a, c2b⟩, ⟨c3, c3a, c3b⟩, ⟨c4, c4a, c4b⟩, ⟨c5, c5a, c5b⟩, ⟨rfl, fld_bd (show (0 : Int32).toInt = 0 from rfl) (by decide)⟩, ⟨c7, c7a, c7b⟩, c8, c9⟩, hK, hX, ⟨hV.1, fun j hj => absurd (show (j : Int) < 0 from hj) (by omega), hV.2.2⟩, hT, hP, (hB.fr c0b (am_frL (fun q hq => funext fun j => (Eq.trans (up2_nq (dn hq (by decide))) (up2_nq (dn hq (by decide)))))) (fun _ _ => trivial) rfl rfl rfl rfl rfl rfl rfl rfl), hN, (hQ.fr (am_frL (fun q hq => funext fun j => (Eq.trans (up2_nq (dn hq (by decide))) (up2_nq (dn hq (by decide)))))) trivial rfl rfl rfl rfl rfl rfl rfl rfl), hZ, (hI.fr c0b (am_frL (fun q hq => funext fun j => (Eq.trans (up2_nq (dn hq (by decide))) (up2_nq (dn hq (by decide)))))) (fun _ _ _ => trivial) (fun _ _ => rfl) rfl (fun _ _ => rfl) (Int.le_refl _) (Int.le_refl _) rfl rfl rfl rfl rfl rfl (fun _ _ => rfl) (fun _ _ => rfl) rfl rfl rfl rfl rfl rfl rfl rfl rfl rfl rfl rfl)⟩ (Nat.le_add_right _ _) (Nat.le_add_right _ _)
  · skip
    refine wi_ic ct_211_917 kc_1 ?_
    refine wi_goto ct_211_918 ?_
    refine wi_cv2 (ls' := [some _, some _, some _]) ct_211_922 (Nat.le_of_ble_eq_true rfl) (by decide) (sT_0 hS) rfl (by decide) rfl rfl (Nat.le_of_ble_eq_true rfl) ?_
    refine wi_iload_1 ct_90_0 ?_
    refine wi_ic ct_90_1 kc_m1 ?_
    refine wi_icne ct_90_2 rfl ki_m1 (fun h8 => ?_) (fun h8 => ?_)
    · skip
      refine wi_aload_0 ct_90_15 ?_
      refine wi_iload_1 ct_90_16 ?_
      refine wi_cv1 (ls' := [some _, some _]) ct_90_17 (Nat.le_of_ble_eq_true rfl) (by decide) (sT_0 hS) rfl (by decide) rfl rfl (Nat.le_of_ble_eq_true rfl) ?_
      refine wi_iload_1 ct_104_0 ?_
      refine wi_ic ct_104_1 kc_0 ?_
      refine wi_aload_0 ct_104_2 ?_
      refine wi_gfr ct_104_3 (sT_0 hS) rfl (sR_0_0 hS) ?_
      refine wi_gf (x := fi 31 0) ct_104_6 (sT_1 hS) rfl rfl c0 ?_
      refine wi_ic ct_104_9 kc_1 ?_
      refine wi_isub ct_104_10 rfl ?_
      refine wi_cs3 (ls' := [some _, some _, some _]) ct_104_11 (Nat.le_of_ble_eq_true rfl) rfl (Nat.le_of_ble_eq_true rfl) ?_
      refine c_within rfl ki_0 (i_sub rfl ki_1 (by omega)) (fun h9 => wk_i ?_) (fun h9 => wk_i ?_)
      · skip
        refine wi_ifeq_f ct_104_14 ki_1 (by decide) ?_
        refine wi_aload_0 ct_104_17 ?_
        refine wi_gfr ct_104_18 (sT_0 hS) rfl (sR_0_0 hS) ?_
        refine wi_gfr ct_104_21 (sT_1 hS) rfl (sR_1_0 hS) ?_
        refine wi_iload_1 ct_104_24 ?_
        obtain ⟨N10, hN10⟩ : ∃ k : Nat, (a1).toInt = (k : Int) := ⟨_, (i_cln (by omega)).symm⟩
        obtain ⟨hM11, p11, r11, hO11⟩ := hB N10 (by omega)
        obtain ⟨⟨m11_0, m11_0b⟩, ⟨m11_1, m11_1b⟩, ⟨m11_2, m11_2b⟩, ⟨m11_3, m11_3b⟩, ⟨m11_4, m11_4b⟩, m11_5⟩ := id hM11
        obtain ⟨o11_0, ⟨o11_72, o11_nx, o11_ow⟩, o11_t, o11_k, o11_n, o11_v, o11_c, o11_a, o11_m, o11_r⟩ := id hO11
        refine wi_aald ct_104_25 (sT_2 hS) (by decide) (sL_2 hS) (i_in hN10 (by omega)) (i_cl (k := N10) hN10 (by omega)) o11_0 ?_
        refine wi_goto ct_104_26 ?_
        refine wi_aret ct_104_30 (wk_r ?_)
        refine wi_ifnonnull_r ct_90_20 ?_
        refine wi_aload_0 ct_90_25 ?_
        refine wi_gfr ct_90_26 (sT_0 hS) rfl (sR_0_0 hS) ?_
        refine wi_gf (x := fi 31 44) ct_90_29 (sT_1 hS) rfl rfl c6 ?_
        refine wi_ic ct_90_32 kc_12 ?_
        refine wi_iclt ct_90_34 hN1 ki_12 (fun h12 => ?_) (fun h12 => ?_)
        · skip
          refine wi_aload_0 ct_90_40 ?_
          refine wi_gfr ct_90_41 (sT_0 hS) rfl (sR_0_0 hS) ?_
          refine wi_gfr ct_90_44 (sT_1 hS) rfl (sR_1_9 hS) ?_
          refine wi_aload_0 ct_90_47 ?_
          refine wi_gfr ct_90_48 (sT_0 hS) rfl (sR_0_0 hS) ?_
          refine wi_gf (x := fi 31 44) ct_90_51 (sT_1 hS) rfl rfl c6 ?_
          refine wi_iload_1 ct_90_54 ?_
          refine wi_iast ct_90_55 (sT_7 hS) (sL_7 hS) (i_in hN1 (by omega)) (i_cl (k := N1) hN1 (by omega)) ?_
          refine wi_aload_0 ct_90_56 ?_
          refine wi_gfr ct_90_57 (sT_0 hS) rfl (sR_0_0 hS) ?_
          refine wi_gfr ct_90_60 (sT_1 hS) rfl (sR_1_10 hS) ?_
          refine wi_aload_0 ct_90_63 ?_
          refine wi_gfr ct_90_64 (sT_0 hS) rfl (sR_0_0 hS) ?_
          refine wi_gf (x := fi 31 44) ct_90_67 (sT_1 hS) rfl rfl (Eq.trans (up2_nq (by decide)) c6) ?_
          refine wi_iload_2 ct_90_70 ?_
          refine wi_zast ct_90_71 (sT_8 hS) (sL_8 hS) (i_in hN1 (by omega)) (i_cl (k := N1) hN1 (by omega)) (by decide) ?_
          refine wi_aload_0 ct_90_72 ?_
          refine wi_gfr ct_90_73 (sT_0 hS) rfl (sR_0_0 hS) ?_
          refine wi_dup ct_90_76 rfl ?_
          refine wi_gf (x := fi 31 44) ct_90_77 (sT_1 hS) rfl rfl (Eq.trans (up2_nq (by decide)) (Eq.trans (up2_nq (by decide)) c6)) ?_
          refine wi_ic ct_90_80 kc_1 ?_
          refine wi_iadd ct_90_81 rfl ?_
          refine wi_pf ct_90_82 (sT_1 hS) rfl ?_
          refine wi_aload_0 ct_90_85 ?_
          refine wi_gfr ct_90_86 (sT_0 hS) rfl (sR_0_0 hS) ?_
          refine wi_gf (x := (fi 31 44 + 1)) ct_90_89 (sT_1 hS) rfl rfl up2_eq ?_
          refine wi_iret ct_90_92 rfl (wk_i ?_)
          refine wi_aload_2 ct_211_925 ?_
          refine wi_aloadT_0 ct_211_926 ?_
          refine wi_iload_3 ct_211_927 ?_
          refine wi_ic ct_211_928 kc_1 ?_
          refine wi_iadd ct_211_929 rfl ?_
          refine wi_ialdT (j := I + 1) (x := a1) ct_211_930 (sL_SC hS) (i_in (i_add hi ki_1 (by omega)) (by omega)) (i_cl (i_add hi ki_1 (by omega)) (by omega)) ((Eq.trans (up2_nq (by decide)) (Eq.trans (up2_nq (by decide)) (Eq.trans (up2_nq (by decide)) ((hsc _).trans e1))))) ?_
          refine wi_aloadT_0 ct_211_931 ?_
          refine wi_iload_3 ct_211_932 ?_
          refine wi_ic ct_211_933 kc_2 ?_
          refine wi_iadd ct_211_934 rfl ?_
          refine wi_ialdT (j := I + 2) (x := a2) ct_211_935 (sL_SC hS) (i_in (i_add hi ki_2 (by omega)) (by omega)) (i_cl (i_add hi ki_2 (by omega)) (by omega)) ((Eq.trans (up2_nq (by decide)) (Eq.trans (up2_nq (by decide)) (Eq.trans (up2_nq (by decide)) ((hsc _).trans e2))))) ?_
          refine wi_ifeq_f ct_211_936 rfl (by omega) ?_
          refine wi_ic ct_211_939 kc_1 ?_
          refine wi_goto ct_211_940 ?_
          refine wi_cv2 (ls' := [some _, some _, some _]) ct_211_944 (Nat.le_of_ble_eq_true rfl) (by decide) (sT_31 hS) rfl (by decide) rfl rfl (Nat.le_of_ble_eq_true rfl) ?_
          refine wi_iload_1 ct_177_0 ?_
          refine wi_ic ct_177_1 kc_m1 ?_
          refine wi_icne_t ct_177_2 hN10 ki_m1 (by omega) ?_
          refine wi_aload_0 ct_177_12 ?_
          refine wi_iload_1 ct_177_13 ?_
          refine wi_cv1 (ls' := [some _, some _]) ct_177_14 (Nat.le_of_ble_eq_true rfl) (by decide) (sT_31 hS) rfl (by decide) rfl rfl (Nat.le_of_ble_eq_true rfl) ?_
          refine wi_aload_0 ct_120_0 ?_
          refine wi_iload_1 ct_120_1 ?_
          refine wi_ic ct_120_2 kc_0 ?_
          refine wi_aload_0 ct_120_3 ?_
          refine wi_gf (x := fi 31 0) ct_120_4 (sT_31 hS) rfl rfl (Eq.trans (up2_nq (by decide)) (Eq.trans (up2_nq (by decide)) (up2_nq (by decide)))) ?_
          refine wi_ic ct_120_7 kc_1 ?_
          refine wi_isub ct_120_8 rfl ?_
          refine wi_cv3 (ls' := [some _, some _, some _, some _]) ct_120_9 (Nat.le_of_ble_eq_true rfl) (by decide) (sT_31 hS) rfl (by decide) rfl rfl (Nat.le_of_ble_eq_true rfl) ?_
          refine c_in hN10 ki_0 (i_sub rfl ki_1 (by omega)) (fun _ => wk_i ?_) (fun h => absurd h (by omega))
          refine wi_iret ct_120_12 (by decide) (wk_i ?_)
          refine wi_ifne_t ct_177_17 ki_1 (by decide) ?_
          refine wi_aload_0 ct_177_22 ?_
          refine wi_gf (x := fi 31 44) ct_177_23 (sT_31 hS) rfl rfl (Eq.trans (up2_nq (by decide)) (Eq.trans (up2_nq (by decide)) (up2_nq (by decide)))) ?_
          refine wi_ic ct_177_26 kc_12 ?_
          refine wi_icne_t ct_177_28 hN1 ki_12 (by omega) ?_
          refine wi_aload_0 ct_177_34 ?_
          refine wi_gfr ct_177_35 (sT_31 hS) rfl (sR_31_45 hS) ?_
          refine wi_aload_0 ct_177_38 ?_
          refine wi_gf (x := fi 31 44) ct_177_39 (sT_31 hS) rfl rfl (Eq.trans (up2_nq (by decide)) (Eq.trans (up2_nq (by decide)) (up2_nq (by decide)))) ?_
          refine wi_iload_1 ct_177_42 ?_
          refine wi_iast ct_177_43 (sT_53 hS) (sL_53 hS) (i_in hN1 (by omega)) (i_cl (k := N1) hN1 (by omega)) ?_
          refine wi_aload_0 ct_177_44 ?_
          refine wi_gfr ct_177_45 (sT_31 hS) rfl (sR_31_46 hS) ?_
          refine wi_aload_0 ct_177_48 ?_
          refine wi_gf (x := fi 31 44) ct_177_49 (sT_31 hS) rfl rfl (Eq.trans (up2_nq (by decide)) (Eq.trans (up2_nq (by decide)) (Eq.trans (up2_nq (by decide)) (up2_nq (by decide))))) ?_
          refine wi_iload_2 ct_177_52 ?_
          refine wi_zast ct_177_53 (sT_54 hS) (sL_54 hS) (i_in hN1 (by omega)) (i_cl (k := N1) hN1 (by omega)) (by decide) ?_
          refine wi_aload_0 ct_177_54 ?_
          refine wi_dup ct_177_55 rfl ?_
          refine wi_gf (x := fi 31 44) ct_177_56 (sT_31 hS) rfl rfl (Eq.trans (up2_nq (by decide)) (Eq.trans (up2_nq (by decide)) (Eq.trans (up2_nq (by decide)) (Eq.trans (up2_nq (by decide)) (up2_nq (by decide)))))) ?_
          refine wi_ic ct_177_59 kc_1 ?_
          refine wi_iadd ct_177_60 rfl ?_
          refine wi_pf ct_177_61 (sT_31 hS) rfl ?_
          refine wi_aload_0 ct_177_64 ?_
          refine wi_gf (x := (fi 31 44 + 1)) ct_177_65 (sT_31 hS) rfl rfl up2_eq ?_
          refine wi_iret ct_177_68 rfl (wk_i ?_)
          refine wi_iceq_t ct_211_947 (i_add hN1 ki_1 (by omega)) (i_add hN1 ki_1 (by omega)) (by omega) ?_
          exact kk own g _ fl ⟨hS, hsc, ⟨⟨c0, c0a, c0b⟩, ⟨c1, c1a, c1b⟩, ⟨c2, c2a, c2b⟩, ⟨c3, c3a, c3b⟩, ⟨c4, c4a, c4b⟩, ⟨c5, c5a, c5b⟩, ⟨rfl, fld_bd (show (fi 31 44 + 1).toInt = _ from i_add hN1 ki_1 (by omega)) (by omega)⟩, ⟨c7, c7a, c7b⟩, c8, c9⟩, hK, hX, hV.book (w := N1) (b := a1) (t := 1) (by omega) (by decide) (by omega) (show (fi 31 44 + 1).toInt = _ from i_add hN1 ki_1 (by omega)) rfl rfl rfl (fun j => Eq.trans (b := up2 fi 7 N1 a1 7 j) rfl (up2_if j)) (fun j => Eq.trans (b := up2 fi 8 N1 1 8 j) rfl (up2_if j)) (fun j => Eq.trans (b := up2 fi 53 N1 a1 53 j) rfl (up2_if j)) (fun j => Eq.trans (b := up2 fi 54 N1 1 54 j) rfl (up2_if j)) rfl rfl rfl rfl rfl rfl, hT, hP, (hB.fr c0b (am_frL (fun q hq => funext fun j => (Eq.trans (up2_nq (dn hq (by decide))) (Eq.trans (up2_nq (dn hq (by decide))) (Eq.trans (up2_nq (dn hq (by decide))) (Eq.trans (up2_nq (dn hq (by decide))) (Eq.trans (up2_nq (dn hq (by decide))) (up2_nq (dn hq (by decide)))))))))) (fun _ _ => trivial) rfl rfl rfl rfl rfl rfl rfl rfl), hN, (hQ.fr (am_frL (fun q hq => funext fun j => (Eq.trans (up2_nq (dn hq (by decide))) (Eq.trans (up2_nq (dn hq (by decide))) (Eq.trans (up2_nq (dn hq (by decide))) (Eq.trans (up2_nq (dn hq (by decide))) (Eq.trans (up2_nq (dn hq (by decide))) (up2_nq (dn hq (by decide)))))))))) trivial rfl rfl rfl rfl rfl rfl rfl rfl), hZ, (hI.fr c0b (am_frL (fun q hq => funext fun j => (Eq.trans (up2_nq (dn hq (by decide))) (Eq.trans (up2_nq (dn hq (by decide))) (Eq.trans (up2_nq (dn hq (by decide))) (Eq.trans (up2_nq (dn hq (by decide))) (Eq.trans (up2_nq (dn hq (by decide))) (up2_nq (dn hq (by decide)))))))))) (fun _ _ _ => trivial) (fun _ _ => rfl) rfl (fun _ _ => rfl) (Int.le_refl _) (Int.le_refl _) rfl rfl rfl rfl rfl rfl (fun _ _ => rfl) (fun _ _ => rfl) rfl rfl rfl rfl rfl rfl rfl rfl rfl rfl rfl rfl)⟩ (Nat.le_add_right _ _) (Nat.le_add_right _ _)
        · skip
          refine wi_ic ct_90_37 kc_m4 ?_
          refine wi_iret ct_90_39 rfl (wk_i ?_)
          refine wi_aload_2 ct_211_925 ?_
          refine wi_aloadT_0 ct_211_926 ?_
          refine wi_iload_3 ct_211_927 ?_
          refine wi_ic ct_211_928 kc_1 ?_
          refine wi_iadd ct_211_929 rfl ?_
          refine wi_ialdT (j := I + 1) (x := a1) ct_211_930 (sL_SC hS) (i_in (i_add hi ki_1 (by omega)) (by omega)) (i_cl (i_add hi ki_1 (by omega)) (by omega)) (((hsc _).trans e1)) ?_
          refine wi_aloadT_0 ct_211_931 ?_
          refine wi_iload_3 ct_211_932 ?_
          refine wi_ic ct_211_933 kc_2 ?_
          refine wi_iadd ct_211_934 rfl ?_
          refine wi_ialdT (j := I + 2) (x := a2) ct_211_935 (sL_SC hS) (i_in (i_add hi ki_2 (by omega)) (by omega)) (i_cl (i_add hi ki_2 (by omega)) (by omega)) (((hsc _).trans e2)) ?_
          refine wi_ifeq_f ct_211_936 rfl (by omega) ?_
          refine wi_ic ct_211_939 kc_1 ?_
          refine wi_goto ct_211_940 ?_
          refine wi_cv2 (ls' := [some _, some _, some _]) ct_211_944 (Nat.le_of_ble_eq_true rfl) (by decide) (sT_31 hS) rfl (by decide) rfl rfl (Nat.le_of_ble_eq_true rfl) ?_
          refine wi_iload_1 ct_177_0 ?_
          refine wi_ic ct_177_1 kc_m1 ?_
          refine wi_icne_t ct_177_2 hN10 ki_m1 (by omega) ?_
          refine wi_aload_0 ct_177_12 ?_
          refine wi_iload_1 ct_177_13 ?_
          refine wi_cv1 (ls' := [some _, some _]) ct_177_14 (Nat.le_of_ble_eq_true rfl) (by decide) (sT_31 hS) rfl (by decide) rfl rfl (Nat.le_of_ble_eq_true rfl) ?_
          refine wi_aload_0 ct_120_0 ?_
          refine wi_iload_1 ct_120_1 ?_
          refine wi_ic ct_120_2 kc_0 ?_
          refine wi_aload_0 ct_120_3 ?_
          refine wi_gf (x := fi 31 0) ct_120_4 (sT_31 hS) rfl rfl rfl ?_
          refine wi_ic ct_120_7 kc_1 ?_
          refine wi_isub ct_120_8 rfl ?_
          refine wi_cv3 (ls' := [some _, some _, some _, some _]) ct_120_9 (Nat.le_of_ble_eq_true rfl) (by decide) (sT_31 hS) rfl (by decide) rfl rfl (Nat.le_of_ble_eq_true rfl) ?_
          refine c_in hN10 ki_0 (i_sub rfl ki_1 (by omega)) (fun _ => wk_i ?_) (fun h => absurd h (by omega))
          refine wi_iret ct_120_12 (by decide) (wk_i ?_)
          refine wi_ifne_t ct_177_17 ki_1 (by decide) ?_
          refine wi_aload_0 ct_177_22 ?_
          refine wi_gf (x := fi 31 44) ct_177_23 (sT_31 hS) rfl rfl rfl ?_
          refine wi_ic ct_177_26 kc_12 ?_
          refine wi_icne_f ct_177_28 hN1 ki_12 (by omega) ?_
          refine wi_ic ct_177_31 kc_m4 ?_
          refine wi_iret ct_177_33 rfl (wk_i ?_)
          refine wi_iceq_t ct_211_947 ki_m4 ki_m4 (by decide) ?_
          exact kk own g _ fl ⟨hS, hsc, hC, hK, hX, hV, hT, hP, hB, hN, hQ, hZ, hI⟩ (Nat.le_add_right _ _) (Nat.le_add_right _ _)
      · skip
        refine wi_ifeq_t ct_104_14 ki_0 (by decide) ?_
        refine wi_null ct_104_29 ?_
        refine wi_aretn ct_104_30 (wk_n ?_)
        refine wi_ifnonnull_n ct_90_20 ?_
        refine wi_ic ct_90_23 kc_m1 ?_
        refine wi_iret ct_90_24 rfl (wk_i ?_)
        refine wi_aload_2 ct_211_925 ?_
        refine wi_aloadT_0 ct_211_926 ?_
        refine wi_iload_3 ct_211_927 ?_
        refine wi_ic ct_211_928 kc_1 ?_
        refine wi_iadd ct_211_929 rfl ?_
        refine wi_ialdT (j := I + 1) (x := a1) ct_211_930 (sL_SC hS) (i_in (i_add hi ki_1 (by omega)) (by omega)) (i_cl (i_add hi ki_1 (by omega)) (by omega)) (((hsc _).trans e1)) ?_
        refine wi_aloadT_0 ct_211_931 ?_
        refine wi_iload_3 ct_211_932 ?_
        refine wi_ic ct_211_933 kc_2 ?_
        refine wi_iadd ct_211_934 rfl ?_
        refine wi_ialdT (j := I + 2) (x := a2) ct_211_935 (sL_SC hS) (i_in (i_add hi ki_2 (by omega)) (by omega)) (i_cl (i_add hi ki_2 (by omega)) (by omega)) (((hsc _).trans e2)) ?_
        refine wi_ifeq_f ct_211_936 rfl (by omega) ?_
        refine wi_ic ct_211_939 kc_1 ?_
        refine wi_goto ct_211_940 ?_
        refine wi_cv2 (ls' := [some _, some _, some _]) ct_211_944 (Nat.le_of_ble_eq_true rfl) (by decide) (sT_31 hS) rfl (by decide) rfl rfl (Nat.le_of_ble_eq_true rfl) ?_
        refine wi_iload_1 ct_177_0 ?_
        refine wi_ic ct_177_1 kc_m1 ?_
        refine wi_icne_t ct_177_2 rfl ki_m1 (by omega) ?_
        refine wi_aload_0 ct_177_12 ?_
        refine wi_iload_1 ct_177_13 ?_
        refine wi_cv1 (ls' := [some _, some _]) ct_177_14 (Nat.le_of_ble_eq_true rfl) (by decide) (sT_31 hS) rfl (by decide) rfl rfl (Nat.le_of_ble_eq_true rfl) ?_
        refine wi_aload_0 ct_120_0 ?_
        refine wi_iload_1 ct_120_1 ?_
        refine wi_ic ct_120_2 kc_0 ?_
        refine wi_aload_0 ct_120_3 ?_
        refine wi_gf (x := fi 31 0) ct_120_4 (sT_31 hS) rfl rfl rfl ?_
        refine wi_ic ct_120_7 kc_1 ?_
        refine wi_isub ct_120_8 rfl ?_
        refine wi_cv3 (ls' := [some _, some _, some _, some _]) ct_120_9 (Nat.le_of_ble_eq_true rfl) (by decide) (sT_31 hS) rfl (by decide) rfl rfl (Nat.le_of_ble_eq_true rfl) ?_
        refine c_in rfl ki_0 (i_sub rfl ki_1 (by omega)) (fun h => absurd h (by omega)) (fun _ => wk_i ?_)
        refine wi_iret ct_120_12 (by decide) (wk_i ?_)
        refine wi_ifne_f ct_177_17 ki_0 (by decide) ?_
        refine wi_ic ct_177_20 kc_m1 ?_
        refine wi_iret ct_177_21 rfl (wk_i ?_)
        refine wi_iceq_t ct_211_947 ki_m1 ki_m1 (by decide) ?_
        exact kk own g _ fl ⟨hS, hsc, hC, hK, hX, hV, hT, hP, hB, hN, hQ, hZ, hI⟩ (Nat.le_add_right _ _) (Nat.le_add_right _ _)
    · skip
      refine wi_aload_0 ct_90_5 ?_
      refine wi_gfr ct_90_6 (sT_0 hS) rfl (sR_0_0 hS) ?_
      refine wi_ic ct_90_9 kc_0 ?_
      refine wi_pf ct_90_10 (sT_1 hS) rfl ?_
      refine wi_ic ct_90_13 kc_0 ?_
      refine wi_iret ct_90_14 rfl (wk_i ?_)
      refine wi_aload_2 ct_211_925 ?_
      refine wi_aloadT_0 ct_211_926 ?_
      refine wi_iload_3 ct_211_927 ?_
      refine wi_ic ct_211_928 kc_1 ?_
      refine wi_iadd ct_211_929 rfl ?_
      refine wi_ialdT (j := I + 1) (x := a1) ct_211_930 (sL_SC hS) (i_in (i_add hi ki_1 (by omega)) (by omega)) (i_cl (i_add hi ki_1 (by omega)) (by omega)) ((Eq.trans (up2_nq (by decide)) ((hsc _).trans e1))) ?_
      refine wi_aloadT_0 ct_211_931 ?_
      refine wi_iload_3 ct_211_932 ?_
      refine wi_ic ct_211_933 kc_2 ?_
      refine wi_iadd ct_211_934 rfl ?_
      refine wi_ialdT (j := I + 2) (x := a2) ct_211_935 (sL_SC hS) (i_in (i_add hi ki_2 (by omega)) (by omega)) (i_cl (i_add hi ki_2 (by omega)) (by omega)) ((Eq.trans (up2_nq (by decide)) ((hsc _).trans e2))) ?_
      refine wi_ifeq_f ct_211_936 rfl (by omega) ?_
      refine wi_ic ct_211_939 kc_1 ?_
      refine wi_goto ct_211_940 ?_
      refine wi_cv2 (ls' := [some _, some _, some _]) ct_211_944 (Nat.le_of_ble_eq_true rfl) (by decide) (sT_31 hS) rfl (by decide) rfl rfl (Nat.le_of_ble_eq_true rfl) ?_
      refine wi_iload_1 ct_177_0 ?_
      refine wi_ic ct_177_1 kc_m1 ?_
      refine wi_icne_f ct_177_2 rfl ki_m1 (by omega) ?_
      refine wi_aload_0 ct_177_5 ?_
      refine wi_ic ct_177_6 kc_0 ?_
      refine wi_pf ct_177_7 (sT_31 hS) rfl ?_
      refine wi_ic ct_177_10 kc_0 ?_
      refine wi_iret ct_177_11 rfl (wk_i ?_)
      refine wi_iceq_t ct_211_947 ki_0 ki_0 (by decide) ?_
      exact kk own g _ fl ⟨hS, hsc, ⟨⟨c0, c0a, c0b⟩, ⟨c1, c1a, c1b⟩, ⟨c2, c2a, c2b⟩, ⟨c3, c3a, c3b⟩, ⟨c4, c4a, c4b⟩, ⟨c5, c5a, c5b⟩, ⟨rfl, fld_bd (show (0 : Int32).toInt = 0 from rfl) (by decide)⟩, ⟨c7, c7a, c7b⟩, c8, c9⟩, hK, hX, ⟨hV.1, fun j hj => absurd (show (j : Int) < 0 from hj) (by omega), hV.2.2⟩, hT, hP, (hB.fr c0b (am_frL (fun q hq => funext fun j => (Eq.trans (up2_nq (dn hq (by decide))) (up2_nq (dn hq (by decide)))))) (fun _ _ => trivial) rfl rfl rfl rfl rfl rfl rfl rfl), hN, (hQ.fr (am_frL (fun q hq => funext fun j => (Eq.trans (up2_nq (dn hq (by decide))) (up2_nq (dn hq (by decide)))))) trivial rfl rfl rfl rfl rfl rfl rfl rfl), hZ, (hI.fr c0b (am_frL (fun q hq => funext fun j => (Eq.trans (up2_nq (dn hq (by decide))) (up2_nq (dn hq (by decide)))))) (fun _ _ _ => trivial) (fun _ _ => rfl) rfl (fun _ _ => rfl) (Int.le_refl _) (Int.le_refl _) rfl rfl rfl rfl rfl rfl (fun _ _ => rfl) (fun _ _ => rfl) rfl rfl rfl rfl rfl rfl rfl rfl rfl rfl rfl rfl)⟩ (Nat.le_add_right _ _) (Nat.le_add_right _ _)
set_option maxHeartbeats 1000000 in
theorem op_trace {L I : Nat} {xs : Nat → Int32} {own : Nat → Nat} {d : Nat} {g : am_G} {fi : am_I} {fl : am_L} {P : Option Value → am_G → am_I → am_L → Prop} {i : Int32} (hi : i.toInt = (I : Int)) (hI6 : I + 6 ≤ L) (hL : L ≤ 3072) (hR : Rel L xs own g fi fl) (hnx : am_nx g ≤ 800000) (kk : ∀ own' g' fi' fl', Rel L xs own' g' fi' fl' → am_nx g' ≤ am_nx g + 30 → am_sl g' ≤ am_sl g + 1000 → WP (d + 60) 211 1359 [some (.retAddr 0), some (.ref 0), some (.ref 31), some (.int i)] [] g' fi' fl' P) : WP (d + 60) 211 1067 [some (.retAddr 0), some (.ref 0), some (.ref 31), some (.int i)] [] g fi fl P := by
  obtain ⟨hS, hsc, hC, hK, hX, hV, hT, hP, hB, hN, hQ, hZ, hI⟩ := hR
  obtain ⟨⟨c0, c0a, c0b⟩, ⟨c1, c1a, c1b⟩, ⟨c2, c2a, c2b⟩, ⟨c3, c3a, c3b⟩, ⟨c4, c4a, c4b⟩, ⟨c5, c5a, c5b⟩, ⟨c6, c6a, c6b⟩, ⟨c7, c7a, c7b⟩, c8, c9⟩ := id hC
  obtain ⟨a1, e1⟩ : ∃ a, xs (I + 1) = a := ⟨_, rfl⟩
  by_cases hA : 0 ≤ (a1).toInt ∧ (a1).toInt < 20
  · skip
    obtain ⟨N1, hN1⟩ : ∃ k : Nat, (a1).toInt = (k : Int) := ⟨_, (i_cln (by omega)).symm⟩
    refine wi_aload_1 ct_211_1067 ?_
    refine wi_aloadT_0 ct_211_1068 ?_
    refine wi_iload_3 ct_211_1069 ?_
    refine wi_ic ct_211_1070 kc_1 ?_
    refine wi_iadd ct_211_1071 rfl ?_
    refine wi_ialdT (j := I + 1) (x := a1) ct_211_1072 (sL_SC hS) (i_in (i_add hi ki_1 (by omega)) (by omega)) (i_cl (i_add hi ki_1 (by omega)) (by omega)) (((hsc _).trans e1)) ?_
    refine wi_cv1 (ls' := [some _, some _]) ct_211_1073 (Nat.le_of_ble_eq_true rfl) (by decide) (sT_0 hS) rfl (by decide) rfl rfl (Nat.le_of_ble_eq_true rfl) ?_
    refine wi_iload_1 ct_96_0 ?_
    refine wi_iflt_f ct_96_1 hN1 (by omega) ?_
    refine wi_iload_1 ct_96_4 ?_
    refine wi_ic ct_96_5 kc_20 ?_
    refine wi_icge_f ct_96_7 hN1 ki_20 (by omega) ?_
    refine wi_iload_1 ct_96_10 ?_
    refine wi_aload_0 ct_96_11 ?_
    refine wi_gfr ct_96_12 (sT_0 hS) rfl (sR_0_10 hS) ?_
    refine wi_ic ct_96_15 kc_0 ?_
    refine wi_iald (x := fi 31 65) ct_96_16 (sT_21 hS) (sL_21 hS) (by decide) kn_c0 c7 ?_
    refine wi_iclt ct_96_17 hN1 rfl (fun h2 => ?_) (fun h2 => ?_)
    · skip
      refine wi_aload_0 ct_96_22 ?_
      refine wi_gfr ct_96_23 (sT_0 hS) rfl (sR_0_10 hS) ?_
      refine wi_ic ct_96_26 kc_1 ?_
      refine wi_iload_1 ct_96_27 ?_
      refine wi_iadd ct_96_28 rfl ?_
      refine wi_iald (x := fi 67 N1) ct_96_29 (sT_21 hS) (sL_21 hS) (i_in (i_add ki_1 hN1 (by omega)) (by omega)) (i_cl (k := (N1 + 1)) (i_add ki_1 hN1 (by omega)) (by omega)) ((congrArg (fi 21) (Nat.add_comm _ _)).trans (hT N1 (by omega) (by omega))) ?_
      refine wi_iret ct_96_30 rfl (wk_i ?_)
      refine wi_aload_2 ct_211_1076 ?_
      refine wi_aloadT_0 ct_211_1077 ?_
      refine wi_iload_3 ct_211_1078 ?_
      refine wi_ic ct_211_1079 kc_1 ?_
      refine wi_iadd ct_211_1080 rfl ?_
      refine wi_ialdT (j := I + 1) (x := a1) ct_211_1081 (sL_SC hS) (i_in (i_add hi ki_1 (by omega)) (by omega)) (i_cl (i_add hi ki_1 (by omega)) (by omega)) (((hsc _).trans e1)) ?_
      refine wi_cv1 (ls' := [some _, some _]) ct_211_1082 (Nat.le_of_ble_eq_true rfl) (by decide) (sT_31 hS) rfl (by decide) rfl rfl (Nat.le_of_ble_eq_true rfl) ?_
      refine wi_aload_0 ct_191_0 ?_
      refine wi_iload_1 ct_191_1 ?_
      refine wi_ic ct_191_2 kc_0 ?_
      refine wi_ic ct_191_3 kc_19 ?_
      refine wi_cv3 (ls' := [some _, some _, some _, some _]) ct_191_5 (Nat.le_of_ble_eq_true rfl) (by decide) (sT_31 hS) rfl (by decide) rfl rfl (Nat.le_of_ble_eq_true rfl) ?_
      refine c_in hN1 ki_0 ki_19 (fun _ => wk_i ?_) (fun h => absurd h (by omega))
      refine wi_ifeq_f ct_191_8 ki_1 (by decide) ?_
      refine wi_iload_1 ct_191_11 ?_
      refine wi_aload_0 ct_191_12 ?_
      refine wi_gf (x := fi 31 65) ct_191_13 (sT_31 hS) rfl rfl rfl ?_
      refine wi_icge_f ct_191_16 hN1 rfl (by omega) ?_
      refine wi_aload_0 ct_191_19 ?_
      refine wi_gfr ct_191_20 (sT_31 hS) rfl (sR_31_66 hS) ?_
      refine wi_iload_1 ct_191_23 ?_
      refine wi_iald (x := fi 67 N1) ct_191_24 (sT_67 hS) (sL_67 hS) (i_in hN1 (by omega)) (i_cl (k := N1) hN1 (by omega)) rfl ?_
      refine wi_goto ct_191_25 ?_
      refine wi_iret ct_191_29 rfl (wk_i ?_)
      refine wi_iceq_t ct_211_1085 rfl rfl (by omega) ?_
      exact kk own g _ fl ⟨hS, hsc, hC, hK, hX, hV, hT, hP, hB, hN, hQ, hZ, hI⟩ (by omega) (by omega)
    · skip
      refine wi_ic ct_96_20 kc_m1 ?_
      refine wi_iret ct_96_21 rfl (wk_i ?_)
      refine wi_aload_2 ct_211_1076 ?_
      refine wi_aloadT_0 ct_211_1077 ?_
      refine wi_iload_3 ct_211_1078 ?_
      refine wi_ic ct_211_1079 kc_1 ?_
      refine wi_iadd ct_211_1080 rfl ?_
      refine wi_ialdT (j := I + 1) (x := a1) ct_211_1081 (sL_SC hS) (i_in (i_add hi ki_1 (by omega)) (by omega)) (i_cl (i_add hi ki_1 (by omega)) (by omega)) (((hsc _).trans e1)) ?_
      refine wi_cv1 (ls' := [some _, some _]) ct_211_1082 (Nat.le_of_ble_eq_true rfl) (by decide) (sT_31 hS) rfl (by decide) rfl rfl (Nat.le_of_ble_eq_true rfl) ?_
      refine wi_aload_0 ct_191_0 ?_
      refine wi_iload_1 ct_191_1 ?_
      refine wi_ic ct_191_2 kc_0 ?_
      refine wi_ic ct_191_3 kc_19 ?_
      refine wi_cv3 (ls' := [some _, some _, some _, some _]) ct_191_5 (Nat.le_of_ble_eq_true rfl) (by decide) (sT_31 hS) rfl (by decide) rfl rfl (Nat.le_of_ble_eq_true rfl) ?_
      refine c_in hN1 ki_0 ki_19 (fun _ => wk_i ?_) (fun h => absurd h (by omega))
      refine wi_ifeq_f ct_191_8 ki_1 (by decide) ?_
      refine wi_iload_1 ct_191_11 ?_
      refine wi_aload_0 ct_191_12 ?_
      refine wi_gf (x := fi 31 65) ct_191_13 (sT_31 hS) rfl rfl rfl ?_
      refine wi_icge_t ct_191_16 hN1 rfl (by omega) ?_
      refine wi_ic ct_191_28 kc_m1 ?_
      refine wi_iret ct_191_29 rfl (wk_i ?_)
      refine wi_iceq_t ct_211_1085 ki_m1 ki_m1 (by decide) ?_
      exact kk own g _ fl ⟨hS, hsc, hC, hK, hX, hV, hT, hP, hB, hN, hQ, hZ, hI⟩ (by omega) (by omega)
  · skip
    refine wi_aload_1 ct_211_1067 ?_
    refine wi_aloadT_0 ct_211_1068 ?_
    refine wi_iload_3 ct_211_1069 ?_
    refine wi_ic ct_211_1070 kc_1 ?_
    refine wi_iadd ct_211_1071 rfl ?_
    refine wi_ialdT (j := I + 1) (x := a1) ct_211_1072 (sL_SC hS) (i_in (i_add hi ki_1 (by omega)) (by omega)) (i_cl (i_add hi ki_1 (by omega)) (by omega)) (((hsc _).trans e1)) ?_
    refine wi_cv1 (ls' := [some _, some _]) ct_211_1073 (Nat.le_of_ble_eq_true rfl) (by decide) (sT_0 hS) rfl (by decide) rfl rfl (Nat.le_of_ble_eq_true rfl) ?_
    refine wi_iload_1 ct_96_0 ?_
    refine wi_iflt ct_96_1 rfl (fun h3 => ?_) (fun h3 => ?_)
    · skip
      refine wi_ic ct_96_20 kc_m1 ?_
      refine wi_iret ct_96_21 rfl (wk_i ?_)
      refine wi_aload_2 ct_211_1076 ?_
      refine wi_aloadT_0 ct_211_1077 ?_
      refine wi_iload_3 ct_211_1078 ?_
      refine wi_ic ct_211_1079 kc_1 ?_
      refine wi_iadd ct_211_1080 rfl ?_
      refine wi_ialdT (j := I + 1) (x := a1) ct_211_1081 (sL_SC hS) (i_in (i_add hi ki_1 (by omega)) (by omega)) (i_cl (i_add hi ki_1 (by omega)) (by omega)) (((hsc _).trans e1)) ?_
      refine wi_cv1 (ls' := [some _, some _]) ct_211_1082 (Nat.le_of_ble_eq_true rfl) (by decide) (sT_31 hS) rfl (by decide) rfl rfl (Nat.le_of_ble_eq_true rfl) ?_
      refine wi_aload_0 ct_191_0 ?_
      refine wi_iload_1 ct_191_1 ?_
      refine wi_ic ct_191_2 kc_0 ?_
      refine wi_ic ct_191_3 kc_19 ?_
      refine wi_cv3 (ls' := [some _, some _, some _, some _]) ct_191_5 (Nat.le_of_ble_eq_true rfl) (by decide) (sT_31 hS) rfl (by decide) rfl rfl (Nat.le_of_ble_eq_true rfl) ?_
      refine c_in rfl ki_0 ki_19 (fun h => absurd h (by omega)) (fun _ => wk_i ?_)
      refine wi_ifeq_t ct_191_8 ki_0 (by decide) ?_
      refine wi_ic ct_191_28 kc_m1 ?_
      refine wi_iret ct_191_29 rfl (wk_i ?_)
      refine wi_iceq_t ct_211_1085 ki_m1 ki_m1 (by decide) ?_
      exact kk own g _ fl ⟨hS, hsc, hC, hK, hX, hV, hT, hP, hB, hN, hQ, hZ, hI⟩ (by omega) (by omega)
    · skip
      refine wi_iload_1 ct_96_4 ?_
      refine wi_ic ct_96_5 kc_20 ?_
      refine wi_icge_t ct_96_7 rfl ki_20 (by omega) ?_
      refine wi_ic ct_96_20 kc_m1 ?_
      refine wi_iret ct_96_21 rfl (wk_i ?_)
      refine wi_aload_2 ct_211_1076 ?_
      refine wi_aloadT_0 ct_211_1077 ?_
      refine wi_iload_3 ct_211_1078 ?_
      refine wi_ic ct_211_1079 kc_1 ?_
      refine wi_iadd ct_211_1080 rfl ?_
      refine wi_ialdT (j := I + 1) (x := a1) ct_211_1081 (sL_SC hS) (i_in (i_add hi ki_1 (by omega)) (by omega)) (i_cl (i_add hi ki_1 (by omega)) (by omega)) (((hsc _).trans e1)) ?_
      refine wi_cv1 (ls' := [some _, some _]) ct_211_1082 (Nat.le_of_ble_eq_true rfl) (by decide) (sT_31 hS) rfl (by decide) rfl rfl (Nat.le_of_ble_eq_true rfl) ?_
      refine wi_aload_0 ct_191_0 ?_
      refine wi_iload_1 ct_191_1 ?_
      refine wi_ic ct_191_2 kc_0 ?_
      refine wi_ic ct_191_3 kc_19 ?_
      refine wi_cv3 (ls' := [some _, some _, some _, some _]) ct_191_5 (Nat.le_of_ble_eq_true rfl) (by decide) (sT_31 hS) rfl (by decide) rfl rfl (Nat.le_of_ble_eq_true rfl) ?_
      refine c_in rfl ki_0 ki_19 (fun h => absurd h (by omega)) (fun _ => wk_i ?_)
      refine wi_ifeq_t ct_191_8 ki_0 (by decide) ?_
      refine wi_ic ct_191_28 kc_m1 ?_
      refine wi_iret ct_191_29 rfl (wk_i ?_)
      refine wi_iceq_t ct_211_1085 ki_m1 ki_m1 (by decide) ?_
      exact kk own g _ fl ⟨hS, hsc, hC, hK, hX, hV, hT, hP, hB, hN, hQ, hZ, hI⟩ (by omega) (by omega)
