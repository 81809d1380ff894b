theorem upE_eq {e : Nat → Int} {b : Nat} {x : Int} : upE e b x b = x := if_pos rfl
theorem upE_ne {e : Nat → Int} {b j : Nat} {x : Int} (h : j ≠ b) : upE e b x j = e j := if_neg h
theorem dyV_nn {Br T M : Nat → Int → Int} {D : Int} {N : Nat} (h : ∀ b m, b < N → 0 ≤ Br b m) : ∀ n k e t m, (∀ j, 0 ≤ e j) → ∀ j, 0 ≤ (dyV Br T M D N n k e t m).1 j := by
  intro n
  induction n with
  | zero =>
    intro k e t m he j
    exact he j
  | succ n ih =>
    intro k e t m he j
    rcases Decidable.em ((k : Int) < D ∧ 0 < N) with hc | hc
    · rw [dyV_1 hc.1 hc.2 rfl]
      refine ih _ _ _ _ (fun i => ?_) j
      unfold upE
      have h1 := h (k % N) m (Nat.mod_lt k hc.2)
      have h2 := he (k % N)
      have h3 := he i
      split <;> omega
    · rw [dyV_0 hc]
      exact he j
set_option maxHeartbeats 4000000 in
theorem vl_cday {L : Nat} {xs : Nat → Int32} {own : Nat → Nat} {d : Nat} {g : am_G} {fi : am_I} {fl : am_L} {P : Option Value → am_G → am_I → am_L → Prop} {sq : Option sq_T} (hR : Rel L xs own g fi fl) (hsq : SQs fi sq) (hsx : SQx g fi sq) {Br T M : Nat → Int → Int} {N Nn : Nat} (hNb : (fi 31 0).toInt = (N : Int)) (hBr : ∀ b m, Br b m = gBr (mkLk sq b (fi 32 b).toInt (fi 33 b).toInt) (goF fi sq b (goodV (fi 38 0).toInt (fi 38 1).toInt (fi 38 2).toInt) m)) (hTq : ∀ b m, T b m = (bI (!(goF fi sq b (goodV (fi 38 0).toInt (fi 38 1).toInt (fi 38 2).toInt) m).1)).toInt) (hMq : ∀ b m, M b m = gMn (goF fi sq b (goodV (fi 38 0).toInt (fi 38 1).toInt (fi 38 2).toInt) m)) {zn : Int32} (hzn : zn.toInt = (Nn : Int)) (hn20 : Nn ≤ 20) : ∀ (n k : Nat) (e : Nat → Int) (t m : Int) (g2 : am_G) (fi2 : am_I) (znx zg : Int32) (l4 : Option Value), k + n = Nn → SCR g g2 fi fi2 → zg.toInt = (k : Int) → (0 < N → znx.toInt = ((k % N : Nat) : Int)) → (N = 0 → znx.toInt = 0) → am_nl l4 = true → (∀ j, j < 5 → (fi2 20 j).toInt = e j) → (∀ j, 0 ≤ e j ∧ e j ≤ 99999 * k) → (fi2 0 8).toInt = t → (0 ≤ t ∧ t ≤ k) → (fi2 0 9).toInt = m → (0 ≤ m ∧ m ≤ 9999 + 30 * k) → (∀ g3 fi3, SCR g g3 fi fi3 → (∀ j, j < 5 → (fi3 20 j).toInt = (dyV Br T M (fi 38 3).toInt N n k e t m).1 j) → (fi3 0 8).toInt = (dyV Br T M (fi 38 3).toInt N n k e t m).2.1 → (fi3 0 9).toInt = (dyV Br T M (fi 38 3).toInt N n k e t m).2.2 → P none g3 fi3 fl) → WP (d + 9) 111 40 [some (.ref 0), some (.int zn), some (.int znx), some (.int zg), l4] [] g2 fi2 fl P := by
  obtain ⟨hS, hsc, hC, hK, hX, hV, hT, hP, hB, hN, hQ, hZ, hI⟩ := id hR
  obtain ⟨⟨c0, c0a, c0b⟩, ⟨c1, c1a, c1b⟩, ⟨c2, c2a, c2b⟩, ⟨c3, c3a, c3b⟩, ⟨c4, c4a, c4b⟩, ⟨c5, c5a, c5b⟩, ⟨c6, c6a, c6b⟩, ⟨c7, c7a, c7b⟩, c8, c9⟩ := id hC
  intro n
  induction n with
  | zero =>
    intro k e t m g2 fi2 znx zg l4 hkn hs hzg hnx hn0 h4 he heb ht htb hm hmb0 kk
    have hN5 : N ≤ 5 := by omega
    have hS2 := (hR.scr hs).1
    refine wi_iload_3 ct_111_40 ?_
    refine wi_iload_1 ct_111_41 ?_
    refine wi_icge_t ct_111_42 hzg hzn (by omega) ?_
    refine wi_ret ct_111_171 ?_
    exact kk _ _ hs he ht hm
  | succ n ih =>
    intro k e t m g2 fi2 znx zg l4 hkn hs hzg hnx hn0 h4 he heb ht htb hm hmb0 kk
    have hN5 : N ≤ 5 := by omega
    have hS2 := (hR.scr hs).1
    obtain ⟨-, kz1, kz2, -⟩ := hK 3 (by decide)
    rcases Nat.eq_zero_or_pos N with hNz | hNz
    · skip
      refine wi_iload_3 ct_111_40 ?_
      refine wi_iload_1 ct_111_41 ?_
      refine wi_icge_f ct_111_42 hzg hzn (by omega) ?_
      refine wi_iload_3 ct_111_45 ?_
      refine wi_aload_0 ct_111_46 ?_
      refine wi_gfr ct_111_47 (sT_0 hS2) rfl (sR_0_0 hS2) ?_
      refine wi_gfr ct_111_50 (sT_1 hS2) rfl (sR_1_2 hS2) ?_
      refine wi_ic ct_111_53 kc_3 ?_
      refine wi_iald (x := fi 38 3) ct_111_54 (sT_3 hS2) (sL_3 hS2) (by decide) kn_c3 (Eq.trans (congrFun (hs.2.1 3 (by omega)) _) (hK 3 (by decide)).1) ?_
      refine wi_icge ct_111_55 hzg rfl (fun h1 => ?_) (fun h1 => ?_)
      · skip
        refine wi_ret ct_111_171 ?_
        rw [dyV_0 (by omega)] at kk
        exact kk _ _ hs he ht hm
      · skip
        refine wi_aload_0 ct_111_58 ?_
        refine wi_iload_2 ct_111_59 ?_
        refine wi_cv1 (ls' := [some _, some _]) ct_111_60 (Nat.le_of_ble_eq_true rfl) (by decide) (sT_0 hS2) rfl (by decide) rfl rfl (Nat.le_of_ble_eq_true rfl) ?_
        refine wi_iload_1 ct_104_0 ?_
        refine wi_ic ct_104_1 kc_0 ?_
        refine wi_aload_0 ct_104_2 ?_
        refine wi_gfr ct_104_3 (sT_0 hS2) rfl (sR_0_0 hS2) ?_
        refine wi_gf (x := fi 31 0) ct_104_6 (sT_1 hS2) rfl rfl (Eq.trans (congrFun (hs.2.1 1 (by omega)) _) c0) ?_
        refine wi_ic ct_104_9 kc_1 ?_
        refine wi_isub ct_104_10 rfl ?_
        refine wi_cs3 (ls' := [some _, some _, some _]) ct_104_11 (Nat.le_of_ble_eq_true rfl) rfl (Nat.le_of_ble_eq_true rfl) ?_
        refine c_within (hn0 hNz) ki_0 (i_sub hNb ki_1 (by omega)) (fun h => absurd h (by omega)) (fun _ => wk_i ?_)
        refine wi_ifeq_t ct_104_14 ki_0 (by decide) ?_
        refine wi_null ct_104_29 ?_
        refine wi_aretn ct_104_30 (wk_n ?_)
        refine wi_astoreN_4 rfl ct_111_63 ?_
        refine wi_aloadN_4 ct_111_65 ?_
        refine wi_ifnonnull_n ct_111_67 ?_
        refine wi_ret ct_111_70 ?_
        rw [dyV_0 (by omega)] at kk
        exact kk _ _ hs he ht hm
    · skip
      obtain ⟨B, hkB⟩ : ∃ B, k % N = B := ⟨_, rfl⟩
      have hBN := mod_lt5 ⟨hNz, hN5⟩ hkB
      have hBn : znx.toInt = (B : Int) := (hnx hNz).trans (by rw [hkB])
      obtain ⟨p, r, hW⟩ := BLW.at hB c0b (B := B) (by omega)
      obtain ⟨hB5, hO, w32, w33, w34, w35, w36, w37, k6, v9, d9, a60, co9, r9⟩ := id hW
      obtain ⟨o0, ⟨o72, onx, oow⟩, ot, ok, on, ov, oc, oa, om, orw⟩ := id hO
      have kq := fun j (h : j < 3) => (hK j (by omega)).2
      have hk0 := kq 0 (by decide)
      have hk1 := kq 1 (by decide)
      have hk2 := kq 2 (by decide)
      replace hk0 := And.intro hk0.1 (hk0.2.2 (by decide))
      replace hk1 := And.intro hk1.1 (hk1.2.2 (by decide))
      replace hk2 := And.intro hk2.1 (hk2.2.2 (by decide))
      have hGb := goodV_bd hk0 hk1 hk2
      have heB := heb B
      refine wi_iload_3 ct_111_40 ?_
      refine wi_iload_1 ct_111_41 ?_
      refine wi_icge_f ct_111_42 hzg hzn (by omega) ?_
      refine wi_iload_3 ct_111_45 ?_
      refine wi_aload_0 ct_111_46 ?_
      refine wi_gfr ct_111_47 (sT_0 hS2) rfl (sR_0_0 hS2) ?_
      refine wi_gfr ct_111_50 (sT_1 hS2) rfl (sR_1_2 hS2) ?_
      refine wi_ic ct_111_53 kc_3 ?_
      refine wi_iald (x := fi 38 3) ct_111_54 (sT_3 hS2) (sL_3 hS2) (by decide) kn_c3 (Eq.trans (congrFun (hs.2.1 3 (by omega)) _) (hK 3 (by decide)).1) ?_
      refine wi_icge ct_111_55 hzg rfl (fun h2 => ?_) (fun h2 => ?_)
      · skip
        refine wi_ret ct_111_171 ?_
        rw [dyV_0 (by omega)] at kk
        exact kk _ _ hs he ht hm
      · skip
        refine wi_aload_0 ct_111_58 ?_
        refine wi_iload_2 ct_111_59 ?_
        refine wi_cv1 (ls' := [some _, some _]) ct_111_60 (Nat.le_of_ble_eq_true rfl) (by decide) (sT_0 hS2) rfl (by decide) rfl rfl (Nat.le_of_ble_eq_true rfl) ?_
        refine wi_iload_1 ct_104_0 ?_
        refine wi_ic ct_104_1 kc_0 ?_
        refine wi_aload_0 ct_104_2 ?_
        refine wi_gfr ct_104_3 (sT_0 hS2) rfl (sR_0_0 hS2) ?_
        refine wi_gf (x := fi 31 0) ct_104_6 (sT_1 hS2) rfl rfl (Eq.trans (congrFun (hs.2.1 1 (by omega)) _) c0) ?_
        refine wi_ic ct_104_9 kc_1 ?_
        refine wi_isub ct_104_10 rfl ?_
        refine wi_cs3 (ls' := [some _, some _, some _]) ct_104_11 (Nat.le_of_ble_eq_true rfl) rfl (Nat.le_of_ble_eq_true rfl) ?_
        refine c_within hBn ki_0 (i_sub hNb ki_1 (by omega)) (fun _ => wk_i ?_) (fun h => absurd h (by omega))
        refine wi_ifeq_f ct_104_14 ki_1 (by decide) ?_
        refine wi_aload_0 ct_104_17 ?_
        refine wi_gfr ct_104_18 (sT_0 hS2) rfl (sR_0_0 hS2) ?_
        refine wi_gfr ct_104_21 (sT_1 hS2) rfl (sR_1_0 hS2) ?_
        refine wi_iload_1 ct_104_24 ?_
        refine wi_aald ct_104_25 (sT_2 hS2) (by decide) (sL_2 hS2) (i_in hBn (by omega)) (i_cl (k := B) hBn (by omega)) ((hs.1.2.2.2 2 B (by omega)).trans o0) ?_
        refine wi_goto ct_104_26 ?_
        refine wi_aret ct_104_30 (wk_r ?_)
        refine wi_astore_4 rfl ct_111_63 ?_
        refine wi_aload_4 ct_111_65 ?_
        refine wi_ifnonnull_r ct_111_67 ?_
        refine wi_aload_0 ct_111_71 ?_
        refine wi_aload_4 ct_111_72 ?_
        refine wi_cv1 (ls' := [some _, some _]) ct_111_74 (Nat.le_of_ble_eq_true rfl) (by decide) (sT_0 hS2) rfl (by decide) rfl rfl (Nat.le_of_ble_eq_true rfl) ?_
        refine c_begin hR hs hW hsq hsx (fun gb3 fb3 hsb3 hfb3 hkb3 hb3_1 hb3_2 hb3_3 hb3_4 hb3_5 hb3_6 => wk_v ?_)
        have hSb3 := (hR.scr hsb3).1
        refine wi_aload_0 ct_111_77 ?_
        refine wi_gfr ct_111_78 (sT_0 hSb3) rfl (sR_0_2 hSb3) ?_
        refine wi_aload_0 ct_111_81 ?_
        refine wi_gf (x := fi2 0 9) ct_111_82 (sT_0 hSb3) rfl rfl (hfb3 0 9 (by decide)) ?_
        refine wi_pf ct_111_85 (sT_15 hSb3) rfl ?_
        refine wi_aload_0 ct_111_88 ?_
        refine wi_gfr ct_111_89 (sT_0 hSb3) rfl (sR_0_2 hSb3) ?_
        refine wi_aload_4 ct_111_92 ?_
        refine wi_cv1 (ls' := [some _, some _, none]) ct_111_94 (Nat.le_of_ble_eq_true rfl) (by decide) (sT_15 hSb3) rfl (by decide) rfl rfl (Nat.le_of_ble_eq_true rfl) ?_
        refine c_runR (cd2 := (fi 34 B).toInt) (aim2 := (fi 35 B).toInt) (G := (goodV (fi 38 0).toInt (fi 38 1).toInt (fi 38 2).toInt)) (m0 := m) (gust := 0) (calm := false) hR (hsb3.w (by omega)) hW (hkb3.fr (fun q hq => (funext fun _ => up2_nq (by omega)))) (((congrArg Int32.toInt (up2_nj (by decide))).trans hb3_1).trans (by omega)) (((congrArg Int32.toInt (up2_nj (by decide))).trans hb3_2).trans (by omega)) (((congrArg Int32.toInt (up2_nj (by decide))).trans hb3_3).trans (by omega)) (((congrArg Int32.toInt up2_eq).trans hm).trans (by omega)) (((congrArg Int32.toInt (Eq.trans (up2_nj (by decide)) hb3_5)).trans ki_0).trans (by omega)) ((Eq.trans (up2_nj (by decide)) hb3_6).trans rfl) (by omega) (by omega) (by omega) (by omega) (by omega) (fun Rr4 fr4 hr4_e hsr4 hr4_f hr4_7 hr4_11 hr4_12 hr4_10 hr4_4 hr4_13 hr4_j => wk_v ?_)
        have hSr4 := (hR.scr hsr4).1
        have hbdr4 := goR_bd (SQs_v hsq) (by omega) ((film_bd d9 hGb).2) hr4_e
        have her4 : Rr4 = goF fi sq B (goodV (fi 38 0).toInt (fi 38 1).toInt (fi 38 2).toInt) (m) := hr4_e
        have hTk : (fr4 15 13).toInt = T B m := (congrArg Int32.toInt hr4_13).trans (by rw [hTq, ← her4])
        have hto := bI_bd (!Rr4.1)
        have hTb : 0 ≤ T B m ∧ T B m ≤ 1 := by rw [hTq, ← her4]; exact hto
        have hMk : M B m = gMn Rr4 := by rw [hMq, ← her4]
        have hMb : 0 ≤ M B m ∧ M B m ≤ 30 := by omega
        have hBk : (fr4 15 12).toInt = Br B m := hr4_12.trans (by rw [hBr, ← her4])
        have hBb : 0 ≤ Br B m ∧ Br B m ≤ 99999 := by rw [hBr, ← her4]; exact hbdr4.2.2.1
        have hcl : (fr4 15 4).toInt = m + M B m := hr4_4.trans (by omega)
        refine wi_aload_0 ct_111_97 ?_
        refine wi_gfr ct_111_98 (sT_0 hSr4) rfl (sR_0_7 hSr4) ?_
        refine wi_iload_2 ct_111_101 ?_
        refine wi_dup2 ct_111_102 rfl rfl ?_
        refine wi_iald (x := fi2 20 B) ct_111_103 (sT_20 hSr4) (sL_20 hSr4) (i_in hBn (by omega)) (i_cl (k := B) hBn (by omega)) (Eq.trans (congrFun (hr4_f 20 (by decide) (by decide)) _) (Eq.trans (up2_nq (by decide)) (hfb3 20 B (by decide)))) ?_
        refine wi_aload_0 ct_111_104 ?_
        refine wi_gfr ct_111_105 (sT_0 hSr4) rfl (sR_0_2 hSr4) ?_
        refine wi_gf (x := fr4 15 12) ct_111_108 (sT_15 hSr4) rfl rfl rfl ?_
        refine wi_iadd ct_111_111 rfl ?_
        refine wi_iast ct_111_112 (sT_20 hSr4) (sL_20 hSr4) (i_in hBn (by omega)) (i_cl (k := B) hBn (by omega)) ?_
        refine wi_aload_0 ct_111_113 ?_
        refine wi_gfr ct_111_114 (sT_0 hSr4) rfl (sR_0_2 hSr4) ?_
        refine wi_gf (x := fr4 15 13) ct_111_117 (sT_15 hSr4) rfl rfl (up2_nq (by decide)) ?_
        refine wi_ifeq ct_111_120 hTk (fun h5 => ?_) (fun h5 => ?_)
        · skip
          refine wi_aload_0 ct_111_133 ?_
          refine wi_aload_0 ct_111_134 ?_
          refine wi_gfr ct_111_135 (sT_0 hSr4) rfl (sR_0_2 hSr4) ?_
          refine wi_gf (x := fr4 15 4) ct_111_138 (sT_15 hSr4) rfl rfl (up2_nq (by decide)) ?_
          refine wi_pf ct_111_141 (sT_0 hSr4) rfl ?_
          refine wi_iload_2 ct_111_144 ?_
          refine wi_ic ct_111_145 kc_1 ?_
          refine wi_iadd ct_111_146 rfl ?_
          refine wi_aload_0 ct_111_147 ?_
          refine wi_gfr ct_111_148 (sT_0 hSr4) rfl (sR_0_0 hSr4) ?_
          refine wi_gf (x := fi 31 0) ct_111_151 (sT_1 hSr4) rfl rfl (Eq.trans (up2_nq (by decide)) (Eq.trans (up2_nq (by decide)) (Eq.trans (congrFun (hsr4.2.1 1 (by omega)) _) c0))) ?_
          refine wi_icge ct_111_154 (i_add hBn ki_1 (by omega)) hNb (fun h6 => ?_) (fun h6 => ?_)
          · skip
            refine wi_ic ct_111_163 kc_0 ?_
            refine wi_istore_2 rfl ct_111_164 ?_
            refine wi_iinc_3 rfl (z := (zg + 1)) ct_111_165 (by rw [kc_1]) ?_
            refine wi_goto ct_111_168 ?_
            rw [dyV_1 (by omega) hNz hkB] at kk
            refine ih (k + 1) _ _ _ _ _ _ _ _ (by omega) ((hsr4.w (by omega)).w (by omega)) ((i_add hzg ki_1 (by omega)).trans (by omega)) (fun _ => by rw [mod_st ⟨hNz, hN5⟩ hkB, if_neg (by omega)]; exact (ki_0.trans rfl)) (fun h => absurd h (by omega)) rfl (fun j hj => ?_) (fun j => ?_) (((congrArg Int32.toInt (Eq.trans (up2_nj (by decide)) (Eq.trans (up2_nq (by decide)) (Eq.trans (congrFun (hr4_f 0 (by decide) (by decide)) _) (Eq.trans (up2_nq (by decide)) (hfb3 0 8 (by decide))))))).trans ht).trans (by omega)) (by omega) (((congrArg Int32.toInt up2_eq).trans hcl).trans (by omega)) (by omega) kk
            · rcases Decidable.em (j = B) with ej | ej
              · rw [ej]
                exact ((congrArg Int32.toInt (Eq.trans (up2_nq (by decide)) up2_eq)).trans (i_add (he B (by omega)) hBk (by omega))).trans upE_eq.symm
              · exact ((congrArg Int32.toInt (Eq.trans (up2_nq (by decide)) (Eq.trans (up2_nj ej) (Eq.trans (congrFun (hr4_f 20 (by decide) (by decide)) _) (Eq.trans (up2_nq (by decide)) (hfb3 20 j (by decide))))))).trans (he j hj)).trans (upE_ne ej).symm
            · have := heb j
              unfold upE
              split <;> omega
          · skip
            refine wi_iload_2 ct_111_157 ?_
            refine wi_ic ct_111_158 kc_1 ?_
            refine wi_iadd ct_111_159 rfl ?_
            refine wi_goto ct_111_160 ?_
            refine wi_istore_2 rfl ct_111_164 ?_
            refine wi_iinc_3 rfl (z := (zg + 1)) ct_111_165 (by rw [kc_1]) ?_
            refine wi_goto ct_111_168 ?_
            rw [dyV_1 (by omega) hNz hkB] at kk
            refine ih (k + 1) _ _ _ _ _ _ _ _ (by omega) ((hsr4.w (by omega)).w (by omega)) ((i_add hzg ki_1 (by omega)).trans (by omega)) (fun _ => by rw [mod_st ⟨hNz, hN5⟩ hkB, if_pos (by omega)]; exact ((i_add hBn ki_1 (by omega)).trans (by omega))) (fun h => absurd h (by omega)) rfl (fun j hj => ?_) (fun j => ?_) (((congrArg Int32.toInt (Eq.trans (up2_nj (by decide)) (Eq.trans (up2_nq (by decide)) (Eq.trans (congrFun (hr4_f 0 (by decide) (by decide)) _) (Eq.trans (up2_nq (by decide)) (hfb3 0 8 (by decide))))))).trans ht).trans (by omega)) (by omega) (((congrArg Int32.toInt up2_eq).trans hcl).trans (by omega)) (by omega) kk
            · rcases Decidable.em (j = B) with ej | ej
              · rw [ej]
                exact ((congrArg Int32.toInt (Eq.trans (up2_nq (by decide)) up2_eq)).trans (i_add (he B (by omega)) hBk (by omega))).trans upE_eq.symm
              · exact ((congrArg Int32.toInt (Eq.trans (up2_nq (by decide)) (Eq.trans (up2_nj ej) (Eq.trans (congrFun (hr4_f 20 (by decide) (by decide)) _) (Eq.trans (up2_nq (by decide)) (hfb3 20 j (by decide))))))).trans (he j hj)).trans (upE_ne ej).symm
            · have := heb j
              unfold upE
              split <;> omega
        · skip
          refine wi_aload_0 ct_111_123 ?_
          refine wi_dup ct_111_124 rfl ?_
          refine wi_gf (x := fi2 0 8) ct_111_125 (sT_0 hSr4) rfl rfl (Eq.trans (up2_nq (by decide)) (Eq.trans (congrFun (hr4_f 0 (by decide) (by decide)) _) (Eq.trans (up2_nq (by decide)) (hfb3 0 8 (by decide))))) ?_
          refine wi_ic ct_111_128 kc_1 ?_
          refine wi_iadd ct_111_129 rfl ?_
          refine wi_pf ct_111_130 (sT_0 hSr4) rfl ?_
          refine wi_aload_0 ct_111_133 ?_
          refine wi_aload_0 ct_111_134 ?_
          refine wi_gfr ct_111_135 (sT_0 hSr4) rfl (sR_0_2 hSr4) ?_
          refine wi_gf (x := fr4 15 4) ct_111_138 (sT_15 hSr4) rfl rfl (Eq.trans (up2_nq (by decide)) (up2_nq (by decide))) ?_
          refine wi_pf ct_111_141 (sT_0 hSr4) rfl ?_
          refine wi_iload_2 ct_111_144 ?_
          refine wi_ic ct_111_145 kc_1 ?_
          refine wi_iadd ct_111_146 rfl ?_
          refine wi_aload_0 ct_111_147 ?_
          refine wi_gfr ct_111_148 (sT_0 hSr4) rfl (sR_0_0 hSr4) ?_
          refine wi_gf (x := fi 31 0) ct_111_151 (sT_1 hSr4) rfl rfl (Eq.trans (up2_nq (by decide)) (Eq.trans (up2_nq (by decide)) (Eq.trans (up2_nq (by decide)) (Eq.trans (congrFun (hsr4.2.1 1 (by omega)) _) c0)))) ?_
          refine wi_icge ct_111_154 (i_add hBn ki_1 (by omega)) hNb (fun h7 => ?_) (fun h7 => ?_)
          · skip
            refine wi_ic ct_111_163 kc_0 ?_
            refine wi_istore_2 rfl ct_111_164 ?_
            refine wi_iinc_3 rfl (z := (zg + 1)) ct_111_165 (by rw [kc_1]) ?_
            refine wi_goto ct_111_168 ?_
            rw [dyV_1 (by omega) hNz hkB] at kk
            refine ih (k + 1) _ _ _ _ _ _ _ _ (by omega) (((hsr4.w (by omega)).w (by omega)).w (by omega)) ((i_add hzg ki_1 (by omega)).trans (by omega)) (fun _ => by rw [mod_st ⟨hNz, hN5⟩ hkB, if_neg (by omega)]; exact (ki_0.trans rfl)) (fun h => absurd h (by omega)) rfl (fun j hj => ?_) (fun j => ?_) (((congrArg Int32.toInt (Eq.trans (up2_nj (by decide)) up2_eq)).trans (i_add ht ki_1 (by omega))).trans (by omega)) (by omega) (((congrArg Int32.toInt up2_eq).trans hcl).trans (by omega)) (by omega) kk
            · rcases Decidable.em (j = B) with ej | ej
              · rw [ej]
                exact ((congrArg Int32.toInt (Eq.trans (up2_nq (by decide)) (Eq.trans (up2_nq (by decide)) up2_eq))).trans (i_add (he B (by omega)) hBk (by omega))).trans upE_eq.symm
              · exact ((congrArg Int32.toInt (Eq.trans (up2_nq (by decide)) (Eq.trans (up2_nq (by decide)) (Eq.trans (up2_nj ej) (Eq.trans (congrFun (hr4_f 20 (by decide) (by decide)) _) (Eq.trans (up2_nq (by decide)) (hfb3 20 j (by decide)))))))).trans (he j hj)).trans (upE_ne ej).symm
            · have := heb j
              unfold upE
              split <;> omega
          · skip
            refine wi_iload_2 ct_111_157 ?_
            refine wi_ic ct_111_158 kc_1 ?_
            refine wi_iadd ct_111_159 rfl ?_
            refine wi_goto ct_111_160 ?_
            refine wi_istore_2 rfl ct_111_164 ?_
            refine wi_iinc_3 rfl (z := (zg + 1)) ct_111_165 (by rw [kc_1]) ?_
            refine wi_goto ct_111_168 ?_
            rw [dyV_1 (by omega) hNz hkB] at kk
            refine ih (k + 1) _ _ _ _ _ _ _ _ (by omega) (((hsr4.w (by omega)).w (by omega)).w (by omega)) ((i_add hzg ki_1 (by omega)).trans (by omega)) (fun _ => by rw [mod_st ⟨hNz, hN5⟩ hkB, if_pos (by omega)]; exact ((i_add hBn ki_1 (by omega)).trans (by omega))) (fun h => absurd h (by omega)) rfl (fun j hj => ?_) (fun j => ?_) (((congrArg Int32.toInt (Eq.trans (up2_nj (by decide)) up2_eq)).trans (i_add ht ki_1 (by omega))).trans (by omega)) (by omega) (((congrArg Int32.toInt up2_eq).trans hcl).trans (by omega)) (by omega) kk
            · rcases Decidable.em (j = B) with ej | ej
              · rw [ej]
                exact ((congrArg Int32.toInt (Eq.trans (up2_nq (by decide)) (Eq.trans (up2_nq (by decide)) up2_eq))).trans (i_add (he B (by omega)) hBk (by omega))).trans upE_eq.symm
              · exact ((congrArg Int32.toInt (Eq.trans (up2_nq (by decide)) (Eq.trans (up2_nq (by decide)) (Eq.trans (up2_nj ej) (Eq.trans (congrFun (hr4_f 20 (by decide) (by decide)) _) (Eq.trans (up2_nq (by decide)) (hfb3 20 j (by decide)))))))).trans (he j hj)).trans (upE_ne ej).symm
            · have := heb j
              unfold upE
              split <;> omega
set_option maxHeartbeats 4000000 in
theorem vl_mday {L : Nat} {xs : Nat → Int32} {own : Nat → Nat} {d : Nat} {g : am_G} {fi : am_I} {fl : am_L} {P : Option Value → am_G → am_I → am_L → Prop} {sq : Option sq_T} (hR : Rel L xs own g fi fl) (hsq : SQs fi sq) {Br T M : Nat → Int → Int} {N Nn : Nat} (hNb : (fi 31 0).toInt = (N : Int)) (hBr : ∀ b m, Br b m = gBr (mkLk sq b (fi 32 b).toInt (fi 33 b).toInt) (goF fi sq b (goodV (fi 38 0).toInt (fi 38 1).toInt (fi 38 2).toInt) m)) (hTq : ∀ b m, T b m = (bI (!(goF fi sq b (goodV (fi 38 0).toInt (fi 38 1).toInt (fi 38 2).toInt) m).1)).toInt) (hMq : ∀ b m, M b m = gMn (goF fi sq b (goodV (fi 38 0).toInt (fi 38 1).toInt (fi 38 2).toInt) m)) {zn : Int32} (hzn : zn.toInt = (Nn : Int)) (hn20 : Nn ≤ 20) : ∀ (n k : Nat) (e : Nat → Int) (t m : Int) (g2 : am_G) (fi2 : am_I) (znx zg : Int32) (l4 : Option Value), k + n = Nn → SCR g g2 fi fi2 → zg.toInt = (k : Int) → am_nl l4 = true → (∀ j, j < 5 → (fi2 49 j).toInt = e j) → (∀ j, 0 ≤ e j ∧ e j ≤ 99999 * k) → (fi2 31 38).toInt = t → (0 ≤ t ∧ t ≤ k) → (fi2 31 39).toInt = m → (0 ≤ m ∧ m ≤ 9999 + 30 * k) → (∀ g3 fi3, SCR g g3 fi fi3 → (∀ j, j < 5 → (fi3 49 j).toInt = (dyV Br T M (fi 38 3).toInt N n k e t m).1 j) → (fi3 31 38).toInt = (dyV Br T M (fi 38 3).toInt N n k e t m).2.1 → (fi3 31 39).toInt = (dyV Br T M (fi 38 3).toInt N n k e t m).2.2 → g3 = g2 → P none g3 fi3 fl) → WP (d + 9) 165 35 [some (.ref 31), some (.int zn), some (.int zg), l4] [] g2 fi2 fl P := by
  obtain ⟨hS, hsc, hC, hK, hX, hV, hT, hP, hB, hN, hQ, hZ, hI⟩ := id hR
  obtain ⟨⟨c0, c0a, c0b⟩, ⟨c1, c1a, c1b⟩, ⟨c2, c2a, c2b⟩, ⟨c3, c3a, c3b⟩, ⟨c4, c4a, c4b⟩, ⟨c5, c5a, c5b⟩, ⟨c6, c6a, c6b⟩, ⟨c7, c7a, c7b⟩, c8, c9⟩ := id hC
  intro n
  induction n with
  | zero =>
    intro k e t m g2 fi2 znx zg l4 hkn hs hzg h4 he heb ht htb hm hmb0 kk
    have hN5 : N ≤ 5 := by omega
    have hS2 := (hR.scr hs).1
    refine wi_iload_2 ct_165_35 ?_
    refine wi_iload_1 ct_165_36 ?_
    refine wi_icge_t ct_165_37 hzg hzn (by omega) ?_
    refine wi_ret ct_165_126 ?_
    exact kk _ _ hs he ht hm rfl
  | succ n ih =>
    intro k e t m g2 fi2 znx zg l4 hkn hs hzg h4 he heb ht htb hm hmb0 kk
    have hN5 : N ≤ 5 := by omega
    have hS2 := (hR.scr hs).1
    obtain ⟨-, kz1, kz2, -⟩ := hK 3 (by decide)
    rcases Nat.eq_zero_or_pos N with hNz | hNz
    · skip
      refine wi_iload_2 ct_165_35 ?_
      refine wi_iload_1 ct_165_36 ?_
      refine wi_icge_f ct_165_37 hzg hzn (by omega) ?_
      refine wi_iload_2 ct_165_40 ?_
      refine wi_aload_0 ct_165_41 ?_
      refine wi_gfr ct_165_42 (sT_31 hS2) rfl (sR_31_8 hS2) ?_
      refine wi_ic ct_165_45 kc_3 ?_
      refine wi_iald (x := fi 38 3) ct_165_46 (sT_38 hS2) (sL_38 hS2) (by decide) kn_c3 (congrFun (hs.2.1 38 (by omega)) _) ?_
      refine wi_icge ct_165_47 hzg rfl (fun h1 => ?_) (fun h1 => ?_)
      · skip
        refine wi_ret ct_165_126 ?_
        rw [dyV_0 (by omega)] at kk
        exact kk _ _ hs he ht hm rfl
      · skip
        refine wi_aload_0 ct_165_50 ?_
        refine wi_gf (x := fi 31 0) ct_165_51 (sT_31 hS2) rfl rfl (hs.2.2.2 0 (by omega)) ?_
        refine wi_ifle_t ct_165_54 hNb (by omega) ?_
        refine wi_ret ct_165_126 ?_
        rw [dyV_0 (by omega)] at kk
        exact kk _ _ hs he ht hm rfl
    · skip
      obtain ⟨B, hkB⟩ : ∃ B, k % N = B := ⟨_, rfl⟩
      have hBN := mod_lt5 ⟨hNz, hN5⟩ hkB
      obtain ⟨p, r, hW⟩ := BLW.at hB c0b (B := B) (by omega)
      obtain ⟨hB5, hO, w32, w33, w34, w35, w36, w37, k6, v9, d9, a60, co9, r9⟩ := id hW
      obtain ⟨o0, ⟨o72, onx, oow⟩, ot, ok, on, ov, oc, oa, om, orw⟩ := id hO
      have kq := fun j (h : j < 3) => (hK j (by omega)).2
      have hk0 := kq 0 (by decide)
      have hk1 := kq 1 (by decide)
      have hk2 := kq 2 (by decide)
      replace hk0 := And.intro hk0.1 (hk0.2.2 (by decide))
      replace hk1 := And.intro hk1.1 (hk1.2.2 (by decide))
      replace hk2 := And.intro hk2.1 (hk2.2.2 (by decide))
      have hGb := goodV_bd hk0 hk1 hk2
      have heB := heb B
      have hmb := MB.of hR hW hsq
      refine wi_iload_2 ct_165_35 ?_
      refine wi_iload_1 ct_165_36 ?_
      refine wi_icge_f ct_165_37 hzg hzn (by omega) ?_
      refine wi_iload_2 ct_165_40 ?_
      refine wi_aload_0 ct_165_41 ?_
      refine wi_gfr ct_165_42 (sT_31 hS2) rfl (sR_31_8 hS2) ?_
      refine wi_ic ct_165_45 kc_3 ?_
      refine wi_iald (x := fi 38 3) ct_165_46 (sT_38 hS2) (sL_38 hS2) (by decide) kn_c3 (congrFun (hs.2.1 38 (by omega)) _) ?_
      refine wi_icge ct_165_47 hzg rfl (fun h2 => ?_) (fun h2 => ?_)
      · skip
        refine wi_ret ct_165_126 ?_
        rw [dyV_0 (by omega)] at kk
        exact kk _ _ hs he ht hm rfl
      · skip
        refine wi_aload_0 ct_165_50 ?_
        refine wi_gf (x := fi 31 0) ct_165_51 (sT_31 hS2) rfl rfl (hs.2.2.2 0 (by omega)) ?_
        refine wi_ifle_f ct_165_54 hNb (by omega) ?_
        refine wi_iload_2 ct_165_57 ?_
        refine wi_aload_0 ct_165_58 ?_
        refine wi_gf (x := fi 31 0) ct_165_59 (sT_31 hS2) rfl rfl (hs.2.2.2 0 (by omega)) ?_
        have hBn := (i_rem hzg hNb (by omega) (by omega)).trans (show (k : Int) % (N : Int) = (B : Int) from congrArg Nat.cast hkB)
        refine wi_irem ct_165_62 (i_nz hNb (by omega)) rfl ?_
        refine wi_istore_3 rfl ct_165_63 ?_
        refine wi_aload_0 ct_165_64 ?_
        refine wi_iload_3 ct_165_65 ?_
        refine wi_aload_0 ct_165_66 ?_
        refine wi_gf (x := fi2 31 39) ct_165_67 (sT_31 hS2) rfl rfl rfl ?_
        refine wi_cv2 (ls' := [some _, some _, some _, none, none, none, none]) ct_165_70 (Nat.le_of_ble_eq_true rfl) (by decide) (sT_31 hS2) rfl (by decide) rfl rfl (Nat.le_of_ble_eq_true rfl) ?_
        refine c_goR (m0 := m) hS2 hmb hs hBn (hm.trans (by omega)) (by omega) (fun Ro3 fo3 ho3_e hso3 ho3_f ho3_30 ho3_31 ho3_32 ho3_33 ho3_34 => wk_v ?_)
        have hbdo3 := goR_bd (SQs_v hsq) (by omega) ((film_bd d9 hGb).2) ho3_e
        have heo3 : Ro3 = goF fi sq B (goodV (fi 38 0).toInt (fi 38 1).toInt (fi 38 2).toInt) (m) := ho3_e
        have hTk : (fo3 31 34).toInt = T B m := (congrArg Int32.toInt ho3_34).trans (by rw [hTq, ← heo3])
        have hto := bI_bd (!Ro3.1)
        have hTb : 0 ≤ T B m ∧ T B m ≤ 1 := by rw [hTq, ← heo3]; exact hto
        have hMk : M B m = gMn Ro3 := by rw [hMq, ← heo3]
        have hMb : 0 ≤ M B m ∧ M B m ≤ 30 := by omega
        have hBk : (fo3 31 32).toInt = Br B m := ho3_32.trans (by rw [hBr, ← heo3])
        have hBb : 0 ≤ Br B m ∧ Br B m ≤ 99999 := by rw [hBr, ← heo3]; exact hbdo3.2.2.1
        have hcl : (fo3 31 33).toInt = M B m := ho3_33.trans (by omega)
        refine wi_aload_0 ct_165_73 ?_
        refine wi_gfr ct_165_74 (sT_31 hS2) rfl (sR_31_37 hS2) ?_
        refine wi_iload_3 ct_165_77 ?_
        refine wi_dup2 ct_165_78 rfl rfl ?_
        refine wi_iald (x := fi2 49 B) ct_165_79 (sT_49 hS2) (sL_49 hS2) (i_in hBn (by omega)) (i_cl (k := B) hBn (by omega)) (congrFun (ho3_f.1 49 (by decide) (by decide)) _) ?_
        refine wi_aload_0 ct_165_80 ?_
        refine wi_gf (x := fo3 31 32) ct_165_81 (sT_31 hS2) rfl rfl rfl ?_
        refine wi_iadd ct_165_84 rfl ?_
        refine wi_iast ct_165_85 (sT_49 hS2) (sL_49 hS2) (i_in hBn (by omega)) (i_cl (k := B) hBn (by omega)) ?_
        refine wi_aload_0 ct_165_86 ?_
        refine wi_dup ct_165_87 rfl ?_
        refine wi_gf (x := fi2 31 38) ct_165_88 (sT_31 hS2) rfl rfl (Eq.trans (up2_nq (by decide)) (ho3_f.2 38 (by decide))) ?_
        refine wi_aload_0 ct_165_91 ?_
        refine wi_gf (x := fo3 31 34) ct_165_92 (sT_31 hS2) rfl rfl (up2_nq (by decide)) ?_
        refine wi_ifeq ct_165_95 hTk (fun h4 => ?_) (fun h4 => ?_)
        · skip
          refine wi_ic ct_165_102 kc_0 ?_
          refine wi_iadd ct_165_103 rfl ?_
          refine wi_pf ct_165_104 (sT_31 hS2) rfl ?_
          refine wi_aload_0 ct_165_107 ?_
          refine wi_dup ct_165_108 rfl ?_
          refine wi_gf (x := fi2 31 39) ct_165_109 (sT_31 hS2) rfl rfl (Eq.trans (up2_nj (by decide)) (Eq.trans (up2_nq (by decide)) (ho3_f.2 39 (by decide)))) ?_
          refine wi_aload_0 ct_165_112 ?_
          refine wi_gf (x := fo3 31 33) ct_165_113 (sT_31 hS2) rfl rfl (Eq.trans (up2_nj (by decide)) (up2_nq (by decide))) ?_
          refine wi_iadd ct_165_116 rfl ?_
          refine wi_pf ct_165_117 (sT_31 hS2) rfl ?_
          refine wi_iinc_2 rfl (z := (zg + 1)) ct_165_120 (by rw [kc_1]) ?_
          refine wi_goto ct_165_123 ?_
          rw [dyV_1 (by omega) hNz hkB] at kk
          refine ih (k + 1) _ _ _ _ _ 0 _ _ (by omega) (((hso3.w (by omega)).w (by omega)).w (by omega)) ((i_add hzg ki_1 (by omega)).trans (by omega)) rfl (fun j hj => ?_) (fun j => ?_) (((congrArg Int32.toInt (Eq.trans (up2_nj (by decide)) up2_eq)).trans (i_add ht ki_0 (by omega))).trans (by omega)) (by omega) (((congrArg Int32.toInt up2_eq).trans (i_add hm hcl (by omega))).trans (by omega)) (by omega) kk
          · rcases Decidable.em (j = B) with ej | ej
            · rw [ej]
              exact ((congrArg Int32.toInt (Eq.trans (up2_nq (by decide)) (Eq.trans (up2_nq (by decide)) up2_eq))).trans (i_add (he B (by omega)) hBk (by omega))).trans upE_eq.symm
            · exact ((congrArg Int32.toInt (Eq.trans (up2_nq (by decide)) (Eq.trans (up2_nq (by decide)) (Eq.trans (up2_nj ej) (congrFun (ho3_f.1 49 (by decide) (by decide)) _))))).trans (he j hj)).trans (upE_ne ej).symm
          · have := heb j
            unfold upE
            split <;> omega
        · skip
          refine wi_ic ct_165_98 kc_1 ?_
          refine wi_goto ct_165_99 ?_
          refine wi_iadd ct_165_103 rfl ?_
          refine wi_pf ct_165_104 (sT_31 hS2) rfl ?_
          refine wi_aload_0 ct_165_107 ?_
          refine wi_dup ct_165_108 rfl ?_
          refine wi_gf (x := fi2 31 39) ct_165_109 (sT_31 hS2) rfl rfl (Eq.trans (up2_nj (by decide)) (Eq.trans (up2_nq (by decide)) (ho3_f.2 39 (by decide)))) ?_
          refine wi_aload_0 ct_165_112 ?_
          refine wi_gf (x := fo3 31 33) ct_165_113 (sT_31 hS2) rfl rfl (Eq.trans (up2_nj (by decide)) (up2_nq (by decide))) ?_
          refine wi_iadd ct_165_116 rfl ?_
          refine wi_pf ct_165_117 (sT_31 hS2) rfl ?_
          refine wi_iinc_2 rfl (z := (zg + 1)) ct_165_120 (by rw [kc_1]) ?_
          refine wi_goto ct_165_123 ?_
          rw [dyV_1 (by omega) hNz hkB] at kk
          refine ih (k + 1) _ _ _ _ _ 0 _ _ (by omega) (((hso3.w (by omega)).w (by omega)).w (by omega)) ((i_add hzg ki_1 (by omega)).trans (by omega)) rfl (fun j hj => ?_) (fun j => ?_) (((congrArg Int32.toInt (Eq.trans (up2_nj (by decide)) up2_eq)).trans (i_add ht ki_1 (by omega))).trans (by omega)) (by omega) (((congrArg Int32.toInt up2_eq).trans (i_add hm hcl (by omega))).trans (by omega)) (by omega) kk
          · rcases Decidable.em (j = B) with ej | ej
            · rw [ej]
              exact ((congrArg Int32.toInt (Eq.trans (up2_nq (by decide)) (Eq.trans (up2_nq (by decide)) up2_eq))).trans (i_add (he B (by omega)) hBk (by omega))).trans upE_eq.symm
            · exact ((congrArg Int32.toInt (Eq.trans (up2_nq (by decide)) (Eq.trans (up2_nq (by decide)) (Eq.trans (up2_nj ej) (congrFun (ho3_f.1 49 (by decide) (by decide)) _))))).trans (he j hj)).trans (upE_ne ej).symm
          · have := heb j
            unfold upE
            split <;> omega
theorem vl_cmost {L : Nat} {d : Nat} {g : am_G} {fl : am_L} {P : Option Value → am_G → am_I → am_L → Prop} {fi : am_I} {e : Nat → Int} {N : Nat} {zn : Int32} (hS : SF L g) (hc : (fi 1 1).toInt = (N : Int)) (h5 : N ≤ 5) (he : ∀ j, j < 5 → (fi 20 j).toInt = e j) (kk : ∀ z : Int32, z.toInt = (bst e N 0 (-5) (-1)).1 → P (some (.int z)) g fi fl) : ∀ (n k : Nat) (b m : Int) (zb zm zi : Int32), k + n = N → zi.toInt = (k : Int) → zb.toInt = b → zm.toInt = m → bst e n k b m = bst e N 0 (-5) (-1) → WP d 83 26 [some (.ref 0), some (.int zn), some (.int zb), some (.int zm), some (.int zi)] [] g fi fl P := by
  intro n
  induction n with
  | zero =>
    intro k b m zb zm zi hkn hzi hzb hzm hb
    refine wi_iload_4 ct_83_26 ?_
    refine wi_aload_0 ct_83_28 ?_
    refine wi_gfr ct_83_29 (sT_0 hS) rfl (sR_0_0 hS) ?_
    refine wi_gf (x := fi 1 1) ct_83_32 (sT_1 hS) rfl rfl rfl ?_
    refine wi_icge_t ct_83_35 hzi hc (by omega) ?_
    refine wi_iload_2 ct_83_66 ?_
    refine wi_iret ct_83_67 rfl ?_
    exact kk _ (hzb.trans (congrArg Prod.fst hb))
  | succ n ih =>
    intro k b m zb zm zi hkn hzi hzb hzm hb
    refine wi_iload_4 ct_83_26 ?_
    refine wi_aload_0 ct_83_28 ?_
    refine wi_gfr ct_83_29 (sT_0 hS) rfl (sR_0_0 hS) ?_
    refine wi_gf (x := fi 1 1) ct_83_32 (sT_1 hS) rfl rfl rfl ?_
    refine wi_icge_f ct_83_35 hzi hc (by omega) ?_
    refine wi_aload_0 ct_83_38 ?_
    refine wi_gfr ct_83_39 (sT_0 hS) rfl (sR_0_7 hS) ?_
    refine wi_iload_4 ct_83_42 ?_
    refine wi_iald (x := fi 20 k) ct_83_44 (sT_20 hS) (sL_20 hS) (i_in hzi (by omega)) (i_cl (k := k) hzi (by omega)) rfl ?_
    refine wi_iload_3 ct_83_45 ?_
    refine wi_icle ct_83_46 (he k (by omega)) hzm (fun h1 => ?_) (fun h1 => ?_)
    · skip
      refine wi_iinc_4 rfl (z := (zi + 1)) ct_83_60 (by rw [kc_1]) ?_
      refine wi_goto ct_83_63 ?_
      exact ih (k + 1) _ _ _ _ _ (by omega) ((i_add hzi ki_1 (by omega)).trans (by omega)) hzb hzm ((bst_f (by omega)).symm.trans hb)
    · skip
      refine wi_aload_0 ct_83_49 ?_
      refine wi_gfr ct_83_50 (sT_0 hS) rfl (sR_0_7 hS) ?_
      refine wi_iload_4 ct_83_53 ?_
      refine wi_iald (x := fi 20 k) ct_83_55 (sT_20 hS) (sL_20 hS) (i_in hzi (by omega)) (i_cl (k := k) hzi (by omega)) rfl ?_
      refine wi_istore_3 rfl ct_83_56 ?_
      refine wi_iload_4 ct_83_57 ?_
      refine wi_istore_2 rfl ct_83_59 ?_
      refine wi_iinc_4 rfl (z := (zi + 1)) ct_83_60 (by rw [kc_1]) ?_
      refine wi_goto ct_83_63 ?_
      exact ih (k + 1) _ _ _ _ _ (by omega) ((i_add hzi ki_1 (by omega)).trans (by omega)) hzi (he k (by omega)) ((bst_t (by omega)).symm.trans hb)
theorem vl_mmost {L : Nat} {d : Nat} {g : am_G} {fl : am_L} {P : Option Value → am_G → am_I → am_L → Prop} {fi : am_I} {e : Nat → Int} {N : Nat} {zn : Int32} (hS : SF L g) (hc : (fi 31 0).toInt = (N : Int)) (h5 : N ≤ 5) (hp : ∀ j, 0 ≤ e j) (he : ∀ j, j < 5 → (fi 49 j).toInt = e j) (kk : ∀ z : Int32, z.toInt = (bst e N 0 (-5) (-1)).1 → P (some (.int z)) g fi fl) : ∀ (n k : Nat) (b m : Int) (zb zi : Int32), k + n = N → zi.toInt = (k : Int) → zb.toInt = b → ((b = -5 ∧ m = -1) ∨ ∃ J : Nat, J < k ∧ b = (J : Int) ∧ m = e J) → bst e n k b m = bst e N 0 (-5) (-1) → WP d 167 24 [some (.ref 31), some (.int zn), some (.int zb), some (.int zi)] [] g fi fl P := by
  intro n
  induction n with
  | zero =>
    intro k b m zb zi hkn hzi hzb hbm hb
    refine wi_iload_3 ct_167_24 ?_
    refine wi_aload_0 ct_167_25 ?_
    refine wi_gf (x := fi 31 0) ct_167_26 (sT_31 hS) rfl rfl rfl ?_
    refine wi_icge_t ct_167_29 hzi hc (by omega) ?_
    refine wi_iload_2 ct_167_59 ?_
    refine wi_iret ct_167_60 rfl ?_
    exact kk _ (hzb.trans (congrArg Prod.fst hb))
  | succ n ih =>
    intro k b m zb zi hkn hzi hzb hbm hb
    rcases hbm with ⟨hJ1, hJ2⟩ | ⟨J, hJ0, hJ1, hJ2⟩
    · skip
      refine wi_iload_3 ct_167_24 ?_
      refine wi_aload_0 ct_167_25 ?_
      refine wi_gf (x := fi 31 0) ct_167_26 (sT_31 hS) rfl rfl rfl ?_
      refine wi_icge_f ct_167_29 hzi hc (by omega) ?_
      refine wi_iload_2 ct_167_32 ?_
      refine wi_iflt_t ct_167_33 (hzb.trans hJ1) (by decide) ?_
      refine wi_iload_3 ct_167_51 ?_
      refine wi_istore_2 rfl ct_167_52 ?_
      refine wi_iinc_3 rfl (z := (zi + 1)) ct_167_53 (by rw [kc_1]) ?_
      refine wi_goto ct_167_56 ?_
      have hek := hp k
      exact ih (k + 1) _ _ _ _ (by omega) ((i_add hzi ki_1 (by omega)).trans (by omega)) hzi (Or.inr ⟨k, by omega, rfl, rfl⟩) ((bst_t (by omega)).symm.trans hb)
    · skip
      refine wi_iload_3 ct_167_24 ?_
      refine wi_aload_0 ct_167_25 ?_
      refine wi_gf (x := fi 31 0) ct_167_26 (sT_31 hS) rfl rfl rfl ?_
      refine wi_icge_f ct_167_29 hzi hc (by omega) ?_
      refine wi_iload_2 ct_167_32 ?_
      refine wi_iflt_f ct_167_33 (hzb.trans hJ1) (by omega) ?_
      refine wi_aload_0 ct_167_36 ?_
      refine wi_gfr ct_167_37 (sT_31 hS) rfl (sR_31_37 hS) ?_
      refine wi_iload_3 ct_167_40 ?_
      refine wi_iald (x := fi 49 k) ct_167_41 (sT_49 hS) (sL_49 hS) (i_in hzi (by omega)) (i_cl (k := k) hzi (by omega)) rfl ?_
      refine wi_aload_0 ct_167_42 ?_
      refine wi_gfr ct_167_43 (sT_31 hS) rfl (sR_31_37 hS) ?_
      refine wi_iload_2 ct_167_46 ?_
      refine wi_iald (x := fi 49 J) ct_167_47 (sT_49 hS) (sL_49 hS) (i_in (hzb.trans hJ1) (by omega)) (i_cl (k := J) (hzb.trans hJ1) (by omega)) rfl ?_
      refine wi_icle ct_167_48 (he k (by omega)) (he J (by omega)) (fun h1 => ?_) (fun h1 => ?_)
      · skip
        refine wi_iinc_3 rfl (z := (zi + 1)) ct_167_53 (by rw [kc_1]) ?_
        refine wi_goto ct_167_56 ?_
        exact ih (k + 1) _ _ _ _ (by omega) ((i_add hzi ki_1 (by omega)).trans (by omega)) hzb (Or.inr ⟨J, by omega, hJ1, hJ2⟩) ((bst_f (by omega)).symm.trans hb)
      · skip
        refine wi_iload_3 ct_167_51 ?_
        refine wi_istore_2 rfl ct_167_52 ?_
        refine wi_iinc_3 rfl (z := (zi + 1)) ct_167_53 (by rw [kc_1]) ?_
        refine wi_goto ct_167_56 ?_
        have hek := hp k
        exact ih (k + 1) _ _ _ _ (by omega) ((i_add hzi ki_1 (by omega)).trans (by omega)) hzi (Or.inr ⟨k, by omega, rfl, rfl⟩) ((bst_t (by omega)).symm.trans hb)
set_option maxHeartbeats 2000000 in
theorem op_day {L I : Nat} {xs : Nat → Int32} {own : Nat → Nat} {d : Nat} {g : am_G} {fi : am_I} {fl : am_L} {P : Option Value → am_G → am_I → am_L → Prop} {i : Int32} (hi : i.toInt = (I : Int)) (hI6 : I + 6 ≤ L) (hL : L ≤ 3072) (hR : Rel L xs own g fi fl) (hnx : am_nx g ≤ 800000) (kk : ∀ own' g' fi' fl', Rel L xs own' g' fi' fl' → am_nx g' ≤ am_nx g + 30 → am_sl g' ≤ am_sl g + 1000 → WP (d + 60) 211 1359 [some (.retAddr 0), some (.ref 0), some (.ref 31), some (.int i)] [] g' fi' fl' P) : WP (d + 60) 211 667 [some (.retAddr 0), some (.ref 0), some (.ref 31), some (.int i)] [] g fi fl P := by
  obtain ⟨hS, hsc, hC, hK, hX, hV, hT, hP, hB, hN, hQ, hZ, hI⟩ := id hR
  obtain ⟨⟨c0, c0a, c0b⟩, ⟨c1, c1a, c1b⟩, ⟨c2, c2a, c2b⟩, ⟨c3, c3a, c3b⟩, ⟨c4, c4a, c4b⟩, ⟨c5, c5a, c5b⟩, ⟨c6, c6a, c6b⟩, ⟨c7, c7a, c7b⟩, c8, c9⟩ := id hC
  obtain ⟨a1, e1⟩ : ∃ a, xs (I + 1) = a := ⟨_, rfl⟩
  obtain ⟨a2, e2⟩ : ∃ a, xs (I + 2) = a := ⟨_, rfl⟩
  obtain ⟨sq, hsq, hsx⟩ := sq_of hR
  obtain ⟨N, hNb⟩ : ∃ N : Nat, (fi 31 0).toInt = (N : Int) := ⟨(fi 31 0).toInt.toNat, by omega⟩
  have kq := fun j (h : j < 3) => (hK j (by omega)).2
  have hk0 := kq 0 (by decide)
  have hk1 := kq 1 (by decide)
  have hk2 := kq 2 (by decide)
  have hGb := goodV_bd ⟨hk0.1, hk0.2.2 (by decide)⟩ ⟨hk1.1, hk1.2.2 (by decide)⟩ ⟨hk2.1, hk2.2.2 (by decide)⟩
  obtain ⟨Br, hBr⟩ : ∃ Br : Nat → Int → Int, ∀ b m, Br b m = gBr (mkLk sq b (fi 32 b).toInt (fi 33 b).toInt) (goF fi sq b (goodV (fi 38 0).toInt (fi 38 1).toInt (fi 38 2).toInt) m) := ⟨_, fun _ _ => rfl⟩
  obtain ⟨T, hTq⟩ : ∃ T : Nat → Int → Int, ∀ b m, T b m = (bI (!(goF fi sq b (goodV (fi 38 0).toInt (fi 38 1).toInt (fi 38 2).toInt) m).1)).toInt := ⟨_, fun _ _ => rfl⟩
  obtain ⟨M, hMq⟩ : ∃ M : Nat → Int → Int, ∀ b m, M b m = gMn (goF fi sq b (goodV (fi 38 0).toInt (fi 38 1).toInt (fi 38 2).toInt) m) := ⟨_, fun _ _ => rfl⟩
  have hBp : ∀ b m, b < N → 0 ≤ Br b m := fun b m h => by rw [hBr]; exact (goF_bd hR hsq (by omega) hGb rfl).2.1.1
  by_cases hA : 0 ≤ (a2).toInt ∧ (a2).toInt < (fi 31 0).toInt
  · skip
    obtain ⟨C, hCa⟩ : ∃ C : Nat, (a2).toInt = (C : Int) := ⟨(a2).toInt.toNat, by omega⟩
    have hCn := hCa
    obtain ⟨-, p2, r2, ho2⟩ := hB C (by omega)
    refine wi_aload_1 ct_211_667 ?_
    refine wi_aloadT_0 ct_211_668 ?_
    refine wi_iload_3 ct_211_669 ?_
    refine wi_ic ct_211_670 kc_1 ?_
    refine wi_iadd ct_211_671 rfl ?_
    refine wi_ialdT (j := I + 1) (x := a1) ct_211_672 (sL_SC hS) (i_in (i_add hi ki_1 (by omega)) (by omega)) (i_cl (i_add hi ki_1 (by omega)) (by omega)) (((hsc _).trans e1)) ?_
    refine wi_aloadT_0 ct_211_673 ?_
    refine wi_iload_3 ct_211_674 ?_
    refine wi_ic ct_211_675 kc_2 ?_
    refine wi_iadd ct_211_676 rfl ?_
    refine wi_ialdT (j := I + 2) (x := a2) ct_211_677 (sL_SC hS) (i_in (i_add hi ki_2 (by omega)) (by omega)) (i_cl (i_add hi ki_2 (by omega)) (by omega)) (((hsc _).trans e2)) ?_
    refine wi_cv2 (ls' := [some _, some _, some _]) ct_211_678 (Nat.le_of_ble_eq_true rfl) (by decide) (sT_0 hS) rfl (by decide) rfl rfl (Nat.le_of_ble_eq_true rfl) ?_
    refine wi_aload_0 ct_82_0 ?_
    refine wi_iload_2 ct_82_1 ?_
    refine wi_cv1 (ls' := [some _, some _]) ct_82_2 (Nat.le_of_ble_eq_true rfl) (by decide) (sT_0 hS) rfl (by decide) rfl rfl (Nat.le_of_ble_eq_true rfl) ?_
    refine wi_iload_1 ct_104_0 ?_
    refine wi_ic ct_104_1 kc_0 ?_
    refine wi_aload_0 ct_104_2 ?_
    refine wi_gfr ct_104_3 (sT_0 hS) rfl (sR_0_0 hS) ?_
    refine wi_gf (x := fi 31 0) ct_104_6 (sT_1 hS) rfl rfl c0 ?_
    refine wi_ic ct_104_9 kc_1 ?_
    refine wi_isub ct_104_10 rfl ?_
    refine wi_cs3 (ls' := [some _, some _, some _]) ct_104_11 (Nat.le_of_ble_eq_true rfl) rfl (Nat.le_of_ble_eq_true rfl) ?_
    refine c_within hCn ki_0 (i_sub hNb ki_1 (by omega)) (fun _ => wk_i ?_) (fun h => absurd h (by omega))
    refine wi_ifeq_f ct_104_14 ki_1 (by decide) ?_
    refine wi_aload_0 ct_104_17 ?_
    refine wi_gfr ct_104_18 (sT_0 hS) rfl (sR_0_0 hS) ?_
    refine wi_gfr ct_104_21 (sT_1 hS) rfl (sR_1_0 hS) ?_
    refine wi_iload_1 ct_104_24 ?_
    refine wi_aald ct_104_25 (sT_2 hS) (by decide) (sL_2 hS) (i_in hCn (by omega)) (i_cl (k := C) hCn (by omega)) ho2.1 ?_
    refine wi_goto ct_104_26 ?_
    refine wi_aret ct_104_30 (wk_r ?_)
    refine wi_ifnonnull_r ct_82_5 ?_
    refine wi_iload_1 ct_82_22 ?_
    refine wi_ic ct_82_23 kc_0 ?_
    refine wi_ic ct_82_24 kc_20 ?_
    refine wi_cs3 (ls' := [some _, some _, some _]) ct_82_26 (Nat.le_of_ble_eq_true rfl) rfl (Nat.le_of_ble_eq_true rfl) ?_
    refine c_within rfl ki_0 ki_20 (fun h1 => wk_i ?_) (fun h1 => wk_i ?_)
    · skip
      refine wi_ifne_t ct_82_29 ki_1 (by decide) ?_
      refine wi_aload_0 ct_82_35 ?_
      refine wi_iload_1 ct_82_36 ?_
      refine wi_cv1 (ls' := [some _, some _, none, none, none]) ct_82_37 (Nat.le_of_ble_eq_true rfl) (by decide) (sT_0 hS) rfl (by decide) rfl rfl (Nat.le_of_ble_eq_true rfl) ?_
      refine wi_ic ct_111_0 kc_0 ?_
      refine wi_istore_2 rfl ct_111_1 ?_
      refine wi_iload_2 ct_111_2 ?_
      refine wi_ic ct_111_3 kc_5 ?_
      refine wi_icge_f ct_111_4 ki_0 ki_5 (by decide) ?_
      refine wi_aload_0 ct_111_7 ?_
      refine wi_gfr ct_111_8 (sT_0 hS) rfl (sR_0_7 hS) ?_
      refine wi_iload_2 ct_111_11 ?_
      refine wi_ic ct_111_12 kc_0 ?_
      refine wi_iast ct_111_13 (sT_20 hS) (sL_20 hS) (by decide) kn_c0 ?_
      refine wi_iinc_2 rfl (z := 1) ct_111_14 (by decide) ?_
      refine wi_goto ct_111_17 ?_
      refine wi_iload_2 ct_111_2 ?_
      refine wi_ic ct_111_3 kc_5 ?_
      refine wi_icge_f ct_111_4 ki_1 ki_5 (by decide) ?_
      refine wi_aload_0 ct_111_7 ?_
      refine wi_gfr ct_111_8 (sT_0 hS) rfl (sR_0_7 hS) ?_
      refine wi_iload_2 ct_111_11 ?_
      refine wi_ic ct_111_12 kc_0 ?_
      refine wi_iast ct_111_13 (sT_20 hS) (sL_20 hS) (by decide) kn_c1 ?_
      refine wi_iinc_2 rfl (z := 2) ct_111_14 (by decide) ?_
      refine wi_goto ct_111_17 ?_
      refine wi_iload_2 ct_111_2 ?_
      refine wi_ic ct_111_3 kc_5 ?_
      refine wi_icge_f ct_111_4 ki_2 ki_5 (by decide) ?_
      refine wi_aload_0 ct_111_7 ?_
      refine wi_gfr ct_111_8 (sT_0 hS) rfl (sR_0_7 hS) ?_
      refine wi_iload_2 ct_111_11 ?_
      refine wi_ic ct_111_12 kc_0 ?_
      refine wi_iast ct_111_13 (sT_20 hS) (sL_20 hS) (by decide) kn_c2 ?_
      refine wi_iinc_2 rfl (z := 3) ct_111_14 (by decide) ?_
      refine wi_goto ct_111_17 ?_
      refine wi_iload_2 ct_111_2 ?_
      refine wi_ic ct_111_3 kc_5 ?_
      refine wi_icge_f ct_111_4 ki_3 ki_5 (by decide) ?_
      refine wi_aload_0 ct_111_7 ?_
      refine wi_gfr ct_111_8 (sT_0 hS) rfl (sR_0_7 hS) ?_
      refine wi_iload_2 ct_111_11 ?_
      refine wi_ic ct_111_12 kc_0 ?_
      refine wi_iast ct_111_13 (sT_20 hS) (sL_20 hS) (by decide) kn_c3 ?_
      refine wi_iinc_2 rfl (z := 4) ct_111_14 (by decide) ?_
      refine wi_goto ct_111_17 ?_
      refine wi_iload_2 ct_111_2 ?_
      refine wi_ic ct_111_3 kc_5 ?_
      refine wi_icge_f ct_111_4 ki_4 ki_5 (by decide) ?_
      refine wi_aload_0 ct_111_7 ?_
      refine wi_gfr ct_111_8 (sT_0 hS) rfl (sR_0_7 hS) ?_
      refine wi_iload_2 ct_111_11 ?_
      refine wi_ic ct_111_12 kc_0 ?_
      refine wi_iast ct_111_13 (sT_20 hS) (sL_20 hS) (by decide) kn_c4 ?_
      refine wi_iinc_2 rfl (z := 5) ct_111_14 (by decide) ?_
      refine wi_goto ct_111_17 ?_
      refine wi_iload_2 ct_111_2 ?_
      refine wi_ic ct_111_3 kc_5 ?_
      refine wi_icge_t ct_111_4 ki_5 ki_5 (by decide) ?_
      refine wi_aload_0 ct_111_20 ?_
      refine wi_ic ct_111_21 kc_0 ?_
      refine wi_pf ct_111_22 (sT_0 hS) rfl ?_
      refine wi_aload_0 ct_111_25 ?_
      refine wi_aload_0 ct_111_26 ?_
      refine wi_gfr ct_111_27 (sT_0 hS) rfl (sR_0_0 hS) ?_
      refine wi_gf (x := fi 31 1) ct_111_30 (sT_1 hS) rfl rfl (Eq.trans (up2_nq (by decide)) (Eq.trans (up2_nq (by decide)) (Eq.trans (up2_nq (by decide)) (Eq.trans (up2_nq (by decide)) (Eq.trans (up2_nq (by decide)) (Eq.trans (up2_nq (by decide)) c1)))))) ?_
      refine wi_pf ct_111_33 (sT_0 hS) rfl ?_
      refine wi_ic ct_111_36 kc_0 ?_
      refine wi_istore_2 rfl ct_111_37 ?_
      refine wi_ic ct_111_38 kc_0 ?_
      refine wi_istore_3 rfl ct_111_39 ?_
      obtain ⟨N3, hN3⟩ : ∃ k : Nat, (a1).toInt = (k : Int) := ⟨_, (i_cln (by omega)).symm⟩
      obtain ⟨Y, hYd⟩ : ∃ Y, dyV Br T M (fi 38 3).toInt N N3 0 (fun _ => 0) 0 (fi 31 1).toInt = Y := ⟨_, rfl⟩
      have hYn := dyV_nn (T := T) (M := M) (D := (fi 38 3).toInt) hBp N3 0 (fun _ => 0) 0 (fi 31 1).toInt (fun _ => Int.le_refl 0)
      rw [hYd] at hYn
      refine vl_cday hR hsq hsx hNb hBr hTq hMq hN3 (by omega) N3 0 (fun _ => 0) 0 (fi 31 1).toInt _ _ _ _ none (by omega) (((((((SCR.rfl.w (by omega)).w (by omega)).w (by omega)).w (by omega)).w (by omega)).w (by omega)).w (by omega)) (ki_0.trans rfl) (fun _ => ki_0.trans (by simp)) (fun _ => ki_0) rfl (fun j hj => match j, hj with
        | 0, _ => ((congrArg Int32.toInt (Eq.trans (up2_nq (by decide)) (Eq.trans (up2_nq (by decide)) (Eq.trans (up2_nj (by decide)) (Eq.trans (up2_nj (by decide)) (Eq.trans (up2_nj (by decide)) (Eq.trans (up2_nj (by decide)) up2_eq))))))).trans ki_0)
        | 1, _ => ((congrArg Int32.toInt (Eq.trans (up2_nq (by decide)) (Eq.trans (up2_nq (by decide)) (Eq.trans (up2_nj (by decide)) (Eq.trans (up2_nj (by decide)) (Eq.trans (up2_nj (by decide)) up2_eq)))))).trans ki_0)
        | 2, _ => ((congrArg Int32.toInt (Eq.trans (up2_nq (by decide)) (Eq.trans (up2_nq (by decide)) (Eq.trans (up2_nj (by decide)) (Eq.trans (up2_nj (by decide)) up2_eq))))).trans ki_0)
        | 3, _ => ((congrArg Int32.toInt (Eq.trans (up2_nq (by decide)) (Eq.trans (up2_nq (by decide)) (Eq.trans (up2_nj (by decide)) up2_eq)))).trans ki_0)
        | 4, _ => ((congrArg Int32.toInt (Eq.trans (up2_nq (by decide)) (Eq.trans (up2_nq (by decide)) up2_eq))).trans ki_0)
        | j + 5, hj => absurd hj (by omega)) (fun _ => by omega) ((congrArg Int32.toInt (Eq.trans (up2_nj (by decide)) up2_eq)).trans ki_0) (by omega) ((congrArg Int32.toInt up2_eq).trans rfl) (by omega) (fun gc2 fc2 hsc2 hdc21 hdc22 hdc23 => wk_v ?_)
      rw [hYd] at hdc21 hdc22 hdc23
      have hSc2 := (hR.scr hsc2).1
      refine wi_iload_2 ct_82_40 ?_
      refine wi_ic ct_82_41 kc_10 ?_
      refine wi_icne_t ct_82_43 hCn ki_10 (by omega) ?_
      refine wi_iload_2 ct_82_51 ?_
      refine wi_ic ct_82_52 kc_11 ?_
      refine wi_icne_t ct_82_54 hCn ki_11 (by omega) ?_
      refine wi_iload_2 ct_82_62 ?_
      refine wi_ic ct_82_63 kc_0 ?_
      refine wi_ic ct_82_64 kc_4 ?_
      refine wi_cs3 (ls' := [some _, some _, some _]) ct_82_65 (Nat.le_of_ble_eq_true rfl) rfl (Nat.le_of_ble_eq_true rfl) ?_
      refine c_within hCn ki_0 ki_4 (fun _ => wk_i ?_) (fun h => absurd h (by omega))
      refine wi_ifeq_f ct_82_68 ki_1 (by decide) ?_
      refine wi_aload_0 ct_82_71 ?_
      refine wi_gfr ct_82_72 (sT_0 hSc2) rfl (sR_0_7 hSc2) ?_
      refine wi_iload_2 ct_82_75 ?_
      refine wi_iald (x := fc2 20 C) ct_82_76 (sT_20 hSc2) (sL_20 hSc2) (i_in hCn (by omega)) (i_cl (k := C) hCn (by omega)) rfl ?_
      refine wi_goto ct_82_77 ?_
      refine wi_iret ct_82_81 rfl (wk_i ?_)
      refine wi_aload_2 ct_211_681 ?_
      refine wi_aloadT_0 ct_211_682 ?_
      refine wi_iload_3 ct_211_683 ?_
      refine wi_ic ct_211_684 kc_1 ?_
      refine wi_iadd ct_211_685 rfl ?_
      refine wi_ialdT (j := I + 1) (x := a1) ct_211_686 (sL_SC hSc2) (i_in (i_add hi ki_1 (by omega)) (by omega)) (i_cl (i_add hi ki_1 (by omega)) (by omega)) ((Eq.trans (congrFun (hsc2.2.1 am_SC (by unfold am_SC; decide)) _) ((hsc _).trans e1))) ?_
      refine wi_aloadT_0 ct_211_687 ?_
      refine wi_iload_3 ct_211_688 ?_
      refine wi_ic ct_211_689 kc_2 ?_
      refine wi_iadd ct_211_690 rfl ?_
      refine wi_ialdT (j := I + 2) (x := a2) ct_211_691 (sL_SC hSc2) (i_in (i_add hi ki_2 (by omega)) (by omega)) (i_cl (i_add hi ki_2 (by omega)) (by omega)) ((Eq.trans (congrFun (hsc2.2.1 am_SC (by unfold am_SC; decide)) _) ((hsc _).trans e2))) ?_
      refine wi_cv2 (ls' := [some _, some _, some _]) ct_211_692 (Nat.le_of_ble_eq_true rfl) (by decide) (sT_31 hSc2) rfl (by decide) rfl rfl (Nat.le_of_ble_eq_true rfl) ?_
      refine wi_aload_0 ct_166_0 ?_
      refine wi_iload_2 ct_166_1 ?_
      refine wi_ic ct_166_2 kc_0 ?_
      refine wi_aload_0 ct_166_3 ?_
      refine wi_gf (x := fi 31 0) ct_166_4 (sT_31 hSc2) rfl rfl (hsc2.2.2.2 0 (by omega)) ?_
      refine wi_ic ct_166_7 kc_1 ?_
      refine wi_isub ct_166_8 rfl ?_
      refine wi_cv3 (ls' := [some _, some _, some _, some _]) ct_166_9 (Nat.le_of_ble_eq_true rfl) (by decide) (sT_31 hSc2) rfl (by decide) rfl rfl (Nat.le_of_ble_eq_true rfl) ?_
      refine c_in hCn ki_0 (i_sub hNb ki_1 (by omega)) (fun _ => wk_i ?_) (fun h => absurd h (by omega))
      refine wi_ifne_t ct_166_12 ki_1 (by decide) ?_
      refine wi_aload_0 ct_166_29 ?_
      refine wi_iload_1 ct_166_30 ?_
      refine wi_ic ct_166_31 kc_0 ?_
      refine wi_ic ct_166_32 kc_20 ?_
      refine wi_cv3 (ls' := [some _, some _, some _, some _]) ct_166_34 (Nat.le_of_ble_eq_true rfl) (by decide) (sT_31 hSc2) rfl (by decide) rfl rfl (Nat.le_of_ble_eq_true rfl) ?_
      refine c_in hN3 ki_0 ki_20 (fun _ => wk_i ?_) (fun h => absurd h (by omega))
      refine wi_ifne_t ct_166_37 ki_1 (by decide) ?_
      refine wi_aload_0 ct_166_43 ?_
      refine wi_iload_1 ct_166_44 ?_
      refine wi_cv1 (ls' := [some _, some _, none, none]) ct_166_45 (Nat.le_of_ble_eq_true rfl) (by decide) (sT_31 hSc2) rfl (by decide) rfl rfl (Nat.le_of_ble_eq_true rfl) ?_
      refine wi_ic ct_165_0 kc_0 ?_
      refine wi_istore_2 rfl ct_165_1 ?_
      refine wi_iload_2 ct_165_2 ?_
      refine wi_ic ct_165_3 kc_5 ?_
      refine wi_icge_f ct_165_4 ki_0 ki_5 (by decide) ?_
      refine wi_aload_0 ct_165_7 ?_
      refine wi_gfr ct_165_8 (sT_31 hSc2) rfl (sR_31_37 hSc2) ?_
      refine wi_iload_2 ct_165_11 ?_
      refine wi_ic ct_165_12 kc_0 ?_
      refine wi_iast ct_165_13 (sT_49 hSc2) (sL_49 hSc2) (by decide) kn_c0 ?_
      refine wi_iinc_2 rfl (z := 1) ct_165_14 (by decide) ?_
      refine wi_goto ct_165_17 ?_
      refine wi_iload_2 ct_165_2 ?_
      refine wi_ic ct_165_3 kc_5 ?_
      refine wi_icge_f ct_165_4 ki_1 ki_5 (by decide) ?_
      refine wi_aload_0 ct_165_7 ?_
      refine wi_gfr ct_165_8 (sT_31 hSc2) rfl (sR_31_37 hSc2) ?_
      refine wi_iload_2 ct_165_11 ?_
      refine wi_ic ct_165_12 kc_0 ?_
      refine wi_iast ct_165_13 (sT_49 hSc2) (sL_49 hSc2) (by decide) kn_c1 ?_
      refine wi_iinc_2 rfl (z := 2) ct_165_14 (by decide) ?_
      refine wi_goto ct_165_17 ?_
      refine wi_iload_2 ct_165_2 ?_
      refine wi_ic ct_165_3 kc_5 ?_
      refine wi_icge_f ct_165_4 ki_2 ki_5 (by decide) ?_
      refine wi_aload_0 ct_165_7 ?_
      refine wi_gfr ct_165_8 (sT_31 hSc2) rfl (sR_31_37 hSc2) ?_
      refine wi_iload_2 ct_165_11 ?_
      refine wi_ic ct_165_12 kc_0 ?_
      refine wi_iast ct_165_13 (sT_49 hSc2) (sL_49 hSc2) (by decide) kn_c2 ?_
      refine wi_iinc_2 rfl (z := 3) ct_165_14 (by decide) ?_
      refine wi_goto ct_165_17 ?_
      refine wi_iload_2 ct_165_2 ?_
      refine wi_ic ct_165_3 kc_5 ?_
      refine wi_icge_f ct_165_4 ki_3 ki_5 (by decide) ?_
      refine wi_aload_0 ct_165_7 ?_
      refine wi_gfr ct_165_8 (sT_31 hSc2) rfl (sR_31_37 hSc2) ?_
      refine wi_iload_2 ct_165_11 ?_
      refine wi_ic ct_165_12 kc_0 ?_
      refine wi_iast ct_165_13 (sT_49 hSc2) (sL_49 hSc2) (by decide) kn_c3 ?_
      refine wi_iinc_2 rfl (z := 4) ct_165_14 (by decide) ?_
      refine wi_goto ct_165_17 ?_
      refine wi_iload_2 ct_165_2 ?_
      refine wi_ic ct_165_3 kc_5 ?_
      refine wi_icge_f ct_165_4 ki_4 ki_5 (by decide) ?_
      refine wi_aload_0 ct_165_7 ?_
      refine wi_gfr ct_165_8 (sT_31 hSc2) rfl (sR_31_37 hSc2) ?_
      refine wi_iload_2 ct_165_11 ?_
      refine wi_ic ct_165_12 kc_0 ?_
      refine wi_iast ct_165_13 (sT_49 hSc2) (sL_49 hSc2) (by decide) kn_c4 ?_
      refine wi_iinc_2 rfl (z := 5) ct_165_14 (by decide) ?_
      refine wi_goto ct_165_17 ?_
      refine wi_iload_2 ct_165_2 ?_
      refine wi_ic ct_165_3 kc_5 ?_
      refine wi_icge_t ct_165_4 ki_5 ki_5 (by decide) ?_
      refine wi_aload_0 ct_165_20 ?_
      refine wi_ic ct_165_21 kc_0 ?_
      refine wi_pf ct_165_22 (sT_31 hSc2) rfl ?_
      refine wi_aload_0 ct_165_25 ?_
      refine wi_aload_0 ct_165_26 ?_
      refine wi_gf (x := fi 31 1) ct_165_27 (sT_31 hSc2) rfl rfl (Eq.trans (up2_nj (by decide)) (Eq.trans (up2_nq (by decide)) (Eq.trans (up2_nq (by decide)) (Eq.trans (up2_nq (by decide)) (Eq.trans (up2_nq (by decide)) (Eq.trans (up2_nq (by decide)) (hsc2.2.2.2 1 (by omega)))))))) ?_
      refine wi_pf ct_165_30 (sT_31 hSc2) rfl ?_
      refine wi_ic ct_165_33 kc_0 ?_
      refine wi_istore_2 rfl ct_165_34 ?_
      refine vl_mday hR hsq hNb hBr hTq hMq hN3 (by omega) N3 0 (fun _ => 0) 0 (fi 31 1).toInt _ _ 0 _ none (by omega) (((((((hsc2.w (by omega)).w (by omega)).w (by omega)).w (by omega)).w (by omega)).w (by omega)).w (by omega)) (ki_0.trans rfl) rfl (fun j hj => match j, hj with
        | 0, _ => ((congrArg Int32.toInt (Eq.trans (up2_nq (by decide)) (Eq.trans (up2_nq (by decide)) (Eq.trans (up2_nj (by decide)) (Eq.trans (up2_nj (by decide)) (Eq.trans (up2_nj (by decide)) (Eq.trans (up2_nj (by decide)) up2_eq))))))).trans ki_0)
        | 1, _ => ((congrArg Int32.toInt (Eq.trans (up2_nq (by decide)) (Eq.trans (up2_nq (by decide)) (Eq.trans (up2_nj (by decide)) (Eq.trans (up2_nj (by decide)) (Eq.trans (up2_nj (by decide)) up2_eq)))))).trans ki_0)
        | 2, _ => ((congrArg Int32.toInt (Eq.trans (up2_nq (by decide)) (Eq.trans (up2_nq (by decide)) (Eq.trans (up2_nj (by decide)) (Eq.trans (up2_nj (by decide)) up2_eq))))).trans ki_0)
        | 3, _ => ((congrArg Int32.toInt (Eq.trans (up2_nq (by decide)) (Eq.trans (up2_nq (by decide)) (Eq.trans (up2_nj (by decide)) up2_eq)))).trans ki_0)
        | 4, _ => ((congrArg Int32.toInt (Eq.trans (up2_nq (by decide)) (Eq.trans (up2_nq (by decide)) up2_eq))).trans ki_0)
        | j + 5, hj => absurd hj (by omega)) (fun _ => by omega) ((congrArg Int32.toInt (Eq.trans (up2_nj (by decide)) up2_eq)).trans ki_0) (by omega) ((congrArg Int32.toInt up2_eq).trans rfl) (by omega) (fun gm4 fm4 hsm4 hdm41 hdm42 hdm43 hgm4 => wk_v ?_)
      rw [hYd] at hdm41 hdm42 hdm43
      subst hgm4
      refine wi_iload_2 ct_166_48 ?_
      refine wi_ic ct_166_49 kc_10 ?_
      refine wi_icne_t ct_166_51 hCn ki_10 (by omega) ?_
      refine wi_iload_2 ct_166_61 ?_
      refine wi_ic ct_166_62 kc_11 ?_
      refine wi_icne_t ct_166_64 hCn ki_11 (by omega) ?_
      refine wi_aload_0 ct_166_74 ?_
      refine wi_gfr ct_166_75 (sT_31 hSc2) rfl (sR_31_37 hSc2) ?_
      refine wi_iload_2 ct_166_78 ?_
      refine wi_iald (x := fm4 49 C) ct_166_79 (sT_49 hSc2) (sL_49 hSc2) (i_in hCn (by omega)) (i_cl (k := C) hCn (by omega)) rfl ?_
      refine wi_iret ct_166_80 rfl (wk_i ?_)
      refine wi_iceq_t ct_211_695 (hdc21 C (by omega)) (hdm41 C (by omega)) (by omega) ?_
      exact kk own _ _ fl (hR.scr hsm4) (by rw [hsm4.nx]; omega) (by rw [hsm4.sl]; omega)
    · skip
      refine wi_ifne_f ct_82_29 ki_0 (by decide) ?_
      refine wi_ic ct_82_32 kc_m2 ?_
      refine wi_iret ct_82_34 rfl (wk_i ?_)
      refine wi_aload_2 ct_211_681 ?_
      refine wi_aloadT_0 ct_211_682 ?_
      refine wi_iload_3 ct_211_683 ?_
      refine wi_ic ct_211_684 kc_1 ?_
      refine wi_iadd ct_211_685 rfl ?_
      refine wi_ialdT (j := I + 1) (x := a1) ct_211_686 (sL_SC hS) (i_in (i_add hi ki_1 (by omega)) (by omega)) (i_cl (i_add hi ki_1 (by omega)) (by omega)) (((hsc _).trans e1)) ?_
      refine wi_aloadT_0 ct_211_687 ?_
      refine wi_iload_3 ct_211_688 ?_
      refine wi_ic ct_211_689 kc_2 ?_
      refine wi_iadd ct_211_690 rfl ?_
      refine wi_ialdT (j := I + 2) (x := a2) ct_211_691 (sL_SC hS) (i_in (i_add hi ki_2 (by omega)) (by omega)) (i_cl (i_add hi ki_2 (by omega)) (by omega)) (((hsc _).trans e2)) ?_
      refine wi_cv2 (ls' := [some _, some _, some _]) ct_211_692 (Nat.le_of_ble_eq_true rfl) (by decide) (sT_31 hS) rfl (by decide) rfl rfl (Nat.le_of_ble_eq_true rfl) ?_
      refine wi_aload_0 ct_166_0 ?_
      refine wi_iload_2 ct_166_1 ?_
      refine wi_ic ct_166_2 kc_0 ?_
      refine wi_aload_0 ct_166_3 ?_
      refine wi_gf (x := fi 31 0) ct_166_4 (sT_31 hS) rfl rfl rfl ?_
      refine wi_ic ct_166_7 kc_1 ?_
      refine wi_isub ct_166_8 rfl ?_
      refine wi_cv3 (ls' := [some _, some _, some _, some _]) ct_166_9 (Nat.le_of_ble_eq_true rfl) (by decide) (sT_31 hS) rfl (by decide) rfl rfl (Nat.le_of_ble_eq_true rfl) ?_
      refine c_in hCn ki_0 (i_sub hNb ki_1 (by omega)) (fun _ => wk_i ?_) (fun h => absurd h (by omega))
      refine wi_ifne_t ct_166_12 ki_1 (by decide) ?_
      refine wi_aload_0 ct_166_29 ?_
      refine wi_iload_1 ct_166_30 ?_
      refine wi_ic ct_166_31 kc_0 ?_
      refine wi_ic ct_166_32 kc_20 ?_
      refine wi_cv3 (ls' := [some _, some _, some _, some _]) ct_166_34 (Nat.le_of_ble_eq_true rfl) (by decide) (sT_31 hS) rfl (by decide) rfl rfl (Nat.le_of_ble_eq_true rfl) ?_
      refine c_in rfl ki_0 ki_20 (fun h => absurd h (by omega)) (fun _ => wk_i ?_)
      refine wi_ifne_f ct_166_37 ki_0 (by decide) ?_
      refine wi_ic ct_166_40 kc_m2 ?_
      refine wi_iret ct_166_42 rfl (wk_i ?_)
      refine wi_iceq_t ct_211_695 ki_m2 ki_m2 (by decide) ?_
      exact kk own g fi fl hR (by omega) (by omega)
  · skip
    refine wi_aload_1 ct_211_667 ?_
    refine wi_aloadT_0 ct_211_668 ?_
    refine wi_iload_3 ct_211_669 ?_
    refine wi_ic ct_211_670 kc_1 ?_
    refine wi_iadd ct_211_671 rfl ?_
    refine wi_ialdT (j := I + 1) (x := a1) ct_211_672 (sL_SC hS) (i_in (i_add hi ki_1 (by omega)) (by omega)) (i_cl (i_add hi ki_1 (by omega)) (by omega)) (((hsc _).trans e1)) ?_
    refine wi_aloadT_0 ct_211_673 ?_
    refine wi_iload_3 ct_211_674 ?_
    refine wi_ic ct_211_675 kc_2 ?_
    refine wi_iadd ct_211_676 rfl ?_
    refine wi_ialdT (j := I + 2) (x := a2) ct_211_677 (sL_SC hS) (i_in (i_add hi ki_2 (by omega)) (by omega)) (i_cl (i_add hi ki_2 (by omega)) (by omega)) (((hsc _).trans e2)) ?_
    refine wi_cv2 (ls' := [some _, some _, some _]) ct_211_678 (Nat.le_of_ble_eq_true rfl) (by decide) (sT_0 hS) rfl (by decide) rfl rfl (Nat.le_of_ble_eq_true rfl) ?_
    refine wi_aload_0 ct_82_0 ?_
    refine wi_iload_2 ct_82_1 ?_
    refine wi_cv1 (ls' := [some _, some _]) ct_82_2 (Nat.le_of_ble_eq_true rfl) (by decide) (sT_0 hS) rfl (by decide) rfl rfl (Nat.le_of_ble_eq_true rfl) ?_
    refine wi_iload_1 ct_104_0 ?_
    refine wi_ic ct_104_1 kc_0 ?_
    refine wi_aload_0 ct_104_2 ?_
    refine wi_gfr ct_104_3 (sT_0 hS) rfl (sR_0_0 hS) ?_
    refine wi_gf (x := fi 31 0) ct_104_6 (sT_1 hS) rfl rfl c0 ?_
    refine wi_ic ct_104_9 kc_1 ?_
    refine wi_isub ct_104_10 rfl ?_
    refine wi_cs3 (ls' := [some _, some _, some _]) ct_104_11 (Nat.le_of_ble_eq_true rfl) rfl (Nat.le_of_ble_eq_true rfl) ?_
    refine c_within rfl ki_0 (i_sub hNb ki_1 (by omega)) (fun h => absurd h (by omega)) (fun _ => wk_i ?_)
    refine wi_ifeq_t ct_104_14 ki_0 (by decide) ?_
    refine wi_null ct_104_29 ?_
    refine wi_aretn ct_104_30 (wk_n ?_)
    refine wi_ifnonnull_n ct_82_5 ?_
    refine wi_iload_2 ct_82_8 ?_
    refine wi_ic ct_82_9 kc_10 ?_
    refine wi_iceq ct_82_11 rfl ki_10 (fun h5 => ?_) (fun h5 => ?_)
    · skip
      refine wi_iload_1 ct_82_22 ?_
      refine wi_ic ct_82_23 kc_0 ?_
      refine wi_ic ct_82_24 kc_20 ?_
      refine wi_cs3 (ls' := [some _, some _, some _]) ct_82_26 (Nat.le_of_ble_eq_true rfl) rfl (Nat.le_of_ble_eq_true rfl) ?_
      refine c_within rfl ki_0 ki_20 (fun h6 => wk_i ?_) (fun h6 => wk_i ?_)
      · skip
        refine wi_ifne_t ct_82_29 ki_1 (by decide) ?_
        refine wi_aload_0 ct_82_35 ?_
        refine wi_iload_1 ct_82_36 ?_
        refine wi_cv1 (ls' := [some _, some _, none, none, none]) ct_82_37 (Nat.le_of_ble_eq_true rfl) (by decide) (sT_0 hS) rfl (by decide) rfl rfl (Nat.le_of_ble_eq_true rfl) ?_
        refine wi_ic ct_111_0 kc_0 ?_
        refine wi_istore_2 rfl ct_111_1 ?_
        refine wi_iload_2 ct_111_2 ?_
        refine wi_ic ct_111_3 kc_5 ?_
        refine wi_icge_f ct_111_4 ki_0 ki_5 (by decide) ?_
        refine wi_aload_0 ct_111_7 ?_
        refine wi_gfr ct_111_8 (sT_0 hS) rfl (sR_0_7 hS) ?_
        refine wi_iload_2 ct_111_11 ?_
        refine wi_ic ct_111_12 kc_0 ?_
        refine wi_iast ct_111_13 (sT_20 hS) (sL_20 hS) (by decide) kn_c0 ?_
        refine wi_iinc_2 rfl (z := 1) ct_111_14 (by decide) ?_
        refine wi_goto ct_111_17 ?_
        refine wi_iload_2 ct_111_2 ?_
        refine wi_ic ct_111_3 kc_5 ?_
        refine wi_icge_f ct_111_4 ki_1 ki_5 (by decide) ?_
        refine wi_aload_0 ct_111_7 ?_
        refine wi_gfr ct_111_8 (sT_0 hS) rfl (sR_0_7 hS) ?_
        refine wi_iload_2 ct_111_11 ?_
        refine wi_ic ct_111_12 kc_0 ?_
        refine wi_iast ct_111_13 (sT_20 hS) (sL_20 hS) (by decide) kn_c1 ?_
        refine wi_iinc_2 rfl (z := 2) ct_111_14 (by decide) ?_
        refine wi_goto ct_111_17 ?_
        refine wi_iload_2 ct_111_2 ?_
        refine wi_ic ct_111_3 kc_5 ?_
        refine wi_icge_f ct_111_4 ki_2 ki_5 (by decide) ?_
        refine wi_aload_0 ct_111_7 ?_
        refine wi_gfr ct_111_8 (sT_0 hS) rfl (sR_0_7 hS) ?_
        refine wi_iload_2 ct_111_11 ?_
        refine wi_ic ct_111_12 kc_0 ?_
        refine wi_iast ct_111_13 (sT_20 hS) (sL_20 hS) (by decide) kn_c2 ?_
        refine wi_iinc_2 rfl (z := 3) ct_111_14 (by decide) ?_
        refine wi_goto ct_111_17 ?_
        refine wi_iload_2 ct_111_2 ?_
        refine wi_ic ct_111_3 kc_5 ?_
        refine wi_icge_f ct_111_4 ki_3 ki_5 (by decide) ?_
        refine wi_aload_0 ct_111_7 ?_
        refine wi_gfr ct_111_8 (sT_0 hS) rfl (sR_0_7 hS) ?_
        refine wi_iload_2 ct_111_11 ?_
        refine wi_ic ct_111_12 kc_0 ?_
        refine wi_iast ct_111_13 (sT_20 hS) (sL_20 hS) (by decide) kn_c3 ?_
        refine wi_iinc_2 rfl (z := 4) ct_111_14 (by decide) ?_
        refine wi_goto ct_111_17 ?_
        refine wi_iload_2 ct_111_2 ?_
        refine wi_ic ct_111_3 kc_5 ?_
        refine wi_icge_f ct_111_4 ki_4 ki_5 (by decide) ?_
        refine wi_aload_0 ct_111_7 ?_
        refine wi_gfr ct_111_8 (sT_0 hS) rfl (sR_0_7 hS) ?_
        refine wi_iload_2 ct_111_11 ?_
        refine wi_ic ct_111_12 kc_0 ?_
        refine wi_iast ct_111_13 (sT_20 hS) (sL_20 hS) (by decide) kn_c4 ?_
        refine wi_iinc_2 rfl (z := 5) ct_111_14 (by decide) ?_
        refine wi_goto ct_111_17 ?_
        refine wi_iload_2 ct_111_2 ?_
        refine wi_ic ct_111_3 kc_5 ?_
        refine wi_icge_t ct_111_4 ki_5 ki_5 (by decide) ?_
        refine wi_aload_0 ct_111_20 ?_
        refine wi_ic ct_111_21 kc_0 ?_
        refine wi_pf ct_111_22 (sT_0 hS) rfl ?_
        refine wi_aload_0 ct_111_25 ?_
        refine wi_aload_0 ct_111_26 ?_
        refine wi_gfr ct_111_27 (sT_0 hS) rfl (sR_0_0 hS) ?_
        refine wi_gf (x := fi 31 1) ct_111_30 (sT_1 hS) rfl rfl (Eq.trans (up2_nq (by decide)) (Eq.trans (up2_nq (by decide)) (Eq.trans (up2_nq (by decide)) (Eq.trans (up2_nq (by decide)) (Eq.trans (up2_nq (by decide)) (Eq.trans (up2_nq (by decide)) c1)))))) ?_
        refine wi_pf ct_111_33 (sT_0 hS) rfl ?_
        refine wi_ic ct_111_36 kc_0 ?_
        refine wi_istore_2 rfl ct_111_37 ?_
        refine wi_ic ct_111_38 kc_0 ?_
        refine wi_istore_3 rfl ct_111_39 ?_
        obtain ⟨N8, hN8⟩ : ∃ k : Nat, (a1).toInt = (k : Int) := ⟨_, (i_cln (by omega)).symm⟩
        obtain ⟨Y, hYd⟩ : ∃ Y, dyV Br T M (fi 38 3).toInt N N8 0 (fun _ => 0) 0 (fi 31 1).toInt = Y := ⟨_, rfl⟩
        have hYn := dyV_nn (T := T) (M := M) (D := (fi 38 3).toInt) hBp N8 0 (fun _ => 0) 0 (fi 31 1).toInt (fun _ => Int.le_refl 0)
        rw [hYd] at hYn
        refine vl_cday hR hsq hsx hNb hBr hTq hMq hN8 (by omega) N8 0 (fun _ => 0) 0 (fi 31 1).toInt _ _ _ _ none (by omega) (((((((SCR.rfl.w (by omega)).w (by omega)).w (by omega)).w (by omega)).w (by omega)).w (by omega)).w (by omega)) (ki_0.trans rfl) (fun _ => ki_0.trans (by simp)) (fun _ => ki_0) rfl (fun j hj => match j, hj with
          | 0, _ => ((congrArg Int32.toInt (Eq.trans (up2_nq (by decide)) (Eq.trans (up2_nq (by decide)) (Eq.trans (up2_nj (by decide)) (Eq.trans (up2_nj (by decide)) (Eq.trans (up2_nj (by decide)) (Eq.trans (up2_nj (by decide)) up2_eq))))))).trans ki_0)
          | 1, _ => ((congrArg Int32.toInt (Eq.trans (up2_nq (by decide)) (Eq.trans (up2_nq (by decide)) (Eq.trans (up2_nj (by decide)) (Eq.trans (up2_nj (by decide)) (Eq.trans (up2_nj (by decide)) up2_eq)))))).trans ki_0)
          | 2, _ => ((congrArg Int32.toInt (Eq.trans (up2_nq (by decide)) (Eq.trans (up2_nq (by decide)) (Eq.trans (up2_nj (by decide)) (Eq.trans (up2_nj (by decide)) up2_eq))))).trans ki_0)
          | 3, _ => ((congrArg Int32.toInt (Eq.trans (up2_nq (by decide)) (Eq.trans (up2_nq (by decide)) (Eq.trans (up2_nj (by decide)) up2_eq)))).trans ki_0)
          | 4, _ => ((congrArg Int32.toInt (Eq.trans (up2_nq (by decide)) (Eq.trans (up2_nq (by decide)) up2_eq))).trans ki_0)
          | j + 5, hj => absurd hj (by omega)) (fun _ => by omega) ((congrArg Int32.toInt (Eq.trans (up2_nj (by decide)) up2_eq)).trans ki_0) (by omega) ((congrArg Int32.toInt up2_eq).trans rfl) (by omega) (fun gc7 fc7 hsc7 hdc71 hdc72 hdc73 => wk_v ?_)
        rw [hYd] at hdc71 hdc72 hdc73
        have hSc7 := (hR.scr hsc7).1
        refine wi_iload_2 ct_82_40 ?_
        refine wi_ic ct_82_41 kc_10 ?_
        refine wi_icne_f ct_82_43 rfl ki_10 (by omega) ?_
        refine wi_aload_0 ct_82_46 ?_
        refine wi_gf (x := fc7 0 8) ct_82_47 (sT_0 hSc7) rfl rfl rfl ?_
        refine wi_iret ct_82_50 rfl (wk_i ?_)
        refine wi_aload_2 ct_211_681 ?_
        refine wi_aloadT_0 ct_211_682 ?_
        refine wi_iload_3 ct_211_683 ?_
        refine wi_ic ct_211_684 kc_1 ?_
        refine wi_iadd ct_211_685 rfl ?_
        refine wi_ialdT (j := I + 1) (x := a1) ct_211_686 (sL_SC hSc7) (i_in (i_add hi ki_1 (by omega)) (by omega)) (i_cl (i_add hi ki_1 (by omega)) (by omega)) ((Eq.trans (congrFun (hsc7.2.1 am_SC (by unfold am_SC; decide)) _) ((hsc _).trans e1))) ?_
        refine wi_aloadT_0 ct_211_687 ?_
        refine wi_iload_3 ct_211_688 ?_
        refine wi_ic ct_211_689 kc_2 ?_
        refine wi_iadd ct_211_690 rfl ?_
        refine wi_ialdT (j := I + 2) (x := a2) ct_211_691 (sL_SC hSc7) (i_in (i_add hi ki_2 (by omega)) (by omega)) (i_cl (i_add hi ki_2 (by omega)) (by omega)) ((Eq.trans (congrFun (hsc7.2.1 am_SC (by unfold am_SC; decide)) _) ((hsc _).trans e2))) ?_
        refine wi_cv2 (ls' := [some _, some _, some _]) ct_211_692 (Nat.le_of_ble_eq_true rfl) (by decide) (sT_31 hSc7) rfl (by decide) rfl rfl (Nat.le_of_ble_eq_true rfl) ?_
        refine wi_aload_0 ct_166_0 ?_
        refine wi_iload_2 ct_166_1 ?_
        refine wi_ic ct_166_2 kc_0 ?_
        refine wi_aload_0 ct_166_3 ?_
        refine wi_gf (x := fi 31 0) ct_166_4 (sT_31 hSc7) rfl rfl (hsc7.2.2.2 0 (by omega)) ?_
        refine wi_ic ct_166_7 kc_1 ?_
        refine wi_isub ct_166_8 rfl ?_
        refine wi_cv3 (ls' := [some _, some _, some _, some _]) ct_166_9 (Nat.le_of_ble_eq_true rfl) (by decide) (sT_31 hSc7) rfl (by decide) rfl rfl (Nat.le_of_ble_eq_true rfl) ?_
        refine c_in rfl ki_0 (i_sub hNb ki_1 (by omega)) (fun h => absurd h (by omega)) (fun _ => wk_i ?_)
        refine wi_ifne_f ct_166_12 ki_0 (by decide) ?_
        refine wi_aload_0 ct_166_15 ?_
        refine wi_iload_2 ct_166_16 ?_
        refine wi_ic ct_166_17 kc_10 ?_
        refine wi_ic ct_166_19 kc_11 ?_
        refine wi_cv3 (ls' := [some _, some _, some _, some _]) ct_166_21 (Nat.le_of_ble_eq_true rfl) (by decide) (sT_31 hSc7) rfl (by decide) rfl rfl (Nat.le_of_ble_eq_true rfl) ?_
        refine c_in rfl ki_10 ki_11 (fun _ => wk_i ?_) (fun h => absurd h (by omega))
        refine wi_ifne_t ct_166_24 ki_1 (by decide) ?_
        refine wi_aload_0 ct_166_29 ?_
        refine wi_iload_1 ct_166_30 ?_
        refine wi_ic ct_166_31 kc_0 ?_
        refine wi_ic ct_166_32 kc_20 ?_
        refine wi_cv3 (ls' := [some _, some _, some _, some _]) ct_166_34 (Nat.le_of_ble_eq_true rfl) (by decide) (sT_31 hSc7) rfl (by decide) rfl rfl (Nat.le_of_ble_eq_true rfl) ?_
        refine c_in hN8 ki_0 ki_20 (fun _ => wk_i ?_) (fun h => absurd h (by omega))
        refine wi_ifne_t ct_166_37 ki_1 (by decide) ?_
        refine wi_aload_0 ct_166_43 ?_
        refine wi_iload_1 ct_166_44 ?_
        refine wi_cv1 (ls' := [some _, some _, none, none]) ct_166_45 (Nat.le_of_ble_eq_true rfl) (by decide) (sT_31 hSc7) rfl (by decide) rfl rfl (Nat.le_of_ble_eq_true rfl) ?_
        refine wi_ic ct_165_0 kc_0 ?_
        refine wi_istore_2 rfl ct_165_1 ?_
        refine wi_iload_2 ct_165_2 ?_
        refine wi_ic ct_165_3 kc_5 ?_
        refine wi_icge_f ct_165_4 ki_0 ki_5 (by decide) ?_
        refine wi_aload_0 ct_165_7 ?_
        refine wi_gfr ct_165_8 (sT_31 hSc7) rfl (sR_31_37 hSc7) ?_
        refine wi_iload_2 ct_165_11 ?_
        refine wi_ic ct_165_12 kc_0 ?_
        refine wi_iast ct_165_13 (sT_49 hSc7) (sL_49 hSc7) (by decide) kn_c0 ?_
        refine wi_iinc_2 rfl (z := 1) ct_165_14 (by decide) ?_
        refine wi_goto ct_165_17 ?_
        refine wi_iload_2 ct_165_2 ?_
        refine wi_ic ct_165_3 kc_5 ?_
        refine wi_icge_f ct_165_4 ki_1 ki_5 (by decide) ?_
        refine wi_aload_0 ct_165_7 ?_
        refine wi_gfr ct_165_8 (sT_31 hSc7) rfl (sR_31_37 hSc7) ?_
        refine wi_iload_2 ct_165_11 ?_
        refine wi_ic ct_165_12 kc_0 ?_
        refine wi_iast ct_165_13 (sT_49 hSc7) (sL_49 hSc7) (by decide) kn_c1 ?_
        refine wi_iinc_2 rfl (z := 2) ct_165_14 (by decide) ?_
        refine wi_goto ct_165_17 ?_
        refine wi_iload_2 ct_165_2 ?_
        refine wi_ic ct_165_3 kc_5 ?_
        refine wi_icge_f ct_165_4 ki_2 ki_5 (by decide) ?_
        refine wi_aload_0 ct_165_7 ?_
        refine wi_gfr ct_165_8 (sT_31 hSc7) rfl (sR_31_37 hSc7) ?_
        refine wi_iload_2 ct_165_11 ?_
        refine wi_ic ct_165_12 kc_0 ?_
        refine wi_iast ct_165_13 (sT_49 hSc7) (sL_49 hSc7) (by decide) kn_c2 ?_
        refine wi_iinc_2 rfl (z := 3) ct_165_14 (by decide) ?_
        refine wi_goto ct_165_17 ?_
        refine wi_iload_2 ct_165_2 ?_
        refine wi_ic ct_165_3 kc_5 ?_
        refine wi_icge_f ct_165_4 ki_3 ki_5 (by decide) ?_
        refine wi_aload_0 ct_165_7 ?_
        refine wi_gfr ct_165_8 (sT_31 hSc7) rfl (sR_31_37 hSc7) ?_
        refine wi_iload_2 ct_165_11 ?_
        refine wi_ic ct_165_12 kc_0 ?_
        refine wi_iast ct_165_13 (sT_49 hSc7) (sL_49 hSc7) (by decide) kn_c3 ?_
        refine wi_iinc_2 rfl (z := 4) ct_165_14 (by decide) ?_
        refine wi_goto ct_165_17 ?_
        refine wi_iload_2 ct_165_2 ?_
        refine wi_ic ct_165_3 kc_5 ?_
        refine wi_icge_f ct_165_4 ki_4 ki_5 (by decide) ?_
        refine wi_aload_0 ct_165_7 ?_
        refine wi_gfr ct_165_8 (sT_31 hSc7) rfl (sR_31_37 hSc7) ?_
        refine wi_iload_2 ct_165_11 ?_
        refine wi_ic ct_165_12 kc_0 ?_
        refine wi_iast ct_165_13 (sT_49 hSc7) (sL_49 hSc7) (by decide) kn_c4 ?_
        refine wi_iinc_2 rfl (z := 5) ct_165_14 (by decide) ?_
        refine wi_goto ct_165_17 ?_
        refine wi_iload_2 ct_165_2 ?_
        refine wi_ic ct_165_3 kc_5 ?_
        refine wi_icge_t ct_165_4 ki_5 ki_5 (by decide) ?_
        refine wi_aload_0 ct_165_20 ?_
        refine wi_ic ct_165_21 kc_0 ?_
        refine wi_pf ct_165_22 (sT_31 hSc7) rfl ?_
        refine wi_aload_0 ct_165_25 ?_
        refine wi_aload_0 ct_165_26 ?_
        refine wi_gf (x := fi 31 1) ct_165_27 (sT_31 hSc7) rfl rfl (Eq.trans (up2_nj (by decide)) (Eq.trans (up2_nq (by decide)) (Eq.trans (up2_nq (by decide)) (Eq.trans (up2_nq (by decide)) (Eq.trans (up2_nq (by decide)) (Eq.trans (up2_nq (by decide)) (hsc7.2.2.2 1 (by omega)))))))) ?_
        refine wi_pf ct_165_30 (sT_31 hSc7) rfl ?_
        refine wi_ic ct_165_33 kc_0 ?_
        refine wi_istore_2 rfl ct_165_34 ?_
        refine vl_mday hR hsq hNb hBr hTq hMq hN8 (by omega) N8 0 (fun _ => 0) 0 (fi 31 1).toInt _ _ 0 _ none (by omega) (((((((hsc7.w (by omega)).w (by omega)).w (by omega)).w (by omega)).w (by omega)).w (by omega)).w (by omega)) (ki_0.trans rfl) rfl (fun j hj => match j, hj with
          | 0, _ => ((congrArg Int32.toInt (Eq.trans (up2_nq (by decide)) (Eq.trans (up2_nq (by decide)) (Eq.trans (up2_nj (by decide)) (Eq.trans (up2_nj (by decide)) (Eq.trans (up2_nj (by decide)) (Eq.trans (up2_nj (by decide)) up2_eq))))))).trans ki_0)
          | 1, _ => ((congrArg Int32.toInt (Eq.trans (up2_nq (by decide)) (Eq.trans (up2_nq (by decide)) (Eq.trans (up2_nj (by decide)) (Eq.trans (up2_nj (by decide)) (Eq.trans (up2_nj (by decide)) up2_eq)))))).trans ki_0)
          | 2, _ => ((congrArg Int32.toInt (Eq.trans (up2_nq (by decide)) (Eq.trans (up2_nq (by decide)) (Eq.trans (up2_nj (by decide)) (Eq.trans (up2_nj (by decide)) up2_eq))))).trans ki_0)
          | 3, _ => ((congrArg Int32.toInt (Eq.trans (up2_nq (by decide)) (Eq.trans (up2_nq (by decide)) (Eq.trans (up2_nj (by decide)) up2_eq)))).trans ki_0)
          | 4, _ => ((congrArg Int32.toInt (Eq.trans (up2_nq (by decide)) (Eq.trans (up2_nq (by decide)) up2_eq))).trans ki_0)
          | j + 5, hj => absurd hj (by omega)) (fun _ => by omega) ((congrArg Int32.toInt (Eq.trans (up2_nj (by decide)) up2_eq)).trans ki_0) (by omega) ((congrArg Int32.toInt up2_eq).trans rfl) (by omega) (fun gm9 fm9 hsm9 hdm91 hdm92 hdm93 hgm9 => wk_v ?_)
        rw [hYd] at hdm91 hdm92 hdm93
        subst hgm9
        refine wi_iload_2 ct_166_48 ?_
        refine wi_ic ct_166_49 kc_10 ?_
        refine wi_icne_f ct_166_51 rfl ki_10 (by omega) ?_
        refine wi_aload_0 ct_166_54 ?_
        refine wi_gf (x := fm9 31 38) ct_166_55 (sT_31 hSc7) rfl rfl rfl ?_
        refine wi_goto ct_166_58 ?_
        refine wi_iret ct_166_80 rfl (wk_i ?_)
        refine wi_iceq_t ct_211_695 hdc72 hdm92 (by omega) ?_
        exact kk own _ _ fl (hR.scr hsm9) (by rw [hsm9.nx]; omega) (by rw [hsm9.sl]; omega)
      · skip
        refine wi_ifne_f ct_82_29 ki_0 (by decide) ?_
        refine wi_ic ct_82_32 kc_m2 ?_
        refine wi_iret ct_82_34 rfl (wk_i ?_)
        refine wi_aload_2 ct_211_681 ?_
        refine wi_aloadT_0 ct_211_682 ?_
        refine wi_iload_3 ct_211_683 ?_
        refine wi_ic ct_211_684 kc_1 ?_
        refine wi_iadd ct_211_685 rfl ?_
        refine wi_ialdT (j := I + 1) (x := a1) ct_211_686 (sL_SC hS) (i_in (i_add hi ki_1 (by omega)) (by omega)) (i_cl (i_add hi ki_1 (by omega)) (by omega)) (((hsc _).trans e1)) ?_
        refine wi_aloadT_0 ct_211_687 ?_
        refine wi_iload_3 ct_211_688 ?_
        refine wi_ic ct_211_689 kc_2 ?_
        refine wi_iadd ct_211_690 rfl ?_
        refine wi_ialdT (j := I + 2) (x := a2) ct_211_691 (sL_SC hS) (i_in (i_add hi ki_2 (by omega)) (by omega)) (i_cl (i_add hi ki_2 (by omega)) (by omega)) (((hsc _).trans e2)) ?_
        refine wi_cv2 (ls' := [some _, some _, some _]) ct_211_692 (Nat.le_of_ble_eq_true rfl) (by decide) (sT_31 hS) rfl (by decide) rfl rfl (Nat.le_of_ble_eq_true rfl) ?_
        refine wi_aload_0 ct_166_0 ?_
        refine wi_iload_2 ct_166_1 ?_
        refine wi_ic ct_166_2 kc_0 ?_
        refine wi_aload_0 ct_166_3 ?_
        refine wi_gf (x := fi 31 0) ct_166_4 (sT_31 hS) rfl rfl rfl ?_
        refine wi_ic ct_166_7 kc_1 ?_
        refine wi_isub ct_166_8 rfl ?_
        refine wi_cv3 (ls' := [some _, some _, some _, some _]) ct_166_9 (Nat.le_of_ble_eq_true rfl) (by decide) (sT_31 hS) rfl (by decide) rfl rfl (Nat.le_of_ble_eq_true rfl) ?_
        refine c_in rfl ki_0 (i_sub hNb ki_1 (by omega)) (fun h => absurd h (by omega)) (fun _ => wk_i ?_)
        refine wi_ifne_f ct_166_12 ki_0 (by decide) ?_
        refine wi_aload_0 ct_166_15 ?_
        refine wi_iload_2 ct_166_16 ?_
        refine wi_ic ct_166_17 kc_10 ?_
        refine wi_ic ct_166_19 kc_11 ?_
        refine wi_cv3 (ls' := [some _, some _, some _, some _]) ct_166_21 (Nat.le_of_ble_eq_true rfl) (by decide) (sT_31 hS) rfl (by decide) rfl rfl (Nat.le_of_ble_eq_true rfl) ?_
        refine c_in rfl ki_10 ki_11 (fun _ => wk_i ?_) (fun h => absurd h (by omega))
        refine wi_ifne_t ct_166_24 ki_1 (by decide) ?_
        refine wi_aload_0 ct_166_29 ?_
        refine wi_iload_1 ct_166_30 ?_
        refine wi_ic ct_166_31 kc_0 ?_
        refine wi_ic ct_166_32 kc_20 ?_
        refine wi_cv3 (ls' := [some _, some _, some _, some _]) ct_166_34 (Nat.le_of_ble_eq_true rfl) (by decide) (sT_31 hS) rfl (by decide) rfl rfl (Nat.le_of_ble_eq_true rfl) ?_
        refine c_in rfl ki_0 ki_20 (fun h => absurd h (by omega)) (fun _ => wk_i ?_)
        refine wi_ifne_f ct_166_37 ki_0 (by decide) ?_
        refine wi_ic ct_166_40 kc_m2 ?_
        refine wi_iret ct_166_42 rfl (wk_i ?_)
        refine wi_iceq_t ct_211_695 ki_m2 ki_m2 (by decide) ?_
        exact kk own g fi fl hR (by omega) (by omega)
    · skip
      refine wi_iload_2 ct_82_14 ?_
      refine wi_ic ct_82_15 kc_11 ?_
      refine wi_iceq ct_82_17 rfl ki_11 (fun h10 => ?_) (fun h10 => ?_)
      · skip
        refine wi_iload_1 ct_82_22 ?_
        refine wi_ic ct_82_23 kc_0 ?_
        refine wi_ic ct_82_24 kc_20 ?_
        refine wi_cs3 (ls' := [some _, some _, some _]) ct_82_26 (Nat.le_of_ble_eq_true rfl) rfl (Nat.le_of_ble_eq_true rfl) ?_
        refine c_within rfl ki_0 ki_20 (fun h11 => wk_i ?_) (fun h11 => wk_i ?_)
        · skip
          refine wi_ifne_t ct_82_29 ki_1 (by decide) ?_
          refine wi_aload_0 ct_82_35 ?_
          refine wi_iload_1 ct_82_36 ?_
          refine wi_cv1 (ls' := [some _, some _, none, none, none]) ct_82_37 (Nat.le_of_ble_eq_true rfl) (by decide) (sT_0 hS) rfl (by decide) rfl rfl (Nat.le_of_ble_eq_true rfl) ?_
          refine wi_ic ct_111_0 kc_0 ?_
          refine wi_istore_2 rfl ct_111_1 ?_
          refine wi_iload_2 ct_111_2 ?_
          refine wi_ic ct_111_3 kc_5 ?_
          refine wi_icge_f ct_111_4 ki_0 ki_5 (by decide) ?_
          refine wi_aload_0 ct_111_7 ?_
          refine wi_gfr ct_111_8 (sT_0 hS) rfl (sR_0_7 hS) ?_
          refine wi_iload_2 ct_111_11 ?_
          refine wi_ic ct_111_12 kc_0 ?_
          refine wi_iast ct_111_13 (sT_20 hS) (sL_20 hS) (by decide) kn_c0 ?_
          refine wi_iinc_2 rfl (z := 1) ct_111_14 (by decide) ?_
          refine wi_goto ct_111_17 ?_
          refine wi_iload_2 ct_111_2 ?_
          refine wi_ic ct_111_3 kc_5 ?_
          refine wi_icge_f ct_111_4 ki_1 ki_5 (by decide) ?_
          refine wi_aload_0 ct_111_7 ?_
          refine wi_gfr ct_111_8 (sT_0 hS) rfl (sR_0_7 hS) ?_
          refine wi_iload_2 ct_111_11 ?_
          refine wi_ic ct_111_12 kc_0 ?_
          refine wi_iast ct_111_13 (sT_20 hS) (sL_20 hS) (by decide) kn_c1 ?_
          refine wi_iinc_2 rfl (z := 2) ct_111_14 (by decide) ?_
          refine wi_goto ct_111_17 ?_
          refine wi_iload_2 ct_111_2 ?_
          refine wi_ic ct_111_3 kc_5 ?_
          refine wi_icge_f ct_111_4 ki_2 ki_5 (by decide) ?_
          refine wi_aload_0 ct_111_7 ?_
          refine wi_gfr ct_111_8 (sT_0 hS) rfl (sR_0_7 hS) ?_
          refine wi_iload_2 ct_111_11 ?_
          refine wi_ic ct_111_12 kc_0 ?_
          refine wi_iast ct_111_13 (sT_20 hS) (sL_20 hS) (by decide) kn_c2 ?_
          refine wi_iinc_2 rfl (z := 3) ct_111_14 (by decide) ?_
          refine wi_goto ct_111_17 ?_
          refine wi_iload_2 ct_111_2 ?_
          refine wi_ic ct_111_3 kc_5 ?_
          refine wi_icge_f ct_111_4 ki_3 ki_5 (by decide) ?_
          refine wi_aload_0 ct_111_7 ?_
          refine wi_gfr ct_111_8 (sT_0 hS) rfl (sR_0_7 hS) ?_
          refine wi_iload_2 ct_111_11 ?_
          refine wi_ic ct_111_12 kc_0 ?_
          refine wi_iast ct_111_13 (sT_20 hS) (sL_20 hS) (by decide) kn_c3 ?_
          refine wi_iinc_2 rfl (z := 4) ct_111_14 (by decide) ?_
          refine wi_goto ct_111_17 ?_
          refine wi_iload_2 ct_111_2 ?_
          refine wi_ic ct_111_3 kc_5 ?_
          refine wi_icge_f ct_111_4 ki_4 ki_5 (by decide) ?_
          refine wi_aload_0 ct_111_7 ?_
          refine wi_gfr ct_111_8 (sT_0 hS) rfl (sR_0_7 hS) ?_
          refine wi_iload_2 ct_111_11 ?_
          refine wi_ic ct_111_12 kc_0 ?_
          refine wi_iast ct_111_13 (sT_20 hS) (sL_20 hS) (by decide) kn_c4 ?_
          refine wi_iinc_2 rfl (z := 5) ct_111_14 (by decide) ?_
          refine wi_goto ct_111_17 ?_
          refine wi_iload_2 ct_111_2 ?_
          refine wi_ic ct_111_3 kc_5 ?_
          refine wi_icge_t ct_111_4 ki_5 ki_5 (by decide) ?_
          refine wi_aload_0 ct_111_20 ?_
          refine wi_ic ct_111_21 kc_0 ?_
          refine wi_pf ct_111_22 (sT_0 hS) rfl ?_
          refine wi_aload_0 ct_111_25 ?_
          refine wi_aload_0 ct_111_26 ?_
          refine wi_gfr ct_111_27 (sT_0 hS) rfl (sR_0_0 hS) ?_
          refine wi_gf (x := fi 31 1) ct_111_30 (sT_1 hS) rfl rfl (Eq.trans (up2_nq (by decide)) (Eq.trans (up2_nq (by decide)) (Eq.trans (up2_nq (by decide)) (Eq.trans (up2_nq (by decide)) (Eq.trans (up2_nq (by decide)) (Eq.trans (up2_nq (by decide)) c1)))))) ?_
          refine wi_pf ct_111_33 (sT_0 hS) rfl ?_
          refine wi_ic ct_111_36 kc_0 ?_
          refine wi_istore_2 rfl ct_111_37 ?_
          refine wi_ic ct_111_38 kc_0 ?_
          refine wi_istore_3 rfl ct_111_39 ?_
          obtain ⟨N13, hN13⟩ : ∃ k : Nat, (a1).toInt = (k : Int) := ⟨_, (i_cln (by omega)).symm⟩
          obtain ⟨Y, hYd⟩ : ∃ Y, dyV Br T M (fi 38 3).toInt N N13 0 (fun _ => 0) 0 (fi 31 1).toInt = Y := ⟨_, rfl⟩
          have hYn := dyV_nn (T := T) (M := M) (D := (fi 38 3).toInt) hBp N13 0 (fun _ => 0) 0 (fi 31 1).toInt (fun _ => Int.le_refl 0)
          rw [hYd] at hYn
          refine vl_cday hR hsq hsx hNb hBr hTq hMq hN13 (by omega) N13 0 (fun _ => 0) 0 (fi 31 1).toInt _ _ _ _ none (by omega) (((((((SCR.rfl.w (by omega)).w (by omega)).w (by omega)).w (by omega)).w (by omega)).w (by omega)).w (by omega)) (ki_0.trans rfl) (fun _ => ki_0.trans (by simp)) (fun _ => ki_0) rfl (fun j hj => match j, hj with
            | 0, _ => ((congrArg Int32.toInt (Eq.trans (up2_nq (by decide)) (Eq.trans (up2_nq (by decide)) (Eq.trans (up2_nj (by decide)) (Eq.trans (up2_nj (by decide)) (Eq.trans (up2_nj (by decide)) (Eq.trans (up2_nj (by decide)) up2_eq))))))).trans ki_0)
            | 1, _ => ((congrArg Int32.toInt (Eq.trans (up2_nq (by decide)) (Eq.trans (up2_nq (by decide)) (Eq.trans (up2_nj (by decide)) (Eq.trans (up2_nj (by decide)) (Eq.trans (up2_nj (by decide)) up2_eq)))))).trans ki_0)
            | 2, _ => ((congrArg Int32.toInt (Eq.trans (up2_nq (by decide)) (Eq.trans (up2_nq (by decide)) (Eq.trans (up2_nj (by decide)) (Eq.trans (up2_nj (by decide)) up2_eq))))).trans ki_0)
            | 3, _ => ((congrArg Int32.toInt (Eq.trans (up2_nq (by decide)) (Eq.trans (up2_nq (by decide)) (Eq.trans (up2_nj (by decide)) up2_eq)))).trans ki_0)
            | 4, _ => ((congrArg Int32.toInt (Eq.trans (up2_nq (by decide)) (Eq.trans (up2_nq (by decide)) up2_eq))).trans ki_0)
            | j + 5, hj => absurd hj (by omega)) (fun _ => by omega) ((congrArg Int32.toInt (Eq.trans (up2_nj (by decide)) up2_eq)).trans ki_0) (by omega) ((congrArg Int32.toInt up2_eq).trans rfl) (by omega) (fun gc12 fc12 hsc12 hdc121 hdc122 hdc123 => wk_v ?_)
          rw [hYd] at hdc121 hdc122 hdc123
          have hSc12 := (hR.scr hsc12).1
          refine wi_iload_2 ct_82_40 ?_
          refine wi_ic ct_82_41 kc_10 ?_
          refine wi_icne_t ct_82_43 rfl ki_10 (by omega) ?_
          refine wi_iload_2 ct_82_51 ?_
          refine wi_ic ct_82_52 kc_11 ?_
          refine wi_icne_f ct_82_54 rfl ki_11 (by omega) ?_
          refine wi_aload_0 ct_82_57 ?_
          refine wi_gf (x := fc12 0 9) ct_82_58 (sT_0 hSc12) rfl rfl rfl ?_
          refine wi_iret ct_82_61 rfl (wk_i ?_)
          refine wi_aload_2 ct_211_681 ?_
          refine wi_aloadT_0 ct_211_682 ?_
          refine wi_iload_3 ct_211_683 ?_
          refine wi_ic ct_211_684 kc_1 ?_
          refine wi_iadd ct_211_685 rfl ?_
          refine wi_ialdT (j := I + 1) (x := a1) ct_211_686 (sL_SC hSc12) (i_in (i_add hi ki_1 (by omega)) (by omega)) (i_cl (i_add hi ki_1 (by omega)) (by omega)) ((Eq.trans (congrFun (hsc12.2.1 am_SC (by unfold am_SC; decide)) _) ((hsc _).trans e1))) ?_
          refine wi_aloadT_0 ct_211_687 ?_
          refine wi_iload_3 ct_211_688 ?_
          refine wi_ic ct_211_689 kc_2 ?_
          refine wi_iadd ct_211_690 rfl ?_
          refine wi_ialdT (j := I + 2) (x := a2) ct_211_691 (sL_SC hSc12) (i_in (i_add hi ki_2 (by omega)) (by omega)) (i_cl (i_add hi ki_2 (by omega)) (by omega)) ((Eq.trans (congrFun (hsc12.2.1 am_SC (by unfold am_SC; decide)) _) ((hsc _).trans e2))) ?_
          refine wi_cv2 (ls' := [some _, some _, some _]) ct_211_692 (Nat.le_of_ble_eq_true rfl) (by decide) (sT_31 hSc12) rfl (by decide) rfl rfl (Nat.le_of_ble_eq_true rfl) ?_
          refine wi_aload_0 ct_166_0 ?_
          refine wi_iload_2 ct_166_1 ?_
          refine wi_ic ct_166_2 kc_0 ?_
          refine wi_aload_0 ct_166_3 ?_
          refine wi_gf (x := fi 31 0) ct_166_4 (sT_31 hSc12) rfl rfl (hsc12.2.2.2 0 (by omega)) ?_
          refine wi_ic ct_166_7 kc_1 ?_
          refine wi_isub ct_166_8 rfl ?_
          refine wi_cv3 (ls' := [some _, some _, some _, some _]) ct_166_9 (Nat.le_of_ble_eq_true rfl) (by decide) (sT_31 hSc12) rfl (by decide) rfl rfl (Nat.le_of_ble_eq_true rfl) ?_
          refine c_in rfl ki_0 (i_sub hNb ki_1 (by omega)) (fun h => absurd h (by omega)) (fun _ => wk_i ?_)
          refine wi_ifne_f ct_166_12 ki_0 (by decide) ?_
          refine wi_aload_0 ct_166_15 ?_
          refine wi_iload_2 ct_166_16 ?_
          refine wi_ic ct_166_17 kc_10 ?_
          refine wi_ic ct_166_19 kc_11 ?_
          refine wi_cv3 (ls' := [some _, some _, some _, some _]) ct_166_21 (Nat.le_of_ble_eq_true rfl) (by decide) (sT_31 hSc12) rfl (by decide) rfl rfl (Nat.le_of_ble_eq_true rfl) ?_
          refine c_in rfl ki_10 ki_11 (fun _ => wk_i ?_) (fun h => absurd h (by omega))
          refine wi_ifne_t ct_166_24 ki_1 (by decide) ?_
          refine wi_aload_0 ct_166_29 ?_
          refine wi_iload_1 ct_166_30 ?_
          refine wi_ic ct_166_31 kc_0 ?_
          refine wi_ic ct_166_32 kc_20 ?_
          refine wi_cv3 (ls' := [some _, some _, some _, some _]) ct_166_34 (Nat.le_of_ble_eq_true rfl) (by decide) (sT_31 hSc12) rfl (by decide) rfl rfl (Nat.le_of_ble_eq_true rfl) ?_
          refine c_in hN13 ki_0 ki_20 (fun _ => wk_i ?_) (fun h => absurd h (by omega))
          refine wi_ifne_t ct_166_37 ki_1 (by decide) ?_
          refine wi_aload_0 ct_166_43 ?_
          refine wi_iload_1 ct_166_44 ?_
          refine wi_cv1 (ls' := [some _, some _, none, none]) ct_166_45 (Nat.le_of_ble_eq_true rfl) (by decide) (sT_31 hSc12) rfl (by decide) rfl rfl (Nat.le_of_ble_eq_true rfl) ?_
          refine wi_ic ct_165_0 kc_0 ?_
          refine wi_istore_2 rfl ct_165_1 ?_
          refine wi_iload_2 ct_165_2 ?_
          refine wi_ic ct_165_3 kc_5 ?_
          refine wi_icge_f ct_165_4 ki_0 ki_5 (by decide) ?_
          refine wi_aload_0 ct_165_7 ?_
          refine wi_gfr ct_165_8 (sT_31 hSc12) rfl (sR_31_37 hSc12) ?_
          refine wi_iload_2 ct_165_11 ?_
          refine wi_ic ct_165_12 kc_0 ?_
          refine wi_iast ct_165_13 (sT_49 hSc12) (sL_49 hSc12) (by decide) kn_c0 ?_
          refine wi_iinc_2 rfl (z := 1) ct_165_14 (by decide) ?_
          refine wi_goto ct_165_17 ?_
          refine wi_iload_2 ct_165_2 ?_
          refine wi_ic ct_165_3 kc_5 ?_
          refine wi_icge_f ct_165_4 ki_1 ki_5 (by decide) ?_
          refine wi_aload_0 ct_165_7 ?_
          refine wi_gfr ct_165_8 (sT_31 hSc12) rfl (sR_31_37 hSc12) ?_
          refine wi_iload_2 ct_165_11 ?_
          refine wi_ic ct_165_12 kc_0 ?_
          refine wi_iast ct_165_13 (sT_49 hSc12) (sL_49 hSc12) (by decide) kn_c1 ?_
          refine wi_iinc_2 rfl (z := 2) ct_165_14 (by decide) ?_
          refine wi_goto ct_165_17 ?_
          refine wi_iload_2 ct_165_2 ?_
          refine wi_ic ct_165_3 kc_5 ?_
          refine wi_icge_f ct_165_4 ki_2 ki_5 (by decide) ?_
          refine wi_aload_0 ct_165_7 ?_
          refine wi_gfr ct_165_8 (sT_31 hSc12) rfl (sR_31_37 hSc12) ?_
          refine wi_iload_2 ct_165_11 ?_
          refine wi_ic ct_165_12 kc_0 ?_
          refine wi_iast ct_165_13 (sT_49 hSc12) (sL_49 hSc12) (by decide) kn_c2 ?_
          refine wi_iinc_2 rfl (z := 3) ct_165_14 (by decide) ?_
          refine wi_goto ct_165_17 ?_
          refine wi_iload_2 ct_165_2 ?_
          refine wi_ic ct_165_3 kc_5 ?_
          refine wi_icge_f ct_165_4 ki_3 ki_5 (by decide) ?_
          refine wi_aload_0 ct_165_7 ?_
          refine wi_gfr ct_165_8 (sT_31 hSc12) rfl (sR_31_37 hSc12) ?_
          refine wi_iload_2 ct_165_11 ?_
          refine wi_ic ct_165_12 kc_0 ?_
          refine wi_iast ct_165_13 (sT_49 hSc12) (sL_49 hSc12) (by decide) kn_c3 ?_
          refine wi_iinc_2 rfl (z := 4) ct_165_14 (by decide) ?_
          refine wi_goto ct_165_17 ?_
          refine wi_iload_2 ct_165_2 ?_
          refine wi_ic ct_165_3 kc_5 ?_
          refine wi_icge_f ct_165_4 ki_4 ki_5 (by decide) ?_
          refine wi_aload_0 ct_165_7 ?_
          refine wi_gfr ct_165_8 (sT_31 hSc12) rfl (sR_31_37 hSc12) ?_
          refine wi_iload_2 ct_165_11 ?_
          refine wi_ic ct_165_12 kc_0 ?_
          refine wi_iast ct_165_13 (sT_49 hSc12) (sL_49 hSc12) (by decide) kn_c4 ?_
          refine wi_iinc_2 rfl (z := 5) ct_165_14 (by decide) ?_
          refine wi_goto ct_165_17 ?_
          refine wi_iload_2 ct_165_2 ?_
          refine wi_ic ct_165_3 kc_5 ?_
          refine wi_icge_t ct_165_4 ki_5 ki_5 (by decide) ?_
          refine wi_aload_0 ct_165_20 ?_
          refine wi_ic ct_165_21 kc_0 ?_
          refine wi_pf ct_165_22 (sT_31 hSc12) rfl ?_
          refine wi_aload_0 ct_165_25 ?_
          refine wi_aload_0 ct_165_26 ?_
          refine wi_gf (x := fi 31 1) ct_165_27 (sT_31 hSc12) rfl rfl (Eq.trans (up2_nj (by decide)) (Eq.trans (up2_nq (by decide)) (Eq.trans (up2_nq (by decide)) (Eq.trans (up2_nq (by decide)) (Eq.trans (up2_nq (by decide)) (Eq.trans (up2_nq (by decide)) (hsc12.2.2.2 1 (by omega)))))))) ?_
          refine wi_pf ct_165_30 (sT_31 hSc12) rfl ?_
          refine wi_ic ct_165_33 kc_0 ?_
          refine wi_istore_2 rfl ct_165_34 ?_
          refine vl_mday hR hsq hNb hBr hTq hMq hN13 (by omega) N13 0 (fun _ => 0) 0 (fi 31 1).toInt _ _ 0 _ none (by omega) (((((((hsc12.w (by omega)).w (by omega)).w (by omega)).w (by omega)).w (by omega)).w (by omega)).w (by omega)) (ki_0.trans rfl) rfl (fun j hj => match j, hj with
            | 0, _ => ((congrArg Int32.toInt (Eq.trans (up2_nq (by decide)) (Eq.trans (up2_nq (by decide)) (Eq.trans (up2_nj (by decide)) (Eq.trans (up2_nj (by decide)) (Eq.trans (up2_nj (by decide)) (Eq.trans (up2_nj (by decide)) up2_eq))))))).trans ki_0)
            | 1, _ => ((congrArg Int32.toInt (Eq.trans (up2_nq (by decide)) (Eq.trans (up2_nq (by decide)) (Eq.trans (up2_nj (by decide)) (Eq.trans (up2_nj (by decide)) (Eq.trans (up2_nj (by decide)) up2_eq)))))).trans ki_0)
            | 2, _ => ((congrArg Int32.toInt (Eq.trans (up2_nq (by decide)) (Eq.trans (up2_nq (by decide)) (Eq.trans (up2_nj (by decide)) (Eq.trans (up2_nj (by decide)) up2_eq))))).trans ki_0)
            | 3, _ => ((congrArg Int32.toInt (Eq.trans (up2_nq (by decide)) (Eq.trans (up2_nq (by decide)) (Eq.trans (up2_nj (by decide)) up2_eq)))).trans ki_0)
            | 4, _ => ((congrArg Int32.toInt (Eq.trans (up2_nq (by decide)) (Eq.trans (up2_nq (by decide)) up2_eq))).trans ki_0)
            | j + 5, hj => absurd hj (by omega)) (fun _ => by omega) ((congrArg Int32.toInt (Eq.trans (up2_nj (by decide)) up2_eq)).trans ki_0) (by omega) ((congrArg Int32.toInt up2_eq).trans rfl) (by omega) (fun gm14 fm14 hsm14 hdm141 hdm142 hdm143 hgm14 => wk_v ?_)
          rw [hYd] at hdm141 hdm142 hdm143
          subst hgm14
          refine wi_iload_2 ct_166_48 ?_
          refine wi_ic ct_166_49 kc_10 ?_
          refine wi_icne_t ct_166_51 rfl ki_10 (by omega) ?_
          refine wi_iload_2 ct_166_61 ?_
          refine wi_ic ct_166_62 kc_11 ?_
          refine wi_icne_f ct_166_64 rfl ki_11 (by omega) ?_
          refine wi_aload_0 ct_166_67 ?_
          refine wi_gf (x := fm14 31 39) ct_166_68 (sT_31 hSc12) rfl rfl rfl ?_
          refine wi_goto ct_166_71 ?_
          refine wi_iret ct_166_80 rfl (wk_i ?_)
          refine wi_iceq_t ct_211_695 hdc123 hdm143 (by omega) ?_
          exact kk own _ _ fl (hR.scr hsm14) (by rw [hsm14.nx]; omega) (by rw [hsm14.sl]; omega)
        · skip
          refine wi_ifne_f ct_82_29 ki_0 (by decide) ?_
          refine wi_ic ct_82_32 kc_m2 ?_
          refine wi_iret ct_82_34 rfl (wk_i ?_)
          refine wi_aload_2 ct_211_681 ?_
          refine wi_aloadT_0 ct_211_682 ?_
          refine wi_iload_3 ct_211_683 ?_
          refine wi_ic ct_211_684 kc_1 ?_
          refine wi_iadd ct_211_685 rfl ?_
          refine wi_ialdT (j := I + 1) (x := a1) ct_211_686 (sL_SC hS) (i_in (i_add hi ki_1 (by omega)) (by omega)) (i_cl (i_add hi ki_1 (by omega)) (by omega)) (((hsc _).trans e1)) ?_
          refine wi_aloadT_0 ct_211_687 ?_
          refine wi_iload_3 ct_211_688 ?_
          refine wi_ic ct_211_689 kc_2 ?_
          refine wi_iadd ct_211_690 rfl ?_
          refine wi_ialdT (j := I + 2) (x := a2) ct_211_691 (sL_SC hS) (i_in (i_add hi ki_2 (by omega)) (by omega)) (i_cl (i_add hi ki_2 (by omega)) (by omega)) (((hsc _).trans e2)) ?_
          refine wi_cv2 (ls' := [some _, some _, some _]) ct_211_692 (Nat.le_of_ble_eq_true rfl) (by decide) (sT_31 hS) rfl (by decide) rfl rfl (Nat.le_of_ble_eq_true rfl) ?_
          refine wi_aload_0 ct_166_0 ?_
          refine wi_iload_2 ct_166_1 ?_
          refine wi_ic ct_166_2 kc_0 ?_
          refine wi_aload_0 ct_166_3 ?_
          refine wi_gf (x := fi 31 0) ct_166_4 (sT_31 hS) rfl rfl rfl ?_
          refine wi_ic ct_166_7 kc_1 ?_
          refine wi_isub ct_166_8 rfl ?_
          refine wi_cv3 (ls' := [some _, some _, some _, some _]) ct_166_9 (Nat.le_of_ble_eq_true rfl) (by decide) (sT_31 hS) rfl (by decide) rfl rfl (Nat.le_of_ble_eq_true rfl) ?_
          refine c_in rfl ki_0 (i_sub hNb ki_1 (by omega)) (fun h => absurd h (by omega)) (fun _ => wk_i ?_)
          refine wi_ifne_f ct_166_12 ki_0 (by decide) ?_
          refine wi_aload_0 ct_166_15 ?_
          refine wi_iload_2 ct_166_16 ?_
          refine wi_ic ct_166_17 kc_10 ?_
          refine wi_ic ct_166_19 kc_11 ?_
          refine wi_cv3 (ls' := [some _, some _, some _, some _]) ct_166_21 (Nat.le_of_ble_eq_true rfl) (by decide) (sT_31 hS) rfl (by decide) rfl rfl (Nat.le_of_ble_eq_true rfl) ?_
          refine c_in rfl ki_10 ki_11 (fun _ => wk_i ?_) (fun h => absurd h (by omega))
          refine wi_ifne_t ct_166_24 ki_1 (by decide) ?_
          refine wi_aload_0 ct_166_29 ?_
          refine wi_iload_1 ct_166_30 ?_
          refine wi_ic ct_166_31 kc_0 ?_
          refine wi_ic ct_166_32 kc_20 ?_
          refine wi_cv3 (ls' := [some _, some _, some _, some _]) ct_166_34 (Nat.le_of_ble_eq_true rfl) (by decide) (sT_31 hS) rfl (by decide) rfl rfl (Nat.le_of_ble_eq_true rfl) ?_
          refine c_in rfl ki_0 ki_20 (fun h => absurd h (by omega)) (fun _ => wk_i ?_)
          refine wi_ifne_f ct_166_37 ki_0 (by decide) ?_
          refine wi_ic ct_166_40 kc_m2 ?_
          refine wi_iret ct_166_42 rfl (wk_i ?_)
          refine wi_iceq_t ct_211_695 ki_m2 ki_m2 (by decide) ?_
          exact kk own g fi fl hR (by omega) (by omega)
      · skip
        refine wi_ic ct_82_20 kc_m1 ?_
        refine wi_iret ct_82_21 rfl (wk_i ?_)
        refine wi_aload_2 ct_211_681 ?_
        refine wi_aloadT_0 ct_211_682 ?_
        refine wi_iload_3 ct_211_683 ?_
        refine wi_ic ct_211_684 kc_1 ?_
        refine wi_iadd ct_211_685 rfl ?_
        refine wi_ialdT (j := I + 1) (x := a1) ct_211_686 (sL_SC hS) (i_in (i_add hi ki_1 (by omega)) (by omega)) (i_cl (i_add hi ki_1 (by omega)) (by omega)) (((hsc _).trans e1)) ?_
        refine wi_aloadT_0 ct_211_687 ?_
        refine wi_iload_3 ct_211_688 ?_
        refine wi_ic ct_211_689 kc_2 ?_
        refine wi_iadd ct_211_690 rfl ?_
        refine wi_ialdT (j := I + 2) (x := a2) ct_211_691 (sL_SC hS) (i_in (i_add hi ki_2 (by omega)) (by omega)) (i_cl (i_add hi ki_2 (by omega)) (by omega)) (((hsc _).trans e2)) ?_
        refine wi_cv2 (ls' := [some _, some _, some _]) ct_211_692 (Nat.le_of_ble_eq_true rfl) (by decide) (sT_31 hS) rfl (by decide) rfl rfl (Nat.le_of_ble_eq_true rfl) ?_
        refine wi_aload_0 ct_166_0 ?_
        refine wi_iload_2 ct_166_1 ?_
        refine wi_ic ct_166_2 kc_0 ?_
        refine wi_aload_0 ct_166_3 ?_
        refine wi_gf (x := fi 31 0) ct_166_4 (sT_31 hS) rfl rfl rfl ?_
        refine wi_ic ct_166_7 kc_1 ?_
        refine wi_isub ct_166_8 rfl ?_
        refine wi_cv3 (ls' := [some _, some _, some _, some _]) ct_166_9 (Nat.le_of_ble_eq_true rfl) (by decide) (sT_31 hS) rfl (by decide) rfl rfl (Nat.le_of_ble_eq_true rfl) ?_
        refine c_in rfl ki_0 (i_sub hNb ki_1 (by omega)) (fun h => absurd h (by omega)) (fun _ => wk_i ?_)
        refine wi_ifne_f ct_166_12 ki_0 (by decide) ?_
        refine wi_aload_0 ct_166_15 ?_
        refine wi_iload_2 ct_166_16 ?_
        refine wi_ic ct_166_17 kc_10 ?_
        refine wi_ic ct_166_19 kc_11 ?_
        refine wi_cv3 (ls' := [some _, some _, some _, some _]) ct_166_21 (Nat.le_of_ble_eq_true rfl) (by decide) (sT_31 hS) rfl (by decide) rfl rfl (Nat.le_of_ble_eq_true rfl) ?_
        refine c_in rfl ki_10 ki_11 (fun h => absurd h (by omega)) (fun _ => wk_i ?_)
        refine wi_ifne_f ct_166_24 ki_0 (by decide) ?_
        refine wi_ic ct_166_27 kc_m1 ?_
        refine wi_iret ct_166_28 rfl (wk_i ?_)
        refine wi_iceq_t ct_211_695 ki_m1 ki_m1 (by decide) ?_
        exact kk own g fi fl hR (by omega) (by omega)
set_option maxHeartbeats 2000000 in
theorem op_most {L I : Nat} {xs : Nat → Int32} {own : Nat → Nat} {d : Nat} {g : am_G} {fi : am_I} {fl : am_L} {P : Option Value → am_G → am_I → am_L → Prop} {i : Int32} (hi : i.toInt = (I : Int)) (hI6 : I + 6 ≤ L) (hL : L ≤ 3072) (hR : Rel L xs own g fi fl) (hnx : am_nx g ≤ 800000) (kk : ∀ own' g' fi' fl', Rel L xs own' g' fi' fl' → am_nx g' ≤ am_nx g + 30 → am_sl g' ≤ am_sl g + 1000 → WP (d + 60) 211 1359 [some (.retAddr 0), some (.ref 0), some (.ref 31), some (.int i)] [] g' fi' fl' P) : WP (d + 60) 211 700 [some (.retAddr 0), some (.ref 0), some (.ref 31), some (.int i)] [] g fi fl P := by
  obtain ⟨hS, hsc, hC, hK, hX, hV, hT, hP, hB, hN, hQ, hZ, hI⟩ := id hR
  obtain ⟨⟨c0, c0a, c0b⟩, ⟨c1, c1a, c1b⟩, ⟨c2, c2a, c2b⟩, ⟨c3, c3a, c3b⟩, ⟨c4, c4a, c4b⟩, ⟨c5, c5a, c5b⟩, ⟨c6, c6a, c6b⟩, ⟨c7, c7a, c7b⟩, c8, c9⟩ := id hC
  obtain ⟨a1, e1⟩ : ∃ a, xs (I + 1) = a := ⟨_, rfl⟩
  obtain ⟨sq, hsq, hsx⟩ := sq_of hR
  obtain ⟨N, hNb⟩ : ∃ N : Nat, (fi 31 0).toInt = (N : Int) := ⟨(fi 31 0).toInt.toNat, by omega⟩
  have kq := fun j (h : j < 3) => (hK j (by omega)).2
  have hk0 := kq 0 (by decide)
  have hk1 := kq 1 (by decide)
  have hk2 := kq 2 (by decide)
  have hGb := goodV_bd ⟨hk0.1, hk0.2.2 (by decide)⟩ ⟨hk1.1, hk1.2.2 (by decide)⟩ ⟨hk2.1, hk2.2.2 (by decide)⟩
  obtain ⟨Br, hBr⟩ : ∃ Br : Nat → Int → Int, ∀ b m, Br b m = gBr (mkLk sq b (fi 32 b).toInt (fi 33 b).toInt) (goF fi sq b (goodV (fi 38 0).toInt (fi 38 1).toInt (fi 38 2).toInt) m) := ⟨_, fun _ _ => rfl⟩
  obtain ⟨T, hTq⟩ : ∃ T : Nat → Int → Int, ∀ b m, T b m = (bI (!(goF fi sq b (goodV (fi 38 0).toInt (fi 38 1).toInt (fi 38 2).toInt) m).1)).toInt := ⟨_, fun _ _ => rfl⟩
  obtain ⟨M, hMq⟩ : ∃ M : Nat → Int → Int, ∀ b m, M b m = gMn (goF fi sq b (goodV (fi 38 0).toInt (fi 38 1).toInt (fi 38 2).toInt) m) := ⟨_, fun _ _ => rfl⟩
  have hBp : ∀ b m, b < N → 0 ≤ Br b m := fun b m h => by rw [hBr]; exact (goF_bd hR hsq (by omega) hGb rfl).2.1.1
  refine wi_aload_1 ct_211_700 ?_
  refine wi_aloadT_0 ct_211_701 ?_
  refine wi_iload_3 ct_211_702 ?_
  refine wi_ic ct_211_703 kc_1 ?_
  refine wi_iadd ct_211_704 rfl ?_
  refine wi_ialdT (j := I + 1) (x := a1) ct_211_705 (sL_SC hS) (i_in (i_add hi ki_1 (by omega)) (by omega)) (i_cl (i_add hi ki_1 (by omega)) (by omega)) (((hsc _).trans e1)) ?_
  refine wi_cv1 (ls' := [some _, some _, none, none, none]) ct_211_706 (Nat.le_of_ble_eq_true rfl) (by decide) (sT_0 hS) rfl (by decide) rfl rfl (Nat.le_of_ble_eq_true rfl) ?_
  refine wi_iload_1 ct_83_0 ?_
  refine wi_ic ct_83_1 kc_0 ?_
  refine wi_ic ct_83_2 kc_20 ?_
  refine wi_cs3 (ls' := [some _, some _, some _]) ct_83_4 (Nat.le_of_ble_eq_true rfl) rfl (Nat.le_of_ble_eq_true rfl) ?_
  refine c_within rfl ki_0 ki_20 (fun h1 => wk_i ?_) (fun h1 => wk_i ?_)
  · skip
    refine wi_ifne_t ct_83_7 ki_1 (by decide) ?_
    refine wi_aload_0 ct_83_13 ?_
    refine wi_iload_1 ct_83_14 ?_
    refine wi_cv1 (ls' := [some _, some _, none, none, none]) ct_83_15 (Nat.le_of_ble_eq_true rfl) (by decide) (sT_0 hS) rfl (by decide) rfl rfl (Nat.le_of_ble_eq_true rfl) ?_
    refine wi_ic ct_111_0 kc_0 ?_
    refine wi_istore_2 rfl ct_111_1 ?_
    refine wi_iload_2 ct_111_2 ?_
    refine wi_ic ct_111_3 kc_5 ?_
    refine wi_icge_f ct_111_4 ki_0 ki_5 (by decide) ?_
    refine wi_aload_0 ct_111_7 ?_
    refine wi_gfr ct_111_8 (sT_0 hS) rfl (sR_0_7 hS) ?_
    refine wi_iload_2 ct_111_11 ?_
    refine wi_ic ct_111_12 kc_0 ?_
    refine wi_iast ct_111_13 (sT_20 hS) (sL_20 hS) (by decide) kn_c0 ?_
    refine wi_iinc_2 rfl (z := 1) ct_111_14 (by decide) ?_
    refine wi_goto ct_111_17 ?_
    refine wi_iload_2 ct_111_2 ?_
    refine wi_ic ct_111_3 kc_5 ?_
    refine wi_icge_f ct_111_4 ki_1 ki_5 (by decide) ?_
    refine wi_aload_0 ct_111_7 ?_
    refine wi_gfr ct_111_8 (sT_0 hS) rfl (sR_0_7 hS) ?_
    refine wi_iload_2 ct_111_11 ?_
    refine wi_ic ct_111_12 kc_0 ?_
    refine wi_iast ct_111_13 (sT_20 hS) (sL_20 hS) (by decide) kn_c1 ?_
    refine wi_iinc_2 rfl (z := 2) ct_111_14 (by decide) ?_
    refine wi_goto ct_111_17 ?_
    refine wi_iload_2 ct_111_2 ?_
    refine wi_ic ct_111_3 kc_5 ?_
    refine wi_icge_f ct_111_4 ki_2 ki_5 (by decide) ?_
    refine wi_aload_0 ct_111_7 ?_
    refine wi_gfr ct_111_8 (sT_0 hS) rfl (sR_0_7 hS) ?_
    refine wi_iload_2 ct_111_11 ?_
    refine wi_ic ct_111_12 kc_0 ?_
    refine wi_iast ct_111_13 (sT_20 hS) (sL_20 hS) (by decide) kn_c2 ?_
    refine wi_iinc_2 rfl (z := 3) ct_111_14 (by decide) ?_
    refine wi_goto ct_111_17 ?_
    refine wi_iload_2 ct_111_2 ?_
    refine wi_ic ct_111_3 kc_5 ?_
    refine wi_icge_f ct_111_4 ki_3 ki_5 (by decide) ?_
    refine wi_aload_0 ct_111_7 ?_
    refine wi_gfr ct_111_8 (sT_0 hS) rfl (sR_0_7 hS) ?_
    refine wi_iload_2 ct_111_11 ?_
    refine wi_ic ct_111_12 kc_0 ?_
    refine wi_iast ct_111_13 (sT_20 hS) (sL_20 hS) (by decide) kn_c3 ?_
    refine wi_iinc_2 rfl (z := 4) ct_111_14 (by decide) ?_
    refine wi_goto ct_111_17 ?_
    refine wi_iload_2 ct_111_2 ?_
    refine wi_ic ct_111_3 kc_5 ?_
    refine wi_icge_f ct_111_4 ki_4 ki_5 (by decide) ?_
    refine wi_aload_0 ct_111_7 ?_
    refine wi_gfr ct_111_8 (sT_0 hS) rfl (sR_0_7 hS) ?_
    refine wi_iload_2 ct_111_11 ?_
    refine wi_ic ct_111_12 kc_0 ?_
    refine wi_iast ct_111_13 (sT_20 hS) (sL_20 hS) (by decide) kn_c4 ?_
    refine wi_iinc_2 rfl (z := 5) ct_111_14 (by decide) ?_
    refine wi_goto ct_111_17 ?_
    refine wi_iload_2 ct_111_2 ?_
    refine wi_ic ct_111_3 kc_5 ?_
    refine wi_icge_t ct_111_4 ki_5 ki_5 (by decide) ?_
    refine wi_aload_0 ct_111_20 ?_
    refine wi_ic ct_111_21 kc_0 ?_
    refine wi_pf ct_111_22 (sT_0 hS) rfl ?_
    refine wi_aload_0 ct_111_25 ?_
    refine wi_aload_0 ct_111_26 ?_
    refine wi_gfr ct_111_27 (sT_0 hS) rfl (sR_0_0 hS) ?_
    refine wi_gf (x := fi 31 1) ct_111_30 (sT_1 hS) rfl rfl (Eq.trans (up2_nq (by decide)) (Eq.trans (up2_nq (by decide)) (Eq.trans (up2_nq (by decide)) (Eq.trans (up2_nq (by decide)) (Eq.trans (up2_nq (by decide)) (Eq.trans (up2_nq (by decide)) c1)))))) ?_
    refine wi_pf ct_111_33 (sT_0 hS) rfl ?_
    refine wi_ic ct_111_36 kc_0 ?_
    refine wi_istore_2 rfl ct_111_37 ?_
    refine wi_ic ct_111_38 kc_0 ?_
    refine wi_istore_3 rfl ct_111_39 ?_
    obtain ⟨N3, hN3⟩ : ∃ k : Nat, (a1).toInt = (k : Int) := ⟨_, (i_cln (by omega)).symm⟩
    obtain ⟨Y, hYd⟩ : ∃ Y, dyV Br T M (fi 38 3).toInt N N3 0 (fun _ => 0) 0 (fi 31 1).toInt = Y := ⟨_, rfl⟩
    have hYn := dyV_nn (T := T) (M := M) (D := (fi 38 3).toInt) hBp N3 0 (fun _ => 0) 0 (fi 31 1).toInt (fun _ => Int.le_refl 0)
    rw [hYd] at hYn
    refine vl_cday hR hsq hsx hNb hBr hTq hMq hN3 (by omega) N3 0 (fun _ => 0) 0 (fi 31 1).toInt _ _ _ _ none (by omega) (((((((SCR.rfl.w (by omega)).w (by omega)).w (by omega)).w (by omega)).w (by omega)).w (by omega)).w (by omega)) (ki_0.trans rfl) (fun _ => ki_0.trans (by simp)) (fun _ => ki_0) rfl (fun j hj => match j, hj with
      | 0, _ => ((congrArg Int32.toInt (Eq.trans (up2_nq (by decide)) (Eq.trans (up2_nq (by decide)) (Eq.trans (up2_nj (by decide)) (Eq.trans (up2_nj (by decide)) (Eq.trans (up2_nj (by decide)) (Eq.trans (up2_nj (by decide)) up2_eq))))))).trans ki_0)
      | 1, _ => ((congrArg Int32.toInt (Eq.trans (up2_nq (by decide)) (Eq.trans (up2_nq (by decide)) (Eq.trans (up2_nj (by decide)) (Eq.trans (up2_nj (by decide)) (Eq.trans (up2_nj (by decide)) up2_eq)))))).trans ki_0)
      | 2, _ => ((congrArg Int32.toInt (Eq.trans (up2_nq (by decide)) (Eq.trans (up2_nq (by decide)) (Eq.trans (up2_nj (by decide)) (Eq.trans (up2_nj (by decide)) up2_eq))))).trans ki_0)
      | 3, _ => ((congrArg Int32.toInt (Eq.trans (up2_nq (by decide)) (Eq.trans (up2_nq (by decide)) (Eq.trans (up2_nj (by decide)) up2_eq)))).trans ki_0)
      | 4, _ => ((congrArg Int32.toInt (Eq.trans (up2_nq (by decide)) (Eq.trans (up2_nq (by decide)) up2_eq))).trans ki_0)
      | j + 5, hj => absurd hj (by omega)) (fun _ => by omega) ((congrArg Int32.toInt (Eq.trans (up2_nj (by decide)) up2_eq)).trans ki_0) (by omega) ((congrArg Int32.toInt up2_eq).trans rfl) (by omega) (fun gc2 fc2 hsc2 hdc21 hdc22 hdc23 => wk_v ?_)
    rw [hYd] at hdc21 hdc22 hdc23
    have hSc2 := (hR.scr hsc2).1
    refine wi_ic ct_83_18 kc_m5 ?_
    refine wi_istore_2 rfl ct_83_20 ?_
    refine wi_ic ct_83_21 kc_m1 ?_
    refine wi_istore_3 rfl ct_83_22 ?_
    refine wi_ic ct_83_23 kc_0 ?_
    refine wi_istore_4 rfl ct_83_24 ?_
    refine vl_cmost (N := N) (e := Y.1) hSc2 ((congrArg Int32.toInt (Eq.trans (congrFun (hsc2.2.1 1 (by omega)) _) c0)).trans hNb) (by omega) hdc21 (fun zk4 hzk4 => wk_i ?_) N 0 (-5) (-1) _ _ _ (by omega) (ki_0.trans rfl) ki_m5 ki_m1 rfl
    refine wi_aload_2 ct_211_709 ?_
    refine wi_aloadT_0 ct_211_710 ?_
    refine wi_iload_3 ct_211_711 ?_
    refine wi_ic ct_211_712 kc_1 ?_
    refine wi_iadd ct_211_713 rfl ?_
    refine wi_ialdT (j := I + 1) (x := a1) ct_211_714 (sL_SC hSc2) (i_in (i_add hi ki_1 (by omega)) (by omega)) (i_cl (i_add hi ki_1 (by omega)) (by omega)) ((Eq.trans (congrFun (hsc2.2.1 am_SC (by unfold am_SC; decide)) _) ((hsc _).trans e1))) ?_
    refine wi_cv1 (ls' := [some _, some _, none, none]) ct_211_715 (Nat.le_of_ble_eq_true rfl) (by decide) (sT_31 hSc2) rfl (by decide) rfl rfl (Nat.le_of_ble_eq_true rfl) ?_
    refine wi_aload_0 ct_167_0 ?_
    refine wi_iload_1 ct_167_1 ?_
    refine wi_ic ct_167_2 kc_0 ?_
    refine wi_ic ct_167_3 kc_20 ?_
    refine wi_cv3 (ls' := [some _, some _, some _, some _]) ct_167_5 (Nat.le_of_ble_eq_true rfl) (by decide) (sT_31 hSc2) rfl (by decide) rfl rfl (Nat.le_of_ble_eq_true rfl) ?_
    refine c_in hN3 ki_0 ki_20 (fun _ => wk_i ?_) (fun h => absurd h (by omega))
    refine wi_ifne_t ct_167_8 ki_1 (by decide) ?_
    refine wi_aload_0 ct_167_14 ?_
    refine wi_iload_1 ct_167_15 ?_
    refine wi_cv1 (ls' := [some _, some _, none, none]) ct_167_16 (Nat.le_of_ble_eq_true rfl) (by decide) (sT_31 hSc2) rfl (by decide) rfl rfl (Nat.le_of_ble_eq_true rfl) ?_
    refine wi_ic ct_165_0 kc_0 ?_
    refine wi_istore_2 rfl ct_165_1 ?_
    refine wi_iload_2 ct_165_2 ?_
    refine wi_ic ct_165_3 kc_5 ?_
    refine wi_icge_f ct_165_4 ki_0 ki_5 (by decide) ?_
    refine wi_aload_0 ct_165_7 ?_
    refine wi_gfr ct_165_8 (sT_31 hSc2) rfl (sR_31_37 hSc2) ?_
    refine wi_iload_2 ct_165_11 ?_
    refine wi_ic ct_165_12 kc_0 ?_
    refine wi_iast ct_165_13 (sT_49 hSc2) (sL_49 hSc2) (by decide) kn_c0 ?_
    refine wi_iinc_2 rfl (z := 1) ct_165_14 (by decide) ?_
    refine wi_goto ct_165_17 ?_
    refine wi_iload_2 ct_165_2 ?_
    refine wi_ic ct_165_3 kc_5 ?_
    refine wi_icge_f ct_165_4 ki_1 ki_5 (by decide) ?_
    refine wi_aload_0 ct_165_7 ?_
    refine wi_gfr ct_165_8 (sT_31 hSc2) rfl (sR_31_37 hSc2) ?_
    refine wi_iload_2 ct_165_11 ?_
    refine wi_ic ct_165_12 kc_0 ?_
    refine wi_iast ct_165_13 (sT_49 hSc2) (sL_49 hSc2) (by decide) kn_c1 ?_
    refine wi_iinc_2 rfl (z := 2) ct_165_14 (by decide) ?_
    refine wi_goto ct_165_17 ?_
    refine wi_iload_2 ct_165_2 ?_
    refine wi_ic ct_165_3 kc_5 ?_
    refine wi_icge_f ct_165_4 ki_2 ki_5 (by decide) ?_
    refine wi_aload_0 ct_165_7 ?_
    refine wi_gfr ct_165_8 (sT_31 hSc2) rfl (sR_31_37 hSc2) ?_
    refine wi_iload_2 ct_165_11 ?_
    refine wi_ic ct_165_12 kc_0 ?_
    refine wi_iast ct_165_13 (sT_49 hSc2) (sL_49 hSc2) (by decide) kn_c2 ?_
    refine wi_iinc_2 rfl (z := 3) ct_165_14 (by decide) ?_
    refine wi_goto ct_165_17 ?_
    refine wi_iload_2 ct_165_2 ?_
    refine wi_ic ct_165_3 kc_5 ?_
    refine wi_icge_f ct_165_4 ki_3 ki_5 (by decide) ?_
    refine wi_aload_0 ct_165_7 ?_
    refine wi_gfr ct_165_8 (sT_31 hSc2) rfl (sR_31_37 hSc2) ?_
    refine wi_iload_2 ct_165_11 ?_
    refine wi_ic ct_165_12 kc_0 ?_
    refine wi_iast ct_165_13 (sT_49 hSc2) (sL_49 hSc2) (by decide) kn_c3 ?_
    refine wi_iinc_2 rfl (z := 4) ct_165_14 (by decide) ?_
    refine wi_goto ct_165_17 ?_
    refine wi_iload_2 ct_165_2 ?_
    refine wi_ic ct_165_3 kc_5 ?_
    refine wi_icge_f ct_165_4 ki_4 ki_5 (by decide) ?_
    refine wi_aload_0 ct_165_7 ?_
    refine wi_gfr ct_165_8 (sT_31 hSc2) rfl (sR_31_37 hSc2) ?_
    refine wi_iload_2 ct_165_11 ?_
    refine wi_ic ct_165_12 kc_0 ?_
    refine wi_iast ct_165_13 (sT_49 hSc2) (sL_49 hSc2) (by decide) kn_c4 ?_
    refine wi_iinc_2 rfl (z := 5) ct_165_14 (by decide) ?_
    refine wi_goto ct_165_17 ?_
    refine wi_iload_2 ct_165_2 ?_
    refine wi_ic ct_165_3 kc_5 ?_
    refine wi_icge_t ct_165_4 ki_5 ki_5 (by decide) ?_
    refine wi_aload_0 ct_165_20 ?_
    refine wi_ic ct_165_21 kc_0 ?_
    refine wi_pf ct_165_22 (sT_31 hSc2) rfl ?_
    refine wi_aload_0 ct_165_25 ?_
    refine wi_aload_0 ct_165_26 ?_
    refine wi_gf (x := fi 31 1) ct_165_27 (sT_31 hSc2) rfl rfl (Eq.trans (up2_nj (by decide)) (Eq.trans (up2_nq (by decide)) (Eq.trans (up2_nq (by decide)) (Eq.trans (up2_nq (by decide)) (Eq.trans (up2_nq (by decide)) (Eq.trans (up2_nq (by decide)) (hsc2.2.2.2 1 (by omega)))))))) ?_
    refine wi_pf ct_165_30 (sT_31 hSc2) rfl ?_
    refine wi_ic ct_165_33 kc_0 ?_
    refine wi_istore_2 rfl ct_165_34 ?_
    refine vl_mday hR hsq hNb hBr hTq hMq hN3 (by omega) N3 0 (fun _ => 0) 0 (fi 31 1).toInt _ _ 0 _ none (by omega) (((((((hsc2.w (by omega)).w (by omega)).w (by omega)).w (by omega)).w (by omega)).w (by omega)).w (by omega)) (ki_0.trans rfl) rfl (fun j hj => match j, hj with
      | 0, _ => ((congrArg Int32.toInt (Eq.trans (up2_nq (by decide)) (Eq.trans (up2_nq (by decide)) (Eq.trans (up2_nj (by decide)) (Eq.trans (up2_nj (by decide)) (Eq.trans (up2_nj (by decide)) (Eq.trans (up2_nj (by decide)) up2_eq))))))).trans ki_0)
      | 1, _ => ((congrArg Int32.toInt (Eq.trans (up2_nq (by decide)) (Eq.trans (up2_nq (by decide)) (Eq.trans (up2_nj (by decide)) (Eq.trans (up2_nj (by decide)) (Eq.trans (up2_nj (by decide)) up2_eq)))))).trans ki_0)
      | 2, _ => ((congrArg Int32.toInt (Eq.trans (up2_nq (by decide)) (Eq.trans (up2_nq (by decide)) (Eq.trans (up2_nj (by decide)) (Eq.trans (up2_nj (by decide)) up2_eq))))).trans ki_0)
      | 3, _ => ((congrArg Int32.toInt (Eq.trans (up2_nq (by decide)) (Eq.trans (up2_nq (by decide)) (Eq.trans (up2_nj (by decide)) up2_eq)))).trans ki_0)
      | 4, _ => ((congrArg Int32.toInt (Eq.trans (up2_nq (by decide)) (Eq.trans (up2_nq (by decide)) up2_eq))).trans ki_0)
      | j + 5, hj => absurd hj (by omega)) (fun _ => by omega) ((congrArg Int32.toInt (Eq.trans (up2_nj (by decide)) up2_eq)).trans ki_0) (by omega) ((congrArg Int32.toInt up2_eq).trans rfl) (by omega) (fun gm5 fm5 hsm5 hdm51 hdm52 hdm53 hgm5 => wk_v ?_)
    rw [hYd] at hdm51 hdm52 hdm53
    subst hgm5
    refine wi_ic ct_167_19 kc_m5 ?_
    refine wi_istore_2 rfl ct_167_21 ?_
    refine wi_ic ct_167_22 kc_0 ?_
    refine wi_istore_3 rfl ct_167_23 ?_
    refine vl_mmost (N := N) (e := Y.1) hSc2 ((congrArg Int32.toInt (hsm5.2.2.2 0 (by omega))).trans hNb) (by omega) hYn hdm51 (fun zk6 hzk6 => wk_i ?_) N 0 (-5) (-1) _ _ (by omega) (ki_0.trans rfl) ki_m5 (Or.inl ⟨rfl, rfl⟩) rfl
    refine wi_iceq_t ct_211_718 hzk4 hzk6 (by omega) ?_
    exact kk own _ _ fl (hR.scr hsm5) (by rw [hsm5.nx]; omega) (by rw [hsm5.sl]; omega)
  · skip
    refine wi_ifne_f ct_83_7 ki_0 (by decide) ?_
    refine wi_ic ct_83_10 kc_m2 ?_
    refine wi_iret ct_83_12 rfl (wk_i ?_)
    refine wi_aload_2 ct_211_709 ?_
    refine wi_aloadT_0 ct_211_710 ?_
    refine wi_iload_3 ct_211_711 ?_
    refine wi_ic ct_211_712 kc_1 ?_
    refine wi_iadd ct_211_713 rfl ?_
    refine wi_ialdT (j := I + 1) (x := a1) ct_211_714 (sL_SC hS) (i_in (i_add hi ki_1 (by omega)) (by omega)) (i_cl (i_add hi ki_1 (by omega)) (by omega)) (((hsc _).trans e1)) ?_
    refine wi_cv1 (ls' := [some _, some _, none, none]) ct_211_715 (Nat.le_of_ble_eq_true rfl) (by decide) (sT_31 hS) rfl (by decide) rfl rfl (Nat.le_of_ble_eq_true rfl) ?_
    refine wi_aload_0 ct_167_0 ?_
    refine wi_iload_1 ct_167_1 ?_
    refine wi_ic ct_167_2 kc_0 ?_
    refine wi_ic ct_167_3 kc_20 ?_
    refine wi_cv3 (ls' := [some _, some _, some _, some _]) ct_167_5 (Nat.le_of_ble_eq_true rfl) (by decide) (sT_31 hS) rfl (by decide) rfl rfl (Nat.le_of_ble_eq_true rfl) ?_
    refine c_in rfl ki_0 ki_20 (fun h => absurd h (by omega)) (fun _ => wk_i ?_)
    refine wi_ifne_f ct_167_8 ki_0 (by decide) ?_
    refine wi_ic ct_167_11 kc_m2 ?_
    refine wi_iret ct_167_13 rfl (wk_i ?_)
    refine wi_iceq_t ct_211_718 ki_m2 ki_m2 (by decide) ?_
    exact kk own g fi fl hR (by omega) (by omega)
