theorem SF.grq {L : Nat} {g : am_G} (h : SF L g) {q a : Nat} {x : Option Nat} (hn : am_tR.all (fun e => !(e.1 == q)) = true) : SF L (am_gr g q a x) := by
  refine ⟨h.1, h.2.1, fun e he => ?_, h.2.2.2.1, h.2.2.2.2⟩
  have := List.all_eq_true.mp hn e he
  show up2 g.2.2.1 q a x e.1 e.2.1 = _
  unfold up2
  rw [if_neg (fun k => by rw [k.1] at this; simp at this)]
  exact h.2.2.1 e he
set_option maxHeartbeats 2000000 in
theorem op_blower {L I : Nat} {xs : Nat → Int32} {own : Nat → Nat} {d : Nat} {g : am_G} {fi : am_I} {fl : am_L} {P : Option Value → am_G → am_I → am_L → Prop} {i : Int32} (hi : i.toInt = (I : Int)) (hI6 : I + 6 ≤ L) (hL : L ≤ 3072) (hR : Rel L xs own g fi fl) (hnx : am_nx g ≤ 800000) (kk : ∀ own' g' fi' fl', Rel L xs own' g' fi' fl' → am_nx g' ≤ am_nx g + 30 → am_sl g' ≤ am_sl g + 1000 → WP (d + 60) 211 1359 [some (.retAddr 0), some (.ref 0), some (.ref 31), some (.int i)] [] g' fi' fl' P) : WP (d + 60) 211 192 [some (.retAddr 0), some (.ref 0), some (.ref 31), some (.int i)] [] g fi fl P := by
  obtain ⟨hS, hsc, hC, hK, hX, hV, hT, hP, hB, hN, hQ, hZ, hI⟩ := id hR
  obtain ⟨⟨c0, c0a, c0b⟩, ⟨c1, c1a, c1b⟩, ⟨c2, c2a, c2b⟩, ⟨c3, c3a, c3b⟩, ⟨c4, c4a, c4b⟩, ⟨c5, c5a, c5b⟩, ⟨c6, c6a, c6b⟩, ⟨c7, c7a, c7b⟩, c8, c9⟩ := id hC
  obtain ⟨a1, e1⟩ : ∃ a, xs (I + 1) = a := ⟨_, rfl⟩
  obtain ⟨a2, e2⟩ : ∃ a, xs (I + 2) = a := ⟨_, rfl⟩
  obtain ⟨a3, e3⟩ : ∃ a, xs (I + 3) = a := ⟨_, rfl⟩
  obtain ⟨a4, e4⟩ : ∃ a, xs (I + 4) = a := ⟨_, rfl⟩
  obtain ⟨B, hBn⟩ : ∃ B : Nat, (fi 31 0).toInt = (B : Int) := ⟨(fi 31 0).toInt.toNat, by omega⟩
  refine wi_aload_1 ct_211_192 ?_
  refine wi_aloadT_0 ct_211_193 ?_
  refine wi_iload_3 ct_211_194 ?_
  refine wi_ic ct_211_195 kc_1 ?_
  refine wi_iadd ct_211_196 rfl ?_
  refine wi_ialdT (j := I + 1) (x := a1) ct_211_197 (sL_SC hS) (i_in (i_add hi ki_1 (by omega)) (by omega)) (i_cl (i_add hi ki_1 (by omega)) (by omega)) (((hsc _).trans e1)) ?_
  refine wi_aloadT_0 ct_211_198 ?_
  refine wi_iload_3 ct_211_199 ?_
  refine wi_ic ct_211_200 kc_2 ?_
  refine wi_iadd ct_211_201 rfl ?_
  refine wi_ialdT (j := I + 2) (x := a2) ct_211_202 (sL_SC hS) (i_in (i_add hi ki_2 (by omega)) (by omega)) (i_cl (i_add hi ki_2 (by omega)) (by omega)) (((hsc _).trans e2)) ?_
  refine wi_aloadT_0 ct_211_203 ?_
  refine wi_iload_3 ct_211_204 ?_
  refine wi_ic ct_211_205 kc_3 ?_
  refine wi_iadd ct_211_206 rfl ?_
  refine wi_ialdT (j := I + 3) (x := a3) ct_211_207 (sL_SC hS) (i_in (i_add hi ki_3 (by omega)) (by omega)) (i_cl (i_add hi ki_3 (by omega)) (by omega)) (((hsc _).trans e3)) ?_
  refine wi_aloadT_0 ct_211_208 ?_
  refine wi_iload_3 ct_211_209 ?_
  refine wi_ic ct_211_210 kc_4 ?_
  refine wi_iadd ct_211_211 rfl ?_
  refine wi_ialdT (j := I + 4) (x := a4) ct_211_212 (sL_SC hS) (i_in (i_add hi ki_4 (by omega)) (by omega)) (i_cl (i_add hi ki_4 (by omega)) (by omega)) (((hsc _).trans e4)) ?_
  refine wi_cv4 (ls' := [some _, some _, some _, some _, some _, none]) ct_211_213 (Nat.le_of_ble_eq_true rfl) (by decide) (sT_0 hS) rfl (by decide) rfl rfl (Nat.le_of_ble_eq_true rfl) ?_
  refine wi_iload_1 ct_67_0 ?_
  refine wi_iflt ct_67_1 rfl (fun h1 => ?_) (fun h1 => ?_)
  · skip
    refine wi_ic ct_67_10 kc_m1 ?_
    refine wi_iret ct_67_11 rfl (wk_i ?_)
    refine wi_aload_2 ct_211_216 ?_
    refine wi_aloadT_0 ct_211_217 ?_
    refine wi_iload_3 ct_211_218 ?_
    refine wi_ic ct_211_219 kc_1 ?_
    refine wi_iadd ct_211_220 rfl ?_
    refine wi_ialdT (j := I + 1) (x := a1) ct_211_221 (sL_SC hS) (i_in (i_add hi ki_1 (by omega)) (by omega)) (i_cl (i_add hi ki_1 (by omega)) (by omega)) (((hsc _).trans e1)) ?_
    refine wi_aloadT_0 ct_211_222 ?_
    refine wi_iload_3 ct_211_223 ?_
    refine wi_ic ct_211_224 kc_2 ?_
    refine wi_iadd ct_211_225 rfl ?_
    refine wi_ialdT (j := I + 2) (x := a2) ct_211_226 (sL_SC hS) (i_in (i_add hi ki_2 (by omega)) (by omega)) (i_cl (i_add hi ki_2 (by omega)) (by omega)) (((hsc _).trans e2)) ?_
    refine wi_aloadT_0 ct_211_227 ?_
    refine wi_iload_3 ct_211_228 ?_
    refine wi_ic ct_211_229 kc_3 ?_
    refine wi_iadd ct_211_230 rfl ?_
    refine wi_ialdT (j := I + 3) (x := a3) ct_211_231 (sL_SC hS) (i_in (i_add hi ki_3 (by omega)) (by omega)) (i_cl (i_add hi ki_3 (by omega)) (by omega)) (((hsc _).trans e3)) ?_
    refine wi_aloadT_0 ct_211_232 ?_
    refine wi_iload_3 ct_211_233 ?_
    refine wi_ic ct_211_234 kc_4 ?_
    refine wi_iadd ct_211_235 rfl ?_
    refine wi_ialdT (j := I + 4) (x := a4) ct_211_236 (sL_SC hS) (i_in (i_add hi ki_4 (by omega)) (by omega)) (i_cl (i_add hi ki_4 (by omega)) (by omega)) (((hsc _).trans e4)) ?_
    refine wi_cv4 (ls' := [some _, some _, some _, some _, some _, none]) ct_211_237 (Nat.le_of_ble_eq_true rfl) (by decide) (sT_31 hS) rfl (by decide) rfl rfl (Nat.le_of_ble_eq_true rfl) ?_
    refine wi_aload_0 ct_121_0 ?_
    refine wi_iload_1 ct_121_1 ?_
    refine wi_ic ct_121_2 kc_0 ?_
    refine wi_ic ct_121_3 kc_6 ?_
    refine wi_cv3 (ls' := [some _, some _, some _, some _]) ct_121_5 (Nat.le_of_ble_eq_true rfl) (by decide) (sT_31 hS) rfl (by decide) rfl rfl (Nat.le_of_ble_eq_true rfl) ?_
    refine c_in rfl ki_0 ki_6 (fun h => absurd h (by omega)) (fun _ => wk_i ?_)
    refine wi_ifne_f ct_121_8 ki_0 (by decide) ?_
    refine wi_ic ct_121_11 kc_m1 ?_
    refine wi_iret ct_121_12 rfl (wk_i ?_)
    refine wi_iceq_t ct_211_240 ki_m1 ki_m1 (by decide) ?_
    exact kk own g fi fl hR (by omega) (by omega)
  · skip
    refine wi_iload_1 ct_67_4 ?_
    refine wi_ic ct_67_5 kc_6 ?_
    refine wi_icle ct_67_7 rfl ki_6 (fun h2 => ?_) (fun h2 => ?_)
    · skip
      refine wi_iload_2 ct_67_12 ?_
      refine wi_ic ct_67_13 kc_0 ?_
      refine wi_ic ct_67_14 kc_9 ?_
      refine wi_cs3 (ls' := [some _, some _, some _]) ct_67_16 (Nat.le_of_ble_eq_true rfl) rfl (Nat.le_of_ble_eq_true rfl) ?_
      refine c_within rfl ki_0 ki_9 (fun h3 => wk_i ?_) (fun h3 => wk_i ?_)
      · skip
        refine wi_ifeq_f ct_67_19 ki_1 (by decide) ?_
        refine wi_iload_3 ct_67_22 ?_
        refine wi_ic ct_67_23 kc_1 ?_
        refine wi_ic ct_67_24 kc_9 ?_
        refine wi_cs3 (ls' := [some _, some _, some _]) ct_67_26 (Nat.le_of_ble_eq_true rfl) rfl (Nat.le_of_ble_eq_true rfl) ?_
        refine c_within rfl ki_1 ki_9 (fun h4 => wk_i ?_) (fun h4 => wk_i ?_)
        · skip
          refine wi_ifeq_f ct_67_29 ki_1 (by decide) ?_
          refine wi_iload_4 ct_67_32 ?_
          refine wi_ic ct_67_34 kc_1 ?_
          refine wi_ic ct_67_35 kc_60 ?_
          refine wi_cs3 (ls' := [some _, some _, some _]) ct_67_37 (Nat.le_of_ble_eq_true rfl) rfl (Nat.le_of_ble_eq_true rfl) ?_
          refine c_within rfl ki_1 ki_60 (fun h5 => wk_i ?_) (fun h5 => wk_i ?_)
          · skip
            refine wi_ifne_t ct_67_40 ki_1 (by decide) ?_
            refine wi_aload_0 ct_67_46 ?_
            refine wi_gfr ct_67_47 (sT_0 hS) rfl (sR_0_0 hS) ?_
            refine wi_gf (x := fi 31 0) ct_67_50 (sT_1 hS) rfl rfl c0 ?_
            refine wi_ic ct_67_53 kc_5 ?_
            refine wi_iclt ct_67_54 hBn ki_5 (fun h6 => ?_) (fun h6 => ?_)
            · skip
              refine wi_aload_0 ct_67_60 ?_
              refine wi_gfr ct_67_61 (sT_0 hS) rfl (sR_0_0 hS) ?_
              refine wi_gf (x := fi 31 0) ct_67_64 (sT_1 hS) rfl rfl c0 ?_
              refine wi_istore_5 rfl ct_67_67 ?_
              refine wi_aload_0 ct_67_69 ?_
              refine wi_gfr ct_67_70 (sT_0 hS) rfl (sR_0_0 hS) ?_
              refine wi_gfr ct_67_73 (sT_1 hS) rfl (sR_1_0 hS) ?_
              refine wi_iload_5 ct_67_76 ?_
              refine wi_iload_1 ct_67_78 ?_
              refine wi_iload_5 ct_67_79 ?_
              refine wi_iload_2 ct_67_81 ?_
              refine wi_iload_3 ct_67_82 ?_
              refine wi_iload_4 ct_67_83 ?_
              refine wi_cs5 (ls' := [some _, some _, some _, some _, some _]) ct_67_85 (Nat.le_of_ble_eq_true rfl) rfl (Nat.le_of_ble_eq_true rfl) ?_
              refine wi_iload_0 ct_105_0 ?_
              rcases Decidable.em ((a1).toInt = 1) with h7 | h7
              · refine wi_tsw (X := 1) (t := 40) ct_105_1 (by omega) rfl ?_
                obtain ⟨p, hp⟩ : ∃ p, am_nx g = p := ⟨_, rfl⟩
                have hp72 : 72 ≤ p := hp ▸ hS.nx
                refine wi_newF ct_105_40 hp (by omega) (fun gn8 fin8 fln8 hmn8 hzn8 hln8 => ?_)
                have hSn8 := hS.mkF hmn8 (by omega)
                refine wi_dup ct_105_43 rfl ?_
                refine wi_iload_0 ct_105_44 ?_
                refine wi_iload_1 ct_105_45 ?_
                refine wi_iload_2 ct_105_46 ?_
                refine wi_iload_3 ct_105_47 ?_
                refine wi_iload_4 ct_105_48 ?_
                refine wi_cp5 (ls' := [some _, some _, some _, some _, some _, some _]) ct_105_50 (Nat.le_of_ble_eq_true rfl) hmn8.2.2.2.1 (by decide) rfl (Nat.le_of_ble_eq_true rfl) ?_
                refine wi_aload_0 ct_10_0 ?_
                refine wi_iload_1 ct_10_1 ?_
                refine wi_iload_2 ct_10_2 ?_
                refine wi_iload_3 ct_10_3 ?_
                refine wi_iload_4 ct_10_4 ?_
                refine wi_iload_5 ct_10_6 ?_
                refine wi_cp5 (ls' := [some _, some _, some _, some _, some _, some _]) ct_10_8 (Nat.le_of_ble_eq_true rfl) hmn8.2.2.2.1 (by decide) rfl (Nat.le_of_ble_eq_true rfl) ?_
                refine wi_aload_0 ct_0_0 ?_
                refine wi_obj ct_0_1 (Nat.le_of_ble_eq_true rfl) ?_
                refine wi_aload_0 ct_0_4 ?_
                refine wi_ic ct_0_5 kc_0 ?_
                refine wi_pf ct_0_6 hmn8.2.2.2.1 rfl ?_
                refine wi_aload_0 ct_0_9 ?_
                refine wi_iload_1 ct_0_10 ?_
                refine wi_pf ct_0_11 hmn8.2.2.2.1 rfl ?_
                refine wi_aload_0 ct_0_14 ?_
                refine wi_iload_2 ct_0_15 ?_
                refine wi_pf ct_0_16 hmn8.2.2.2.1 rfl ?_
                refine wi_aload_0 ct_0_19 ?_
                refine wi_iload_3 ct_0_20 ?_
                refine wi_pf ct_0_21 hmn8.2.2.2.1 rfl ?_
                refine wi_aload_0 ct_0_24 ?_
                refine wi_iload_4 ct_0_25 ?_
                refine wi_pf ct_0_27 hmn8.2.2.2.1 rfl ?_
                refine wi_aload_0 ct_0_30 ?_
                refine wi_iload_5 ct_0_31 ?_
                refine wi_pf ct_0_33 hmn8.2.2.2.1 rfl ?_
                refine wi_ret ct_0_36 (wk_v ?_)
                refine wi_ret ct_10_11 (wk_v ?_)
                refine wi_aret ct_105_53 (wk_r ?_)
                refine wi_aast ct_67_88 (Or.inl ⟨(sT_2 hSn8), (hmn8.2.2.2.1).symm ▸ rfl⟩) (sL_2 hSn8) (i_in hBn (by omega)) (i_cl (k := B) hBn (by omega)) ?_
                have hS9 := hSn8.grq (q := 2) (a := B) (x := (some p)) (by decide)
                refine wi_aload_0 ct_67_89 ?_
                refine wi_gfr ct_67_90 (sT_0 hS9) rfl (sR_0_0 hS9) ?_
                refine wi_dup ct_67_93 rfl ?_
                refine wi_gf (x := fi 31 0) ct_67_94 (sT_1 hS9) rfl rfl (Eq.trans (up2_nq (by omega)) (Eq.trans (up2_nq (by omega)) (Eq.trans (up2_nq (by omega)) (Eq.trans (up2_nq (by omega)) (Eq.trans (up2_nq (by omega)) (Eq.trans (up2_nq (by omega)) (Eq.trans (congrFun (hzn8.2 _ (by omega)) _) c0))))))) ?_
                refine wi_ic ct_67_97 kc_1 ?_
                refine wi_iadd ct_67_98 rfl ?_
                refine wi_pf ct_67_99 (sT_1 hS9) rfl ?_
                refine wi_iload_5 ct_67_102 ?_
                refine wi_iret ct_67_104 rfl (wk_i ?_)
                refine wi_aload_2 ct_211_216 ?_
                refine wi_aloadT_0 ct_211_217 ?_
                refine wi_iload_3 ct_211_218 ?_
                refine wi_ic ct_211_219 kc_1 ?_
                refine wi_iadd ct_211_220 rfl ?_
                refine wi_ialdT (j := I + 1) (x := a1) ct_211_221 (sL_SC hS9) (i_in (i_add hi ki_1 (by omega)) (by omega)) (i_cl (i_add hi ki_1 (by omega)) (by omega)) ((Eq.trans (up2_nq (by decide)) (Eq.trans (up2_nq (sc_nd (by omega))) (Eq.trans (up2_nq (sc_nd (by omega))) (Eq.trans (up2_nq (sc_nd (by omega))) (Eq.trans (up2_nq (sc_nd (by omega))) (Eq.trans (up2_nq (sc_nd (by omega))) (Eq.trans (up2_nq (sc_nd (by omega))) (Eq.trans (congrFun (hzn8.2 _ (sc_nd (by omega))) _) ((hsc _).trans e1)))))))))) ?_
                refine wi_aloadT_0 ct_211_222 ?_
                refine wi_iload_3 ct_211_223 ?_
                refine wi_ic ct_211_224 kc_2 ?_
                refine wi_iadd ct_211_225 rfl ?_
                refine wi_ialdT (j := I + 2) (x := a2) ct_211_226 (sL_SC hS9) (i_in (i_add hi ki_2 (by omega)) (by omega)) (i_cl (i_add hi ki_2 (by omega)) (by omega)) ((Eq.trans (up2_nq (by decide)) (Eq.trans (up2_nq (sc_nd (by omega))) (Eq.trans (up2_nq (sc_nd (by omega))) (Eq.trans (up2_nq (sc_nd (by omega))) (Eq.trans (up2_nq (sc_nd (by omega))) (Eq.trans (up2_nq (sc_nd (by omega))) (Eq.trans (up2_nq (sc_nd (by omega))) (Eq.trans (congrFun (hzn8.2 _ (sc_nd (by omega))) _) ((hsc _).trans e2)))))))))) ?_
                refine wi_aloadT_0 ct_211_227 ?_
                refine wi_iload_3 ct_211_228 ?_
                refine wi_ic ct_211_229 kc_3 ?_
                refine wi_iadd ct_211_230 rfl ?_
                refine wi_ialdT (j := I + 3) (x := a3) ct_211_231 (sL_SC hS9) (i_in (i_add hi ki_3 (by omega)) (by omega)) (i_cl (i_add hi ki_3 (by omega)) (by omega)) ((Eq.trans (up2_nq (by decide)) (Eq.trans (up2_nq (sc_nd (by omega))) (Eq.trans (up2_nq (sc_nd (by omega))) (Eq.trans (up2_nq (sc_nd (by omega))) (Eq.trans (up2_nq (sc_nd (by omega))) (Eq.trans (up2_nq (sc_nd (by omega))) (Eq.trans (up2_nq (sc_nd (by omega))) (Eq.trans (congrFun (hzn8.2 _ (sc_nd (by omega))) _) ((hsc _).trans e3)))))))))) ?_
                refine wi_aloadT_0 ct_211_232 ?_
                refine wi_iload_3 ct_211_233 ?_
                refine wi_ic ct_211_234 kc_4 ?_
                refine wi_iadd ct_211_235 rfl ?_
                refine wi_ialdT (j := I + 4) (x := a4) ct_211_236 (sL_SC hS9) (i_in (i_add hi ki_4 (by omega)) (by omega)) (i_cl (i_add hi ki_4 (by omega)) (by omega)) ((Eq.trans (up2_nq (by decide)) (Eq.trans (up2_nq (sc_nd (by omega))) (Eq.trans (up2_nq (sc_nd (by omega))) (Eq.trans (up2_nq (sc_nd (by omega))) (Eq.trans (up2_nq (sc_nd (by omega))) (Eq.trans (up2_nq (sc_nd (by omega))) (Eq.trans (up2_nq (sc_nd (by omega))) (Eq.trans (congrFun (hzn8.2 _ (sc_nd (by omega))) _) ((hsc _).trans e4)))))))))) ?_
                refine wi_cv4 (ls' := [some _, some _, some _, some _, some _, none]) ct_211_237 (Nat.le_of_ble_eq_true rfl) (by decide) (sT_31 hS9) rfl (by decide) rfl rfl (Nat.le_of_ble_eq_true rfl) ?_
                refine wi_aload_0 ct_121_0 ?_
                refine wi_iload_1 ct_121_1 ?_
                refine wi_ic ct_121_2 kc_0 ?_
                refine wi_ic ct_121_3 kc_6 ?_
                refine wi_cv3 (ls' := [some _, some _, some _, some _]) ct_121_5 (Nat.le_of_ble_eq_true rfl) (by decide) (sT_31 hS9) rfl (by decide) rfl rfl (Nat.le_of_ble_eq_true rfl) ?_
                refine c_in rfl ki_0 ki_6 (fun _ => wk_i ?_) (fun h => absurd h (by omega))
                refine wi_ifne_t ct_121_8 ki_1 (by decide) ?_
                refine wi_aload_0 ct_121_13 ?_
                refine wi_iload_2 ct_121_14 ?_
                refine wi_ic ct_121_15 kc_0 ?_
                refine wi_ic ct_121_16 kc_9 ?_
                refine wi_cv3 (ls' := [some _, some _, some _, some _]) ct_121_18 (Nat.le_of_ble_eq_true rfl) (by decide) (sT_31 hS9) rfl (by decide) rfl rfl (Nat.le_of_ble_eq_true rfl) ?_
                refine c_in rfl ki_0 ki_9 (fun _ => wk_i ?_) (fun h => absurd h (by omega))
                refine wi_ifeq_f ct_121_21 ki_1 (by decide) ?_
                refine wi_aload_0 ct_121_24 ?_
                refine wi_iload_3 ct_121_25 ?_
                refine wi_ic ct_121_26 kc_1 ?_
                refine wi_ic ct_121_27 kc_9 ?_
                refine wi_cv3 (ls' := [some _, some _, some _, some _]) ct_121_29 (Nat.le_of_ble_eq_true rfl) (by decide) (sT_31 hS9) rfl (by decide) rfl rfl (Nat.le_of_ble_eq_true rfl) ?_
                refine c_in rfl ki_1 ki_9 (fun _ => wk_i ?_) (fun h => absurd h (by omega))
                refine wi_ifeq_f ct_121_32 ki_1 (by decide) ?_
                refine wi_aload_0 ct_121_35 ?_
                refine wi_iload_4 ct_121_36 ?_
                refine wi_ic ct_121_38 kc_1 ?_
                refine wi_ic ct_121_39 kc_60 ?_
                refine wi_cv3 (ls' := [some _, some _, some _, some _]) ct_121_41 (Nat.le_of_ble_eq_true rfl) (by decide) (sT_31 hS9) rfl (by decide) rfl rfl (Nat.le_of_ble_eq_true rfl) ?_
                refine c_in rfl ki_1 ki_60 (fun _ => wk_i ?_) (fun h => absurd h (by omega))
                refine wi_ifne_t ct_121_44 ki_1 (by decide) ?_
                refine wi_aload_0 ct_121_50 ?_
                refine wi_gf (x := fi 31 0) ct_121_51 (sT_31 hS9) rfl rfl (Eq.trans (up2_nq (by decide)) (Eq.trans (up2_nq (by omega)) (Eq.trans (up2_nq (by omega)) (Eq.trans (up2_nq (by omega)) (Eq.trans (up2_nq (by omega)) (Eq.trans (up2_nq (by omega)) (Eq.trans (up2_nq (by omega)) (congrFun (hzn8.2 _ (by omega)) _)))))))) ?_
                refine wi_ic ct_121_54 kc_5 ?_
                refine wi_icne_t ct_121_55 hBn ki_5 (by omega) ?_
                refine wi_aload_0 ct_121_61 ?_
                refine wi_gfr ct_121_62 (sT_31 hS9) rfl (sR_31_2 hS9) ?_
                refine wi_aload_0 ct_121_65 ?_
                refine wi_gf (x := fi 31 0) ct_121_66 (sT_31 hS9) rfl rfl (Eq.trans (up2_nq (by decide)) (Eq.trans (up2_nq (by omega)) (Eq.trans (up2_nq (by omega)) (Eq.trans (up2_nq (by omega)) (Eq.trans (up2_nq (by omega)) (Eq.trans (up2_nq (by omega)) (Eq.trans (up2_nq (by omega)) (congrFun (hzn8.2 _ (by omega)) _)))))))) ?_
                refine wi_iload_1 ct_121_69 ?_
                refine wi_iast ct_121_70 (sT_32 hS9) (sL_32 hS9) (i_in hBn (by omega)) (i_cl (k := B) hBn (by omega)) ?_
                refine wi_aload_0 ct_121_71 ?_
                refine wi_gfr ct_121_72 (sT_31 hS9) rfl (sR_31_3 hS9) ?_
                refine wi_aload_0 ct_121_75 ?_
                refine wi_gf (x := fi 31 0) ct_121_76 (sT_31 hS9) rfl rfl (Eq.trans (up2_nq (by decide)) (Eq.trans (up2_nq (by decide)) (Eq.trans (up2_nq (by omega)) (Eq.trans (up2_nq (by omega)) (Eq.trans (up2_nq (by omega)) (Eq.trans (up2_nq (by omega)) (Eq.trans (up2_nq (by omega)) (Eq.trans (up2_nq (by omega)) (congrFun (hzn8.2 _ (by omega)) _))))))))) ?_
                refine wi_iload_2 ct_121_79 ?_
                refine wi_iast ct_121_80 (sT_33 hS9) (sL_33 hS9) (i_in hBn (by omega)) (i_cl (k := B) hBn (by omega)) ?_
                refine wi_aload_0 ct_121_81 ?_
                refine wi_gfr ct_121_82 (sT_31 hS9) rfl (sR_31_4 hS9) ?_
                refine wi_aload_0 ct_121_85 ?_
                refine wi_gf (x := fi 31 0) ct_121_86 (sT_31 hS9) rfl rfl (Eq.trans (up2_nq (by decide)) (Eq.trans (up2_nq (by decide)) (Eq.trans (up2_nq (by decide)) (Eq.trans (up2_nq (by omega)) (Eq.trans (up2_nq (by omega)) (Eq.trans (up2_nq (by omega)) (Eq.trans (up2_nq (by omega)) (Eq.trans (up2_nq (by omega)) (Eq.trans (up2_nq (by omega)) (congrFun (hzn8.2 _ (by omega)) _)))))))))) ?_
                refine wi_iload_3 ct_121_89 ?_
                refine wi_iast ct_121_90 (sT_34 hS9) (sL_34 hS9) (i_in hBn (by omega)) (i_cl (k := B) hBn (by omega)) ?_
                refine wi_aload_0 ct_121_91 ?_
                refine wi_gfr ct_121_92 (sT_31 hS9) rfl (sR_31_5 hS9) ?_
                refine wi_aload_0 ct_121_95 ?_
                refine wi_gf (x := fi 31 0) ct_121_96 (sT_31 hS9) rfl rfl (Eq.trans (up2_nq (by decide)) (Eq.trans (up2_nq (by decide)) (Eq.trans (up2_nq (by decide)) (Eq.trans (up2_nq (by decide)) (Eq.trans (up2_nq (by omega)) (Eq.trans (up2_nq (by omega)) (Eq.trans (up2_nq (by omega)) (Eq.trans (up2_nq (by omega)) (Eq.trans (up2_nq (by omega)) (Eq.trans (up2_nq (by omega)) (congrFun (hzn8.2 _ (by omega)) _))))))))))) ?_
                refine wi_iload_4 ct_121_99 ?_
                refine wi_iast ct_121_101 (sT_35 hS9) (sL_35 hS9) (i_in hBn (by omega)) (i_cl (k := B) hBn (by omega)) ?_
                refine wi_aload_0 ct_121_102 ?_
                refine wi_gfr ct_121_103 (sT_31 hS9) rfl (sR_31_6 hS9) ?_
                refine wi_aload_0 ct_121_106 ?_
                refine wi_gf (x := fi 31 0) ct_121_107 (sT_31 hS9) rfl rfl (Eq.trans (up2_nq (by decide)) (Eq.trans (up2_nq (by decide)) (Eq.trans (up2_nq (by decide)) (Eq.trans (up2_nq (by decide)) (Eq.trans (up2_nq (by decide)) (Eq.trans (up2_nq (by omega)) (Eq.trans (up2_nq (by omega)) (Eq.trans (up2_nq (by omega)) (Eq.trans (up2_nq (by omega)) (Eq.trans (up2_nq (by omega)) (Eq.trans (up2_nq (by omega)) (congrFun (hzn8.2 _ (by omega)) _)))))))))))) ?_
                refine wi_ic ct_121_110 kc_0 ?_
                refine wi_iast ct_121_111 (sT_36 hS9) (sL_36 hS9) (i_in hBn (by omega)) (i_cl (k := B) hBn (by omega)) ?_
                refine wi_ic ct_121_112 kc_0 ?_
                refine wi_istore_5 rfl ct_121_113 ?_
                refine wi_iload_5 ct_121_115 ?_
                refine wi_ic ct_121_117 kc_4 ?_
                refine wi_icge_f ct_121_118 ki_0 ki_4 (by decide) ?_
                refine wi_aload_0 ct_121_121 ?_
                refine wi_gfr ct_121_122 (sT_31 hS9) rfl (sR_31_7 hS9) ?_
                refine wi_ic ct_121_125 kc_4 ?_
                refine wi_aload_0 ct_121_126 ?_
                refine wi_gf (x := fi 31 0) ct_121_127 (sT_31 hS9) rfl rfl (Eq.trans (up2_nq (by decide)) (Eq.trans (up2_nq (by decide)) (Eq.trans (up2_nq (by decide)) (Eq.trans (up2_nq (by decide)) (Eq.trans (up2_nq (by decide)) (Eq.trans (up2_nq (by decide)) (Eq.trans (up2_nq (by omega)) (Eq.trans (up2_nq (by omega)) (Eq.trans (up2_nq (by omega)) (Eq.trans (up2_nq (by omega)) (Eq.trans (up2_nq (by omega)) (Eq.trans (up2_nq (by omega)) (congrFun (hzn8.2 _ (by omega)) _))))))))))))) ?_
                refine wi_imul ct_121_130 rfl ?_
                refine wi_iload_5 ct_121_131 ?_
                refine wi_iadd ct_121_133 rfl ?_
                refine wi_ic ct_121_134 kc_0 ?_
                refine wi_iast ct_121_135 (sT_37 hS9) (sL_37 hS9) (i_in (i_add (i_mul ki_4 hBn (by omega)) ki_0 (by omega)) (by omega)) (i_cl (k := (4 * B)) (i_add (i_mul ki_4 hBn (by omega)) ki_0 (by omega)) (by omega)) ?_
                refine wi_iinc_5 rfl (z := 1) ct_121_136 (by decide) ?_
                refine wi_goto ct_121_139 ?_
                refine wi_iload_5 ct_121_115 ?_
                refine wi_ic ct_121_117 kc_4 ?_
                refine wi_icge_f ct_121_118 ki_1 ki_4 (by decide) ?_
                refine wi_aload_0 ct_121_121 ?_
                refine wi_gfr ct_121_122 (sT_31 hS9) rfl (sR_31_7 hS9) ?_
                refine wi_ic ct_121_125 kc_4 ?_
                refine wi_aload_0 ct_121_126 ?_
                refine wi_gf (x := fi 31 0) ct_121_127 (sT_31 hS9) rfl rfl (Eq.trans (up2_nq (by decide)) (Eq.trans (up2_nq (by decide)) (Eq.trans (up2_nq (by decide)) (Eq.trans (up2_nq (by decide)) (Eq.trans (up2_nq (by decide)) (Eq.trans (up2_nq (by decide)) (Eq.trans (up2_nq (by decide)) (Eq.trans (up2_nq (by omega)) (Eq.trans (up2_nq (by omega)) (Eq.trans (up2_nq (by omega)) (Eq.trans (up2_nq (by omega)) (Eq.trans (up2_nq (by omega)) (Eq.trans (up2_nq (by omega)) (congrFun (hzn8.2 _ (by omega)) _)))))))))))))) ?_
                refine wi_imul ct_121_130 rfl ?_
                refine wi_iload_5 ct_121_131 ?_
                refine wi_iadd ct_121_133 rfl ?_
                refine wi_ic ct_121_134 kc_0 ?_
                refine wi_iast ct_121_135 (sT_37 hS9) (sL_37 hS9) (i_in (i_add (i_mul ki_4 hBn (by omega)) ki_1 (by omega)) (by omega)) (i_cl (k := (4 * B + 1)) (i_add (i_mul ki_4 hBn (by omega)) ki_1 (by omega)) (by omega)) ?_
                refine wi_iinc_5 rfl (z := 2) ct_121_136 (by decide) ?_
                refine wi_goto ct_121_139 ?_
                refine wi_iload_5 ct_121_115 ?_
                refine wi_ic ct_121_117 kc_4 ?_
                refine wi_icge_f ct_121_118 ki_2 ki_4 (by decide) ?_
                refine wi_aload_0 ct_121_121 ?_
                refine wi_gfr ct_121_122 (sT_31 hS9) rfl (sR_31_7 hS9) ?_
                refine wi_ic ct_121_125 kc_4 ?_
                refine wi_aload_0 ct_121_126 ?_
                refine wi_gf (x := fi 31 0) ct_121_127 (sT_31 hS9) rfl rfl (Eq.trans (up2_nq (by decide)) (Eq.trans (up2_nq (by decide)) (Eq.trans (up2_nq (by decide)) (Eq.trans (up2_nq (by decide)) (Eq.trans (up2_nq (by decide)) (Eq.trans (up2_nq (by decide)) (Eq.trans (up2_nq (by decide)) (Eq.trans (up2_nq (by decide)) (Eq.trans (up2_nq (by omega)) (Eq.trans (up2_nq (by omega)) (Eq.trans (up2_nq (by omega)) (Eq.trans (up2_nq (by omega)) (Eq.trans (up2_nq (by omega)) (Eq.trans (up2_nq (by omega)) (congrFun (hzn8.2 _ (by omega)) _))))))))))))))) ?_
                refine wi_imul ct_121_130 rfl ?_
                refine wi_iload_5 ct_121_131 ?_
                refine wi_iadd ct_121_133 rfl ?_
                refine wi_ic ct_121_134 kc_0 ?_
                refine wi_iast ct_121_135 (sT_37 hS9) (sL_37 hS9) (i_in (i_add (i_mul ki_4 hBn (by omega)) ki_2 (by omega)) (by omega)) (i_cl (k := (4 * B + 2)) (i_add (i_mul ki_4 hBn (by omega)) ki_2 (by omega)) (by omega)) ?_
                refine wi_iinc_5 rfl (z := 3) ct_121_136 (by decide) ?_
                refine wi_goto ct_121_139 ?_
                refine wi_iload_5 ct_121_115 ?_
                refine wi_ic ct_121_117 kc_4 ?_
                refine wi_icge_f ct_121_118 ki_3 ki_4 (by decide) ?_
                refine wi_aload_0 ct_121_121 ?_
                refine wi_gfr ct_121_122 (sT_31 hS9) rfl (sR_31_7 hS9) ?_
                refine wi_ic ct_121_125 kc_4 ?_
                refine wi_aload_0 ct_121_126 ?_
                refine wi_gf (x := fi 31 0) ct_121_127 (sT_31 hS9) rfl rfl (Eq.trans (up2_nq (by decide)) (Eq.trans (up2_nq (by decide)) (Eq.trans (up2_nq (by decide)) (Eq.trans (up2_nq (by decide)) (Eq.trans (up2_nq (by decide)) (Eq.trans (up2_nq (by decide)) (Eq.trans (up2_nq (by decide)) (Eq.trans (up2_nq (by decide)) (Eq.trans (up2_nq (by decide)) (Eq.trans (up2_nq (by omega)) (Eq.trans (up2_nq (by omega)) (Eq.trans (up2_nq (by omega)) (Eq.trans (up2_nq (by omega)) (Eq.trans (up2_nq (by omega)) (Eq.trans (up2_nq (by omega)) (congrFun (hzn8.2 _ (by omega)) _)))))))))))))))) ?_
                refine wi_imul ct_121_130 rfl ?_
                refine wi_iload_5 ct_121_131 ?_
                refine wi_iadd ct_121_133 rfl ?_
                refine wi_ic ct_121_134 kc_0 ?_
                refine wi_iast ct_121_135 (sT_37 hS9) (sL_37 hS9) (i_in (i_add (i_mul ki_4 hBn (by omega)) ki_3 (by omega)) (by omega)) (i_cl (k := (4 * B + 3)) (i_add (i_mul ki_4 hBn (by omega)) ki_3 (by omega)) (by omega)) ?_
                refine wi_iinc_5 rfl (z := 4) ct_121_136 (by decide) ?_
                refine wi_goto ct_121_139 ?_
                refine wi_iload_5 ct_121_115 ?_
                refine wi_ic ct_121_117 kc_4 ?_
                refine wi_icge_t ct_121_118 ki_4 ki_4 (by decide) ?_
                refine wi_aload_0 ct_121_142 ?_
                refine wi_dup ct_121_143 rfl ?_
                refine wi_gf (x := fi 31 0) ct_121_144 (sT_31 hS9) rfl rfl (Eq.trans (up2_nq (by decide)) (Eq.trans (up2_nq (by decide)) (Eq.trans (up2_nq (by decide)) (Eq.trans (up2_nq (by decide)) (Eq.trans (up2_nq (by decide)) (Eq.trans (up2_nq (by decide)) (Eq.trans (up2_nq (by decide)) (Eq.trans (up2_nq (by decide)) (Eq.trans (up2_nq (by decide)) (Eq.trans (up2_nq (by decide)) (Eq.trans (up2_nq (by omega)) (Eq.trans (up2_nq (by omega)) (Eq.trans (up2_nq (by omega)) (Eq.trans (up2_nq (by omega)) (Eq.trans (up2_nq (by omega)) (Eq.trans (up2_nq (by omega)) (congrFun (hzn8.2 _ (by omega)) _))))))))))))))))) ?_
                refine wi_ic ct_121_147 kc_1 ?_
                refine wi_iadd ct_121_148 rfl ?_
                refine wi_pf ct_121_149 (sT_31 hS9) rfl ?_
                refine wi_aload_0 ct_121_152 ?_
                refine wi_gf (x := (fi 31 0 + 1)) ct_121_153 (sT_31 hS9) rfl rfl up2_eq ?_
                refine wi_ic ct_121_156 kc_1 ?_
                refine wi_isub ct_121_157 rfl ?_
                refine wi_iret ct_121_158 rfl (wk_i ?_)
                refine wi_iceq_t ct_211_240 hBn (i_sub (i_add hBn ki_1 (by omega)) ki_1 (by omega)) (by omega) ?_
                have hnl := hmn8.2.1
                have hsl1 := hmn8.2.2.1
                have nf : am_nf 1 = 6 := rfl
                have hnf : am_nx (am_gr gn8 2 B (some p)) = am_nx gn8 := rfl
                have hsf : am_sl (am_gr gn8 2 B (some p)) = am_sl gn8 := rfl
                refine kk (fun q => if q = p then 10 + B else own q) (am_gr gn8 2 B (some p)) (up2 (up2 (up2 (up2 (up2 (up2 (up2 (up2 (up2 (up2 (up2 (up2 (up2 (up2 (up2 (up2 (up2 fin8 p 5 (0)) p 0 (a1)) p 1 (fi 31 0)) p 2 (a2)) p 3 (a3)) p 4 (a4)) 1 1 ((fi 31 0 + 1))) 32 B (a1)) 33 B (a2)) 34 B (a3)) 35 B (a4)) 36 B (0)) 37 (4 * B) (0)) 37 (4 * B + 1) (0)) 37 (4 * B + 2) (0)) 37 (4 * B + 3) (0)) 31 0 ((fi 31 0 + 1))) _ (hR.one (B := B) hBn (by omega) hS9 ⟨by omega, fun q h1 h2 _ => ⟨((hmn8.2.2.2.2.2.2 _ (by omega)).1), ((hmn8.2.2.2.2.2.2 _ (by omega)).2.1), funext fun j => (Eq.trans (gr_nq (by omega)) (congrFun (hmn8.2.2.2.2.2.2 _ (by omega)).2.2 _)), if_neg (by omega), (Eq.trans (funext fun _ => up2_nq (by omega)) (Eq.trans (funext fun _ => up2_nq (by omega)) (Eq.trans (funext fun _ => up2_nq (by omega)) (Eq.trans (funext fun _ => up2_nq (by omega)) (Eq.trans (funext fun _ => up2_nq (by omega)) (Eq.trans (funext fun _ => up2_nq (by omega)) (Eq.trans (funext fun _ => up2_nq (by omega)) (Eq.trans (funext fun _ => up2_nq (by omega)) (Eq.trans (funext fun _ => up2_nq (by omega)) (Eq.trans (funext fun _ => up2_nq (by omega)) (Eq.trans (funext fun _ => up2_nq (by omega)) (Eq.trans (funext fun _ => up2_nq (by omega)) (Eq.trans (funext fun _ => up2_nq (by omega)) (Eq.trans (funext fun _ => up2_nq (by omega)) (Eq.trans (funext fun _ => up2_nq (by omega)) (Eq.trans (funext fun _ => up2_nq (by omega)) (Eq.trans (funext fun _ => up2_nq (by omega)) (hzn8.2 _ (by omega)))))))))))))))))))⟩⟩ (fun q hq => ((hmn8.2.2.2.2.2.2 _ (by omega)).1)) (fun q j h1 h2 => (Eq.trans (if_neg (by omega)) (congrFun (hmn8.2.2.2.2.2.2 _ (by omega)).2.2 _))) (Eq.trans (funext fun _ => up2_nq (by first | decide | exact sc_nd (by omega))) (Eq.trans (funext fun _ => up2_nq (by first | decide | exact sc_nd (by omega))) (Eq.trans (funext fun _ => up2_nq (by first | decide | exact sc_nd (by omega))) (Eq.trans (funext fun _ => up2_nq (by first | decide | exact sc_nd (by omega))) (Eq.trans (funext fun _ => up2_nq (by first | decide | exact sc_nd (by omega))) (Eq.trans (funext fun _ => up2_nq (by first | decide | exact sc_nd (by omega))) (Eq.trans (funext fun _ => up2_nq (by first | decide | exact sc_nd (by omega))) (Eq.trans (funext fun _ => up2_nq (by first | decide | exact sc_nd (by omega))) (Eq.trans (funext fun _ => up2_nq (by first | decide | exact sc_nd (by omega))) (Eq.trans (funext fun _ => up2_nq (by first | decide | exact sc_nd (by omega))) (Eq.trans (funext fun _ => up2_nq (by first | decide | exact sc_nd (by omega))) (Eq.trans (funext fun _ => up2_nq (by first | decide | exact sc_nd (by omega))) (Eq.trans (funext fun _ => up2_nq (by first | decide | exact sc_nd (by omega))) (Eq.trans (funext fun _ => up2_nq (by first | decide | exact sc_nd (by omega))) (Eq.trans (funext fun _ => up2_nq (by first | decide | exact sc_nd (by omega))) (Eq.trans (funext fun _ => up2_nq (by first | decide | exact sc_nd (by omega))) (Eq.trans (funext fun _ => up2_nq (by first | decide | exact sc_nd (by omega))) (hzn8.2 _ (sc_nd (by omega)))))))))))))))))))) (fun q h1 h2 => (Eq.trans (funext fun _ => up2_nq (by omega)) (Eq.trans (funext fun _ => up2_nq (by omega)) (Eq.trans (funext fun _ => up2_nq (by omega)) (Eq.trans (funext fun _ => up2_nq (by omega)) (Eq.trans (funext fun _ => up2_nq (by omega)) (Eq.trans (funext fun _ => up2_nq (by omega)) (Eq.trans (funext fun _ => up2_nq (by omega)) (Eq.trans (funext fun _ => up2_nq (by omega)) (Eq.trans (funext fun _ => up2_nq (by omega)) (Eq.trans (funext fun _ => up2_nq (by omega)) (Eq.trans (funext fun _ => up2_nq (by omega)) (Eq.trans (funext fun _ => up2_nq (by omega)) (Eq.trans (funext fun _ => up2_nq (by omega)) (Eq.trans (funext fun _ => up2_nq (by omega)) (Eq.trans (funext fun _ => up2_nq (by omega)) (Eq.trans (funext fun _ => up2_nq (by omega)) (Eq.trans (funext fun _ => up2_nq (by omega)) (hzn8.2 _ (by omega)))))))))))))))))))) (fun j hj => (Eq.trans (up2_nq (by omega)) (Eq.trans (up2_nq (by omega)) (Eq.trans (up2_nq (by omega)) (Eq.trans (up2_nq (by omega)) (Eq.trans (up2_nq (by omega)) (Eq.trans (up2_nq (by omega)) (Eq.trans (up2_nq (by omega)) (Eq.trans (up2_nq (by omega)) (Eq.trans (up2_nq (by omega)) (Eq.trans (up2_nq (by omega)) (Eq.trans (up2_nj hj) (Eq.trans (up2_nq (by omega)) (Eq.trans (up2_nq (by omega)) (Eq.trans (up2_nq (by omega)) (Eq.trans (up2_nq (by omega)) (Eq.trans (up2_nq (by omega)) (Eq.trans (up2_nq (by omega)) (congrFun (hzn8.2 _ (by omega)) _))))))))))))))))))) (fun j hj => (Eq.trans (up2_nj hj) (Eq.trans (up2_nq (by omega)) (Eq.trans (up2_nq (by omega)) (Eq.trans (up2_nq (by omega)) (Eq.trans (up2_nq (by omega)) (Eq.trans (up2_nq (by omega)) (Eq.trans (up2_nq (by omega)) (Eq.trans (up2_nq (by omega)) (Eq.trans (up2_nq (by omega)) (Eq.trans (up2_nq (by omega)) (Eq.trans (up2_nq (by omega)) (Eq.trans (up2_nq (by omega)) (Eq.trans (up2_nq (by omega)) (Eq.trans (up2_nq (by omega)) (Eq.trans (up2_nq (by omega)) (Eq.trans (up2_nq (by omega)) (Eq.trans (up2_nq (by omega)) (congrFun (hzn8.2 _ (by omega)) _))))))))))))))))))) ⟨((Eq.trans (up2_nq (by decide)) (Eq.trans (up2_nq (by decide)) (Eq.trans (up2_nq (by decide)) (Eq.trans (up2_nq (by decide)) (Eq.trans (up2_nq (by decide)) (Eq.trans (up2_nq (by decide)) (Eq.trans (up2_nq (by decide)) (Eq.trans (up2_nq (by decide)) (Eq.trans (up2_nq (by decide)) (Eq.trans (up2_nq (by decide)) up2_eq))))))))))).trans (up2_eq).symm, ?_⟩ (fun q b h1 h2 h3 => ?_) (fun b j h1 h2 => (Eq.trans (up2_nq (by omega)) (Eq.trans (up2_nj (by omega)) (Eq.trans (up2_nj (by omega)) (Eq.trans (up2_nj (by omega)) (Eq.trans (up2_nj (by omega)) (Eq.trans (up2_nq (by omega)) (Eq.trans (up2_nq (by omega)) (Eq.trans (up2_nq (by omega)) (Eq.trans (up2_nq (by omega)) (Eq.trans (up2_nq (by omega)) (Eq.trans (up2_nq (by omega)) (Eq.trans (up2_nq (by omega)) (Eq.trans (up2_nq (by omega)) (Eq.trans (up2_nq (by omega)) (Eq.trans (up2_nq (by omega)) (Eq.trans (up2_nq (by omega)) (Eq.trans (up2_nq (by omega)) (congrFun (hzn8.2 _ (by omega)) _))))))))))))))))))) (fun q hq => (hln8.2 _ (by omega))) ?_ ⟨p, 0, ⟨gr_eq, ⟨by omega, by omega, if_pos rfl⟩, ?_, ((Eq.trans (up2_nq (by omega)) (Eq.trans (up2_nq (by omega)) (Eq.trans (up2_nq (by omega)) (Eq.trans (up2_nq (by omega)) (Eq.trans (up2_nq (by omega)) (Eq.trans (up2_nq (by omega)) (Eq.trans (up2_nq (by omega)) (Eq.trans (up2_nq (by omega)) (Eq.trans (up2_nq (by omega)) (Eq.trans (up2_nq (by omega)) (Eq.trans (up2_nq (by omega)) (Eq.trans (up2_nj (by decide)) (Eq.trans (up2_nj (by decide)) (Eq.trans (up2_nj (by decide)) (Eq.trans (up2_nj (by decide)) up2_eq)))))))))))))))).trans ((Eq.trans (up2_nq (by decide)) (Eq.trans (up2_nq (by decide)) (Eq.trans (up2_nq (by decide)) (Eq.trans (up2_nq (by decide)) (Eq.trans (up2_nq (by decide)) (Eq.trans (up2_nq (by decide)) (Eq.trans (up2_nq (by decide)) (Eq.trans (up2_nq (by decide)) (Eq.trans (up2_nq (by decide)) up2_eq)))))))))).symm, ?_, ((Eq.trans (up2_nq (by omega)) (Eq.trans (up2_nq (by omega)) (Eq.trans (up2_nq (by omega)) (Eq.trans (up2_nq (by omega)) (Eq.trans (up2_nq (by omega)) (Eq.trans (up2_nq (by omega)) (Eq.trans (up2_nq (by omega)) (Eq.trans (up2_nq (by omega)) (Eq.trans (up2_nq (by omega)) (Eq.trans (up2_nq (by omega)) (Eq.trans (up2_nq (by omega)) (Eq.trans (up2_nj (by decide)) (Eq.trans (up2_nj (by decide)) up2_eq)))))))))))))).trans ((Eq.trans (up2_nq (by decide)) (Eq.trans (up2_nq (by decide)) (Eq.trans (up2_nq (by decide)) (Eq.trans (up2_nq (by decide)) (Eq.trans (up2_nq (by decide)) (Eq.trans (up2_nq (by decide)) (Eq.trans (up2_nq (by decide)) (Eq.trans (up2_nq (by decide)) up2_eq))))))))).symm, ((Eq.trans (up2_nq (by omega)) (Eq.trans (up2_nq (by omega)) (Eq.trans (up2_nq (by omega)) (Eq.trans (up2_nq (by omega)) (Eq.trans (up2_nq (by omega)) (Eq.trans (up2_nq (by omega)) (Eq.trans (up2_nq (by omega)) (Eq.trans (up2_nq (by omega)) (Eq.trans (up2_nq (by omega)) (Eq.trans (up2_nq (by omega)) (Eq.trans (up2_nq (by omega)) (Eq.trans (up2_nj (by decide)) up2_eq))))))))))))).trans ((Eq.trans (up2_nq (by decide)) (Eq.trans (up2_nq (by decide)) (Eq.trans (up2_nq (by decide)) (Eq.trans (up2_nq (by decide)) (Eq.trans (up2_nq (by decide)) (Eq.trans (up2_nq (by decide)) (Eq.trans (up2_nq (by decide)) up2_eq)))))))).symm, ((Eq.trans (up2_nq (by omega)) (Eq.trans (up2_nq (by omega)) (Eq.trans (up2_nq (by omega)) (Eq.trans (up2_nq (by omega)) (Eq.trans (up2_nq (by omega)) (Eq.trans (up2_nq (by omega)) (Eq.trans (up2_nq (by omega)) (Eq.trans (up2_nq (by omega)) (Eq.trans (up2_nq (by omega)) (Eq.trans (up2_nq (by omega)) (Eq.trans (up2_nq (by omega)) up2_eq)))))))))))).trans ((Eq.trans (up2_nq (by decide)) (Eq.trans (up2_nq (by decide)) (Eq.trans (up2_nq (by decide)) (Eq.trans (up2_nq (by decide)) (Eq.trans (up2_nq (by decide)) (Eq.trans (up2_nq (by decide)) up2_eq))))))).symm, ((Eq.trans (up2_nq (by omega)) (Eq.trans (up2_nq (by omega)) (Eq.trans (up2_nq (by omega)) (Eq.trans (up2_nq (by omega)) (Eq.trans (up2_nq (by omega)) (Eq.trans (up2_nq (by omega)) (Eq.trans (up2_nq (by omega)) (Eq.trans (up2_nq (by omega)) (Eq.trans (up2_nq (by omega)) (Eq.trans (up2_nq (by omega)) (Eq.trans (up2_nq (by omega)) (Eq.trans (up2_nj (by decide)) (Eq.trans (up2_nj (by decide)) (Eq.trans (up2_nj (by decide)) (Eq.trans (up2_nj (by decide)) (Eq.trans (up2_nj (by decide)) up2_eq))))))))))))))))).trans ((Eq.trans (up2_nq (by decide)) (Eq.trans (up2_nq (by decide)) (Eq.trans (up2_nq (by decide)) (Eq.trans (up2_nq (by decide)) (Eq.trans (up2_nq (by decide)) up2_eq)))))).symm, ?_⟩, ((congrArg (fun t => am_sub t 0) hmn8.2.2.2.1).trans rfl)⟩) (by omega) (by omega)
                · exact (congrArg Int32.toInt (up2_eq)).trans ((i_add hBn ki_1 (by omega)).trans (by omega))
                · exact (Eq.trans (if_neg (by omega)) (Eq.trans (if_neg (by omega)) (Eq.trans (if_neg (by omega)) (Eq.trans (if_neg (by omega)) (Eq.trans (if_neg (by omega)) (Eq.trans (if_neg (by omega)) (Eq.trans (if_neg (by omega)) (Eq.trans (if_neg (by omega)) (Eq.trans (if_neg (by omega)) (Eq.trans (if_neg (by omega)) (Eq.trans (if_neg (by omega)) (Eq.trans (if_neg (by omega)) (Eq.trans (if_neg (by omega)) (Eq.trans (if_neg (by omega)) (Eq.trans (if_neg (by omega)) (Eq.trans (if_neg (by omega)) (Eq.trans (if_neg (by omega)) (congrFun (hzn8.2 _ (by omega)) _))))))))))))))))))
                · unfold RM
                  rw [show (up2 (up2 (up2 (up2 (up2 (up2 (up2 (up2 (up2 (up2 (up2 (up2 (up2 (up2 (up2 (up2 (up2 fin8 p 5 (0)) p 0 (a1)) p 1 (fi 31 0)) p 2 (a2)) p 3 (a3)) p 4 (a4)) 1 1 ((fi 31 0 + 1))) 32 B (a1)) 33 B (a2)) 34 B (a3)) 35 B (a4)) 36 B (0)) 37 (4 * B) (0)) 37 (4 * B + 1) (0)) 37 (4 * B + 2) (0)) 37 (4 * B + 3) (0)) 31 0 ((fi 31 0 + 1))) 32 B = a1 from (Eq.trans (up2_nq (by decide)) (Eq.trans (up2_nq (by decide)) (Eq.trans (up2_nq (by decide)) (Eq.trans (up2_nq (by decide)) (Eq.trans (up2_nq (by decide)) (Eq.trans (up2_nq (by decide)) (Eq.trans (up2_nq (by decide)) (Eq.trans (up2_nq (by decide)) (Eq.trans (up2_nq (by decide)) up2_eq)))))))))]
                  rw [show (up2 (up2 (up2 (up2 (up2 (up2 (up2 (up2 (up2 (up2 (up2 (up2 (up2 (up2 (up2 (up2 (up2 fin8 p 5 (0)) p 0 (a1)) p 1 (fi 31 0)) p 2 (a2)) p 3 (a3)) p 4 (a4)) 1 1 ((fi 31 0 + 1))) 32 B (a1)) 33 B (a2)) 34 B (a3)) 35 B (a4)) 36 B (0)) 37 (4 * B) (0)) 37 (4 * B + 1) (0)) 37 (4 * B + 2) (0)) 37 (4 * B + 3) (0)) 31 0 ((fi 31 0 + 1))) 33 B = a2 from (Eq.trans (up2_nq (by decide)) (Eq.trans (up2_nq (by decide)) (Eq.trans (up2_nq (by decide)) (Eq.trans (up2_nq (by decide)) (Eq.trans (up2_nq (by decide)) (Eq.trans (up2_nq (by decide)) (Eq.trans (up2_nq (by decide)) (Eq.trans (up2_nq (by decide)) up2_eq))))))))]
                  rw [show (up2 (up2 (up2 (up2 (up2 (up2 (up2 (up2 (up2 (up2 (up2 (up2 (up2 (up2 (up2 (up2 (up2 fin8 p 5 (0)) p 0 (a1)) p 1 (fi 31 0)) p 2 (a2)) p 3 (a3)) p 4 (a4)) 1 1 ((fi 31 0 + 1))) 32 B (a1)) 33 B (a2)) 34 B (a3)) 35 B (a4)) 36 B (0)) 37 (4 * B) (0)) 37 (4 * B + 1) (0)) 37 (4 * B + 2) (0)) 37 (4 * B + 3) (0)) 31 0 ((fi 31 0 + 1))) 34 B = a3 from (Eq.trans (up2_nq (by decide)) (Eq.trans (up2_nq (by decide)) (Eq.trans (up2_nq (by decide)) (Eq.trans (up2_nq (by decide)) (Eq.trans (up2_nq (by decide)) (Eq.trans (up2_nq (by decide)) (Eq.trans (up2_nq (by decide)) up2_eq)))))))]
                  rw [show (up2 (up2 (up2 (up2 (up2 (up2 (up2 (up2 (up2 (up2 (up2 (up2 (up2 (up2 (up2 (up2 (up2 fin8 p 5 (0)) p 0 (a1)) p 1 (fi 31 0)) p 2 (a2)) p 3 (a3)) p 4 (a4)) 1 1 ((fi 31 0 + 1))) 32 B (a1)) 33 B (a2)) 34 B (a3)) 35 B (a4)) 36 B (0)) 37 (4 * B) (0)) 37 (4 * B + 1) (0)) 37 (4 * B + 2) (0)) 37 (4 * B + 3) (0)) 31 0 ((fi 31 0 + 1))) 35 B = a4 from (Eq.trans (up2_nq (by decide)) (Eq.trans (up2_nq (by decide)) (Eq.trans (up2_nq (by decide)) (Eq.trans (up2_nq (by decide)) (Eq.trans (up2_nq (by decide)) (Eq.trans (up2_nq (by decide)) up2_eq))))))]
                  rw [show (up2 (up2 (up2 (up2 (up2 (up2 (up2 (up2 (up2 (up2 (up2 (up2 (up2 (up2 (up2 (up2 (up2 fin8 p 5 (0)) p 0 (a1)) p 1 (fi 31 0)) p 2 (a2)) p 3 (a3)) p 4 (a4)) 1 1 ((fi 31 0 + 1))) 32 B (a1)) 33 B (a2)) 34 B (a3)) 35 B (a4)) 36 B (0)) 37 (4 * B) (0)) 37 (4 * B + 1) (0)) 37 (4 * B + 2) (0)) 37 (4 * B + 3) (0)) 31 0 ((fi 31 0 + 1))) 36 B = 0 from (Eq.trans (up2_nq (by decide)) (Eq.trans (up2_nq (by decide)) (Eq.trans (up2_nq (by decide)) (Eq.trans (up2_nq (by decide)) (Eq.trans (up2_nq (by decide)) up2_eq)))))]
                  refine ⟨by omega, by omega, by omega, by omega, by decide, fun j hj => ?_⟩
                  match j, hj with
                  | 0, _ => rw [show (up2 (up2 (up2 (up2 (up2 (up2 (up2 (up2 (up2 (up2 (up2 (up2 (up2 (up2 (up2 (up2 (up2 fin8 p 5 (0)) p 0 (a1)) p 1 (fi 31 0)) p 2 (a2)) p 3 (a3)) p 4 (a4)) 1 1 ((fi 31 0 + 1))) 32 B (a1)) 33 B (a2)) 34 B (a3)) 35 B (a4)) 36 B (0)) 37 (4 * B) (0)) 37 (4 * B + 1) (0)) 37 (4 * B + 2) (0)) 37 (4 * B + 3) (0)) 31 0 ((fi 31 0 + 1))) 37 (4 * B + 0) = 0 from (Eq.trans (up2_nq (by decide)) (Eq.trans (up2_nj (by omega)) (Eq.trans (up2_nj (by omega)) (Eq.trans (up2_nj (by omega)) up2_eq))))]; decide
                  | 1, _ => rw [show (up2 (up2 (up2 (up2 (up2 (up2 (up2 (up2 (up2 (up2 (up2 (up2 (up2 (up2 (up2 (up2 (up2 fin8 p 5 (0)) p 0 (a1)) p 1 (fi 31 0)) p 2 (a2)) p 3 (a3)) p 4 (a4)) 1 1 ((fi 31 0 + 1))) 32 B (a1)) 33 B (a2)) 34 B (a3)) 35 B (a4)) 36 B (0)) 37 (4 * B) (0)) 37 (4 * B + 1) (0)) 37 (4 * B + 2) (0)) 37 (4 * B + 3) (0)) 31 0 ((fi 31 0 + 1))) 37 (4 * B + 1) = 0 from (Eq.trans (up2_nq (by decide)) (Eq.trans (up2_nj (by omega)) (Eq.trans (up2_nj (by omega)) up2_eq)))]; decide
                  | 2, _ => rw [show (up2 (up2 (up2 (up2 (up2 (up2 (up2 (up2 (up2 (up2 (up2 (up2 (up2 (up2 (up2 (up2 (up2 fin8 p 5 (0)) p 0 (a1)) p 1 (fi 31 0)) p 2 (a2)) p 3 (a3)) p 4 (a4)) 1 1 ((fi 31 0 + 1))) 32 B (a1)) 33 B (a2)) 34 B (a3)) 35 B (a4)) 36 B (0)) 37 (4 * B) (0)) 37 (4 * B + 1) (0)) 37 (4 * B + 2) (0)) 37 (4 * B + 3) (0)) 31 0 ((fi 31 0 + 1))) 37 (4 * B + 2) = 0 from (Eq.trans (up2_nq (by decide)) (Eq.trans (up2_nj (by omega)) up2_eq))]; decide
                  | 3, _ => rw [show (up2 (up2 (up2 (up2 (up2 (up2 (up2 (up2 (up2 (up2 (up2 (up2 (up2 (up2 (up2 (up2 (up2 fin8 p 5 (0)) p 0 (a1)) p 1 (fi 31 0)) p 2 (a2)) p 3 (a3)) p 4 (a4)) 1 1 ((fi 31 0 + 1))) 32 B (a1)) 33 B (a2)) 34 B (a3)) 35 B (a4)) 36 B (0)) 37 (4 * B) (0)) 37 (4 * B + 1) (0)) 37 (4 * B + 2) (0)) 37 (4 * B + 3) (0)) 31 0 ((fi 31 0 + 1))) 37 (4 * B + 3) = 0 from (Eq.trans (up2_nq (by decide)) up2_eq)]; decide
                  | j + 4, h => exact absurd h (by omega)
                · exact hmn8.2.2.2.1.trans (by rw [show (up2 (up2 (up2 (up2 (up2 (up2 (up2 (up2 (up2 (up2 (up2 (up2 (up2 (up2 (up2 (up2 (up2 fin8 p 5 (0)) p 0 (a1)) p 1 (fi 31 0)) p 2 (a2)) p 3 (a3)) p 4 (a4)) 1 1 ((fi 31 0 + 1))) 32 B (a1)) 33 B (a2)) 34 B (a3)) 35 B (a4)) 36 B (0)) 37 (4 * B) (0)) 37 (4 * B + 1) (0)) 37 (4 * B + 2) (0)) 37 (4 * B + 3) (0)) 31 0 ((fi 31 0 + 1))) 32 B = a1 from (Eq.trans (up2_nq (by decide)) (Eq.trans (up2_nq (by decide)) (Eq.trans (up2_nq (by decide)) (Eq.trans (up2_nq (by decide)) (Eq.trans (up2_nq (by decide)) (Eq.trans (up2_nq (by decide)) (Eq.trans (up2_nq (by decide)) (Eq.trans (up2_nq (by decide)) (Eq.trans (up2_nq (by decide)) up2_eq))))))))), show (a1).toInt = 1 by omega] <;> rfl)
                · exact (congrArg Int32.toInt ((Eq.trans (up2_nq (by omega)) (Eq.trans (up2_nq (by omega)) (Eq.trans (up2_nq (by omega)) (Eq.trans (up2_nq (by omega)) (Eq.trans (up2_nq (by omega)) (Eq.trans (up2_nq (by omega)) (Eq.trans (up2_nq (by omega)) (Eq.trans (up2_nq (by omega)) (Eq.trans (up2_nq (by omega)) (Eq.trans (up2_nq (by omega)) (Eq.trans (up2_nq (by omega)) (Eq.trans (up2_nj (by decide)) (Eq.trans (up2_nj (by decide)) (Eq.trans (up2_nj (by decide)) up2_eq)))))))))))))))).trans hBn
                · intro h6
                  rw [show (up2 (up2 (up2 (up2 (up2 (up2 (up2 (up2 (up2 (up2 (up2 (up2 (up2 (up2 (up2 (up2 (up2 fin8 p 5 (0)) p 0 (a1)) p 1 (fi 31 0)) p 2 (a2)) p 3 (a3)) p 4 (a4)) 1 1 ((fi 31 0 + 1))) 32 B (a1)) 33 B (a2)) 34 B (a3)) 35 B (a4)) 36 B (0)) 37 (4 * B) (0)) 37 (4 * B + 1) (0)) 37 (4 * B + 2) (0)) 37 (4 * B + 3) (0)) 31 0 ((fi 31 0 + 1))) 32 B = a1 from (Eq.trans (up2_nq (by decide)) (Eq.trans (up2_nq (by decide)) (Eq.trans (up2_nq (by decide)) (Eq.trans (up2_nq (by decide)) (Eq.trans (up2_nq (by decide)) (Eq.trans (up2_nq (by decide)) (Eq.trans (up2_nq (by decide)) (Eq.trans (up2_nq (by decide)) (Eq.trans (up2_nq (by decide)) up2_eq)))))))))] at h6
                  exact absurd h6 (by omega)
              rcases Decidable.em ((a1).toInt = 2) with h10 | h10
              · refine wi_tsw (X := 2) (t := 54) ct_105_1 (by omega) rfl ?_
                obtain ⟨p, hp⟩ : ∃ p, am_nx g = p := ⟨_, rfl⟩
                have hp72 : 72 ≤ p := hp ▸ hS.nx
                refine wi_newF ct_105_54 hp (by omega) (fun gn11 fin11 fln11 hmn11 hzn11 hln11 => ?_)
                have hSn11 := hS.mkF hmn11 (by omega)
                refine wi_dup ct_105_57 rfl ?_
                refine wi_iload_0 ct_105_58 ?_
                refine wi_iload_1 ct_105_59 ?_
                refine wi_iload_2 ct_105_60 ?_
                refine wi_iload_3 ct_105_61 ?_
                refine wi_iload_4 ct_105_62 ?_
                refine wi_cp5 (ls' := [some _, some _, some _, some _, some _, some _]) ct_105_64 (Nat.le_of_ble_eq_true rfl) hmn11.2.2.2.1 (by decide) rfl (Nat.le_of_ble_eq_true rfl) ?_
                refine wi_aload_0 ct_13_0 ?_
                refine wi_iload_1 ct_13_1 ?_
                refine wi_iload_2 ct_13_2 ?_
                refine wi_iload_3 ct_13_3 ?_
                refine wi_iload_4 ct_13_4 ?_
                refine wi_iload_5 ct_13_6 ?_
                refine wi_cp5 (ls' := [some _, some _, some _, some _, some _, some _]) ct_13_8 (Nat.le_of_ble_eq_true rfl) hmn11.2.2.2.1 (by decide) rfl (Nat.le_of_ble_eq_true rfl) ?_
                refine wi_aload_0 ct_0_0 ?_
                refine wi_obj ct_0_1 (Nat.le_of_ble_eq_true rfl) ?_
                refine wi_aload_0 ct_0_4 ?_
                refine wi_ic ct_0_5 kc_0 ?_
                refine wi_pf ct_0_6 hmn11.2.2.2.1 rfl ?_
                refine wi_aload_0 ct_0_9 ?_
                refine wi_iload_1 ct_0_10 ?_
                refine wi_pf ct_0_11 hmn11.2.2.2.1 rfl ?_
                refine wi_aload_0 ct_0_14 ?_
                refine wi_iload_2 ct_0_15 ?_
                refine wi_pf ct_0_16 hmn11.2.2.2.1 rfl ?_
                refine wi_aload_0 ct_0_19 ?_
                refine wi_iload_3 ct_0_20 ?_
                refine wi_pf ct_0_21 hmn11.2.2.2.1 rfl ?_
                refine wi_aload_0 ct_0_24 ?_
                refine wi_iload_4 ct_0_25 ?_
                refine wi_pf ct_0_27 hmn11.2.2.2.1 rfl ?_
                refine wi_aload_0 ct_0_30 ?_
                refine wi_iload_5 ct_0_31 ?_
                refine wi_pf ct_0_33 hmn11.2.2.2.1 rfl ?_
                refine wi_ret ct_0_36 (wk_v ?_)
                refine wi_ret ct_13_11 (wk_v ?_)
                refine wi_aret ct_105_67 (wk_r ?_)
                refine wi_aast ct_67_88 (Or.inl ⟨(sT_2 hSn11), (hmn11.2.2.2.1).symm ▸ rfl⟩) (sL_2 hSn11) (i_in hBn (by omega)) (i_cl (k := B) hBn (by omega)) ?_
                have hS12 := hSn11.grq (q := 2) (a := B) (x := (some p)) (by decide)
                refine wi_aload_0 ct_67_89 ?_
                refine wi_gfr ct_67_90 (sT_0 hS12) rfl (sR_0_0 hS12) ?_
                refine wi_dup ct_67_93 rfl ?_
                refine wi_gf (x := fi 31 0) ct_67_94 (sT_1 hS12) rfl rfl (Eq.trans (up2_nq (by omega)) (Eq.trans (up2_nq (by omega)) (Eq.trans (up2_nq (by omega)) (Eq.trans (up2_nq (by omega)) (Eq.trans (up2_nq (by omega)) (Eq.trans (up2_nq (by omega)) (Eq.trans (congrFun (hzn11.2 _ (by omega)) _) c0))))))) ?_
                refine wi_ic ct_67_97 kc_1 ?_
                refine wi_iadd ct_67_98 rfl ?_
                refine wi_pf ct_67_99 (sT_1 hS12) rfl ?_
                refine wi_iload_5 ct_67_102 ?_
                refine wi_iret ct_67_104 rfl (wk_i ?_)
                refine wi_aload_2 ct_211_216 ?_
                refine wi_aloadT_0 ct_211_217 ?_
                refine wi_iload_3 ct_211_218 ?_
                refine wi_ic ct_211_219 kc_1 ?_
                refine wi_iadd ct_211_220 rfl ?_
                refine wi_ialdT (j := I + 1) (x := a1) ct_211_221 (sL_SC hS12) (i_in (i_add hi ki_1 (by omega)) (by omega)) (i_cl (i_add hi ki_1 (by omega)) (by omega)) ((Eq.trans (up2_nq (by decide)) (Eq.trans (up2_nq (sc_nd (by omega))) (Eq.trans (up2_nq (sc_nd (by omega))) (Eq.trans (up2_nq (sc_nd (by omega))) (Eq.trans (up2_nq (sc_nd (by omega))) (Eq.trans (up2_nq (sc_nd (by omega))) (Eq.trans (up2_nq (sc_nd (by omega))) (Eq.trans (congrFun (hzn11.2 _ (sc_nd (by omega))) _) ((hsc _).trans e1)))))))))) ?_
                refine wi_aloadT_0 ct_211_222 ?_
                refine wi_iload_3 ct_211_223 ?_
                refine wi_ic ct_211_224 kc_2 ?_
                refine wi_iadd ct_211_225 rfl ?_
                refine wi_ialdT (j := I + 2) (x := a2) ct_211_226 (sL_SC hS12) (i_in (i_add hi ki_2 (by omega)) (by omega)) (i_cl (i_add hi ki_2 (by omega)) (by omega)) ((Eq.trans (up2_nq (by decide)) (Eq.trans (up2_nq (sc_nd (by omega))) (Eq.trans (up2_nq (sc_nd (by omega))) (Eq.trans (up2_nq (sc_nd (by omega))) (Eq.trans (up2_nq (sc_nd (by omega))) (Eq.trans (up2_nq (sc_nd (by omega))) (Eq.trans (up2_nq (sc_nd (by omega))) (Eq.trans (congrFun (hzn11.2 _ (sc_nd (by omega))) _) ((hsc _).trans e2)))))))))) ?_
                refine wi_aloadT_0 ct_211_227 ?_
                refine wi_iload_3 ct_211_228 ?_
                refine wi_ic ct_211_229 kc_3 ?_
                refine wi_iadd ct_211_230 rfl ?_
                refine wi_ialdT (j := I + 3) (x := a3) ct_211_231 (sL_SC hS12) (i_in (i_add hi ki_3 (by omega)) (by omega)) (i_cl (i_add hi ki_3 (by omega)) (by omega)) ((Eq.trans (up2_nq (by decide)) (Eq.trans (up2_nq (sc_nd (by omega))) (Eq.trans (up2_nq (sc_nd (by omega))) (Eq.trans (up2_nq (sc_nd (by omega))) (Eq.trans (up2_nq (sc_nd (by omega))) (Eq.trans (up2_nq (sc_nd (by omega))) (Eq.trans (up2_nq (sc_nd (by omega))) (Eq.trans (congrFun (hzn11.2 _ (sc_nd (by omega))) _) ((hsc _).trans e3)))))))))) ?_
                refine wi_aloadT_0 ct_211_232 ?_
                refine wi_iload_3 ct_211_233 ?_
                refine wi_ic ct_211_234 kc_4 ?_
                refine wi_iadd ct_211_235 rfl ?_
                refine wi_ialdT (j := I + 4) (x := a4) ct_211_236 (sL_SC hS12) (i_in (i_add hi ki_4 (by omega)) (by omega)) (i_cl (i_add hi ki_4 (by omega)) (by omega)) ((Eq.trans (up2_nq (by decide)) (Eq.trans (up2_nq (sc_nd (by omega))) (Eq.trans (up2_nq (sc_nd (by omega))) (Eq.trans (up2_nq (sc_nd (by omega))) (Eq.trans (up2_nq (sc_nd (by omega))) (Eq.trans (up2_nq (sc_nd (by omega))) (Eq.trans (up2_nq (sc_nd (by omega))) (Eq.trans (congrFun (hzn11.2 _ (sc_nd (by omega))) _) ((hsc _).trans e4)))))))))) ?_
                refine wi_cv4 (ls' := [some _, some _, some _, some _, some _, none]) ct_211_237 (Nat.le_of_ble_eq_true rfl) (by decide) (sT_31 hS12) rfl (by decide) rfl rfl (Nat.le_of_ble_eq_true rfl) ?_
                refine wi_aload_0 ct_121_0 ?_
                refine wi_iload_1 ct_121_1 ?_
                refine wi_ic ct_121_2 kc_0 ?_
                refine wi_ic ct_121_3 kc_6 ?_
                refine wi_cv3 (ls' := [some _, some _, some _, some _]) ct_121_5 (Nat.le_of_ble_eq_true rfl) (by decide) (sT_31 hS12) rfl (by decide) rfl rfl (Nat.le_of_ble_eq_true rfl) ?_
                refine c_in rfl ki_0 ki_6 (fun _ => wk_i ?_) (fun h => absurd h (by omega))
                refine wi_ifne_t ct_121_8 ki_1 (by decide) ?_
                refine wi_aload_0 ct_121_13 ?_
                refine wi_iload_2 ct_121_14 ?_
                refine wi_ic ct_121_15 kc_0 ?_
                refine wi_ic ct_121_16 kc_9 ?_
                refine wi_cv3 (ls' := [some _, some _, some _, some _]) ct_121_18 (Nat.le_of_ble_eq_true rfl) (by decide) (sT_31 hS12) rfl (by decide) rfl rfl (Nat.le_of_ble_eq_true rfl) ?_
                refine c_in rfl ki_0 ki_9 (fun _ => wk_i ?_) (fun h => absurd h (by omega))
                refine wi_ifeq_f ct_121_21 ki_1 (by decide) ?_
                refine wi_aload_0 ct_121_24 ?_
                refine wi_iload_3 ct_121_25 ?_
                refine wi_ic ct_121_26 kc_1 ?_
                refine wi_ic ct_121_27 kc_9 ?_
                refine wi_cv3 (ls' := [some _, some _, some _, some _]) ct_121_29 (Nat.le_of_ble_eq_true rfl) (by decide) (sT_31 hS12) rfl (by decide) rfl rfl (Nat.le_of_ble_eq_true rfl) ?_
                refine c_in rfl ki_1 ki_9 (fun _ => wk_i ?_) (fun h => absurd h (by omega))
                refine wi_ifeq_f ct_121_32 ki_1 (by decide) ?_
                refine wi_aload_0 ct_121_35 ?_
                refine wi_iload_4 ct_121_36 ?_
                refine wi_ic ct_121_38 kc_1 ?_
                refine wi_ic ct_121_39 kc_60 ?_
                refine wi_cv3 (ls' := [some _, some _, some _, some _]) ct_121_41 (Nat.le_of_ble_eq_true rfl) (by decide) (sT_31 hS12) rfl (by decide) rfl rfl (Nat.le_of_ble_eq_true rfl) ?_
                refine c_in rfl ki_1 ki_60 (fun _ => wk_i ?_) (fun h => absurd h (by omega))
                refine wi_ifne_t ct_121_44 ki_1 (by decide) ?_
                refine wi_aload_0 ct_121_50 ?_
                refine wi_gf (x := fi 31 0) ct_121_51 (sT_31 hS12) rfl rfl (Eq.trans (up2_nq (by decide)) (Eq.trans (up2_nq (by omega)) (Eq.trans (up2_nq (by omega)) (Eq.trans (up2_nq (by omega)) (Eq.trans (up2_nq (by omega)) (Eq.trans (up2_nq (by omega)) (Eq.trans (up2_nq (by omega)) (congrFun (hzn11.2 _ (by omega)) _)))))))) ?_
                refine wi_ic ct_121_54 kc_5 ?_
                refine wi_icne_t ct_121_55 hBn ki_5 (by omega) ?_
                refine wi_aload_0 ct_121_61 ?_
                refine wi_gfr ct_121_62 (sT_31 hS12) rfl (sR_31_2 hS12) ?_
                refine wi_aload_0 ct_121_65 ?_
                refine wi_gf (x := fi 31 0) ct_121_66 (sT_31 hS12) rfl rfl (Eq.trans (up2_nq (by decide)) (Eq.trans (up2_nq (by omega)) (Eq.trans (up2_nq (by omega)) (Eq.trans (up2_nq (by omega)) (Eq.trans (up2_nq (by omega)) (Eq.trans (up2_nq (by omega)) (Eq.trans (up2_nq (by omega)) (congrFun (hzn11.2 _ (by omega)) _)))))))) ?_
                refine wi_iload_1 ct_121_69 ?_
                refine wi_iast ct_121_70 (sT_32 hS12) (sL_32 hS12) (i_in hBn (by omega)) (i_cl (k := B) hBn (by omega)) ?_
                refine wi_aload_0 ct_121_71 ?_
                refine wi_gfr ct_121_72 (sT_31 hS12) rfl (sR_31_3 hS12) ?_
                refine wi_aload_0 ct_121_75 ?_
                refine wi_gf (x := fi 31 0) ct_121_76 (sT_31 hS12) rfl rfl (Eq.trans (up2_nq (by decide)) (Eq.trans (up2_nq (by decide)) (Eq.trans (up2_nq (by omega)) (Eq.trans (up2_nq (by omega)) (Eq.trans (up2_nq (by omega)) (Eq.trans (up2_nq (by omega)) (Eq.trans (up2_nq (by omega)) (Eq.trans (up2_nq (by omega)) (congrFun (hzn11.2 _ (by omega)) _))))))))) ?_
                refine wi_iload_2 ct_121_79 ?_
                refine wi_iast ct_121_80 (sT_33 hS12) (sL_33 hS12) (i_in hBn (by omega)) (i_cl (k := B) hBn (by omega)) ?_
                refine wi_aload_0 ct_121_81 ?_
                refine wi_gfr ct_121_82 (sT_31 hS12) rfl (sR_31_4 hS12) ?_
                refine wi_aload_0 ct_121_85 ?_
                refine wi_gf (x := fi 31 0) ct_121_86 (sT_31 hS12) rfl rfl (Eq.trans (up2_nq (by decide)) (Eq.trans (up2_nq (by decide)) (Eq.trans (up2_nq (by decide)) (Eq.trans (up2_nq (by omega)) (Eq.trans (up2_nq (by omega)) (Eq.trans (up2_nq (by omega)) (Eq.trans (up2_nq (by omega)) (Eq.trans (up2_nq (by omega)) (Eq.trans (up2_nq (by omega)) (congrFun (hzn11.2 _ (by omega)) _)))))))))) ?_
                refine wi_iload_3 ct_121_89 ?_
                refine wi_iast ct_121_90 (sT_34 hS12) (sL_34 hS12) (i_in hBn (by omega)) (i_cl (k := B) hBn (by omega)) ?_
                refine wi_aload_0 ct_121_91 ?_
                refine wi_gfr ct_121_92 (sT_31 hS12) rfl (sR_31_5 hS12) ?_
                refine wi_aload_0 ct_121_95 ?_
                refine wi_gf (x := fi 31 0) ct_121_96 (sT_31 hS12) rfl rfl (Eq.trans (up2_nq (by decide)) (Eq.trans (up2_nq (by decide)) (Eq.trans (up2_nq (by decide)) (Eq.trans (up2_nq (by decide)) (Eq.trans (up2_nq (by omega)) (Eq.trans (up2_nq (by omega)) (Eq.trans (up2_nq (by omega)) (Eq.trans (up2_nq (by omega)) (Eq.trans (up2_nq (by omega)) (Eq.trans (up2_nq (by omega)) (congrFun (hzn11.2 _ (by omega)) _))))))))))) ?_
                refine wi_iload_4 ct_121_99 ?_
                refine wi_iast ct_121_101 (sT_35 hS12) (sL_35 hS12) (i_in hBn (by omega)) (i_cl (k := B) hBn (by omega)) ?_
                refine wi_aload_0 ct_121_102 ?_
                refine wi_gfr ct_121_103 (sT_31 hS12) rfl (sR_31_6 hS12) ?_
                refine wi_aload_0 ct_121_106 ?_
                refine wi_gf (x := fi 31 0) ct_121_107 (sT_31 hS12) rfl rfl (Eq.trans (up2_nq (by decide)) (Eq.trans (up2_nq (by decide)) (Eq.trans (up2_nq (by decide)) (Eq.trans (up2_nq (by decide)) (Eq.trans (up2_nq (by decide)) (Eq.trans (up2_nq (by omega)) (Eq.trans (up2_nq (by omega)) (Eq.trans (up2_nq (by omega)) (Eq.trans (up2_nq (by omega)) (Eq.trans (up2_nq (by omega)) (Eq.trans (up2_nq (by omega)) (congrFun (hzn11.2 _ (by omega)) _)))))))))))) ?_
                refine wi_ic ct_121_110 kc_0 ?_
                refine wi_iast ct_121_111 (sT_36 hS12) (sL_36 hS12) (i_in hBn (by omega)) (i_cl (k := B) hBn (by omega)) ?_
                refine wi_ic ct_121_112 kc_0 ?_
                refine wi_istore_5 rfl ct_121_113 ?_
                refine wi_iload_5 ct_121_115 ?_
                refine wi_ic ct_121_117 kc_4 ?_
                refine wi_icge_f ct_121_118 ki_0 ki_4 (by decide) ?_
                refine wi_aload_0 ct_121_121 ?_
                refine wi_gfr ct_121_122 (sT_31 hS12) rfl (sR_31_7 hS12) ?_
                refine wi_ic ct_121_125 kc_4 ?_
                refine wi_aload_0 ct_121_126 ?_
                refine wi_gf (x := fi 31 0) ct_121_127 (sT_31 hS12) rfl rfl (Eq.trans (up2_nq (by decide)) (Eq.trans (up2_nq (by decide)) (Eq.trans (up2_nq (by decide)) (Eq.trans (up2_nq (by decide)) (Eq.trans (up2_nq (by decide)) (Eq.trans (up2_nq (by decide)) (Eq.trans (up2_nq (by omega)) (Eq.trans (up2_nq (by omega)) (Eq.trans (up2_nq (by omega)) (Eq.trans (up2_nq (by omega)) (Eq.trans (up2_nq (by omega)) (Eq.trans (up2_nq (by omega)) (congrFun (hzn11.2 _ (by omega)) _))))))))))))) ?_
                refine wi_imul ct_121_130 rfl ?_
                refine wi_iload_5 ct_121_131 ?_
                refine wi_iadd ct_121_133 rfl ?_
                refine wi_ic ct_121_134 kc_0 ?_
                refine wi_iast ct_121_135 (sT_37 hS12) (sL_37 hS12) (i_in (i_add (i_mul ki_4 hBn (by omega)) ki_0 (by omega)) (by omega)) (i_cl (k := (4 * B)) (i_add (i_mul ki_4 hBn (by omega)) ki_0 (by omega)) (by omega)) ?_
                refine wi_iinc_5 rfl (z := 1) ct_121_136 (by decide) ?_
                refine wi_goto ct_121_139 ?_
                refine wi_iload_5 ct_121_115 ?_
                refine wi_ic ct_121_117 kc_4 ?_
                refine wi_icge_f ct_121_118 ki_1 ki_4 (by decide) ?_
                refine wi_aload_0 ct_121_121 ?_
                refine wi_gfr ct_121_122 (sT_31 hS12) rfl (sR_31_7 hS12) ?_
                refine wi_ic ct_121_125 kc_4 ?_
                refine wi_aload_0 ct_121_126 ?_
                refine wi_gf (x := fi 31 0) ct_121_127 (sT_31 hS12) rfl rfl (Eq.trans (up2_nq (by decide)) (Eq.trans (up2_nq (by decide)) (Eq.trans (up2_nq (by decide)) (Eq.trans (up2_nq (by decide)) (Eq.trans (up2_nq (by decide)) (Eq.trans (up2_nq (by decide)) (Eq.trans (up2_nq (by decide)) (Eq.trans (up2_nq (by omega)) (Eq.trans (up2_nq (by omega)) (Eq.trans (up2_nq (by omega)) (Eq.trans (up2_nq (by omega)) (Eq.trans (up2_nq (by omega)) (Eq.trans (up2_nq (by omega)) (congrFun (hzn11.2 _ (by omega)) _)))))))))))))) ?_
                refine wi_imul ct_121_130 rfl ?_
                refine wi_iload_5 ct_121_131 ?_
                refine wi_iadd ct_121_133 rfl ?_
                refine wi_ic ct_121_134 kc_0 ?_
                refine wi_iast ct_121_135 (sT_37 hS12) (sL_37 hS12) (i_in (i_add (i_mul ki_4 hBn (by omega)) ki_1 (by omega)) (by omega)) (i_cl (k := (4 * B + 1)) (i_add (i_mul ki_4 hBn (by omega)) ki_1 (by omega)) (by omega)) ?_
                refine wi_iinc_5 rfl (z := 2) ct_121_136 (by decide) ?_
                refine wi_goto ct_121_139 ?_
                refine wi_iload_5 ct_121_115 ?_
                refine wi_ic ct_121_117 kc_4 ?_
                refine wi_icge_f ct_121_118 ki_2 ki_4 (by decide) ?_
                refine wi_aload_0 ct_121_121 ?_
                refine wi_gfr ct_121_122 (sT_31 hS12) rfl (sR_31_7 hS12) ?_
                refine wi_ic ct_121_125 kc_4 ?_
                refine wi_aload_0 ct_121_126 ?_
                refine wi_gf (x := fi 31 0) ct_121_127 (sT_31 hS12) rfl rfl (Eq.trans (up2_nq (by decide)) (Eq.trans (up2_nq (by decide)) (Eq.trans (up2_nq (by decide)) (Eq.trans (up2_nq (by decide)) (Eq.trans (up2_nq (by decide)) (Eq.trans (up2_nq (by decide)) (Eq.trans (up2_nq (by decide)) (Eq.trans (up2_nq (by decide)) (Eq.trans (up2_nq (by omega)) (Eq.trans (up2_nq (by omega)) (Eq.trans (up2_nq (by omega)) (Eq.trans (up2_nq (by omega)) (Eq.trans (up2_nq (by omega)) (Eq.trans (up2_nq (by omega)) (congrFun (hzn11.2 _ (by omega)) _))))))))))))))) ?_
                refine wi_imul ct_121_130 rfl ?_
                refine wi_iload_5 ct_121_131 ?_
                refine wi_iadd ct_121_133 rfl ?_
                refine wi_ic ct_121_134 kc_0 ?_
                refine wi_iast ct_121_135 (sT_37 hS12) (sL_37 hS12) (i_in (i_add (i_mul ki_4 hBn (by omega)) ki_2 (by omega)) (by omega)) (i_cl (k := (4 * B + 2)) (i_add (i_mul ki_4 hBn (by omega)) ki_2 (by omega)) (by omega)) ?_
                refine wi_iinc_5 rfl (z := 3) ct_121_136 (by decide) ?_
                refine wi_goto ct_121_139 ?_
                refine wi_iload_5 ct_121_115 ?_
                refine wi_ic ct_121_117 kc_4 ?_
                refine wi_icge_f ct_121_118 ki_3 ki_4 (by decide) ?_
                refine wi_aload_0 ct_121_121 ?_
                refine wi_gfr ct_121_122 (sT_31 hS12) rfl (sR_31_7 hS12) ?_
                refine wi_ic ct_121_125 kc_4 ?_
                refine wi_aload_0 ct_121_126 ?_
                refine wi_gf (x := fi 31 0) ct_121_127 (sT_31 hS12) rfl rfl (Eq.trans (up2_nq (by decide)) (Eq.trans (up2_nq (by decide)) (Eq.trans (up2_nq (by decide)) (Eq.trans (up2_nq (by decide)) (Eq.trans (up2_nq (by decide)) (Eq.trans (up2_nq (by decide)) (Eq.trans (up2_nq (by decide)) (Eq.trans (up2_nq (by decide)) (Eq.trans (up2_nq (by decide)) (Eq.trans (up2_nq (by omega)) (Eq.trans (up2_nq (by omega)) (Eq.trans (up2_nq (by omega)) (Eq.trans (up2_nq (by omega)) (Eq.trans (up2_nq (by omega)) (Eq.trans (up2_nq (by omega)) (congrFun (hzn11.2 _ (by omega)) _)))))))))))))))) ?_
                refine wi_imul ct_121_130 rfl ?_
                refine wi_iload_5 ct_121_131 ?_
                refine wi_iadd ct_121_133 rfl ?_
                refine wi_ic ct_121_134 kc_0 ?_
                refine wi_iast ct_121_135 (sT_37 hS12) (sL_37 hS12) (i_in (i_add (i_mul ki_4 hBn (by omega)) ki_3 (by omega)) (by omega)) (i_cl (k := (4 * B + 3)) (i_add (i_mul ki_4 hBn (by omega)) ki_3 (by omega)) (by omega)) ?_
                refine wi_iinc_5 rfl (z := 4) ct_121_136 (by decide) ?_
                refine wi_goto ct_121_139 ?_
                refine wi_iload_5 ct_121_115 ?_
                refine wi_ic ct_121_117 kc_4 ?_
                refine wi_icge_t ct_121_118 ki_4 ki_4 (by decide) ?_
                refine wi_aload_0 ct_121_142 ?_
                refine wi_dup ct_121_143 rfl ?_
                refine wi_gf (x := fi 31 0) ct_121_144 (sT_31 hS12) rfl rfl (Eq.trans (up2_nq (by decide)) (Eq.trans (up2_nq (by decide)) (Eq.trans (up2_nq (by decide)) (Eq.trans (up2_nq (by decide)) (Eq.trans (up2_nq (by decide)) (Eq.trans (up2_nq (by decide)) (Eq.trans (up2_nq (by decide)) (Eq.trans (up2_nq (by decide)) (Eq.trans (up2_nq (by decide)) (Eq.trans (up2_nq (by decide)) (Eq.trans (up2_nq (by omega)) (Eq.trans (up2_nq (by omega)) (Eq.trans (up2_nq (by omega)) (Eq.trans (up2_nq (by omega)) (Eq.trans (up2_nq (by omega)) (Eq.trans (up2_nq (by omega)) (congrFun (hzn11.2 _ (by omega)) _))))))))))))))))) ?_
                refine wi_ic ct_121_147 kc_1 ?_
                refine wi_iadd ct_121_148 rfl ?_
                refine wi_pf ct_121_149 (sT_31 hS12) rfl ?_
                refine wi_aload_0 ct_121_152 ?_
                refine wi_gf (x := (fi 31 0 + 1)) ct_121_153 (sT_31 hS12) rfl rfl up2_eq ?_
                refine wi_ic ct_121_156 kc_1 ?_
                refine wi_isub ct_121_157 rfl ?_
                refine wi_iret ct_121_158 rfl (wk_i ?_)
                refine wi_iceq_t ct_211_240 hBn (i_sub (i_add hBn ki_1 (by omega)) ki_1 (by omega)) (by omega) ?_
                have hnl := hmn11.2.1
                have hsl1 := hmn11.2.2.1
                have nf : am_nf 2 = 6 := rfl
                have hnf : am_nx (am_gr gn11 2 B (some p)) = am_nx gn11 := rfl
                have hsf : am_sl (am_gr gn11 2 B (some p)) = am_sl gn11 := rfl
                refine kk (fun q => if q = p then 10 + B else own q) (am_gr gn11 2 B (some p)) (up2 (up2 (up2 (up2 (up2 (up2 (up2 (up2 (up2 (up2 (up2 (up2 (up2 (up2 (up2 (up2 (up2 fin11 p 5 (0)) p 0 (a1)) p 1 (fi 31 0)) p 2 (a2)) p 3 (a3)) p 4 (a4)) 1 1 ((fi 31 0 + 1))) 32 B (a1)) 33 B (a2)) 34 B (a3)) 35 B (a4)) 36 B (0)) 37 (4 * B) (0)) 37 (4 * B + 1) (0)) 37 (4 * B + 2) (0)) 37 (4 * B + 3) (0)) 31 0 ((fi 31 0 + 1))) _ (hR.one (B := B) hBn (by omega) hS12 ⟨by omega, fun q h1 h2 _ => ⟨((hmn11.2.2.2.2.2.2 _ (by omega)).1), ((hmn11.2.2.2.2.2.2 _ (by omega)).2.1), funext fun j => (Eq.trans (gr_nq (by omega)) (congrFun (hmn11.2.2.2.2.2.2 _ (by omega)).2.2 _)), if_neg (by omega), (Eq.trans (funext fun _ => up2_nq (by omega)) (Eq.trans (funext fun _ => up2_nq (by omega)) (Eq.trans (funext fun _ => up2_nq (by omega)) (Eq.trans (funext fun _ => up2_nq (by omega)) (Eq.trans (funext fun _ => up2_nq (by omega)) (Eq.trans (funext fun _ => up2_nq (by omega)) (Eq.trans (funext fun _ => up2_nq (by omega)) (Eq.trans (funext fun _ => up2_nq (by omega)) (Eq.trans (funext fun _ => up2_nq (by omega)) (Eq.trans (funext fun _ => up2_nq (by omega)) (Eq.trans (funext fun _ => up2_nq (by omega)) (Eq.trans (funext fun _ => up2_nq (by omega)) (Eq.trans (funext fun _ => up2_nq (by omega)) (Eq.trans (funext fun _ => up2_nq (by omega)) (Eq.trans (funext fun _ => up2_nq (by omega)) (Eq.trans (funext fun _ => up2_nq (by omega)) (Eq.trans (funext fun _ => up2_nq (by omega)) (hzn11.2 _ (by omega)))))))))))))))))))⟩⟩ (fun q hq => ((hmn11.2.2.2.2.2.2 _ (by omega)).1)) (fun q j h1 h2 => (Eq.trans (if_neg (by omega)) (congrFun (hmn11.2.2.2.2.2.2 _ (by omega)).2.2 _))) (Eq.trans (funext fun _ => up2_nq (by first | decide | exact sc_nd (by omega))) (Eq.trans (funext fun _ => up2_nq (by first | decide | exact sc_nd (by omega))) (Eq.trans (funext fun _ => up2_nq (by first | decide | exact sc_nd (by omega))) (Eq.trans (funext fun _ => up2_nq (by first | decide | exact sc_nd (by omega))) (Eq.trans (funext fun _ => up2_nq (by first | decide | exact sc_nd (by omega))) (Eq.trans (funext fun _ => up2_nq (by first | decide | exact sc_nd (by omega))) (Eq.trans (funext fun _ => up2_nq (by first | decide | exact sc_nd (by omega))) (Eq.trans (funext fun _ => up2_nq (by first | decide | exact sc_nd (by omega))) (Eq.trans (funext fun _ => up2_nq (by first | decide | exact sc_nd (by omega))) (Eq.trans (funext fun _ => up2_nq (by first | decide | exact sc_nd (by omega))) (Eq.trans (funext fun _ => up2_nq (by first | decide | exact sc_nd (by omega))) (Eq.trans (funext fun _ => up2_nq (by first | decide | exact sc_nd (by omega))) (Eq.trans (funext fun _ => up2_nq (by first | decide | exact sc_nd (by omega))) (Eq.trans (funext fun _ => up2_nq (by first | decide | exact sc_nd (by omega))) (Eq.trans (funext fun _ => up2_nq (by first | decide | exact sc_nd (by omega))) (Eq.trans (funext fun _ => up2_nq (by first | decide | exact sc_nd (by omega))) (Eq.trans (funext fun _ => up2_nq (by first | decide | exact sc_nd (by omega))) (hzn11.2 _ (sc_nd (by omega)))))))))))))))))))) (fun q h1 h2 => (Eq.trans (funext fun _ => up2_nq (by omega)) (Eq.trans (funext fun _ => up2_nq (by omega)) (Eq.trans (funext fun _ => up2_nq (by omega)) (Eq.trans (funext fun _ => up2_nq (by omega)) (Eq.trans (funext fun _ => up2_nq (by omega)) (Eq.trans (funext fun _ => up2_nq (by omega)) (Eq.trans (funext fun _ => up2_nq (by omega)) (Eq.trans (funext fun _ => up2_nq (by omega)) (Eq.trans (funext fun _ => up2_nq (by omega)) (Eq.trans (funext fun _ => up2_nq (by omega)) (Eq.trans (funext fun _ => up2_nq (by omega)) (Eq.trans (funext fun _ => up2_nq (by omega)) (Eq.trans (funext fun _ => up2_nq (by omega)) (Eq.trans (funext fun _ => up2_nq (by omega)) (Eq.trans (funext fun _ => up2_nq (by omega)) (Eq.trans (funext fun _ => up2_nq (by omega)) (Eq.trans (funext fun _ => up2_nq (by omega)) (hzn11.2 _ (by omega)))))))))))))))))))) (fun j hj => (Eq.trans (up2_nq (by omega)) (Eq.trans (up2_nq (by omega)) (Eq.trans (up2_nq (by omega)) (Eq.trans (up2_nq (by omega)) (Eq.trans (up2_nq (by omega)) (Eq.trans (up2_nq (by omega)) (Eq.trans (up2_nq (by omega)) (Eq.trans (up2_nq (by omega)) (Eq.trans (up2_nq (by omega)) (Eq.trans (up2_nq (by omega)) (Eq.trans (up2_nj hj) (Eq.trans (up2_nq (by omega)) (Eq.trans (up2_nq (by omega)) (Eq.trans (up2_nq (by omega)) (Eq.trans (up2_nq (by omega)) (Eq.trans (up2_nq (by omega)) (Eq.trans (up2_nq (by omega)) (congrFun (hzn11.2 _ (by omega)) _))))))))))))))))))) (fun j hj => (Eq.trans (up2_nj hj) (Eq.trans (up2_nq (by omega)) (Eq.trans (up2_nq (by omega)) (Eq.trans (up2_nq (by omega)) (Eq.trans (up2_nq (by omega)) (Eq.trans (up2_nq (by omega)) (Eq.trans (up2_nq (by omega)) (Eq.trans (up2_nq (by omega)) (Eq.trans (up2_nq (by omega)) (Eq.trans (up2_nq (by omega)) (Eq.trans (up2_nq (by omega)) (Eq.trans (up2_nq (by omega)) (Eq.trans (up2_nq (by omega)) (Eq.trans (up2_nq (by omega)) (Eq.trans (up2_nq (by omega)) (Eq.trans (up2_nq (by omega)) (Eq.trans (up2_nq (by omega)) (congrFun (hzn11.2 _ (by omega)) _))))))))))))))))))) ⟨((Eq.trans (up2_nq (by decide)) (Eq.trans (up2_nq (by decide)) (Eq.trans (up2_nq (by decide)) (Eq.trans (up2_nq (by decide)) (Eq.trans (up2_nq (by decide)) (Eq.trans (up2_nq (by decide)) (Eq.trans (up2_nq (by decide)) (Eq.trans (up2_nq (by decide)) (Eq.trans (up2_nq (by decide)) (Eq.trans (up2_nq (by decide)) up2_eq))))))))))).trans (up2_eq).symm, ?_⟩ (fun q b h1 h2 h3 => ?_) (fun b j h1 h2 => (Eq.trans (up2_nq (by omega)) (Eq.trans (up2_nj (by omega)) (Eq.trans (up2_nj (by omega)) (Eq.trans (up2_nj (by omega)) (Eq.trans (up2_nj (by omega)) (Eq.trans (up2_nq (by omega)) (Eq.trans (up2_nq (by omega)) (Eq.trans (up2_nq (by omega)) (Eq.trans (up2_nq (by omega)) (Eq.trans (up2_nq (by omega)) (Eq.trans (up2_nq (by omega)) (Eq.trans (up2_nq (by omega)) (Eq.trans (up2_nq (by omega)) (Eq.trans (up2_nq (by omega)) (Eq.trans (up2_nq (by omega)) (Eq.trans (up2_nq (by omega)) (Eq.trans (up2_nq (by omega)) (congrFun (hzn11.2 _ (by omega)) _))))))))))))))))))) (fun q hq => (hln11.2 _ (by omega))) ?_ ⟨p, 0, ⟨gr_eq, ⟨by omega, by omega, if_pos rfl⟩, ?_, ((Eq.trans (up2_nq (by omega)) (Eq.trans (up2_nq (by omega)) (Eq.trans (up2_nq (by omega)) (Eq.trans (up2_nq (by omega)) (Eq.trans (up2_nq (by omega)) (Eq.trans (up2_nq (by omega)) (Eq.trans (up2_nq (by omega)) (Eq.trans (up2_nq (by omega)) (Eq.trans (up2_nq (by omega)) (Eq.trans (up2_nq (by omega)) (Eq.trans (up2_nq (by omega)) (Eq.trans (up2_nj (by decide)) (Eq.trans (up2_nj (by decide)) (Eq.trans (up2_nj (by decide)) (Eq.trans (up2_nj (by decide)) up2_eq)))))))))))))))).trans ((Eq.trans (up2_nq (by decide)) (Eq.trans (up2_nq (by decide)) (Eq.trans (up2_nq (by decide)) (Eq.trans (up2_nq (by decide)) (Eq.trans (up2_nq (by decide)) (Eq.trans (up2_nq (by decide)) (Eq.trans (up2_nq (by decide)) (Eq.trans (up2_nq (by decide)) (Eq.trans (up2_nq (by decide)) up2_eq)))))))))).symm, ?_, ((Eq.trans (up2_nq (by omega)) (Eq.trans (up2_nq (by omega)) (Eq.trans (up2_nq (by omega)) (Eq.trans (up2_nq (by omega)) (Eq.trans (up2_nq (by omega)) (Eq.trans (up2_nq (by omega)) (Eq.trans (up2_nq (by omega)) (Eq.trans (up2_nq (by omega)) (Eq.trans (up2_nq (by omega)) (Eq.trans (up2_nq (by omega)) (Eq.trans (up2_nq (by omega)) (Eq.trans (up2_nj (by decide)) (Eq.trans (up2_nj (by decide)) up2_eq)))))))))))))).trans ((Eq.trans (up2_nq (by decide)) (Eq.trans (up2_nq (by decide)) (Eq.trans (up2_nq (by decide)) (Eq.trans (up2_nq (by decide)) (Eq.trans (up2_nq (by decide)) (Eq.trans (up2_nq (by decide)) (Eq.trans (up2_nq (by decide)) (Eq.trans (up2_nq (by decide)) up2_eq))))))))).symm, ((Eq.trans (up2_nq (by omega)) (Eq.trans (up2_nq (by omega)) (Eq.trans (up2_nq (by omega)) (Eq.trans (up2_nq (by omega)) (Eq.trans (up2_nq (by omega)) (Eq.trans (up2_nq (by omega)) (Eq.trans (up2_nq (by omega)) (Eq.trans (up2_nq (by omega)) (Eq.trans (up2_nq (by omega)) (Eq.trans (up2_nq (by omega)) (Eq.trans (up2_nq (by omega)) (Eq.trans (up2_nj (by decide)) up2_eq))))))))))))).trans ((Eq.trans (up2_nq (by decide)) (Eq.trans (up2_nq (by decide)) (Eq.trans (up2_nq (by decide)) (Eq.trans (up2_nq (by decide)) (Eq.trans (up2_nq (by decide)) (Eq.trans (up2_nq (by decide)) (Eq.trans (up2_nq (by decide)) up2_eq)))))))).symm, ((Eq.trans (up2_nq (by omega)) (Eq.trans (up2_nq (by omega)) (Eq.trans (up2_nq (by omega)) (Eq.trans (up2_nq (by omega)) (Eq.trans (up2_nq (by omega)) (Eq.trans (up2_nq (by omega)) (Eq.trans (up2_nq (by omega)) (Eq.trans (up2_nq (by omega)) (Eq.trans (up2_nq (by omega)) (Eq.trans (up2_nq (by omega)) (Eq.trans (up2_nq (by omega)) up2_eq)))))))))))).trans ((Eq.trans (up2_nq (by decide)) (Eq.trans (up2_nq (by decide)) (Eq.trans (up2_nq (by decide)) (Eq.trans (up2_nq (by decide)) (Eq.trans (up2_nq (by decide)) (Eq.trans (up2_nq (by decide)) up2_eq))))))).symm, ((Eq.trans (up2_nq (by omega)) (Eq.trans (up2_nq (by omega)) (Eq.trans (up2_nq (by omega)) (Eq.trans (up2_nq (by omega)) (Eq.trans (up2_nq (by omega)) (Eq.trans (up2_nq (by omega)) (Eq.trans (up2_nq (by omega)) (Eq.trans (up2_nq (by omega)) (Eq.trans (up2_nq (by omega)) (Eq.trans (up2_nq (by omega)) (Eq.trans (up2_nq (by omega)) (Eq.trans (up2_nj (by decide)) (Eq.trans (up2_nj (by decide)) (Eq.trans (up2_nj (by decide)) (Eq.trans (up2_nj (by decide)) (Eq.trans (up2_nj (by decide)) up2_eq))))))))))))))))).trans ((Eq.trans (up2_nq (by decide)) (Eq.trans (up2_nq (by decide)) (Eq.trans (up2_nq (by decide)) (Eq.trans (up2_nq (by decide)) (Eq.trans (up2_nq (by decide)) up2_eq)))))).symm, ?_⟩, ((congrArg (fun t => am_sub t 0) hmn11.2.2.2.1).trans rfl)⟩) (by omega) (by omega)
                · exact (congrArg Int32.toInt (up2_eq)).trans ((i_add hBn ki_1 (by omega)).trans (by omega))
                · exact (Eq.trans (if_neg (by omega)) (Eq.trans (if_neg (by omega)) (Eq.trans (if_neg (by omega)) (Eq.trans (if_neg (by omega)) (Eq.trans (if_neg (by omega)) (Eq.trans (if_neg (by omega)) (Eq.trans (if_neg (by omega)) (Eq.trans (if_neg (by omega)) (Eq.trans (if_neg (by omega)) (Eq.trans (if_neg (by omega)) (Eq.trans (if_neg (by omega)) (Eq.trans (if_neg (by omega)) (Eq.trans (if_neg (by omega)) (Eq.trans (if_neg (by omega)) (Eq.trans (if_neg (by omega)) (Eq.trans (if_neg (by omega)) (Eq.trans (if_neg (by omega)) (congrFun (hzn11.2 _ (by omega)) _))))))))))))))))))
                · unfold RM
                  rw [show (up2 (up2 (up2 (up2 (up2 (up2 (up2 (up2 (up2 (up2 (up2 (up2 (up2 (up2 (up2 (up2 (up2 fin11 p 5 (0)) p 0 (a1)) p 1 (fi 31 0)) p 2 (a2)) p 3 (a3)) p 4 (a4)) 1 1 ((fi 31 0 + 1))) 32 B (a1)) 33 B (a2)) 34 B (a3)) 35 B (a4)) 36 B (0)) 37 (4 * B) (0)) 37 (4 * B + 1) (0)) 37 (4 * B + 2) (0)) 37 (4 * B + 3) (0)) 31 0 ((fi 31 0 + 1))) 32 B = a1 from (Eq.trans (up2_nq (by decide)) (Eq.trans (up2_nq (by decide)) (Eq.trans (up2_nq (by decide)) (Eq.trans (up2_nq (by decide)) (Eq.trans (up2_nq (by decide)) (Eq.trans (up2_nq (by decide)) (Eq.trans (up2_nq (by decide)) (Eq.trans (up2_nq (by decide)) (Eq.trans (up2_nq (by decide)) up2_eq)))))))))]
                  rw [show (up2 (up2 (up2 (up2 (up2 (up2 (up2 (up2 (up2 (up2 (up2 (up2 (up2 (up2 (up2 (up2 (up2 fin11 p 5 (0)) p 0 (a1)) p 1 (fi 31 0)) p 2 (a2)) p 3 (a3)) p 4 (a4)) 1 1 ((fi 31 0 + 1))) 32 B (a1)) 33 B (a2)) 34 B (a3)) 35 B (a4)) 36 B (0)) 37 (4 * B) (0)) 37 (4 * B + 1) (0)) 37 (4 * B + 2) (0)) 37 (4 * B + 3) (0)) 31 0 ((fi 31 0 + 1))) 33 B = a2 from (Eq.trans (up2_nq (by decide)) (Eq.trans (up2_nq (by decide)) (Eq.trans (up2_nq (by decide)) (Eq.trans (up2_nq (by decide)) (Eq.trans (up2_nq (by decide)) (Eq.trans (up2_nq (by decide)) (Eq.trans (up2_nq (by decide)) (Eq.trans (up2_nq (by decide)) up2_eq))))))))]
                  rw [show (up2 (up2 (up2 (up2 (up2 (up2 (up2 (up2 (up2 (up2 (up2 (up2 (up2 (up2 (up2 (up2 (up2 fin11 p 5 (0)) p 0 (a1)) p 1 (fi 31 0)) p 2 (a2)) p 3 (a3)) p 4 (a4)) 1 1 ((fi 31 0 + 1))) 32 B (a1)) 33 B (a2)) 34 B (a3)) 35 B (a4)) 36 B (0)) 37 (4 * B) (0)) 37 (4 * B + 1) (0)) 37 (4 * B + 2) (0)) 37 (4 * B + 3) (0)) 31 0 ((fi 31 0 + 1))) 34 B = a3 from (Eq.trans (up2_nq (by decide)) (Eq.trans (up2_nq (by decide)) (Eq.trans (up2_nq (by decide)) (Eq.trans (up2_nq (by decide)) (Eq.trans (up2_nq (by decide)) (Eq.trans (up2_nq (by decide)) (Eq.trans (up2_nq (by decide)) up2_eq)))))))]
                  rw [show (up2 (up2 (up2 (up2 (up2 (up2 (up2 (up2 (up2 (up2 (up2 (up2 (up2 (up2 (up2 (up2 (up2 fin11 p 5 (0)) p 0 (a1)) p 1 (fi 31 0)) p 2 (a2)) p 3 (a3)) p 4 (a4)) 1 1 ((fi 31 0 + 1))) 32 B (a1)) 33 B (a2)) 34 B (a3)) 35 B (a4)) 36 B (0)) 37 (4 * B) (0)) 37 (4 * B + 1) (0)) 37 (4 * B + 2) (0)) 37 (4 * B + 3) (0)) 31 0 ((fi 31 0 + 1))) 35 B = a4 from (Eq.trans (up2_nq (by decide)) (Eq.trans (up2_nq (by decide)) (Eq.trans (up2_nq (by decide)) (Eq.trans (up2_nq (by decide)) (Eq.trans (up2_nq (by decide)) (Eq.trans (up2_nq (by decide)) up2_eq))))))]
                  rw [show (up2 (up2 (up2 (up2 (up2 (up2 (up2 (up2 (up2 (up2 (up2 (up2 (up2 (up2 (up2 (up2 (up2 fin11 p 5 (0)) p 0 (a1)) p 1 (fi 31 0)) p 2 (a2)) p 3 (a3)) p 4 (a4)) 1 1 ((fi 31 0 + 1))) 32 B (a1)) 33 B (a2)) 34 B (a3)) 35 B (a4)) 36 B (0)) 37 (4 * B) (0)) 37 (4 * B + 1) (0)) 37 (4 * B + 2) (0)) 37 (4 * B + 3) (0)) 31 0 ((fi 31 0 + 1))) 36 B = 0 from (Eq.trans (up2_nq (by decide)) (Eq.trans (up2_nq (by decide)) (Eq.trans (up2_nq (by decide)) (Eq.trans (up2_nq (by decide)) (Eq.trans (up2_nq (by decide)) up2_eq)))))]
                  refine ⟨by omega, by omega, by omega, by omega, by decide, fun j hj => ?_⟩
                  match j, hj with
                  | 0, _ => rw [show (up2 (up2 (up2 (up2 (up2 (up2 (up2 (up2 (up2 (up2 (up2 (up2 (up2 (up2 (up2 (up2 (up2 fin11 p 5 (0)) p 0 (a1)) p 1 (fi 31 0)) p 2 (a2)) p 3 (a3)) p 4 (a4)) 1 1 ((fi 31 0 + 1))) 32 B (a1)) 33 B (a2)) 34 B (a3)) 35 B (a4)) 36 B (0)) 37 (4 * B) (0)) 37 (4 * B + 1) (0)) 37 (4 * B + 2) (0)) 37 (4 * B + 3) (0)) 31 0 ((fi 31 0 + 1))) 37 (4 * B + 0) = 0 from (Eq.trans (up2_nq (by decide)) (Eq.trans (up2_nj (by omega)) (Eq.trans (up2_nj (by omega)) (Eq.trans (up2_nj (by omega)) up2_eq))))]; decide
                  | 1, _ => rw [show (up2 (up2 (up2 (up2 (up2 (up2 (up2 (up2 (up2 (up2 (up2 (up2 (up2 (up2 (up2 (up2 (up2 fin11 p 5 (0)) p 0 (a1)) p 1 (fi 31 0)) p 2 (a2)) p 3 (a3)) p 4 (a4)) 1 1 ((fi 31 0 + 1))) 32 B (a1)) 33 B (a2)) 34 B (a3)) 35 B (a4)) 36 B (0)) 37 (4 * B) (0)) 37 (4 * B + 1) (0)) 37 (4 * B + 2) (0)) 37 (4 * B + 3) (0)) 31 0 ((fi 31 0 + 1))) 37 (4 * B + 1) = 0 from (Eq.trans (up2_nq (by decide)) (Eq.trans (up2_nj (by omega)) (Eq.trans (up2_nj (by omega)) up2_eq)))]; decide
                  | 2, _ => rw [show (up2 (up2 (up2 (up2 (up2 (up2 (up2 (up2 (up2 (up2 (up2 (up2 (up2 (up2 (up2 (up2 (up2 fin11 p 5 (0)) p 0 (a1)) p 1 (fi 31 0)) p 2 (a2)) p 3 (a3)) p 4 (a4)) 1 1 ((fi 31 0 + 1))) 32 B (a1)) 33 B (a2)) 34 B (a3)) 35 B (a4)) 36 B (0)) 37 (4 * B) (0)) 37 (4 * B + 1) (0)) 37 (4 * B + 2) (0)) 37 (4 * B + 3) (0)) 31 0 ((fi 31 0 + 1))) 37 (4 * B + 2) = 0 from (Eq.trans (up2_nq (by decide)) (Eq.trans (up2_nj (by omega)) up2_eq))]; decide
                  | 3, _ => rw [show (up2 (up2 (up2 (up2 (up2 (up2 (up2 (up2 (up2 (up2 (up2 (up2 (up2 (up2 (up2 (up2 (up2 fin11 p 5 (0)) p 0 (a1)) p 1 (fi 31 0)) p 2 (a2)) p 3 (a3)) p 4 (a4)) 1 1 ((fi 31 0 + 1))) 32 B (a1)) 33 B (a2)) 34 B (a3)) 35 B (a4)) 36 B (0)) 37 (4 * B) (0)) 37 (4 * B + 1) (0)) 37 (4 * B + 2) (0)) 37 (4 * B + 3) (0)) 31 0 ((fi 31 0 + 1))) 37 (4 * B + 3) = 0 from (Eq.trans (up2_nq (by decide)) up2_eq)]; decide
                  | j + 4, h => exact absurd h (by omega)
                · exact hmn11.2.2.2.1.trans (by rw [show (up2 (up2 (up2 (up2 (up2 (up2 (up2 (up2 (up2 (up2 (up2 (up2 (up2 (up2 (up2 (up2 (up2 fin11 p 5 (0)) p 0 (a1)) p 1 (fi 31 0)) p 2 (a2)) p 3 (a3)) p 4 (a4)) 1 1 ((fi 31 0 + 1))) 32 B (a1)) 33 B (a2)) 34 B (a3)) 35 B (a4)) 36 B (0)) 37 (4 * B) (0)) 37 (4 * B + 1) (0)) 37 (4 * B + 2) (0)) 37 (4 * B + 3) (0)) 31 0 ((fi 31 0 + 1))) 32 B = a1 from (Eq.trans (up2_nq (by decide)) (Eq.trans (up2_nq (by decide)) (Eq.trans (up2_nq (by decide)) (Eq.trans (up2_nq (by decide)) (Eq.trans (up2_nq (by decide)) (Eq.trans (up2_nq (by decide)) (Eq.trans (up2_nq (by decide)) (Eq.trans (up2_nq (by decide)) (Eq.trans (up2_nq (by decide)) up2_eq))))))))), show (a1).toInt = 2 by omega] <;> rfl)
                · exact (congrArg Int32.toInt ((Eq.trans (up2_nq (by omega)) (Eq.trans (up2_nq (by omega)) (Eq.trans (up2_nq (by omega)) (Eq.trans (up2_nq (by omega)) (Eq.trans (up2_nq (by omega)) (Eq.trans (up2_nq (by omega)) (Eq.trans (up2_nq (by omega)) (Eq.trans (up2_nq (by omega)) (Eq.trans (up2_nq (by omega)) (Eq.trans (up2_nq (by omega)) (Eq.trans (up2_nq (by omega)) (Eq.trans (up2_nj (by decide)) (Eq.trans (up2_nj (by decide)) (Eq.trans (up2_nj (by decide)) up2_eq)))))))))))))))).trans hBn
                · intro h6
                  rw [show (up2 (up2 (up2 (up2 (up2 (up2 (up2 (up2 (up2 (up2 (up2 (up2 (up2 (up2 (up2 (up2 (up2 fin11 p 5 (0)) p 0 (a1)) p 1 (fi 31 0)) p 2 (a2)) p 3 (a3)) p 4 (a4)) 1 1 ((fi 31 0 + 1))) 32 B (a1)) 33 B (a2)) 34 B (a3)) 35 B (a4)) 36 B (0)) 37 (4 * B) (0)) 37 (4 * B + 1) (0)) 37 (4 * B + 2) (0)) 37 (4 * B + 3) (0)) 31 0 ((fi 31 0 + 1))) 32 B = a1 from (Eq.trans (up2_nq (by decide)) (Eq.trans (up2_nq (by decide)) (Eq.trans (up2_nq (by decide)) (Eq.trans (up2_nq (by decide)) (Eq.trans (up2_nq (by decide)) (Eq.trans (up2_nq (by decide)) (Eq.trans (up2_nq (by decide)) (Eq.trans (up2_nq (by decide)) (Eq.trans (up2_nq (by decide)) up2_eq)))))))))] at h6
                  exact absurd h6 (by omega)
              rcases Decidable.em ((a1).toInt = 3) with h13 | h13
              · refine wi_tsw (X := 3) (t := 68) ct_105_1 (by omega) rfl ?_
                obtain ⟨p, hp⟩ : ∃ p, am_nx g = p := ⟨_, rfl⟩
                have hp72 : 72 ≤ p := hp ▸ hS.nx
                refine wi_newF ct_105_68 hp (by omega) (fun gn14 fin14 fln14 hmn14 hzn14 hln14 => ?_)
                have hSn14 := hS.mkF hmn14 (by omega)
                refine wi_dup ct_105_71 rfl ?_
                refine wi_iload_0 ct_105_72 ?_
                refine wi_iload_1 ct_105_73 ?_
                refine wi_iload_2 ct_105_74 ?_
                refine wi_iload_3 ct_105_75 ?_
                refine wi_iload_4 ct_105_76 ?_
                refine wi_cp5 (ls' := [some _, some _, some _, some _, some _, some _]) ct_105_78 (Nat.le_of_ble_eq_true rfl) hmn14.2.2.2.1 (by decide) rfl (Nat.le_of_ble_eq_true rfl) ?_
                refine wi_aload_0 ct_27_0 ?_
                refine wi_iload_1 ct_27_1 ?_
                refine wi_iload_2 ct_27_2 ?_
                refine wi_iload_3 ct_27_3 ?_
                refine wi_iload_4 ct_27_4 ?_
                refine wi_iload_5 ct_27_6 ?_
                refine wi_cp5 (ls' := [some _, some _, some _, some _, some _, some _]) ct_27_8 (Nat.le_of_ble_eq_true rfl) hmn14.2.2.2.1 (by decide) rfl (Nat.le_of_ble_eq_true rfl) ?_
                refine wi_aload_0 ct_0_0 ?_
                refine wi_obj ct_0_1 (Nat.le_of_ble_eq_true rfl) ?_
                refine wi_aload_0 ct_0_4 ?_
                refine wi_ic ct_0_5 kc_0 ?_
                refine wi_pf ct_0_6 hmn14.2.2.2.1 rfl ?_
                refine wi_aload_0 ct_0_9 ?_
                refine wi_iload_1 ct_0_10 ?_
                refine wi_pf ct_0_11 hmn14.2.2.2.1 rfl ?_
                refine wi_aload_0 ct_0_14 ?_
                refine wi_iload_2 ct_0_15 ?_
                refine wi_pf ct_0_16 hmn14.2.2.2.1 rfl ?_
                refine wi_aload_0 ct_0_19 ?_
                refine wi_iload_3 ct_0_20 ?_
                refine wi_pf ct_0_21 hmn14.2.2.2.1 rfl ?_
                refine wi_aload_0 ct_0_24 ?_
                refine wi_iload_4 ct_0_25 ?_
                refine wi_pf ct_0_27 hmn14.2.2.2.1 rfl ?_
                refine wi_aload_0 ct_0_30 ?_
                refine wi_iload_5 ct_0_31 ?_
                refine wi_pf ct_0_33 hmn14.2.2.2.1 rfl ?_
                refine wi_ret ct_0_36 (wk_v ?_)
                refine wi_ret ct_27_11 (wk_v ?_)
                refine wi_aret ct_105_81 (wk_r ?_)
                refine wi_aast ct_67_88 (Or.inl ⟨(sT_2 hSn14), (hmn14.2.2.2.1).symm ▸ rfl⟩) (sL_2 hSn14) (i_in hBn (by omega)) (i_cl (k := B) hBn (by omega)) ?_
                have hS15 := hSn14.grq (q := 2) (a := B) (x := (some p)) (by decide)
                refine wi_aload_0 ct_67_89 ?_
                refine wi_gfr ct_67_90 (sT_0 hS15) rfl (sR_0_0 hS15) ?_
                refine wi_dup ct_67_93 rfl ?_
                refine wi_gf (x := fi 31 0) ct_67_94 (sT_1 hS15) rfl rfl (Eq.trans (up2_nq (by omega)) (Eq.trans (up2_nq (by omega)) (Eq.trans (up2_nq (by omega)) (Eq.trans (up2_nq (by omega)) (Eq.trans (up2_nq (by omega)) (Eq.trans (up2_nq (by omega)) (Eq.trans (congrFun (hzn14.2 _ (by omega)) _) c0))))))) ?_
                refine wi_ic ct_67_97 kc_1 ?_
                refine wi_iadd ct_67_98 rfl ?_
                refine wi_pf ct_67_99 (sT_1 hS15) rfl ?_
                refine wi_iload_5 ct_67_102 ?_
                refine wi_iret ct_67_104 rfl (wk_i ?_)
                refine wi_aload_2 ct_211_216 ?_
                refine wi_aloadT_0 ct_211_217 ?_
                refine wi_iload_3 ct_211_218 ?_
                refine wi_ic ct_211_219 kc_1 ?_
                refine wi_iadd ct_211_220 rfl ?_
                refine wi_ialdT (j := I + 1) (x := a1) ct_211_221 (sL_SC hS15) (i_in (i_add hi ki_1 (by omega)) (by omega)) (i_cl (i_add hi ki_1 (by omega)) (by omega)) ((Eq.trans (up2_nq (by decide)) (Eq.trans (up2_nq (sc_nd (by omega))) (Eq.trans (up2_nq (sc_nd (by omega))) (Eq.trans (up2_nq (sc_nd (by omega))) (Eq.trans (up2_nq (sc_nd (by omega))) (Eq.trans (up2_nq (sc_nd (by omega))) (Eq.trans (up2_nq (sc_nd (by omega))) (Eq.trans (congrFun (hzn14.2 _ (sc_nd (by omega))) _) ((hsc _).trans e1)))))))))) ?_
                refine wi_aloadT_0 ct_211_222 ?_
                refine wi_iload_3 ct_211_223 ?_
                refine wi_ic ct_211_224 kc_2 ?_
                refine wi_iadd ct_211_225 rfl ?_
                refine wi_ialdT (j := I + 2) (x := a2) ct_211_226 (sL_SC hS15) (i_in (i_add hi ki_2 (by omega)) (by omega)) (i_cl (i_add hi ki_2 (by omega)) (by omega)) ((Eq.trans (up2_nq (by decide)) (Eq.trans (up2_nq (sc_nd (by omega))) (Eq.trans (up2_nq (sc_nd (by omega))) (Eq.trans (up2_nq (sc_nd (by omega))) (Eq.trans (up2_nq (sc_nd (by omega))) (Eq.trans (up2_nq (sc_nd (by omega))) (Eq.trans (up2_nq (sc_nd (by omega))) (Eq.trans (congrFun (hzn14.2 _ (sc_nd (by omega))) _) ((hsc _).trans e2)))))))))) ?_
                refine wi_aloadT_0 ct_211_227 ?_
                refine wi_iload_3 ct_211_228 ?_
                refine wi_ic ct_211_229 kc_3 ?_
                refine wi_iadd ct_211_230 rfl ?_
                refine wi_ialdT (j := I + 3) (x := a3) ct_211_231 (sL_SC hS15) (i_in (i_add hi ki_3 (by omega)) (by omega)) (i_cl (i_add hi ki_3 (by omega)) (by omega)) ((Eq.trans (up2_nq (by decide)) (Eq.trans (up2_nq (sc_nd (by omega))) (Eq.trans (up2_nq (sc_nd (by omega))) (Eq.trans (up2_nq (sc_nd (by omega))) (Eq.trans (up2_nq (sc_nd (by omega))) (Eq.trans (up2_nq (sc_nd (by omega))) (Eq.trans (up2_nq (sc_nd (by omega))) (Eq.trans (congrFun (hzn14.2 _ (sc_nd (by omega))) _) ((hsc _).trans e3)))))))))) ?_
                refine wi_aloadT_0 ct_211_232 ?_
                refine wi_iload_3 ct_211_233 ?_
                refine wi_ic ct_211_234 kc_4 ?_
                refine wi_iadd ct_211_235 rfl ?_
                refine wi_ialdT (j := I + 4) (x := a4) ct_211_236 (sL_SC hS15) (i_in (i_add hi ki_4 (by omega)) (by omega)) (i_cl (i_add hi ki_4 (by omega)) (by omega)) ((Eq.trans (up2_nq (by decide)) (Eq.trans (up2_nq (sc_nd (by omega))) (Eq.trans (up2_nq (sc_nd (by omega))) (Eq.trans (up2_nq (sc_nd (by omega))) (Eq.trans (up2_nq (sc_nd (by omega))) (Eq.trans (up2_nq (sc_nd (by omega))) (Eq.trans (up2_nq (sc_nd (by omega))) (Eq.trans (congrFun (hzn14.2 _ (sc_nd (by omega))) _) ((hsc _).trans e4)))))))))) ?_
                refine wi_cv4 (ls' := [some _, some _, some _, some _, some _, none]) ct_211_237 (Nat.le_of_ble_eq_true rfl) (by decide) (sT_31 hS15) rfl (by decide) rfl rfl (Nat.le_of_ble_eq_true rfl) ?_
                refine wi_aload_0 ct_121_0 ?_
                refine wi_iload_1 ct_121_1 ?_
                refine wi_ic ct_121_2 kc_0 ?_
                refine wi_ic ct_121_3 kc_6 ?_
                refine wi_cv3 (ls' := [some _, some _, some _, some _]) ct_121_5 (Nat.le_of_ble_eq_true rfl) (by decide) (sT_31 hS15) rfl (by decide) rfl rfl (Nat.le_of_ble_eq_true rfl) ?_
                refine c_in rfl ki_0 ki_6 (fun _ => wk_i ?_) (fun h => absurd h (by omega))
                refine wi_ifne_t ct_121_8 ki_1 (by decide) ?_
                refine wi_aload_0 ct_121_13 ?_
                refine wi_iload_2 ct_121_14 ?_
                refine wi_ic ct_121_15 kc_0 ?_
                refine wi_ic ct_121_16 kc_9 ?_
                refine wi_cv3 (ls' := [some _, some _, some _, some _]) ct_121_18 (Nat.le_of_ble_eq_true rfl) (by decide) (sT_31 hS15) rfl (by decide) rfl rfl (Nat.le_of_ble_eq_true rfl) ?_
                refine c_in rfl ki_0 ki_9 (fun _ => wk_i ?_) (fun h => absurd h (by omega))
                refine wi_ifeq_f ct_121_21 ki_1 (by decide) ?_
                refine wi_aload_0 ct_121_24 ?_
                refine wi_iload_3 ct_121_25 ?_
                refine wi_ic ct_121_26 kc_1 ?_
                refine wi_ic ct_121_27 kc_9 ?_
                refine wi_cv3 (ls' := [some _, some _, some _, some _]) ct_121_29 (Nat.le_of_ble_eq_true rfl) (by decide) (sT_31 hS15) rfl (by decide) rfl rfl (Nat.le_of_ble_eq_true rfl) ?_
                refine c_in rfl ki_1 ki_9 (fun _ => wk_i ?_) (fun h => absurd h (by omega))
                refine wi_ifeq_f ct_121_32 ki_1 (by decide) ?_
                refine wi_aload_0 ct_121_35 ?_
                refine wi_iload_4 ct_121_36 ?_
                refine wi_ic ct_121_38 kc_1 ?_
                refine wi_ic ct_121_39 kc_60 ?_
                refine wi_cv3 (ls' := [some _, some _, some _, some _]) ct_121_41 (Nat.le_of_ble_eq_true rfl) (by decide) (sT_31 hS15) rfl (by decide) rfl rfl (Nat.le_of_ble_eq_true rfl) ?_
                refine c_in rfl ki_1 ki_60 (fun _ => wk_i ?_) (fun h => absurd h (by omega))
                refine wi_ifne_t ct_121_44 ki_1 (by decide) ?_
                refine wi_aload_0 ct_121_50 ?_
                refine wi_gf (x := fi 31 0) ct_121_51 (sT_31 hS15) rfl rfl (Eq.trans (up2_nq (by decide)) (Eq.trans (up2_nq (by omega)) (Eq.trans (up2_nq (by omega)) (Eq.trans (up2_nq (by omega)) (Eq.trans (up2_nq (by omega)) (Eq.trans (up2_nq (by omega)) (Eq.trans (up2_nq (by omega)) (congrFun (hzn14.2 _ (by omega)) _)))))))) ?_
                refine wi_ic ct_121_54 kc_5 ?_
                refine wi_icne_t ct_121_55 hBn ki_5 (by omega) ?_
                refine wi_aload_0 ct_121_61 ?_
                refine wi_gfr ct_121_62 (sT_31 hS15) rfl (sR_31_2 hS15) ?_
                refine wi_aload_0 ct_121_65 ?_
                refine wi_gf (x := fi 31 0) ct_121_66 (sT_31 hS15) rfl rfl (Eq.trans (up2_nq (by decide)) (Eq.trans (up2_nq (by omega)) (Eq.trans (up2_nq (by omega)) (Eq.trans (up2_nq (by omega)) (Eq.trans (up2_nq (by omega)) (Eq.trans (up2_nq (by omega)) (Eq.trans (up2_nq (by omega)) (congrFun (hzn14.2 _ (by omega)) _)))))))) ?_
                refine wi_iload_1 ct_121_69 ?_
                refine wi_iast ct_121_70 (sT_32 hS15) (sL_32 hS15) (i_in hBn (by omega)) (i_cl (k := B) hBn (by omega)) ?_
                refine wi_aload_0 ct_121_71 ?_
                refine wi_gfr ct_121_72 (sT_31 hS15) rfl (sR_31_3 hS15) ?_
                refine wi_aload_0 ct_121_75 ?_
                refine wi_gf (x := fi 31 0) ct_121_76 (sT_31 hS15) rfl rfl (Eq.trans (up2_nq (by decide)) (Eq.trans (up2_nq (by decide)) (Eq.trans (up2_nq (by omega)) (Eq.trans (up2_nq (by omega)) (Eq.trans (up2_nq (by omega)) (Eq.trans (up2_nq (by omega)) (Eq.trans (up2_nq (by omega)) (Eq.trans (up2_nq (by omega)) (congrFun (hzn14.2 _ (by omega)) _))))))))) ?_
                refine wi_iload_2 ct_121_79 ?_
                refine wi_iast ct_121_80 (sT_33 hS15) (sL_33 hS15) (i_in hBn (by omega)) (i_cl (k := B) hBn (by omega)) ?_
                refine wi_aload_0 ct_121_81 ?_
                refine wi_gfr ct_121_82 (sT_31 hS15) rfl (sR_31_4 hS15) ?_
                refine wi_aload_0 ct_121_85 ?_
                refine wi_gf (x := fi 31 0) ct_121_86 (sT_31 hS15) rfl rfl (Eq.trans (up2_nq (by decide)) (Eq.trans (up2_nq (by decide)) (Eq.trans (up2_nq (by decide)) (Eq.trans (up2_nq (by omega)) (Eq.trans (up2_nq (by omega)) (Eq.trans (up2_nq (by omega)) (Eq.trans (up2_nq (by omega)) (Eq.trans (up2_nq (by omega)) (Eq.trans (up2_nq (by omega)) (congrFun (hzn14.2 _ (by omega)) _)))))))))) ?_
                refine wi_iload_3 ct_121_89 ?_
                refine wi_iast ct_121_90 (sT_34 hS15) (sL_34 hS15) (i_in hBn (by omega)) (i_cl (k := B) hBn (by omega)) ?_
                refine wi_aload_0 ct_121_91 ?_
                refine wi_gfr ct_121_92 (sT_31 hS15) rfl (sR_31_5 hS15) ?_
                refine wi_aload_0 ct_121_95 ?_
                refine wi_gf (x := fi 31 0) ct_121_96 (sT_31 hS15) rfl rfl (Eq.trans (up2_nq (by decide)) (Eq.trans (up2_nq (by decide)) (Eq.trans (up2_nq (by decide)) (Eq.trans (up2_nq (by decide)) (Eq.trans (up2_nq (by omega)) (Eq.trans (up2_nq (by omega)) (Eq.trans (up2_nq (by omega)) (Eq.trans (up2_nq (by omega)) (Eq.trans (up2_nq (by omega)) (Eq.trans (up2_nq (by omega)) (congrFun (hzn14.2 _ (by omega)) _))))))))))) ?_
                refine wi_iload_4 ct_121_99 ?_
                refine wi_iast ct_121_101 (sT_35 hS15) (sL_35 hS15) (i_in hBn (by omega)) (i_cl (k := B) hBn (by omega)) ?_
                refine wi_aload_0 ct_121_102 ?_
                refine wi_gfr ct_121_103 (sT_31 hS15) rfl (sR_31_6 hS15) ?_
                refine wi_aload_0 ct_121_106 ?_
                refine wi_gf (x := fi 31 0) ct_121_107 (sT_31 hS15) rfl rfl (Eq.trans (up2_nq (by decide)) (Eq.trans (up2_nq (by decide)) (Eq.trans (up2_nq (by decide)) (Eq.trans (up2_nq (by decide)) (Eq.trans (up2_nq (by decide)) (Eq.trans (up2_nq (by omega)) (Eq.trans (up2_nq (by omega)) (Eq.trans (up2_nq (by omega)) (Eq.trans (up2_nq (by omega)) (Eq.trans (up2_nq (by omega)) (Eq.trans (up2_nq (by omega)) (congrFun (hzn14.2 _ (by omega)) _)))))))))))) ?_
                refine wi_ic ct_121_110 kc_0 ?_
                refine wi_iast ct_121_111 (sT_36 hS15) (sL_36 hS15) (i_in hBn (by omega)) (i_cl (k := B) hBn (by omega)) ?_
                refine wi_ic ct_121_112 kc_0 ?_
                refine wi_istore_5 rfl ct_121_113 ?_
                refine wi_iload_5 ct_121_115 ?_
                refine wi_ic ct_121_117 kc_4 ?_
                refine wi_icge_f ct_121_118 ki_0 ki_4 (by decide) ?_
                refine wi_aload_0 ct_121_121 ?_
                refine wi_gfr ct_121_122 (sT_31 hS15) rfl (sR_31_7 hS15) ?_
                refine wi_ic ct_121_125 kc_4 ?_
                refine wi_aload_0 ct_121_126 ?_
                refine wi_gf (x := fi 31 0) ct_121_127 (sT_31 hS15) rfl rfl (Eq.trans (up2_nq (by decide)) (Eq.trans (up2_nq (by decide)) (Eq.trans (up2_nq (by decide)) (Eq.trans (up2_nq (by decide)) (Eq.trans (up2_nq (by decide)) (Eq.trans (up2_nq (by decide)) (Eq.trans (up2_nq (by omega)) (Eq.trans (up2_nq (by omega)) (Eq.trans (up2_nq (by omega)) (Eq.trans (up2_nq (by omega)) (Eq.trans (up2_nq (by omega)) (Eq.trans (up2_nq (by omega)) (congrFun (hzn14.2 _ (by omega)) _))))))))))))) ?_
                refine wi_imul ct_121_130 rfl ?_
                refine wi_iload_5 ct_121_131 ?_
                refine wi_iadd ct_121_133 rfl ?_
                refine wi_ic ct_121_134 kc_0 ?_
                refine wi_iast ct_121_135 (sT_37 hS15) (sL_37 hS15) (i_in (i_add (i_mul ki_4 hBn (by omega)) ki_0 (by omega)) (by omega)) (i_cl (k := (4 * B)) (i_add (i_mul ki_4 hBn (by omega)) ki_0 (by omega)) (by omega)) ?_
                refine wi_iinc_5 rfl (z := 1) ct_121_136 (by decide) ?_
                refine wi_goto ct_121_139 ?_
                refine wi_iload_5 ct_121_115 ?_
                refine wi_ic ct_121_117 kc_4 ?_
                refine wi_icge_f ct_121_118 ki_1 ki_4 (by decide) ?_
                refine wi_aload_0 ct_121_121 ?_
                refine wi_gfr ct_121_122 (sT_31 hS15) rfl (sR_31_7 hS15) ?_
                refine wi_ic ct_121_125 kc_4 ?_
                refine wi_aload_0 ct_121_126 ?_
                refine wi_gf (x := fi 31 0) ct_121_127 (sT_31 hS15) rfl rfl (Eq.trans (up2_nq (by decide)) (Eq.trans (up2_nq (by decide)) (Eq.trans (up2_nq (by decide)) (Eq.trans (up2_nq (by decide)) (Eq.trans (up2_nq (by decide)) (Eq.trans (up2_nq (by decide)) (Eq.trans (up2_nq (by decide)) (Eq.trans (up2_nq (by omega)) (Eq.trans (up2_nq (by omega)) (Eq.trans (up2_nq (by omega)) (Eq.trans (up2_nq (by omega)) (Eq.trans (up2_nq (by omega)) (Eq.trans (up2_nq (by omega)) (congrFun (hzn14.2 _ (by omega)) _)))))))))))))) ?_
                refine wi_imul ct_121_130 rfl ?_
                refine wi_iload_5 ct_121_131 ?_
                refine wi_iadd ct_121_133 rfl ?_
                refine wi_ic ct_121_134 kc_0 ?_
                refine wi_iast ct_121_135 (sT_37 hS15) (sL_37 hS15) (i_in (i_add (i_mul ki_4 hBn (by omega)) ki_1 (by omega)) (by omega)) (i_cl (k := (4 * B + 1)) (i_add (i_mul ki_4 hBn (by omega)) ki_1 (by omega)) (by omega)) ?_
                refine wi_iinc_5 rfl (z := 2) ct_121_136 (by decide) ?_
                refine wi_goto ct_121_139 ?_
                refine wi_iload_5 ct_121_115 ?_
                refine wi_ic ct_121_117 kc_4 ?_
                refine wi_icge_f ct_121_118 ki_2 ki_4 (by decide) ?_
                refine wi_aload_0 ct_121_121 ?_
                refine wi_gfr ct_121_122 (sT_31 hS15) rfl (sR_31_7 hS15) ?_
                refine wi_ic ct_121_125 kc_4 ?_
                refine wi_aload_0 ct_121_126 ?_
                refine wi_gf (x := fi 31 0) ct_121_127 (sT_31 hS15) rfl rfl (Eq.trans (up2_nq (by decide)) (Eq.trans (up2_nq (by decide)) (Eq.trans (up2_nq (by decide)) (Eq.trans (up2_nq (by decide)) (Eq.trans (up2_nq (by decide)) (Eq.trans (up2_nq (by decide)) (Eq.trans (up2_nq (by decide)) (Eq.trans (up2_nq (by decide)) (Eq.trans (up2_nq (by omega)) (Eq.trans (up2_nq (by omega)) (Eq.trans (up2_nq (by omega)) (Eq.trans (up2_nq (by omega)) (Eq.trans (up2_nq (by omega)) (Eq.trans (up2_nq (by omega)) (congrFun (hzn14.2 _ (by omega)) _))))))))))))))) ?_
                refine wi_imul ct_121_130 rfl ?_
                refine wi_iload_5 ct_121_131 ?_
                refine wi_iadd ct_121_133 rfl ?_
                refine wi_ic ct_121_134 kc_0 ?_
                refine wi_iast ct_121_135 (sT_37 hS15) (sL_37 hS15) (i_in (i_add (i_mul ki_4 hBn (by omega)) ki_2 (by omega)) (by omega)) (i_cl (k := (4 * B + 2)) (i_add (i_mul ki_4 hBn (by omega)) ki_2 (by omega)) (by omega)) ?_
                refine wi_iinc_5 rfl (z := 3) ct_121_136 (by decide) ?_
                refine wi_goto ct_121_139 ?_
                refine wi_iload_5 ct_121_115 ?_
                refine wi_ic ct_121_117 kc_4 ?_
                refine wi_icge_f ct_121_118 ki_3 ki_4 (by decide) ?_
                refine wi_aload_0 ct_121_121 ?_
                refine wi_gfr ct_121_122 (sT_31 hS15) rfl (sR_31_7 hS15) ?_
                refine wi_ic ct_121_125 kc_4 ?_
                refine wi_aload_0 ct_121_126 ?_
                refine wi_gf (x := fi 31 0) ct_121_127 (sT_31 hS15) rfl rfl (Eq.trans (up2_nq (by decide)) (Eq.trans (up2_nq (by decide)) (Eq.trans (up2_nq (by decide)) (Eq.trans (up2_nq (by decide)) (Eq.trans (up2_nq (by decide)) (Eq.trans (up2_nq (by decide)) (Eq.trans (up2_nq (by decide)) (Eq.trans (up2_nq (by decide)) (Eq.trans (up2_nq (by decide)) (Eq.trans (up2_nq (by omega)) (Eq.trans (up2_nq (by omega)) (Eq.trans (up2_nq (by omega)) (Eq.trans (up2_nq (by omega)) (Eq.trans (up2_nq (by omega)) (Eq.trans (up2_nq (by omega)) (congrFun (hzn14.2 _ (by omega)) _)))))))))))))))) ?_
                refine wi_imul ct_121_130 rfl ?_
                refine wi_iload_5 ct_121_131 ?_
                refine wi_iadd ct_121_133 rfl ?_
                refine wi_ic ct_121_134 kc_0 ?_
                refine wi_iast ct_121_135 (sT_37 hS15) (sL_37 hS15) (i_in (i_add (i_mul ki_4 hBn (by omega)) ki_3 (by omega)) (by omega)) (i_cl (k := (4 * B + 3)) (i_add (i_mul ki_4 hBn (by omega)) ki_3 (by omega)) (by omega)) ?_
                refine wi_iinc_5 rfl (z := 4) ct_121_136 (by decide) ?_
                refine wi_goto ct_121_139 ?_
                refine wi_iload_5 ct_121_115 ?_
                refine wi_ic ct_121_117 kc_4 ?_
                refine wi_icge_t ct_121_118 ki_4 ki_4 (by decide) ?_
                refine wi_aload_0 ct_121_142 ?_
                refine wi_dup ct_121_143 rfl ?_
                refine wi_gf (x := fi 31 0) ct_121_144 (sT_31 hS15) rfl rfl (Eq.trans (up2_nq (by decide)) (Eq.trans (up2_nq (by decide)) (Eq.trans (up2_nq (by decide)) (Eq.trans (up2_nq (by decide)) (Eq.trans (up2_nq (by decide)) (Eq.trans (up2_nq (by decide)) (Eq.trans (up2_nq (by decide)) (Eq.trans (up2_nq (by decide)) (Eq.trans (up2_nq (by decide)) (Eq.trans (up2_nq (by decide)) (Eq.trans (up2_nq (by omega)) (Eq.trans (up2_nq (by omega)) (Eq.trans (up2_nq (by omega)) (Eq.trans (up2_nq (by omega)) (Eq.trans (up2_nq (by omega)) (Eq.trans (up2_nq (by omega)) (congrFun (hzn14.2 _ (by omega)) _))))))))))))))))) ?_
                refine wi_ic ct_121_147 kc_1 ?_
                refine wi_iadd ct_121_148 rfl ?_
                refine wi_pf ct_121_149 (sT_31 hS15) rfl ?_
                refine wi_aload_0 ct_121_152 ?_
                refine wi_gf (x := (fi 31 0 + 1)) ct_121_153 (sT_31 hS15) rfl rfl up2_eq ?_
                refine wi_ic ct_121_156 kc_1 ?_
                refine wi_isub ct_121_157 rfl ?_
                refine wi_iret ct_121_158 rfl (wk_i ?_)
                refine wi_iceq_t ct_211_240 hBn (i_sub (i_add hBn ki_1 (by omega)) ki_1 (by omega)) (by omega) ?_
                have hnl := hmn14.2.1
                have hsl1 := hmn14.2.2.1
                have nf : am_nf 5 = 6 := rfl
                have hnf : am_nx (am_gr gn14 2 B (some p)) = am_nx gn14 := rfl
                have hsf : am_sl (am_gr gn14 2 B (some p)) = am_sl gn14 := rfl
                refine kk (fun q => if q = p then 10 + B else own q) (am_gr gn14 2 B (some p)) (up2 (up2 (up2 (up2 (up2 (up2 (up2 (up2 (up2 (up2 (up2 (up2 (up2 (up2 (up2 (up2 (up2 fin14 p 5 (0)) p 0 (a1)) p 1 (fi 31 0)) p 2 (a2)) p 3 (a3)) p 4 (a4)) 1 1 ((fi 31 0 + 1))) 32 B (a1)) 33 B (a2)) 34 B (a3)) 35 B (a4)) 36 B (0)) 37 (4 * B) (0)) 37 (4 * B + 1) (0)) 37 (4 * B + 2) (0)) 37 (4 * B + 3) (0)) 31 0 ((fi 31 0 + 1))) _ (hR.one (B := B) hBn (by omega) hS15 ⟨by omega, fun q h1 h2 _ => ⟨((hmn14.2.2.2.2.2.2 _ (by omega)).1), ((hmn14.2.2.2.2.2.2 _ (by omega)).2.1), funext fun j => (Eq.trans (gr_nq (by omega)) (congrFun (hmn14.2.2.2.2.2.2 _ (by omega)).2.2 _)), if_neg (by omega), (Eq.trans (funext fun _ => up2_nq (by omega)) (Eq.trans (funext fun _ => up2_nq (by omega)) (Eq.trans (funext fun _ => up2_nq (by omega)) (Eq.trans (funext fun _ => up2_nq (by omega)) (Eq.trans (funext fun _ => up2_nq (by omega)) (Eq.trans (funext fun _ => up2_nq (by omega)) (Eq.trans (funext fun _ => up2_nq (by omega)) (Eq.trans (funext fun _ => up2_nq (by omega)) (Eq.trans (funext fun _ => up2_nq (by omega)) (Eq.trans (funext fun _ => up2_nq (by omega)) (Eq.trans (funext fun _ => up2_nq (by omega)) (Eq.trans (funext fun _ => up2_nq (by omega)) (Eq.trans (funext fun _ => up2_nq (by omega)) (Eq.trans (funext fun _ => up2_nq (by omega)) (Eq.trans (funext fun _ => up2_nq (by omega)) (Eq.trans (funext fun _ => up2_nq (by omega)) (Eq.trans (funext fun _ => up2_nq (by omega)) (hzn14.2 _ (by omega)))))))))))))))))))⟩⟩ (fun q hq => ((hmn14.2.2.2.2.2.2 _ (by omega)).1)) (fun q j h1 h2 => (Eq.trans (if_neg (by omega)) (congrFun (hmn14.2.2.2.2.2.2 _ (by omega)).2.2 _))) (Eq.trans (funext fun _ => up2_nq (by first | decide | exact sc_nd (by omega))) (Eq.trans (funext fun _ => up2_nq (by first | decide | exact sc_nd (by omega))) (Eq.trans (funext fun _ => up2_nq (by first | decide | exact sc_nd (by omega))) (Eq.trans (funext fun _ => up2_nq (by first | decide | exact sc_nd (by omega))) (Eq.trans (funext fun _ => up2_nq (by first | decide | exact sc_nd (by omega))) (Eq.trans (funext fun _ => up2_nq (by first | decide | exact sc_nd (by omega))) (Eq.trans (funext fun _ => up2_nq (by first | decide | exact sc_nd (by omega))) (Eq.trans (funext fun _ => up2_nq (by first | decide | exact sc_nd (by omega))) (Eq.trans (funext fun _ => up2_nq (by first | decide | exact sc_nd (by omega))) (Eq.trans (funext fun _ => up2_nq (by first | decide | exact sc_nd (by omega))) (Eq.trans (funext fun _ => up2_nq (by first | decide | exact sc_nd (by omega))) (Eq.trans (funext fun _ => up2_nq (by first | decide | exact sc_nd (by omega))) (Eq.trans (funext fun _ => up2_nq (by first | decide | exact sc_nd (by omega))) (Eq.trans (funext fun _ => up2_nq (by first | decide | exact sc_nd (by omega))) (Eq.trans (funext fun _ => up2_nq (by first | decide | exact sc_nd (by omega))) (Eq.trans (funext fun _ => up2_nq (by first | decide | exact sc_nd (by omega))) (Eq.trans (funext fun _ => up2_nq (by first | decide | exact sc_nd (by omega))) (hzn14.2 _ (sc_nd (by omega)))))))))))))))))))) (fun q h1 h2 => (Eq.trans (funext fun _ => up2_nq (by omega)) (Eq.trans (funext fun _ => up2_nq (by omega)) (Eq.trans (funext fun _ => up2_nq (by omega)) (Eq.trans (funext fun _ => up2_nq (by omega)) (Eq.trans (funext fun _ => up2_nq (by omega)) (Eq.trans (funext fun _ => up2_nq (by omega)) (Eq.trans (funext fun _ => up2_nq (by omega)) (Eq.trans (funext fun _ => up2_nq (by omega)) (Eq.trans (funext fun _ => up2_nq (by omega)) (Eq.trans (funext fun _ => up2_nq (by omega)) (Eq.trans (funext fun _ => up2_nq (by omega)) (Eq.trans (funext fun _ => up2_nq (by omega)) (Eq.trans (funext fun _ => up2_nq (by omega)) (Eq.trans (funext fun _ => up2_nq (by omega)) (Eq.trans (funext fun _ => up2_nq (by omega)) (Eq.trans (funext fun _ => up2_nq (by omega)) (Eq.trans (funext fun _ => up2_nq (by omega)) (hzn14.2 _ (by omega)))))))))))))))))))) (fun j hj => (Eq.trans (up2_nq (by omega)) (Eq.trans (up2_nq (by omega)) (Eq.trans (up2_nq (by omega)) (Eq.trans (up2_nq (by omega)) (Eq.trans (up2_nq (by omega)) (Eq.trans (up2_nq (by omega)) (Eq.trans (up2_nq (by omega)) (Eq.trans (up2_nq (by omega)) (Eq.trans (up2_nq (by omega)) (Eq.trans (up2_nq (by omega)) (Eq.trans (up2_nj hj) (Eq.trans (up2_nq (by omega)) (Eq.trans (up2_nq (by omega)) (Eq.trans (up2_nq (by omega)) (Eq.trans (up2_nq (by omega)) (Eq.trans (up2_nq (by omega)) (Eq.trans (up2_nq (by omega)) (congrFun (hzn14.2 _ (by omega)) _))))))))))))))))))) (fun j hj => (Eq.trans (up2_nj hj) (Eq.trans (up2_nq (by omega)) (Eq.trans (up2_nq (by omega)) (Eq.trans (up2_nq (by omega)) (Eq.trans (up2_nq (by omega)) (Eq.trans (up2_nq (by omega)) (Eq.trans (up2_nq (by omega)) (Eq.trans (up2_nq (by omega)) (Eq.trans (up2_nq (by omega)) (Eq.trans (up2_nq (by omega)) (Eq.trans (up2_nq (by omega)) (Eq.trans (up2_nq (by omega)) (Eq.trans (up2_nq (by omega)) (Eq.trans (up2_nq (by omega)) (Eq.trans (up2_nq (by omega)) (Eq.trans (up2_nq (by omega)) (Eq.trans (up2_nq (by omega)) (congrFun (hzn14.2 _ (by omega)) _))))))))))))))))))) ⟨((Eq.trans (up2_nq (by decide)) (Eq.trans (up2_nq (by decide)) (Eq.trans (up2_nq (by decide)) (Eq.trans (up2_nq (by decide)) (Eq.trans (up2_nq (by decide)) (Eq.trans (up2_nq (by decide)) (Eq.trans (up2_nq (by decide)) (Eq.trans (up2_nq (by decide)) (Eq.trans (up2_nq (by decide)) (Eq.trans (up2_nq (by decide)) up2_eq))))))))))).trans (up2_eq).symm, ?_⟩ (fun q b h1 h2 h3 => ?_) (fun b j h1 h2 => (Eq.trans (up2_nq (by omega)) (Eq.trans (up2_nj (by omega)) (Eq.trans (up2_nj (by omega)) (Eq.trans (up2_nj (by omega)) (Eq.trans (up2_nj (by omega)) (Eq.trans (up2_nq (by omega)) (Eq.trans (up2_nq (by omega)) (Eq.trans (up2_nq (by omega)) (Eq.trans (up2_nq (by omega)) (Eq.trans (up2_nq (by omega)) (Eq.trans (up2_nq (by omega)) (Eq.trans (up2_nq (by omega)) (Eq.trans (up2_nq (by omega)) (Eq.trans (up2_nq (by omega)) (Eq.trans (up2_nq (by omega)) (Eq.trans (up2_nq (by omega)) (Eq.trans (up2_nq (by omega)) (congrFun (hzn14.2 _ (by omega)) _))))))))))))))))))) (fun q hq => (hln14.2 _ (by omega))) ?_ ⟨p, 0, ⟨gr_eq, ⟨by omega, by omega, if_pos rfl⟩, ?_, ((Eq.trans (up2_nq (by omega)) (Eq.trans (up2_nq (by omega)) (Eq.trans (up2_nq (by omega)) (Eq.trans (up2_nq (by omega)) (Eq.trans (up2_nq (by omega)) (Eq.trans (up2_nq (by omega)) (Eq.trans (up2_nq (by omega)) (Eq.trans (up2_nq (by omega)) (Eq.trans (up2_nq (by omega)) (Eq.trans (up2_nq (by omega)) (Eq.trans (up2_nq (by omega)) (Eq.trans (up2_nj (by decide)) (Eq.trans (up2_nj (by decide)) (Eq.trans (up2_nj (by decide)) (Eq.trans (up2_nj (by decide)) up2_eq)))))))))))))))).trans ((Eq.trans (up2_nq (by decide)) (Eq.trans (up2_nq (by decide)) (Eq.trans (up2_nq (by decide)) (Eq.trans (up2_nq (by decide)) (Eq.trans (up2_nq (by decide)) (Eq.trans (up2_nq (by decide)) (Eq.trans (up2_nq (by decide)) (Eq.trans (up2_nq (by decide)) (Eq.trans (up2_nq (by decide)) up2_eq)))))))))).symm, ?_, ((Eq.trans (up2_nq (by omega)) (Eq.trans (up2_nq (by omega)) (Eq.trans (up2_nq (by omega)) (Eq.trans (up2_nq (by omega)) (Eq.trans (up2_nq (by omega)) (Eq.trans (up2_nq (by omega)) (Eq.trans (up2_nq (by omega)) (Eq.trans (up2_nq (by omega)) (Eq.trans (up2_nq (by omega)) (Eq.trans (up2_nq (by omega)) (Eq.trans (up2_nq (by omega)) (Eq.trans (up2_nj (by decide)) (Eq.trans (up2_nj (by decide)) up2_eq)))))))))))))).trans ((Eq.trans (up2_nq (by decide)) (Eq.trans (up2_nq (by decide)) (Eq.trans (up2_nq (by decide)) (Eq.trans (up2_nq (by decide)) (Eq.trans (up2_nq (by decide)) (Eq.trans (up2_nq (by decide)) (Eq.trans (up2_nq (by decide)) (Eq.trans (up2_nq (by decide)) up2_eq))))))))).symm, ((Eq.trans (up2_nq (by omega)) (Eq.trans (up2_nq (by omega)) (Eq.trans (up2_nq (by omega)) (Eq.trans (up2_nq (by omega)) (Eq.trans (up2_nq (by omega)) (Eq.trans (up2_nq (by omega)) (Eq.trans (up2_nq (by omega)) (Eq.trans (up2_nq (by omega)) (Eq.trans (up2_nq (by omega)) (Eq.trans (up2_nq (by omega)) (Eq.trans (up2_nq (by omega)) (Eq.trans (up2_nj (by decide)) up2_eq))))))))))))).trans ((Eq.trans (up2_nq (by decide)) (Eq.trans (up2_nq (by decide)) (Eq.trans (up2_nq (by decide)) (Eq.trans (up2_nq (by decide)) (Eq.trans (up2_nq (by decide)) (Eq.trans (up2_nq (by decide)) (Eq.trans (up2_nq (by decide)) up2_eq)))))))).symm, ((Eq.trans (up2_nq (by omega)) (Eq.trans (up2_nq (by omega)) (Eq.trans (up2_nq (by omega)) (Eq.trans (up2_nq (by omega)) (Eq.trans (up2_nq (by omega)) (Eq.trans (up2_nq (by omega)) (Eq.trans (up2_nq (by omega)) (Eq.trans (up2_nq (by omega)) (Eq.trans (up2_nq (by omega)) (Eq.trans (up2_nq (by omega)) (Eq.trans (up2_nq (by omega)) up2_eq)))))))))))).trans ((Eq.trans (up2_nq (by decide)) (Eq.trans (up2_nq (by decide)) (Eq.trans (up2_nq (by decide)) (Eq.trans (up2_nq (by decide)) (Eq.trans (up2_nq (by decide)) (Eq.trans (up2_nq (by decide)) up2_eq))))))).symm, ((Eq.trans (up2_nq (by omega)) (Eq.trans (up2_nq (by omega)) (Eq.trans (up2_nq (by omega)) (Eq.trans (up2_nq (by omega)) (Eq.trans (up2_nq (by omega)) (Eq.trans (up2_nq (by omega)) (Eq.trans (up2_nq (by omega)) (Eq.trans (up2_nq (by omega)) (Eq.trans (up2_nq (by omega)) (Eq.trans (up2_nq (by omega)) (Eq.trans (up2_nq (by omega)) (Eq.trans (up2_nj (by decide)) (Eq.trans (up2_nj (by decide)) (Eq.trans (up2_nj (by decide)) (Eq.trans (up2_nj (by decide)) (Eq.trans (up2_nj (by decide)) up2_eq))))))))))))))))).trans ((Eq.trans (up2_nq (by decide)) (Eq.trans (up2_nq (by decide)) (Eq.trans (up2_nq (by decide)) (Eq.trans (up2_nq (by decide)) (Eq.trans (up2_nq (by decide)) up2_eq)))))).symm, ?_⟩, ((congrArg (fun t => am_sub t 0) hmn14.2.2.2.1).trans rfl)⟩) (by omega) (by omega)
                · exact (congrArg Int32.toInt (up2_eq)).trans ((i_add hBn ki_1 (by omega)).trans (by omega))
                · exact (Eq.trans (if_neg (by omega)) (Eq.trans (if_neg (by omega)) (Eq.trans (if_neg (by omega)) (Eq.trans (if_neg (by omega)) (Eq.trans (if_neg (by omega)) (Eq.trans (if_neg (by omega)) (Eq.trans (if_neg (by omega)) (Eq.trans (if_neg (by omega)) (Eq.trans (if_neg (by omega)) (Eq.trans (if_neg (by omega)) (Eq.trans (if_neg (by omega)) (Eq.trans (if_neg (by omega)) (Eq.trans (if_neg (by omega)) (Eq.trans (if_neg (by omega)) (Eq.trans (if_neg (by omega)) (Eq.trans (if_neg (by omega)) (Eq.trans (if_neg (by omega)) (congrFun (hzn14.2 _ (by omega)) _))))))))))))))))))
                · unfold RM
                  rw [show (up2 (up2 (up2 (up2 (up2 (up2 (up2 (up2 (up2 (up2 (up2 (up2 (up2 (up2 (up2 (up2 (up2 fin14 p 5 (0)) p 0 (a1)) p 1 (fi 31 0)) p 2 (a2)) p 3 (a3)) p 4 (a4)) 1 1 ((fi 31 0 + 1))) 32 B (a1)) 33 B (a2)) 34 B (a3)) 35 B (a4)) 36 B (0)) 37 (4 * B) (0)) 37 (4 * B + 1) (0)) 37 (4 * B + 2) (0)) 37 (4 * B + 3) (0)) 31 0 ((fi 31 0 + 1))) 32 B = a1 from (Eq.trans (up2_nq (by decide)) (Eq.trans (up2_nq (by decide)) (Eq.trans (up2_nq (by decide)) (Eq.trans (up2_nq (by decide)) (Eq.trans (up2_nq (by decide)) (Eq.trans (up2_nq (by decide)) (Eq.trans (up2_nq (by decide)) (Eq.trans (up2_nq (by decide)) (Eq.trans (up2_nq (by decide)) up2_eq)))))))))]
                  rw [show (up2 (up2 (up2 (up2 (up2 (up2 (up2 (up2 (up2 (up2 (up2 (up2 (up2 (up2 (up2 (up2 (up2 fin14 p 5 (0)) p 0 (a1)) p 1 (fi 31 0)) p 2 (a2)) p 3 (a3)) p 4 (a4)) 1 1 ((fi 31 0 + 1))) 32 B (a1)) 33 B (a2)) 34 B (a3)) 35 B (a4)) 36 B (0)) 37 (4 * B) (0)) 37 (4 * B + 1) (0)) 37 (4 * B + 2) (0)) 37 (4 * B + 3) (0)) 31 0 ((fi 31 0 + 1))) 33 B = a2 from (Eq.trans (up2_nq (by decide)) (Eq.trans (up2_nq (by decide)) (Eq.trans (up2_nq (by decide)) (Eq.trans (up2_nq (by decide)) (Eq.trans (up2_nq (by decide)) (Eq.trans (up2_nq (by decide)) (Eq.trans (up2_nq (by decide)) (Eq.trans (up2_nq (by decide)) up2_eq))))))))]
                  rw [show (up2 (up2 (up2 (up2 (up2 (up2 (up2 (up2 (up2 (up2 (up2 (up2 (up2 (up2 (up2 (up2 (up2 fin14 p 5 (0)) p 0 (a1)) p 1 (fi 31 0)) p 2 (a2)) p 3 (a3)) p 4 (a4)) 1 1 ((fi 31 0 + 1))) 32 B (a1)) 33 B (a2)) 34 B (a3)) 35 B (a4)) 36 B (0)) 37 (4 * B) (0)) 37 (4 * B + 1) (0)) 37 (4 * B + 2) (0)) 37 (4 * B + 3) (0)) 31 0 ((fi 31 0 + 1))) 34 B = a3 from (Eq.trans (up2_nq (by decide)) (Eq.trans (up2_nq (by decide)) (Eq.trans (up2_nq (by decide)) (Eq.trans (up2_nq (by decide)) (Eq.trans (up2_nq (by decide)) (Eq.trans (up2_nq (by decide)) (Eq.trans (up2_nq (by decide)) up2_eq)))))))]
                  rw [show (up2 (up2 (up2 (up2 (up2 (up2 (up2 (up2 (up2 (up2 (up2 (up2 (up2 (up2 (up2 (up2 (up2 fin14 p 5 (0)) p 0 (a1)) p 1 (fi 31 0)) p 2 (a2)) p 3 (a3)) p 4 (a4)) 1 1 ((fi 31 0 + 1))) 32 B (a1)) 33 B (a2)) 34 B (a3)) 35 B (a4)) 36 B (0)) 37 (4 * B) (0)) 37 (4 * B + 1) (0)) 37 (4 * B + 2) (0)) 37 (4 * B + 3) (0)) 31 0 ((fi 31 0 + 1))) 35 B = a4 from (Eq.trans (up2_nq (by decide)) (Eq.trans (up2_nq (by decide)) (Eq.trans (up2_nq (by decide)) (Eq.trans (up2_nq (by decide)) (Eq.trans (up2_nq (by decide)) (Eq.trans (up2_nq (by decide)) up2_eq))))))]
                  rw [show (up2 (up2 (up2 (up2 (up2 (up2 (up2 (up2 (up2 (up2 (up2 (up2 (up2 (up2 (up2 (up2 (up2 fin14 p 5 (0)) p 0 (a1)) p 1 (fi 31 0)) p 2 (a2)) p 3 (a3)) p 4 (a4)) 1 1 ((fi 31 0 + 1))) 32 B (a1)) 33 B (a2)) 34 B (a3)) 35 B (a4)) 36 B (0)) 37 (4 * B) (0)) 37 (4 * B + 1) (0)) 37 (4 * B + 2) (0)) 37 (4 * B + 3) (0)) 31 0 ((fi 31 0 + 1))) 36 B = 0 from (Eq.trans (up2_nq (by decide)) (Eq.trans (up2_nq (by decide)) (Eq.trans (up2_nq (by decide)) (Eq.trans (up2_nq (by decide)) (Eq.trans (up2_nq (by decide)) up2_eq)))))]
                  refine ⟨by omega, by omega, by omega, by omega, by decide, fun j hj => ?_⟩
                  match j, hj with
                  | 0, _ => rw [show (up2 (up2 (up2 (up2 (up2 (up2 (up2 (up2 (up2 (up2 (up2 (up2 (up2 (up2 (up2 (up2 (up2 fin14 p 5 (0)) p 0 (a1)) p 1 (fi 31 0)) p 2 (a2)) p 3 (a3)) p 4 (a4)) 1 1 ((fi 31 0 + 1))) 32 B (a1)) 33 B (a2)) 34 B (a3)) 35 B (a4)) 36 B (0)) 37 (4 * B) (0)) 37 (4 * B + 1) (0)) 37 (4 * B + 2) (0)) 37 (4 * B + 3) (0)) 31 0 ((fi 31 0 + 1))) 37 (4 * B + 0) = 0 from (Eq.trans (up2_nq (by decide)) (Eq.trans (up2_nj (by omega)) (Eq.trans (up2_nj (by omega)) (Eq.trans (up2_nj (by omega)) up2_eq))))]; decide
                  | 1, _ => rw [show (up2 (up2 (up2 (up2 (up2 (up2 (up2 (up2 (up2 (up2 (up2 (up2 (up2 (up2 (up2 (up2 (up2 fin14 p 5 (0)) p 0 (a1)) p 1 (fi 31 0)) p 2 (a2)) p 3 (a3)) p 4 (a4)) 1 1 ((fi 31 0 + 1))) 32 B (a1)) 33 B (a2)) 34 B (a3)) 35 B (a4)) 36 B (0)) 37 (4 * B) (0)) 37 (4 * B + 1) (0)) 37 (4 * B + 2) (0)) 37 (4 * B + 3) (0)) 31 0 ((fi 31 0 + 1))) 37 (4 * B + 1) = 0 from (Eq.trans (up2_nq (by decide)) (Eq.trans (up2_nj (by omega)) (Eq.trans (up2_nj (by omega)) up2_eq)))]; decide
                  | 2, _ => rw [show (up2 (up2 (up2 (up2 (up2 (up2 (up2 (up2 (up2 (up2 (up2 (up2 (up2 (up2 (up2 (up2 (up2 fin14 p 5 (0)) p 0 (a1)) p 1 (fi 31 0)) p 2 (a2)) p 3 (a3)) p 4 (a4)) 1 1 ((fi 31 0 + 1))) 32 B (a1)) 33 B (a2)) 34 B (a3)) 35 B (a4)) 36 B (0)) 37 (4 * B) (0)) 37 (4 * B + 1) (0)) 37 (4 * B + 2) (0)) 37 (4 * B + 3) (0)) 31 0 ((fi 31 0 + 1))) 37 (4 * B + 2) = 0 from (Eq.trans (up2_nq (by decide)) (Eq.trans (up2_nj (by omega)) up2_eq))]; decide
                  | 3, _ => rw [show (up2 (up2 (up2 (up2 (up2 (up2 (up2 (up2 (up2 (up2 (up2 (up2 (up2 (up2 (up2 (up2 (up2 fin14 p 5 (0)) p 0 (a1)) p 1 (fi 31 0)) p 2 (a2)) p 3 (a3)) p 4 (a4)) 1 1 ((fi 31 0 + 1))) 32 B (a1)) 33 B (a2)) 34 B (a3)) 35 B (a4)) 36 B (0)) 37 (4 * B) (0)) 37 (4 * B + 1) (0)) 37 (4 * B + 2) (0)) 37 (4 * B + 3) (0)) 31 0 ((fi 31 0 + 1))) 37 (4 * B + 3) = 0 from (Eq.trans (up2_nq (by decide)) up2_eq)]; decide
                  | j + 4, h => exact absurd h (by omega)
                · exact hmn14.2.2.2.1.trans (by rw [show (up2 (up2 (up2 (up2 (up2 (up2 (up2 (up2 (up2 (up2 (up2 (up2 (up2 (up2 (up2 (up2 (up2 fin14 p 5 (0)) p 0 (a1)) p 1 (fi 31 0)) p 2 (a2)) p 3 (a3)) p 4 (a4)) 1 1 ((fi 31 0 + 1))) 32 B (a1)) 33 B (a2)) 34 B (a3)) 35 B (a4)) 36 B (0)) 37 (4 * B) (0)) 37 (4 * B + 1) (0)) 37 (4 * B + 2) (0)) 37 (4 * B + 3) (0)) 31 0 ((fi 31 0 + 1))) 32 B = a1 from (Eq.trans (up2_nq (by decide)) (Eq.trans (up2_nq (by decide)) (Eq.trans (up2_nq (by decide)) (Eq.trans (up2_nq (by decide)) (Eq.trans (up2_nq (by decide)) (Eq.trans (up2_nq (by decide)) (Eq.trans (up2_nq (by decide)) (Eq.trans (up2_nq (by decide)) (Eq.trans (up2_nq (by decide)) up2_eq))))))))), show (a1).toInt = 3 by omega] <;> rfl)
                · exact (congrArg Int32.toInt ((Eq.trans (up2_nq (by omega)) (Eq.trans (up2_nq (by omega)) (Eq.trans (up2_nq (by omega)) (Eq.trans (up2_nq (by omega)) (Eq.trans (up2_nq (by omega)) (Eq.trans (up2_nq (by omega)) (Eq.trans (up2_nq (by omega)) (Eq.trans (up2_nq (by omega)) (Eq.trans (up2_nq (by omega)) (Eq.trans (up2_nq (by omega)) (Eq.trans (up2_nq (by omega)) (Eq.trans (up2_nj (by decide)) (Eq.trans (up2_nj (by decide)) (Eq.trans (up2_nj (by decide)) up2_eq)))))))))))))))).trans hBn
                · intro h6
                  rw [show (up2 (up2 (up2 (up2 (up2 (up2 (up2 (up2 (up2 (up2 (up2 (up2 (up2 (up2 (up2 (up2 (up2 fin14 p 5 (0)) p 0 (a1)) p 1 (fi 31 0)) p 2 (a2)) p 3 (a3)) p 4 (a4)) 1 1 ((fi 31 0 + 1))) 32 B (a1)) 33 B (a2)) 34 B (a3)) 35 B (a4)) 36 B (0)) 37 (4 * B) (0)) 37 (4 * B + 1) (0)) 37 (4 * B + 2) (0)) 37 (4 * B + 3) (0)) 31 0 ((fi 31 0 + 1))) 32 B = a1 from (Eq.trans (up2_nq (by decide)) (Eq.trans (up2_nq (by decide)) (Eq.trans (up2_nq (by decide)) (Eq.trans (up2_nq (by decide)) (Eq.trans (up2_nq (by decide)) (Eq.trans (up2_nq (by decide)) (Eq.trans (up2_nq (by decide)) (Eq.trans (up2_nq (by decide)) (Eq.trans (up2_nq (by decide)) up2_eq)))))))))] at h6
                  exact absurd h6 (by omega)
              rcases Decidable.em ((a1).toInt = 4) with h16 | h16
              · refine wi_tsw (X := 4) (t := 82) ct_105_1 (by omega) rfl ?_
                obtain ⟨p, hp⟩ : ∃ p, am_nx g = p := ⟨_, rfl⟩
                have hp72 : 72 ≤ p := hp ▸ hS.nx
                refine wi_newF ct_105_82 hp (by omega) (fun gn17 fin17 fln17 hmn17 hzn17 hln17 => ?_)
                have hSn17 := hS.mkF hmn17 (by omega)
                refine wi_dup ct_105_85 rfl ?_
                refine wi_iload_0 ct_105_86 ?_
                refine wi_iload_1 ct_105_87 ?_
                refine wi_iload_2 ct_105_88 ?_
                refine wi_iload_3 ct_105_89 ?_
                refine wi_iload_4 ct_105_90 ?_
                refine wi_cp5 (ls' := [some _, some _, some _, some _, some _, some _]) ct_105_92 (Nat.le_of_ble_eq_true rfl) hmn17.2.2.2.1 (by decide) rfl (Nat.le_of_ble_eq_true rfl) ?_
                refine wi_aload_0 ct_22_0 ?_
                refine wi_iload_1 ct_22_1 ?_
                refine wi_iload_2 ct_22_2 ?_
                refine wi_iload_3 ct_22_3 ?_
                refine wi_iload_4 ct_22_4 ?_
                refine wi_iload_5 ct_22_6 ?_
                refine wi_cp5 (ls' := [some _, some _, some _, some _, some _, some _]) ct_22_8 (Nat.le_of_ble_eq_true rfl) hmn17.2.2.2.1 (by decide) rfl (Nat.le_of_ble_eq_true rfl) ?_
                refine wi_aload_0 ct_10_0 ?_
                refine wi_iload_1 ct_10_1 ?_
                refine wi_iload_2 ct_10_2 ?_
                refine wi_iload_3 ct_10_3 ?_
                refine wi_iload_4 ct_10_4 ?_
                refine wi_iload_5 ct_10_6 ?_
                refine wi_cp5 (ls' := [some _, some _, some _, some _, some _, some _]) ct_10_8 (Nat.le_of_ble_eq_true rfl) hmn17.2.2.2.1 (by decide) rfl (Nat.le_of_ble_eq_true rfl) ?_
                refine wi_aload_0 ct_0_0 ?_
                refine wi_obj ct_0_1 (Nat.le_of_ble_eq_true rfl) ?_
                refine wi_aload_0 ct_0_4 ?_
                refine wi_ic ct_0_5 kc_0 ?_
                refine wi_pf ct_0_6 hmn17.2.2.2.1 rfl ?_
                refine wi_aload_0 ct_0_9 ?_
                refine wi_iload_1 ct_0_10 ?_
                refine wi_pf ct_0_11 hmn17.2.2.2.1 rfl ?_
                refine wi_aload_0 ct_0_14 ?_
                refine wi_iload_2 ct_0_15 ?_
                refine wi_pf ct_0_16 hmn17.2.2.2.1 rfl ?_
                refine wi_aload_0 ct_0_19 ?_
                refine wi_iload_3 ct_0_20 ?_
                refine wi_pf ct_0_21 hmn17.2.2.2.1 rfl ?_
                refine wi_aload_0 ct_0_24 ?_
                refine wi_iload_4 ct_0_25 ?_
                refine wi_pf ct_0_27 hmn17.2.2.2.1 rfl ?_
                refine wi_aload_0 ct_0_30 ?_
                refine wi_iload_5 ct_0_31 ?_
                refine wi_pf ct_0_33 hmn17.2.2.2.1 rfl ?_
                refine wi_ret ct_0_36 (wk_v ?_)
                refine wi_ret ct_10_11 (wk_v ?_)
                refine wi_ret ct_22_11 (wk_v ?_)
                refine wi_aret ct_105_95 (wk_r ?_)
                refine wi_aast ct_67_88 (Or.inl ⟨(sT_2 hSn17), (hmn17.2.2.2.1).symm ▸ rfl⟩) (sL_2 hSn17) (i_in hBn (by omega)) (i_cl (k := B) hBn (by omega)) ?_
                have hS18 := hSn17.grq (q := 2) (a := B) (x := (some p)) (by decide)
                refine wi_aload_0 ct_67_89 ?_
                refine wi_gfr ct_67_90 (sT_0 hS18) rfl (sR_0_0 hS18) ?_
                refine wi_dup ct_67_93 rfl ?_
                refine wi_gf (x := fi 31 0) ct_67_94 (sT_1 hS18) rfl rfl (Eq.trans (up2_nq (by omega)) (Eq.trans (up2_nq (by omega)) (Eq.trans (up2_nq (by omega)) (Eq.trans (up2_nq (by omega)) (Eq.trans (up2_nq (by omega)) (Eq.trans (up2_nq (by omega)) (Eq.trans (congrFun (hzn17.2 _ (by omega)) _) c0))))))) ?_
                refine wi_ic ct_67_97 kc_1 ?_
                refine wi_iadd ct_67_98 rfl ?_
                refine wi_pf ct_67_99 (sT_1 hS18) rfl ?_
                refine wi_iload_5 ct_67_102 ?_
                refine wi_iret ct_67_104 rfl (wk_i ?_)
                refine wi_aload_2 ct_211_216 ?_
                refine wi_aloadT_0 ct_211_217 ?_
                refine wi_iload_3 ct_211_218 ?_
                refine wi_ic ct_211_219 kc_1 ?_
                refine wi_iadd ct_211_220 rfl ?_
                refine wi_ialdT (j := I + 1) (x := a1) ct_211_221 (sL_SC hS18) (i_in (i_add hi ki_1 (by omega)) (by omega)) (i_cl (i_add hi ki_1 (by omega)) (by omega)) ((Eq.trans (up2_nq (by decide)) (Eq.trans (up2_nq (sc_nd (by omega))) (Eq.trans (up2_nq (sc_nd (by omega))) (Eq.trans (up2_nq (sc_nd (by omega))) (Eq.trans (up2_nq (sc_nd (by omega))) (Eq.trans (up2_nq (sc_nd (by omega))) (Eq.trans (up2_nq (sc_nd (by omega))) (Eq.trans (congrFun (hzn17.2 _ (sc_nd (by omega))) _) ((hsc _).trans e1)))))))))) ?_
                refine wi_aloadT_0 ct_211_222 ?_
                refine wi_iload_3 ct_211_223 ?_
                refine wi_ic ct_211_224 kc_2 ?_
                refine wi_iadd ct_211_225 rfl ?_
                refine wi_ialdT (j := I + 2) (x := a2) ct_211_226 (sL_SC hS18) (i_in (i_add hi ki_2 (by omega)) (by omega)) (i_cl (i_add hi ki_2 (by omega)) (by omega)) ((Eq.trans (up2_nq (by decide)) (Eq.trans (up2_nq (sc_nd (by omega))) (Eq.trans (up2_nq (sc_nd (by omega))) (Eq.trans (up2_nq (sc_nd (by omega))) (Eq.trans (up2_nq (sc_nd (by omega))) (Eq.trans (up2_nq (sc_nd (by omega))) (Eq.trans (up2_nq (sc_nd (by omega))) (Eq.trans (congrFun (hzn17.2 _ (sc_nd (by omega))) _) ((hsc _).trans e2)))))))))) ?_
                refine wi_aloadT_0 ct_211_227 ?_
                refine wi_iload_3 ct_211_228 ?_
                refine wi_ic ct_211_229 kc_3 ?_
                refine wi_iadd ct_211_230 rfl ?_
                refine wi_ialdT (j := I + 3) (x := a3) ct_211_231 (sL_SC hS18) (i_in (i_add hi ki_3 (by omega)) (by omega)) (i_cl (i_add hi ki_3 (by omega)) (by omega)) ((Eq.trans (up2_nq (by decide)) (Eq.trans (up2_nq (sc_nd (by omega))) (Eq.trans (up2_nq (sc_nd (by omega))) (Eq.trans (up2_nq (sc_nd (by omega))) (Eq.trans (up2_nq (sc_nd (by omega))) (Eq.trans (up2_nq (sc_nd (by omega))) (Eq.trans (up2_nq (sc_nd (by omega))) (Eq.trans (congrFun (hzn17.2 _ (sc_nd (by omega))) _) ((hsc _).trans e3)))))))))) ?_
                refine wi_aloadT_0 ct_211_232 ?_
                refine wi_iload_3 ct_211_233 ?_
                refine wi_ic ct_211_234 kc_4 ?_
                refine wi_iadd ct_211_235 rfl ?_
                refine wi_ialdT (j := I + 4) (x := a4) ct_211_236 (sL_SC hS18) (i_in (i_add hi ki_4 (by omega)) (by omega)) (i_cl (i_add hi ki_4 (by omega)) (by omega)) ((Eq.trans (up2_nq (by decide)) (Eq.trans (up2_nq (sc_nd (by omega))) (Eq.trans (up2_nq (sc_nd (by omega))) (Eq.trans (up2_nq (sc_nd (by omega))) (Eq.trans (up2_nq (sc_nd (by omega))) (Eq.trans (up2_nq (sc_nd (by omega))) (Eq.trans (up2_nq (sc_nd (by omega))) (Eq.trans (congrFun (hzn17.2 _ (sc_nd (by omega))) _) ((hsc _).trans e4)))))))))) ?_
                refine wi_cv4 (ls' := [some _, some _, some _, some _, some _, none]) ct_211_237 (Nat.le_of_ble_eq_true rfl) (by decide) (sT_31 hS18) rfl (by decide) rfl rfl (Nat.le_of_ble_eq_true rfl) ?_
                refine wi_aload_0 ct_121_0 ?_
                refine wi_iload_1 ct_121_1 ?_
                refine wi_ic ct_121_2 kc_0 ?_
                refine wi_ic ct_121_3 kc_6 ?_
                refine wi_cv3 (ls' := [some _, some _, some _, some _]) ct_121_5 (Nat.le_of_ble_eq_true rfl) (by decide) (sT_31 hS18) rfl (by decide) rfl rfl (Nat.le_of_ble_eq_true rfl) ?_
                refine c_in rfl ki_0 ki_6 (fun _ => wk_i ?_) (fun h => absurd h (by omega))
                refine wi_ifne_t ct_121_8 ki_1 (by decide) ?_
                refine wi_aload_0 ct_121_13 ?_
                refine wi_iload_2 ct_121_14 ?_
                refine wi_ic ct_121_15 kc_0 ?_
                refine wi_ic ct_121_16 kc_9 ?_
                refine wi_cv3 (ls' := [some _, some _, some _, some _]) ct_121_18 (Nat.le_of_ble_eq_true rfl) (by decide) (sT_31 hS18) rfl (by decide) rfl rfl (Nat.le_of_ble_eq_true rfl) ?_
                refine c_in rfl ki_0 ki_9 (fun _ => wk_i ?_) (fun h => absurd h (by omega))
                refine wi_ifeq_f ct_121_21 ki_1 (by decide) ?_
                refine wi_aload_0 ct_121_24 ?_
                refine wi_iload_3 ct_121_25 ?_
                refine wi_ic ct_121_26 kc_1 ?_
                refine wi_ic ct_121_27 kc_9 ?_
                refine wi_cv3 (ls' := [some _, some _, some _, some _]) ct_121_29 (Nat.le_of_ble_eq_true rfl) (by decide) (sT_31 hS18) rfl (by decide) rfl rfl (Nat.le_of_ble_eq_true rfl) ?_
                refine c_in rfl ki_1 ki_9 (fun _ => wk_i ?_) (fun h => absurd h (by omega))
                refine wi_ifeq_f ct_121_32 ki_1 (by decide) ?_
                refine wi_aload_0 ct_121_35 ?_
                refine wi_iload_4 ct_121_36 ?_
                refine wi_ic ct_121_38 kc_1 ?_
                refine wi_ic ct_121_39 kc_60 ?_
                refine wi_cv3 (ls' := [some _, some _, some _, some _]) ct_121_41 (Nat.le_of_ble_eq_true rfl) (by decide) (sT_31 hS18) rfl (by decide) rfl rfl (Nat.le_of_ble_eq_true rfl) ?_
                refine c_in rfl ki_1 ki_60 (fun _ => wk_i ?_) (fun h => absurd h (by omega))
                refine wi_ifne_t ct_121_44 ki_1 (by decide) ?_
                refine wi_aload_0 ct_121_50 ?_
                refine wi_gf (x := fi 31 0) ct_121_51 (sT_31 hS18) rfl rfl (Eq.trans (up2_nq (by decide)) (Eq.trans (up2_nq (by omega)) (Eq.trans (up2_nq (by omega)) (Eq.trans (up2_nq (by omega)) (Eq.trans (up2_nq (by omega)) (Eq.trans (up2_nq (by omega)) (Eq.trans (up2_nq (by omega)) (congrFun (hzn17.2 _ (by omega)) _)))))))) ?_
                refine wi_ic ct_121_54 kc_5 ?_
                refine wi_icne_t ct_121_55 hBn ki_5 (by omega) ?_
                refine wi_aload_0 ct_121_61 ?_
                refine wi_gfr ct_121_62 (sT_31 hS18) rfl (sR_31_2 hS18) ?_
                refine wi_aload_0 ct_121_65 ?_
                refine wi_gf (x := fi 31 0) ct_121_66 (sT_31 hS18) rfl rfl (Eq.trans (up2_nq (by decide)) (Eq.trans (up2_nq (by omega)) (Eq.trans (up2_nq (by omega)) (Eq.trans (up2_nq (by omega)) (Eq.trans (up2_nq (by omega)) (Eq.trans (up2_nq (by omega)) (Eq.trans (up2_nq (by omega)) (congrFun (hzn17.2 _ (by omega)) _)))))))) ?_
                refine wi_iload_1 ct_121_69 ?_
                refine wi_iast ct_121_70 (sT_32 hS18) (sL_32 hS18) (i_in hBn (by omega)) (i_cl (k := B) hBn (by omega)) ?_
                refine wi_aload_0 ct_121_71 ?_
                refine wi_gfr ct_121_72 (sT_31 hS18) rfl (sR_31_3 hS18) ?_
                refine wi_aload_0 ct_121_75 ?_
                refine wi_gf (x := fi 31 0) ct_121_76 (sT_31 hS18) rfl rfl (Eq.trans (up2_nq (by decide)) (Eq.trans (up2_nq (by decide)) (Eq.trans (up2_nq (by omega)) (Eq.trans (up2_nq (by omega)) (Eq.trans (up2_nq (by omega)) (Eq.trans (up2_nq (by omega)) (Eq.trans (up2_nq (by omega)) (Eq.trans (up2_nq (by omega)) (congrFun (hzn17.2 _ (by omega)) _))))))))) ?_
                refine wi_iload_2 ct_121_79 ?_
                refine wi_iast ct_121_80 (sT_33 hS18) (sL_33 hS18) (i_in hBn (by omega)) (i_cl (k := B) hBn (by omega)) ?_
                refine wi_aload_0 ct_121_81 ?_
                refine wi_gfr ct_121_82 (sT_31 hS18) rfl (sR_31_4 hS18) ?_
                refine wi_aload_0 ct_121_85 ?_
                refine wi_gf (x := fi 31 0) ct_121_86 (sT_31 hS18) rfl rfl (Eq.trans (up2_nq (by decide)) (Eq.trans (up2_nq (by decide)) (Eq.trans (up2_nq (by decide)) (Eq.trans (up2_nq (by omega)) (Eq.trans (up2_nq (by omega)) (Eq.trans (up2_nq (by omega)) (Eq.trans (up2_nq (by omega)) (Eq.trans (up2_nq (by omega)) (Eq.trans (up2_nq (by omega)) (congrFun (hzn17.2 _ (by omega)) _)))))))))) ?_
                refine wi_iload_3 ct_121_89 ?_
                refine wi_iast ct_121_90 (sT_34 hS18) (sL_34 hS18) (i_in hBn (by omega)) (i_cl (k := B) hBn (by omega)) ?_
                refine wi_aload_0 ct_121_91 ?_
                refine wi_gfr ct_121_92 (sT_31 hS18) rfl (sR_31_5 hS18) ?_
                refine wi_aload_0 ct_121_95 ?_
                refine wi_gf (x := fi 31 0) ct_121_96 (sT_31 hS18) rfl rfl (Eq.trans (up2_nq (by decide)) (Eq.trans (up2_nq (by decide)) (Eq.trans (up2_nq (by decide)) (Eq.trans (up2_nq (by decide)) (Eq.trans (up2_nq (by omega)) (Eq.trans (up2_nq (by omega)) (Eq.trans (up2_nq (by omega)) (Eq.trans (up2_nq (by omega)) (Eq.trans (up2_nq (by omega)) (Eq.trans (up2_nq (by omega)) (congrFun (hzn17.2 _ (by omega)) _))))))))))) ?_
                refine wi_iload_4 ct_121_99 ?_
                refine wi_iast ct_121_101 (sT_35 hS18) (sL_35 hS18) (i_in hBn (by omega)) (i_cl (k := B) hBn (by omega)) ?_
                refine wi_aload_0 ct_121_102 ?_
                refine wi_gfr ct_121_103 (sT_31 hS18) rfl (sR_31_6 hS18) ?_
                refine wi_aload_0 ct_121_106 ?_
                refine wi_gf (x := fi 31 0) ct_121_107 (sT_31 hS18) rfl rfl (Eq.trans (up2_nq (by decide)) (Eq.trans (up2_nq (by decide)) (Eq.trans (up2_nq (by decide)) (Eq.trans (up2_nq (by decide)) (Eq.trans (up2_nq (by decide)) (Eq.trans (up2_nq (by omega)) (Eq.trans (up2_nq (by omega)) (Eq.trans (up2_nq (by omega)) (Eq.trans (up2_nq (by omega)) (Eq.trans (up2_nq (by omega)) (Eq.trans (up2_nq (by omega)) (congrFun (hzn17.2 _ (by omega)) _)))))))))))) ?_
                refine wi_ic ct_121_110 kc_0 ?_
                refine wi_iast ct_121_111 (sT_36 hS18) (sL_36 hS18) (i_in hBn (by omega)) (i_cl (k := B) hBn (by omega)) ?_
                refine wi_ic ct_121_112 kc_0 ?_
                refine wi_istore_5 rfl ct_121_113 ?_
                refine wi_iload_5 ct_121_115 ?_
                refine wi_ic ct_121_117 kc_4 ?_
                refine wi_icge_f ct_121_118 ki_0 ki_4 (by decide) ?_
                refine wi_aload_0 ct_121_121 ?_
                refine wi_gfr ct_121_122 (sT_31 hS18) rfl (sR_31_7 hS18) ?_
                refine wi_ic ct_121_125 kc_4 ?_
                refine wi_aload_0 ct_121_126 ?_
                refine wi_gf (x := fi 31 0) ct_121_127 (sT_31 hS18) rfl rfl (Eq.trans (up2_nq (by decide)) (Eq.trans (up2_nq (by decide)) (Eq.trans (up2_nq (by decide)) (Eq.trans (up2_nq (by decide)) (Eq.trans (up2_nq (by decide)) (Eq.trans (up2_nq (by decide)) (Eq.trans (up2_nq (by omega)) (Eq.trans (up2_nq (by omega)) (Eq.trans (up2_nq (by omega)) (Eq.trans (up2_nq (by omega)) (Eq.trans (up2_nq (by omega)) (Eq.trans (up2_nq (by omega)) (congrFun (hzn17.2 _ (by omega)) _))))))))))))) ?_
                refine wi_imul ct_121_130 rfl ?_
                refine wi_iload_5 ct_121_131 ?_
                refine wi_iadd ct_121_133 rfl ?_
                refine wi_ic ct_121_134 kc_0 ?_
                refine wi_iast ct_121_135 (sT_37 hS18) (sL_37 hS18) (i_in (i_add (i_mul ki_4 hBn (by omega)) ki_0 (by omega)) (by omega)) (i_cl (k := (4 * B)) (i_add (i_mul ki_4 hBn (by omega)) ki_0 (by omega)) (by omega)) ?_
                refine wi_iinc_5 rfl (z := 1) ct_121_136 (by decide) ?_
                refine wi_goto ct_121_139 ?_
                refine wi_iload_5 ct_121_115 ?_
                refine wi_ic ct_121_117 kc_4 ?_
                refine wi_icge_f ct_121_118 ki_1 ki_4 (by decide) ?_
                refine wi_aload_0 ct_121_121 ?_
                refine wi_gfr ct_121_122 (sT_31 hS18) rfl (sR_31_7 hS18) ?_
                refine wi_ic ct_121_125 kc_4 ?_
                refine wi_aload_0 ct_121_126 ?_
                refine wi_gf (x := fi 31 0) ct_121_127 (sT_31 hS18) rfl rfl (Eq.trans (up2_nq (by decide)) (Eq.trans (up2_nq (by decide)) (Eq.trans (up2_nq (by decide)) (Eq.trans (up2_nq (by decide)) (Eq.trans (up2_nq (by decide)) (Eq.trans (up2_nq (by decide)) (Eq.trans (up2_nq (by decide)) (Eq.trans (up2_nq (by omega)) (Eq.trans (up2_nq (by omega)) (Eq.trans (up2_nq (by omega)) (Eq.trans (up2_nq (by omega)) (Eq.trans (up2_nq (by omega)) (Eq.trans (up2_nq (by omega)) (congrFun (hzn17.2 _ (by omega)) _)))))))))))))) ?_
                refine wi_imul ct_121_130 rfl ?_
                refine wi_iload_5 ct_121_131 ?_
                refine wi_iadd ct_121_133 rfl ?_
                refine wi_ic ct_121_134 kc_0 ?_
                refine wi_iast ct_121_135 (sT_37 hS18) (sL_37 hS18) (i_in (i_add (i_mul ki_4 hBn (by omega)) ki_1 (by omega)) (by omega)) (i_cl (k := (4 * B + 1)) (i_add (i_mul ki_4 hBn (by omega)) ki_1 (by omega)) (by omega)) ?_
                refine wi_iinc_5 rfl (z := 2) ct_121_136 (by decide) ?_
                refine wi_goto ct_121_139 ?_
                refine wi_iload_5 ct_121_115 ?_
                refine wi_ic ct_121_117 kc_4 ?_
                refine wi_icge_f ct_121_118 ki_2 ki_4 (by decide) ?_
                refine wi_aload_0 ct_121_121 ?_
                refine wi_gfr ct_121_122 (sT_31 hS18) rfl (sR_31_7 hS18) ?_
                refine wi_ic ct_121_125 kc_4 ?_
                refine wi_aload_0 ct_121_126 ?_
                refine wi_gf (x := fi 31 0) ct_121_127 (sT_31 hS18) rfl rfl (Eq.trans (up2_nq (by decide)) (Eq.trans (up2_nq (by decide)) (Eq.trans (up2_nq (by decide)) (Eq.trans (up2_nq (by decide)) (Eq.trans (up2_nq (by decide)) (Eq.trans (up2_nq (by decide)) (Eq.trans (up2_nq (by decide)) (Eq.trans (up2_nq (by decide)) (Eq.trans (up2_nq (by omega)) (Eq.trans (up2_nq (by omega)) (Eq.trans (up2_nq (by omega)) (Eq.trans (up2_nq (by omega)) (Eq.trans (up2_nq (by omega)) (Eq.trans (up2_nq (by omega)) (congrFun (hzn17.2 _ (by omega)) _))))))))))))))) ?_
                refine wi_imul ct_121_130 rfl ?_
                refine wi_iload_5 ct_121_131 ?_
                refine wi_iadd ct_121_133 rfl ?_
                refine wi_ic ct_121_134 kc_0 ?_
                refine wi_iast ct_121_135 (sT_37 hS18) (sL_37 hS18) (i_in (i_add (i_mul ki_4 hBn (by omega)) ki_2 (by omega)) (by omega)) (i_cl (k := (4 * B + 2)) (i_add (i_mul ki_4 hBn (by omega)) ki_2 (by omega)) (by omega)) ?_
                refine wi_iinc_5 rfl (z := 3) ct_121_136 (by decide) ?_
                refine wi_goto ct_121_139 ?_
                refine wi_iload_5 ct_121_115 ?_
                refine wi_ic ct_121_117 kc_4 ?_
                refine wi_icge_f ct_121_118 ki_3 ki_4 (by decide) ?_
                refine wi_aload_0 ct_121_121 ?_
                refine wi_gfr ct_121_122 (sT_31 hS18) rfl (sR_31_7 hS18) ?_
                refine wi_ic ct_121_125 kc_4 ?_
                refine wi_aload_0 ct_121_126 ?_
                refine wi_gf (x := fi 31 0) ct_121_127 (sT_31 hS18) rfl rfl (Eq.trans (up2_nq (by decide)) (Eq.trans (up2_nq (by decide)) (Eq.trans (up2_nq (by decide)) (Eq.trans (up2_nq (by decide)) (Eq.trans (up2_nq (by decide)) (Eq.trans (up2_nq (by decide)) (Eq.trans (up2_nq (by decide)) (Eq.trans (up2_nq (by decide)) (Eq.trans (up2_nq (by decide)) (Eq.trans (up2_nq (by omega)) (Eq.trans (up2_nq (by omega)) (Eq.trans (up2_nq (by omega)) (Eq.trans (up2_nq (by omega)) (Eq.trans (up2_nq (by omega)) (Eq.trans (up2_nq (by omega)) (congrFun (hzn17.2 _ (by omega)) _)))))))))))))))) ?_
                refine wi_imul ct_121_130 rfl ?_
                refine wi_iload_5 ct_121_131 ?_
                refine wi_iadd ct_121_133 rfl ?_
                refine wi_ic ct_121_134 kc_0 ?_
                refine wi_iast ct_121_135 (sT_37 hS18) (sL_37 hS18) (i_in (i_add (i_mul ki_4 hBn (by omega)) ki_3 (by omega)) (by omega)) (i_cl (k := (4 * B + 3)) (i_add (i_mul ki_4 hBn (by omega)) ki_3 (by omega)) (by omega)) ?_
                refine wi_iinc_5 rfl (z := 4) ct_121_136 (by decide) ?_
                refine wi_goto ct_121_139 ?_
                refine wi_iload_5 ct_121_115 ?_
                refine wi_ic ct_121_117 kc_4 ?_
                refine wi_icge_t ct_121_118 ki_4 ki_4 (by decide) ?_
                refine wi_aload_0 ct_121_142 ?_
                refine wi_dup ct_121_143 rfl ?_
                refine wi_gf (x := fi 31 0) ct_121_144 (sT_31 hS18) rfl rfl (Eq.trans (up2_nq (by decide)) (Eq.trans (up2_nq (by decide)) (Eq.trans (up2_nq (by decide)) (Eq.trans (up2_nq (by decide)) (Eq.trans (up2_nq (by decide)) (Eq.trans (up2_nq (by decide)) (Eq.trans (up2_nq (by decide)) (Eq.trans (up2_nq (by decide)) (Eq.trans (up2_nq (by decide)) (Eq.trans (up2_nq (by decide)) (Eq.trans (up2_nq (by omega)) (Eq.trans (up2_nq (by omega)) (Eq.trans (up2_nq (by omega)) (Eq.trans (up2_nq (by omega)) (Eq.trans (up2_nq (by omega)) (Eq.trans (up2_nq (by omega)) (congrFun (hzn17.2 _ (by omega)) _))))))))))))))))) ?_
                refine wi_ic ct_121_147 kc_1 ?_
                refine wi_iadd ct_121_148 rfl ?_
                refine wi_pf ct_121_149 (sT_31 hS18) rfl ?_
                refine wi_aload_0 ct_121_152 ?_
                refine wi_gf (x := (fi 31 0 + 1)) ct_121_153 (sT_31 hS18) rfl rfl up2_eq ?_
                refine wi_ic ct_121_156 kc_1 ?_
                refine wi_isub ct_121_157 rfl ?_
                refine wi_iret ct_121_158 rfl (wk_i ?_)
                refine wi_iceq_t ct_211_240 hBn (i_sub (i_add hBn ki_1 (by omega)) ki_1 (by omega)) (by omega) ?_
                have hnl := hmn17.2.1
                have hsl1 := hmn17.2.2.1
                have nf : am_nf 4 = 6 := rfl
                have hnf : am_nx (am_gr gn17 2 B (some p)) = am_nx gn17 := rfl
                have hsf : am_sl (am_gr gn17 2 B (some p)) = am_sl gn17 := rfl
                refine kk (fun q => if q = p then 10 + B else own q) (am_gr gn17 2 B (some p)) (up2 (up2 (up2 (up2 (up2 (up2 (up2 (up2 (up2 (up2 (up2 (up2 (up2 (up2 (up2 (up2 (up2 fin17 p 5 (0)) p 0 (a1)) p 1 (fi 31 0)) p 2 (a2)) p 3 (a3)) p 4 (a4)) 1 1 ((fi 31 0 + 1))) 32 B (a1)) 33 B (a2)) 34 B (a3)) 35 B (a4)) 36 B (0)) 37 (4 * B) (0)) 37 (4 * B + 1) (0)) 37 (4 * B + 2) (0)) 37 (4 * B + 3) (0)) 31 0 ((fi 31 0 + 1))) _ (hR.one (B := B) hBn (by omega) hS18 ⟨by omega, fun q h1 h2 _ => ⟨((hmn17.2.2.2.2.2.2 _ (by omega)).1), ((hmn17.2.2.2.2.2.2 _ (by omega)).2.1), funext fun j => (Eq.trans (gr_nq (by omega)) (congrFun (hmn17.2.2.2.2.2.2 _ (by omega)).2.2 _)), if_neg (by omega), (Eq.trans (funext fun _ => up2_nq (by omega)) (Eq.trans (funext fun _ => up2_nq (by omega)) (Eq.trans (funext fun _ => up2_nq (by omega)) (Eq.trans (funext fun _ => up2_nq (by omega)) (Eq.trans (funext fun _ => up2_nq (by omega)) (Eq.trans (funext fun _ => up2_nq (by omega)) (Eq.trans (funext fun _ => up2_nq (by omega)) (Eq.trans (funext fun _ => up2_nq (by omega)) (Eq.trans (funext fun _ => up2_nq (by omega)) (Eq.trans (funext fun _ => up2_nq (by omega)) (Eq.trans (funext fun _ => up2_nq (by omega)) (Eq.trans (funext fun _ => up2_nq (by omega)) (Eq.trans (funext fun _ => up2_nq (by omega)) (Eq.trans (funext fun _ => up2_nq (by omega)) (Eq.trans (funext fun _ => up2_nq (by omega)) (Eq.trans (funext fun _ => up2_nq (by omega)) (Eq.trans (funext fun _ => up2_nq (by omega)) (hzn17.2 _ (by omega)))))))))))))))))))⟩⟩ (fun q hq => ((hmn17.2.2.2.2.2.2 _ (by omega)).1)) (fun q j h1 h2 => (Eq.trans (if_neg (by omega)) (congrFun (hmn17.2.2.2.2.2.2 _ (by omega)).2.2 _))) (Eq.trans (funext fun _ => up2_nq (by first | decide | exact sc_nd (by omega))) (Eq.trans (funext fun _ => up2_nq (by first | decide | exact sc_nd (by omega))) (Eq.trans (funext fun _ => up2_nq (by first | decide | exact sc_nd (by omega))) (Eq.trans (funext fun _ => up2_nq (by first | decide | exact sc_nd (by omega))) (Eq.trans (funext fun _ => up2_nq (by first | decide | exact sc_nd (by omega))) (Eq.trans (funext fun _ => up2_nq (by first | decide | exact sc_nd (by omega))) (Eq.trans (funext fun _ => up2_nq (by first | decide | exact sc_nd (by omega))) (Eq.trans (funext fun _ => up2_nq (by first | decide | exact sc_nd (by omega))) (Eq.trans (funext fun _ => up2_nq (by first | decide | exact sc_nd (by omega))) (Eq.trans (funext fun _ => up2_nq (by first | decide | exact sc_nd (by omega))) (Eq.trans (funext fun _ => up2_nq (by first | decide | exact sc_nd (by omega))) (Eq.trans (funext fun _ => up2_nq (by first | decide | exact sc_nd (by omega))) (Eq.trans (funext fun _ => up2_nq (by first | decide | exact sc_nd (by omega))) (Eq.trans (funext fun _ => up2_nq (by first | decide | exact sc_nd (by omega))) (Eq.trans (funext fun _ => up2_nq (by first | decide | exact sc_nd (by omega))) (Eq.trans (funext fun _ => up2_nq (by first | decide | exact sc_nd (by omega))) (Eq.trans (funext fun _ => up2_nq (by first | decide | exact sc_nd (by omega))) (hzn17.2 _ (sc_nd (by omega)))))))))))))))))))) (fun q h1 h2 => (Eq.trans (funext fun _ => up2_nq (by omega)) (Eq.trans (funext fun _ => up2_nq (by omega)) (Eq.trans (funext fun _ => up2_nq (by omega)) (Eq.trans (funext fun _ => up2_nq (by omega)) (Eq.trans (funext fun _ => up2_nq (by omega)) (Eq.trans (funext fun _ => up2_nq (by omega)) (Eq.trans (funext fun _ => up2_nq (by omega)) (Eq.trans (funext fun _ => up2_nq (by omega)) (Eq.trans (funext fun _ => up2_nq (by omega)) (Eq.trans (funext fun _ => up2_nq (by omega)) (Eq.trans (funext fun _ => up2_nq (by omega)) (Eq.trans (funext fun _ => up2_nq (by omega)) (Eq.trans (funext fun _ => up2_nq (by omega)) (Eq.trans (funext fun _ => up2_nq (by omega)) (Eq.trans (funext fun _ => up2_nq (by omega)) (Eq.trans (funext fun _ => up2_nq (by omega)) (Eq.trans (funext fun _ => up2_nq (by omega)) (hzn17.2 _ (by omega)))))))))))))))))))) (fun j hj => (Eq.trans (up2_nq (by omega)) (Eq.trans (up2_nq (by omega)) (Eq.trans (up2_nq (by omega)) (Eq.trans (up2_nq (by omega)) (Eq.trans (up2_nq (by omega)) (Eq.trans (up2_nq (by omega)) (Eq.trans (up2_nq (by omega)) (Eq.trans (up2_nq (by omega)) (Eq.trans (up2_nq (by omega)) (Eq.trans (up2_nq (by omega)) (Eq.trans (up2_nj hj) (Eq.trans (up2_nq (by omega)) (Eq.trans (up2_nq (by omega)) (Eq.trans (up2_nq (by omega)) (Eq.trans (up2_nq (by omega)) (Eq.trans (up2_nq (by omega)) (Eq.trans (up2_nq (by omega)) (congrFun (hzn17.2 _ (by omega)) _))))))))))))))))))) (fun j hj => (Eq.trans (up2_nj hj) (Eq.trans (up2_nq (by omega)) (Eq.trans (up2_nq (by omega)) (Eq.trans (up2_nq (by omega)) (Eq.trans (up2_nq (by omega)) (Eq.trans (up2_nq (by omega)) (Eq.trans (up2_nq (by omega)) (Eq.trans (up2_nq (by omega)) (Eq.trans (up2_nq (by omega)) (Eq.trans (up2_nq (by omega)) (Eq.trans (up2_nq (by omega)) (Eq.trans (up2_nq (by omega)) (Eq.trans (up2_nq (by omega)) (Eq.trans (up2_nq (by omega)) (Eq.trans (up2_nq (by omega)) (Eq.trans (up2_nq (by omega)) (Eq.trans (up2_nq (by omega)) (congrFun (hzn17.2 _ (by omega)) _))))))))))))))))))) ⟨((Eq.trans (up2_nq (by decide)) (Eq.trans (up2_nq (by decide)) (Eq.trans (up2_nq (by decide)) (Eq.trans (up2_nq (by decide)) (Eq.trans (up2_nq (by decide)) (Eq.trans (up2_nq (by decide)) (Eq.trans (up2_nq (by decide)) (Eq.trans (up2_nq (by decide)) (Eq.trans (up2_nq (by decide)) (Eq.trans (up2_nq (by decide)) up2_eq))))))))))).trans (up2_eq).symm, ?_⟩ (fun q b h1 h2 h3 => ?_) (fun b j h1 h2 => (Eq.trans (up2_nq (by omega)) (Eq.trans (up2_nj (by omega)) (Eq.trans (up2_nj (by omega)) (Eq.trans (up2_nj (by omega)) (Eq.trans (up2_nj (by omega)) (Eq.trans (up2_nq (by omega)) (Eq.trans (up2_nq (by omega)) (Eq.trans (up2_nq (by omega)) (Eq.trans (up2_nq (by omega)) (Eq.trans (up2_nq (by omega)) (Eq.trans (up2_nq (by omega)) (Eq.trans (up2_nq (by omega)) (Eq.trans (up2_nq (by omega)) (Eq.trans (up2_nq (by omega)) (Eq.trans (up2_nq (by omega)) (Eq.trans (up2_nq (by omega)) (Eq.trans (up2_nq (by omega)) (congrFun (hzn17.2 _ (by omega)) _))))))))))))))))))) (fun q hq => (hln17.2 _ (by omega))) ?_ ⟨p, 0, ⟨gr_eq, ⟨by omega, by omega, if_pos rfl⟩, ?_, ((Eq.trans (up2_nq (by omega)) (Eq.trans (up2_nq (by omega)) (Eq.trans (up2_nq (by omega)) (Eq.trans (up2_nq (by omega)) (Eq.trans (up2_nq (by omega)) (Eq.trans (up2_nq (by omega)) (Eq.trans (up2_nq (by omega)) (Eq.trans (up2_nq (by omega)) (Eq.trans (up2_nq (by omega)) (Eq.trans (up2_nq (by omega)) (Eq.trans (up2_nq (by omega)) (Eq.trans (up2_nj (by decide)) (Eq.trans (up2_nj (by decide)) (Eq.trans (up2_nj (by decide)) (Eq.trans (up2_nj (by decide)) up2_eq)))))))))))))))).trans ((Eq.trans (up2_nq (by decide)) (Eq.trans (up2_nq (by decide)) (Eq.trans (up2_nq (by decide)) (Eq.trans (up2_nq (by decide)) (Eq.trans (up2_nq (by decide)) (Eq.trans (up2_nq (by decide)) (Eq.trans (up2_nq (by decide)) (Eq.trans (up2_nq (by decide)) (Eq.trans (up2_nq (by decide)) up2_eq)))))))))).symm, ?_, ((Eq.trans (up2_nq (by omega)) (Eq.trans (up2_nq (by omega)) (Eq.trans (up2_nq (by omega)) (Eq.trans (up2_nq (by omega)) (Eq.trans (up2_nq (by omega)) (Eq.trans (up2_nq (by omega)) (Eq.trans (up2_nq (by omega)) (Eq.trans (up2_nq (by omega)) (Eq.trans (up2_nq (by omega)) (Eq.trans (up2_nq (by omega)) (Eq.trans (up2_nq (by omega)) (Eq.trans (up2_nj (by decide)) (Eq.trans (up2_nj (by decide)) up2_eq)))))))))))))).trans ((Eq.trans (up2_nq (by decide)) (Eq.trans (up2_nq (by decide)) (Eq.trans (up2_nq (by decide)) (Eq.trans (up2_nq (by decide)) (Eq.trans (up2_nq (by decide)) (Eq.trans (up2_nq (by decide)) (Eq.trans (up2_nq (by decide)) (Eq.trans (up2_nq (by decide)) up2_eq))))))))).symm, ((Eq.trans (up2_nq (by omega)) (Eq.trans (up2_nq (by omega)) (Eq.trans (up2_nq (by omega)) (Eq.trans (up2_nq (by omega)) (Eq.trans (up2_nq (by omega)) (Eq.trans (up2_nq (by omega)) (Eq.trans (up2_nq (by omega)) (Eq.trans (up2_nq (by omega)) (Eq.trans (up2_nq (by omega)) (Eq.trans (up2_nq (by omega)) (Eq.trans (up2_nq (by omega)) (Eq.trans (up2_nj (by decide)) up2_eq))))))))))))).trans ((Eq.trans (up2_nq (by decide)) (Eq.trans (up2_nq (by decide)) (Eq.trans (up2_nq (by decide)) (Eq.trans (up2_nq (by decide)) (Eq.trans (up2_nq (by decide)) (Eq.trans (up2_nq (by decide)) (Eq.trans (up2_nq (by decide)) up2_eq)))))))).symm, ((Eq.trans (up2_nq (by omega)) (Eq.trans (up2_nq (by omega)) (Eq.trans (up2_nq (by omega)) (Eq.trans (up2_nq (by omega)) (Eq.trans (up2_nq (by omega)) (Eq.trans (up2_nq (by omega)) (Eq.trans (up2_nq (by omega)) (Eq.trans (up2_nq (by omega)) (Eq.trans (up2_nq (by omega)) (Eq.trans (up2_nq (by omega)) (Eq.trans (up2_nq (by omega)) up2_eq)))))))))))).trans ((Eq.trans (up2_nq (by decide)) (Eq.trans (up2_nq (by decide)) (Eq.trans (up2_nq (by decide)) (Eq.trans (up2_nq (by decide)) (Eq.trans (up2_nq (by decide)) (Eq.trans (up2_nq (by decide)) up2_eq))))))).symm, ((Eq.trans (up2_nq (by omega)) (Eq.trans (up2_nq (by omega)) (Eq.trans (up2_nq (by omega)) (Eq.trans (up2_nq (by omega)) (Eq.trans (up2_nq (by omega)) (Eq.trans (up2_nq (by omega)) (Eq.trans (up2_nq (by omega)) (Eq.trans (up2_nq (by omega)) (Eq.trans (up2_nq (by omega)) (Eq.trans (up2_nq (by omega)) (Eq.trans (up2_nq (by omega)) (Eq.trans (up2_nj (by decide)) (Eq.trans (up2_nj (by decide)) (Eq.trans (up2_nj (by decide)) (Eq.trans (up2_nj (by decide)) (Eq.trans (up2_nj (by decide)) up2_eq))))))))))))))))).trans ((Eq.trans (up2_nq (by decide)) (Eq.trans (up2_nq (by decide)) (Eq.trans (up2_nq (by decide)) (Eq.trans (up2_nq (by decide)) (Eq.trans (up2_nq (by decide)) up2_eq)))))).symm, ?_⟩, ((congrArg (fun t => am_sub t 0) hmn17.2.2.2.1).trans rfl)⟩) (by omega) (by omega)
                · exact (congrArg Int32.toInt (up2_eq)).trans ((i_add hBn ki_1 (by omega)).trans (by omega))
                · exact (Eq.trans (if_neg (by omega)) (Eq.trans (if_neg (by omega)) (Eq.trans (if_neg (by omega)) (Eq.trans (if_neg (by omega)) (Eq.trans (if_neg (by omega)) (Eq.trans (if_neg (by omega)) (Eq.trans (if_neg (by omega)) (Eq.trans (if_neg (by omega)) (Eq.trans (if_neg (by omega)) (Eq.trans (if_neg (by omega)) (Eq.trans (if_neg (by omega)) (Eq.trans (if_neg (by omega)) (Eq.trans (if_neg (by omega)) (Eq.trans (if_neg (by omega)) (Eq.trans (if_neg (by omega)) (Eq.trans (if_neg (by omega)) (Eq.trans (if_neg (by omega)) (congrFun (hzn17.2 _ (by omega)) _))))))))))))))))))
                · unfold RM
                  rw [show (up2 (up2 (up2 (up2 (up2 (up2 (up2 (up2 (up2 (up2 (up2 (up2 (up2 (up2 (up2 (up2 (up2 fin17 p 5 (0)) p 0 (a1)) p 1 (fi 31 0)) p 2 (a2)) p 3 (a3)) p 4 (a4)) 1 1 ((fi 31 0 + 1))) 32 B (a1)) 33 B (a2)) 34 B (a3)) 35 B (a4)) 36 B (0)) 37 (4 * B) (0)) 37 (4 * B + 1) (0)) 37 (4 * B + 2) (0)) 37 (4 * B + 3) (0)) 31 0 ((fi 31 0 + 1))) 32 B = a1 from (Eq.trans (up2_nq (by decide)) (Eq.trans (up2_nq (by decide)) (Eq.trans (up2_nq (by decide)) (Eq.trans (up2_nq (by decide)) (Eq.trans (up2_nq (by decide)) (Eq.trans (up2_nq (by decide)) (Eq.trans (up2_nq (by decide)) (Eq.trans (up2_nq (by decide)) (Eq.trans (up2_nq (by decide)) up2_eq)))))))))]
                  rw [show (up2 (up2 (up2 (up2 (up2 (up2 (up2 (up2 (up2 (up2 (up2 (up2 (up2 (up2 (up2 (up2 (up2 fin17 p 5 (0)) p 0 (a1)) p 1 (fi 31 0)) p 2 (a2)) p 3 (a3)) p 4 (a4)) 1 1 ((fi 31 0 + 1))) 32 B (a1)) 33 B (a2)) 34 B (a3)) 35 B (a4)) 36 B (0)) 37 (4 * B) (0)) 37 (4 * B + 1) (0)) 37 (4 * B + 2) (0)) 37 (4 * B + 3) (0)) 31 0 ((fi 31 0 + 1))) 33 B = a2 from (Eq.trans (up2_nq (by decide)) (Eq.trans (up2_nq (by decide)) (Eq.trans (up2_nq (by decide)) (Eq.trans (up2_nq (by decide)) (Eq.trans (up2_nq (by decide)) (Eq.trans (up2_nq (by decide)) (Eq.trans (up2_nq (by decide)) (Eq.trans (up2_nq (by decide)) up2_eq))))))))]
                  rw [show (up2 (up2 (up2 (up2 (up2 (up2 (up2 (up2 (up2 (up2 (up2 (up2 (up2 (up2 (up2 (up2 (up2 fin17 p 5 (0)) p 0 (a1)) p 1 (fi 31 0)) p 2 (a2)) p 3 (a3)) p 4 (a4)) 1 1 ((fi 31 0 + 1))) 32 B (a1)) 33 B (a2)) 34 B (a3)) 35 B (a4)) 36 B (0)) 37 (4 * B) (0)) 37 (4 * B + 1) (0)) 37 (4 * B + 2) (0)) 37 (4 * B + 3) (0)) 31 0 ((fi 31 0 + 1))) 34 B = a3 from (Eq.trans (up2_nq (by decide)) (Eq.trans (up2_nq (by decide)) (Eq.trans (up2_nq (by decide)) (Eq.trans (up2_nq (by decide)) (Eq.trans (up2_nq (by decide)) (Eq.trans (up2_nq (by decide)) (Eq.trans (up2_nq (by decide)) up2_eq)))))))]
                  rw [show (up2 (up2 (up2 (up2 (up2 (up2 (up2 (up2 (up2 (up2 (up2 (up2 (up2 (up2 (up2 (up2 (up2 fin17 p 5 (0)) p 0 (a1)) p 1 (fi 31 0)) p 2 (a2)) p 3 (a3)) p 4 (a4)) 1 1 ((fi 31 0 + 1))) 32 B (a1)) 33 B (a2)) 34 B (a3)) 35 B (a4)) 36 B (0)) 37 (4 * B) (0)) 37 (4 * B + 1) (0)) 37 (4 * B + 2) (0)) 37 (4 * B + 3) (0)) 31 0 ((fi 31 0 + 1))) 35 B = a4 from (Eq.trans (up2_nq (by decide)) (Eq.trans (up2_nq (by decide)) (Eq.trans (up2_nq (by decide)) (Eq.trans (up2_nq (by decide)) (Eq.trans (up2_nq (by decide)) (Eq.trans (up2_nq (by decide)) up2_eq))))))]
                  rw [show (up2 (up2 (up2 (up2 (up2 (up2 (up2 (up2 (up2 (up2 (up2 (up2 (up2 (up2 (up2 (up2 (up2 fin17 p 5 (0)) p 0 (a1)) p 1 (fi 31 0)) p 2 (a2)) p 3 (a3)) p 4 (a4)) 1 1 ((fi 31 0 + 1))) 32 B (a1)) 33 B (a2)) 34 B (a3)) 35 B (a4)) 36 B (0)) 37 (4 * B) (0)) 37 (4 * B + 1) (0)) 37 (4 * B + 2) (0)) 37 (4 * B + 3) (0)) 31 0 ((fi 31 0 + 1))) 36 B = 0 from (Eq.trans (up2_nq (by decide)) (Eq.trans (up2_nq (by decide)) (Eq.trans (up2_nq (by decide)) (Eq.trans (up2_nq (by decide)) (Eq.trans (up2_nq (by decide)) up2_eq)))))]
                  refine ⟨by omega, by omega, by omega, by omega, by decide, fun j hj => ?_⟩
                  match j, hj with
                  | 0, _ => rw [show (up2 (up2 (up2 (up2 (up2 (up2 (up2 (up2 (up2 (up2 (up2 (up2 (up2 (up2 (up2 (up2 (up2 fin17 p 5 (0)) p 0 (a1)) p 1 (fi 31 0)) p 2 (a2)) p 3 (a3)) p 4 (a4)) 1 1 ((fi 31 0 + 1))) 32 B (a1)) 33 B (a2)) 34 B (a3)) 35 B (a4)) 36 B (0)) 37 (4 * B) (0)) 37 (4 * B + 1) (0)) 37 (4 * B + 2) (0)) 37 (4 * B + 3) (0)) 31 0 ((fi 31 0 + 1))) 37 (4 * B + 0) = 0 from (Eq.trans (up2_nq (by decide)) (Eq.trans (up2_nj (by omega)) (Eq.trans (up2_nj (by omega)) (Eq.trans (up2_nj (by omega)) up2_eq))))]; decide
                  | 1, _ => rw [show (up2 (up2 (up2 (up2 (up2 (up2 (up2 (up2 (up2 (up2 (up2 (up2 (up2 (up2 (up2 (up2 (up2 fin17 p 5 (0)) p 0 (a1)) p 1 (fi 31 0)) p 2 (a2)) p 3 (a3)) p 4 (a4)) 1 1 ((fi 31 0 + 1))) 32 B (a1)) 33 B (a2)) 34 B (a3)) 35 B (a4)) 36 B (0)) 37 (4 * B) (0)) 37 (4 * B + 1) (0)) 37 (4 * B + 2) (0)) 37 (4 * B + 3) (0)) 31 0 ((fi 31 0 + 1))) 37 (4 * B + 1) = 0 from (Eq.trans (up2_nq (by decide)) (Eq.trans (up2_nj (by omega)) (Eq.trans (up2_nj (by omega)) up2_eq)))]; decide
                  | 2, _ => rw [show (up2 (up2 (up2 (up2 (up2 (up2 (up2 (up2 (up2 (up2 (up2 (up2 (up2 (up2 (up2 (up2 (up2 fin17 p 5 (0)) p 0 (a1)) p 1 (fi 31 0)) p 2 (a2)) p 3 (a3)) p 4 (a4)) 1 1 ((fi 31 0 + 1))) 32 B (a1)) 33 B (a2)) 34 B (a3)) 35 B (a4)) 36 B (0)) 37 (4 * B) (0)) 37 (4 * B + 1) (0)) 37 (4 * B + 2) (0)) 37 (4 * B + 3) (0)) 31 0 ((fi 31 0 + 1))) 37 (4 * B + 2) = 0 from (Eq.trans (up2_nq (by decide)) (Eq.trans (up2_nj (by omega)) up2_eq))]; decide
                  | 3, _ => rw [show (up2 (up2 (up2 (up2 (up2 (up2 (up2 (up2 (up2 (up2 (up2 (up2 (up2 (up2 (up2 (up2 (up2 fin17 p 5 (0)) p 0 (a1)) p 1 (fi 31 0)) p 2 (a2)) p 3 (a3)) p 4 (a4)) 1 1 ((fi 31 0 + 1))) 32 B (a1)) 33 B (a2)) 34 B (a3)) 35 B (a4)) 36 B (0)) 37 (4 * B) (0)) 37 (4 * B + 1) (0)) 37 (4 * B + 2) (0)) 37 (4 * B + 3) (0)) 31 0 ((fi 31 0 + 1))) 37 (4 * B + 3) = 0 from (Eq.trans (up2_nq (by decide)) up2_eq)]; decide
                  | j + 4, h => exact absurd h (by omega)
                · exact hmn17.2.2.2.1.trans (by rw [show (up2 (up2 (up2 (up2 (up2 (up2 (up2 (up2 (up2 (up2 (up2 (up2 (up2 (up2 (up2 (up2 (up2 fin17 p 5 (0)) p 0 (a1)) p 1 (fi 31 0)) p 2 (a2)) p 3 (a3)) p 4 (a4)) 1 1 ((fi 31 0 + 1))) 32 B (a1)) 33 B (a2)) 34 B (a3)) 35 B (a4)) 36 B (0)) 37 (4 * B) (0)) 37 (4 * B + 1) (0)) 37 (4 * B + 2) (0)) 37 (4 * B + 3) (0)) 31 0 ((fi 31 0 + 1))) 32 B = a1 from (Eq.trans (up2_nq (by decide)) (Eq.trans (up2_nq (by decide)) (Eq.trans (up2_nq (by decide)) (Eq.trans (up2_nq (by decide)) (Eq.trans (up2_nq (by decide)) (Eq.trans (up2_nq (by decide)) (Eq.trans (up2_nq (by decide)) (Eq.trans (up2_nq (by decide)) (Eq.trans (up2_nq (by decide)) up2_eq))))))))), show (a1).toInt = 4 by omega] <;> rfl)
                · exact (congrArg Int32.toInt ((Eq.trans (up2_nq (by omega)) (Eq.trans (up2_nq (by omega)) (Eq.trans (up2_nq (by omega)) (Eq.trans (up2_nq (by omega)) (Eq.trans (up2_nq (by omega)) (Eq.trans (up2_nq (by omega)) (Eq.trans (up2_nq (by omega)) (Eq.trans (up2_nq (by omega)) (Eq.trans (up2_nq (by omega)) (Eq.trans (up2_nq (by omega)) (Eq.trans (up2_nq (by omega)) (Eq.trans (up2_nj (by decide)) (Eq.trans (up2_nj (by decide)) (Eq.trans (up2_nj (by decide)) up2_eq)))))))))))))))).trans hBn
                · intro h6
                  rw [show (up2 (up2 (up2 (up2 (up2 (up2 (up2 (up2 (up2 (up2 (up2 (up2 (up2 (up2 (up2 (up2 (up2 fin17 p 5 (0)) p 0 (a1)) p 1 (fi 31 0)) p 2 (a2)) p 3 (a3)) p 4 (a4)) 1 1 ((fi 31 0 + 1))) 32 B (a1)) 33 B (a2)) 34 B (a3)) 35 B (a4)) 36 B (0)) 37 (4 * B) (0)) 37 (4 * B + 1) (0)) 37 (4 * B + 2) (0)) 37 (4 * B + 3) (0)) 31 0 ((fi 31 0 + 1))) 32 B = a1 from (Eq.trans (up2_nq (by decide)) (Eq.trans (up2_nq (by decide)) (Eq.trans (up2_nq (by decide)) (Eq.trans (up2_nq (by decide)) (Eq.trans (up2_nq (by decide)) (Eq.trans (up2_nq (by decide)) (Eq.trans (up2_nq (by decide)) (Eq.trans (up2_nq (by decide)) (Eq.trans (up2_nq (by decide)) up2_eq)))))))))] at h6
                  exact absurd h6 (by omega)
              rcases Decidable.em ((a1).toInt = 5) with h19 | h19
              · refine wi_tsw (X := 5) (t := 96) ct_105_1 (by omega) rfl ?_
                obtain ⟨p, hp⟩ : ∃ p, am_nx g = p := ⟨_, rfl⟩
                have hp72 : 72 ≤ p := hp ▸ hS.nx
                refine wi_newF ct_105_96 hp (by omega) (fun gn20 fin20 fln20 hmn20 hzn20 hln20 => ?_)
                have hSn20 := hS.mkF hmn20 (by omega)
                refine wi_dup ct_105_99 rfl ?_
                refine wi_iload_0 ct_105_100 ?_
                refine wi_iload_1 ct_105_101 ?_
                refine wi_iload_2 ct_105_102 ?_
                refine wi_iload_3 ct_105_103 ?_
                refine wi_iload_4 ct_105_104 ?_
                refine wi_cp5 (ls' := [some _, some _, some _, some _, some _, some _]) ct_105_106 (Nat.le_of_ble_eq_true rfl) hmn20.2.2.2.1 (by decide) rfl (Nat.le_of_ble_eq_true rfl) ?_
                refine wi_aload_0 ct_63_0 ?_
                refine wi_iload_1 ct_63_1 ?_
                refine wi_iload_2 ct_63_2 ?_
                refine wi_iload_3 ct_63_3 ?_
                refine wi_iload_4 ct_63_4 ?_
                refine wi_iload_5 ct_63_6 ?_
                refine wi_cp5 (ls' := [some _, some _, some _, some _, some _, some _]) ct_63_8 (Nat.le_of_ble_eq_true rfl) hmn20.2.2.2.1 (by decide) rfl (Nat.le_of_ble_eq_true rfl) ?_
                refine wi_aload_0 ct_13_0 ?_
                refine wi_iload_1 ct_13_1 ?_
                refine wi_iload_2 ct_13_2 ?_
                refine wi_iload_3 ct_13_3 ?_
                refine wi_iload_4 ct_13_4 ?_
                refine wi_iload_5 ct_13_6 ?_
                refine wi_cp5 (ls' := [some _, some _, some _, some _, some _, some _]) ct_13_8 (Nat.le_of_ble_eq_true rfl) hmn20.2.2.2.1 (by decide) rfl (Nat.le_of_ble_eq_true rfl) ?_
                refine wi_aload_0 ct_0_0 ?_
                refine wi_obj ct_0_1 (Nat.le_of_ble_eq_true rfl) ?_
                refine wi_aload_0 ct_0_4 ?_
                refine wi_ic ct_0_5 kc_0 ?_
                refine wi_pf ct_0_6 hmn20.2.2.2.1 rfl ?_
                refine wi_aload_0 ct_0_9 ?_
                refine wi_iload_1 ct_0_10 ?_
                refine wi_pf ct_0_11 hmn20.2.2.2.1 rfl ?_
                refine wi_aload_0 ct_0_14 ?_
                refine wi_iload_2 ct_0_15 ?_
                refine wi_pf ct_0_16 hmn20.2.2.2.1 rfl ?_
                refine wi_aload_0 ct_0_19 ?_
                refine wi_iload_3 ct_0_20 ?_
                refine wi_pf ct_0_21 hmn20.2.2.2.1 rfl ?_
                refine wi_aload_0 ct_0_24 ?_
                refine wi_iload_4 ct_0_25 ?_
                refine wi_pf ct_0_27 hmn20.2.2.2.1 rfl ?_
                refine wi_aload_0 ct_0_30 ?_
                refine wi_iload_5 ct_0_31 ?_
                refine wi_pf ct_0_33 hmn20.2.2.2.1 rfl ?_
                refine wi_ret ct_0_36 (wk_v ?_)
                refine wi_ret ct_13_11 (wk_v ?_)
                refine wi_ret ct_63_11 (wk_v ?_)
                refine wi_aret ct_105_109 (wk_r ?_)
                refine wi_aast ct_67_88 (Or.inl ⟨(sT_2 hSn20), (hmn20.2.2.2.1).symm ▸ rfl⟩) (sL_2 hSn20) (i_in hBn (by omega)) (i_cl (k := B) hBn (by omega)) ?_
                have hS21 := hSn20.grq (q := 2) (a := B) (x := (some p)) (by decide)
                refine wi_aload_0 ct_67_89 ?_
                refine wi_gfr ct_67_90 (sT_0 hS21) rfl (sR_0_0 hS21) ?_
                refine wi_dup ct_67_93 rfl ?_
                refine wi_gf (x := fi 31 0) ct_67_94 (sT_1 hS21) rfl rfl (Eq.trans (up2_nq (by omega)) (Eq.trans (up2_nq (by omega)) (Eq.trans (up2_nq (by omega)) (Eq.trans (up2_nq (by omega)) (Eq.trans (up2_nq (by omega)) (Eq.trans (up2_nq (by omega)) (Eq.trans (congrFun (hzn20.2 _ (by omega)) _) c0))))))) ?_
                refine wi_ic ct_67_97 kc_1 ?_
                refine wi_iadd ct_67_98 rfl ?_
                refine wi_pf ct_67_99 (sT_1 hS21) rfl ?_
                refine wi_iload_5 ct_67_102 ?_
                refine wi_iret ct_67_104 rfl (wk_i ?_)
                refine wi_aload_2 ct_211_216 ?_
                refine wi_aloadT_0 ct_211_217 ?_
                refine wi_iload_3 ct_211_218 ?_
                refine wi_ic ct_211_219 kc_1 ?_
                refine wi_iadd ct_211_220 rfl ?_
                refine wi_ialdT (j := I + 1) (x := a1) ct_211_221 (sL_SC hS21) (i_in (i_add hi ki_1 (by omega)) (by omega)) (i_cl (i_add hi ki_1 (by omega)) (by omega)) ((Eq.trans (up2_nq (by decide)) (Eq.trans (up2_nq (sc_nd (by omega))) (Eq.trans (up2_nq (sc_nd (by omega))) (Eq.trans (up2_nq (sc_nd (by omega))) (Eq.trans (up2_nq (sc_nd (by omega))) (Eq.trans (up2_nq (sc_nd (by omega))) (Eq.trans (up2_nq (sc_nd (by omega))) (Eq.trans (congrFun (hzn20.2 _ (sc_nd (by omega))) _) ((hsc _).trans e1)))))))))) ?_
                refine wi_aloadT_0 ct_211_222 ?_
                refine wi_iload_3 ct_211_223 ?_
                refine wi_ic ct_211_224 kc_2 ?_
                refine wi_iadd ct_211_225 rfl ?_
                refine wi_ialdT (j := I + 2) (x := a2) ct_211_226 (sL_SC hS21) (i_in (i_add hi ki_2 (by omega)) (by omega)) (i_cl (i_add hi ki_2 (by omega)) (by omega)) ((Eq.trans (up2_nq (by decide)) (Eq.trans (up2_nq (sc_nd (by omega))) (Eq.trans (up2_nq (sc_nd (by omega))) (Eq.trans (up2_nq (sc_nd (by omega))) (Eq.trans (up2_nq (sc_nd (by omega))) (Eq.trans (up2_nq (sc_nd (by omega))) (Eq.trans (up2_nq (sc_nd (by omega))) (Eq.trans (congrFun (hzn20.2 _ (sc_nd (by omega))) _) ((hsc _).trans e2)))))))))) ?_
                refine wi_aloadT_0 ct_211_227 ?_
                refine wi_iload_3 ct_211_228 ?_
                refine wi_ic ct_211_229 kc_3 ?_
                refine wi_iadd ct_211_230 rfl ?_
                refine wi_ialdT (j := I + 3) (x := a3) ct_211_231 (sL_SC hS21) (i_in (i_add hi ki_3 (by omega)) (by omega)) (i_cl (i_add hi ki_3 (by omega)) (by omega)) ((Eq.trans (up2_nq (by decide)) (Eq.trans (up2_nq (sc_nd (by omega))) (Eq.trans (up2_nq (sc_nd (by omega))) (Eq.trans (up2_nq (sc_nd (by omega))) (Eq.trans (up2_nq (sc_nd (by omega))) (Eq.trans (up2_nq (sc_nd (by omega))) (Eq.trans (up2_nq (sc_nd (by omega))) (Eq.trans (congrFun (hzn20.2 _ (sc_nd (by omega))) _) ((hsc _).trans e3)))))))))) ?_
                refine wi_aloadT_0 ct_211_232 ?_
                refine wi_iload_3 ct_211_233 ?_
                refine wi_ic ct_211_234 kc_4 ?_
                refine wi_iadd ct_211_235 rfl ?_
                refine wi_ialdT (j := I + 4) (x := a4) ct_211_236 (sL_SC hS21) (i_in (i_add hi ki_4 (by omega)) (by omega)) (i_cl (i_add hi ki_4 (by omega)) (by omega)) ((Eq.trans (up2_nq (by decide)) (Eq.trans (up2_nq (sc_nd (by omega))) (Eq.trans (up2_nq (sc_nd (by omega))) (Eq.trans (up2_nq (sc_nd (by omega))) (Eq.trans (up2_nq (sc_nd (by omega))) (Eq.trans (up2_nq (sc_nd (by omega))) (Eq.trans (up2_nq (sc_nd (by omega))) (Eq.trans (congrFun (hzn20.2 _ (sc_nd (by omega))) _) ((hsc _).trans e4)))))))))) ?_
                refine wi_cv4 (ls' := [some _, some _, some _, some _, some _, none]) ct_211_237 (Nat.le_of_ble_eq_true rfl) (by decide) (sT_31 hS21) rfl (by decide) rfl rfl (Nat.le_of_ble_eq_true rfl) ?_
                refine wi_aload_0 ct_121_0 ?_
                refine wi_iload_1 ct_121_1 ?_
                refine wi_ic ct_121_2 kc_0 ?_
                refine wi_ic ct_121_3 kc_6 ?_
                refine wi_cv3 (ls' := [some _, some _, some _, some _]) ct_121_5 (Nat.le_of_ble_eq_true rfl) (by decide) (sT_31 hS21) rfl (by decide) rfl rfl (Nat.le_of_ble_eq_true rfl) ?_
                refine c_in rfl ki_0 ki_6 (fun _ => wk_i ?_) (fun h => absurd h (by omega))
                refine wi_ifne_t ct_121_8 ki_1 (by decide) ?_
                refine wi_aload_0 ct_121_13 ?_
                refine wi_iload_2 ct_121_14 ?_
                refine wi_ic ct_121_15 kc_0 ?_
                refine wi_ic ct_121_16 kc_9 ?_
                refine wi_cv3 (ls' := [some _, some _, some _, some _]) ct_121_18 (Nat.le_of_ble_eq_true rfl) (by decide) (sT_31 hS21) rfl (by decide) rfl rfl (Nat.le_of_ble_eq_true rfl) ?_
                refine c_in rfl ki_0 ki_9 (fun _ => wk_i ?_) (fun h => absurd h (by omega))
                refine wi_ifeq_f ct_121_21 ki_1 (by decide) ?_
                refine wi_aload_0 ct_121_24 ?_
                refine wi_iload_3 ct_121_25 ?_
                refine wi_ic ct_121_26 kc_1 ?_
                refine wi_ic ct_121_27 kc_9 ?_
                refine wi_cv3 (ls' := [some _, some _, some _, some _]) ct_121_29 (Nat.le_of_ble_eq_true rfl) (by decide) (sT_31 hS21) rfl (by decide) rfl rfl (Nat.le_of_ble_eq_true rfl) ?_
                refine c_in rfl ki_1 ki_9 (fun _ => wk_i ?_) (fun h => absurd h (by omega))
                refine wi_ifeq_f ct_121_32 ki_1 (by decide) ?_
                refine wi_aload_0 ct_121_35 ?_
                refine wi_iload_4 ct_121_36 ?_
                refine wi_ic ct_121_38 kc_1 ?_
                refine wi_ic ct_121_39 kc_60 ?_
                refine wi_cv3 (ls' := [some _, some _, some _, some _]) ct_121_41 (Nat.le_of_ble_eq_true rfl) (by decide) (sT_31 hS21) rfl (by decide) rfl rfl (Nat.le_of_ble_eq_true rfl) ?_
                refine c_in rfl ki_1 ki_60 (fun _ => wk_i ?_) (fun h => absurd h (by omega))
                refine wi_ifne_t ct_121_44 ki_1 (by decide) ?_
                refine wi_aload_0 ct_121_50 ?_
                refine wi_gf (x := fi 31 0) ct_121_51 (sT_31 hS21) rfl rfl (Eq.trans (up2_nq (by decide)) (Eq.trans (up2_nq (by omega)) (Eq.trans (up2_nq (by omega)) (Eq.trans (up2_nq (by omega)) (Eq.trans (up2_nq (by omega)) (Eq.trans (up2_nq (by omega)) (Eq.trans (up2_nq (by omega)) (congrFun (hzn20.2 _ (by omega)) _)))))))) ?_
                refine wi_ic ct_121_54 kc_5 ?_
                refine wi_icne_t ct_121_55 hBn ki_5 (by omega) ?_
                refine wi_aload_0 ct_121_61 ?_
                refine wi_gfr ct_121_62 (sT_31 hS21) rfl (sR_31_2 hS21) ?_
                refine wi_aload_0 ct_121_65 ?_
                refine wi_gf (x := fi 31 0) ct_121_66 (sT_31 hS21) rfl rfl (Eq.trans (up2_nq (by decide)) (Eq.trans (up2_nq (by omega)) (Eq.trans (up2_nq (by omega)) (Eq.trans (up2_nq (by omega)) (Eq.trans (up2_nq (by omega)) (Eq.trans (up2_nq (by omega)) (Eq.trans (up2_nq (by omega)) (congrFun (hzn20.2 _ (by omega)) _)))))))) ?_
                refine wi_iload_1 ct_121_69 ?_
                refine wi_iast ct_121_70 (sT_32 hS21) (sL_32 hS21) (i_in hBn (by omega)) (i_cl (k := B) hBn (by omega)) ?_
                refine wi_aload_0 ct_121_71 ?_
                refine wi_gfr ct_121_72 (sT_31 hS21) rfl (sR_31_3 hS21) ?_
                refine wi_aload_0 ct_121_75 ?_
                refine wi_gf (x := fi 31 0) ct_121_76 (sT_31 hS21) rfl rfl (Eq.trans (up2_nq (by decide)) (Eq.trans (up2_nq (by decide)) (Eq.trans (up2_nq (by omega)) (Eq.trans (up2_nq (by omega)) (Eq.trans (up2_nq (by omega)) (Eq.trans (up2_nq (by omega)) (Eq.trans (up2_nq (by omega)) (Eq.trans (up2_nq (by omega)) (congrFun (hzn20.2 _ (by omega)) _))))))))) ?_
                refine wi_iload_2 ct_121_79 ?_
                refine wi_iast ct_121_80 (sT_33 hS21) (sL_33 hS21) (i_in hBn (by omega)) (i_cl (k := B) hBn (by omega)) ?_
                refine wi_aload_0 ct_121_81 ?_
                refine wi_gfr ct_121_82 (sT_31 hS21) rfl (sR_31_4 hS21) ?_
                refine wi_aload_0 ct_121_85 ?_
                refine wi_gf (x := fi 31 0) ct_121_86 (sT_31 hS21) rfl rfl (Eq.trans (up2_nq (by decide)) (Eq.trans (up2_nq (by decide)) (Eq.trans (up2_nq (by decide)) (Eq.trans (up2_nq (by omega)) (Eq.trans (up2_nq (by omega)) (Eq.trans (up2_nq (by omega)) (Eq.trans (up2_nq (by omega)) (Eq.trans (up2_nq (by omega)) (Eq.trans (up2_nq (by omega)) (congrFun (hzn20.2 _ (by omega)) _)))))))))) ?_
                refine wi_iload_3 ct_121_89 ?_
                refine wi_iast ct_121_90 (sT_34 hS21) (sL_34 hS21) (i_in hBn (by omega)) (i_cl (k := B) hBn (by omega)) ?_
                refine wi_aload_0 ct_121_91 ?_
                refine wi_gfr ct_121_92 (sT_31 hS21) rfl (sR_31_5 hS21) ?_
                refine wi_aload_0 ct_121_95 ?_
                refine wi_gf (x := fi 31 0) ct_121_96 (sT_31 hS21) rfl rfl (Eq.trans (up2_nq (by decide)) (Eq.trans (up2_nq (by decide)) (Eq.trans (up2_nq (by decide)) (Eq.trans (up2_nq (by decide)) (Eq.trans (up2_nq (by omega)) (Eq.trans (up2_nq (by omega)) (Eq.trans (up2_nq (by omega)) (Eq.trans (up2_nq (by omega)) (Eq.trans (up2_nq (by omega)) (Eq.trans (up2_nq (by omega)) (congrFun (hzn20.2 _ (by omega)) _))))))))))) ?_
                refine wi_iload_4 ct_121_99 ?_
                refine wi_iast ct_121_101 (sT_35 hS21) (sL_35 hS21) (i_in hBn (by omega)) (i_cl (k := B) hBn (by omega)) ?_
                refine wi_aload_0 ct_121_102 ?_
                refine wi_gfr ct_121_103 (sT_31 hS21) rfl (sR_31_6 hS21) ?_
                refine wi_aload_0 ct_121_106 ?_
                refine wi_gf (x := fi 31 0) ct_121_107 (sT_31 hS21) rfl rfl (Eq.trans (up2_nq (by decide)) (Eq.trans (up2_nq (by decide)) (Eq.trans (up2_nq (by decide)) (Eq.trans (up2_nq (by decide)) (Eq.trans (up2_nq (by decide)) (Eq.trans (up2_nq (by omega)) (Eq.trans (up2_nq (by omega)) (Eq.trans (up2_nq (by omega)) (Eq.trans (up2_nq (by omega)) (Eq.trans (up2_nq (by omega)) (Eq.trans (up2_nq (by omega)) (congrFun (hzn20.2 _ (by omega)) _)))))))))))) ?_
                refine wi_ic ct_121_110 kc_0 ?_
                refine wi_iast ct_121_111 (sT_36 hS21) (sL_36 hS21) (i_in hBn (by omega)) (i_cl (k := B) hBn (by omega)) ?_
                refine wi_ic ct_121_112 kc_0 ?_
                refine wi_istore_5 rfl ct_121_113 ?_
                refine wi_iload_5 ct_121_115 ?_
                refine wi_ic ct_121_117 kc_4 ?_
                refine wi_icge_f ct_121_118 ki_0 ki_4 (by decide) ?_
                refine wi_aload_0 ct_121_121 ?_
                refine wi_gfr ct_121_122 (sT_31 hS21) rfl (sR_31_7 hS21) ?_
                refine wi_ic ct_121_125 kc_4 ?_
                refine wi_aload_0 ct_121_126 ?_
                refine wi_gf (x := fi 31 0) ct_121_127 (sT_31 hS21) rfl rfl (Eq.trans (up2_nq (by decide)) (Eq.trans (up2_nq (by decide)) (Eq.trans (up2_nq (by decide)) (Eq.trans (up2_nq (by decide)) (Eq.trans (up2_nq (by decide)) (Eq.trans (up2_nq (by decide)) (Eq.trans (up2_nq (by omega)) (Eq.trans (up2_nq (by omega)) (Eq.trans (up2_nq (by omega)) (Eq.trans (up2_nq (by omega)) (Eq.trans (up2_nq (by omega)) (Eq.trans (up2_nq (by omega)) (congrFun (hzn20.2 _ (by omega)) _))))))))))))) ?_
                refine wi_imul ct_121_130 rfl ?_
                refine wi_iload_5 ct_121_131 ?_
                refine wi_iadd ct_121_133 rfl ?_
                refine wi_ic ct_121_134 kc_0 ?_
                refine wi_iast ct_121_135 (sT_37 hS21) (sL_37 hS21) (i_in (i_add (i_mul ki_4 hBn (by omega)) ki_0 (by omega)) (by omega)) (i_cl (k := (4 * B)) (i_add (i_mul ki_4 hBn (by omega)) ki_0 (by omega)) (by omega)) ?_
                refine wi_iinc_5 rfl (z := 1) ct_121_136 (by decide) ?_
                refine wi_goto ct_121_139 ?_
                refine wi_iload_5 ct_121_115 ?_
                refine wi_ic ct_121_117 kc_4 ?_
                refine wi_icge_f ct_121_118 ki_1 ki_4 (by decide) ?_
                refine wi_aload_0 ct_121_121 ?_
                refine wi_gfr ct_121_122 (sT_31 hS21) rfl (sR_31_7 hS21) ?_
                refine wi_ic ct_121_125 kc_4 ?_
                refine wi_aload_0 ct_121_126 ?_
                refine wi_gf (x := fi 31 0) ct_121_127 (sT_31 hS21) rfl rfl (Eq.trans (up2_nq (by decide)) (Eq.trans (up2_nq (by decide)) (Eq.trans (up2_nq (by decide)) (Eq.trans (up2_nq (by decide)) (Eq.trans (up2_nq (by decide)) (Eq.trans (up2_nq (by decide)) (Eq.trans (up2_nq (by decide)) (Eq.trans (up2_nq (by omega)) (Eq.trans (up2_nq (by omega)) (Eq.trans (up2_nq (by omega)) (Eq.trans (up2_nq (by omega)) (Eq.trans (up2_nq (by omega)) (Eq.trans (up2_nq (by omega)) (congrFun (hzn20.2 _ (by omega)) _)))))))))))))) ?_
                refine wi_imul ct_121_130 rfl ?_
                refine wi_iload_5 ct_121_131 ?_
                refine wi_iadd ct_121_133 rfl ?_
                refine wi_ic ct_121_134 kc_0 ?_
                refine wi_iast ct_121_135 (sT_37 hS21) (sL_37 hS21) (i_in (i_add (i_mul ki_4 hBn (by omega)) ki_1 (by omega)) (by omega)) (i_cl (k := (4 * B + 1)) (i_add (i_mul ki_4 hBn (by omega)) ki_1 (by omega)) (by omega)) ?_
                refine wi_iinc_5 rfl (z := 2) ct_121_136 (by decide) ?_
                refine wi_goto ct_121_139 ?_
                refine wi_iload_5 ct_121_115 ?_
                refine wi_ic ct_121_117 kc_4 ?_
                refine wi_icge_f ct_121_118 ki_2 ki_4 (by decide) ?_
                refine wi_aload_0 ct_121_121 ?_
                refine wi_gfr ct_121_122 (sT_31 hS21) rfl (sR_31_7 hS21) ?_
                refine wi_ic ct_121_125 kc_4 ?_
                refine wi_aload_0 ct_121_126 ?_
                refine wi_gf (x := fi 31 0) ct_121_127 (sT_31 hS21) rfl rfl (Eq.trans (up2_nq (by decide)) (Eq.trans (up2_nq (by decide)) (Eq.trans (up2_nq (by decide)) (Eq.trans (up2_nq (by decide)) (Eq.trans (up2_nq (by decide)) (Eq.trans (up2_nq (by decide)) (Eq.trans (up2_nq (by decide)) (Eq.trans (up2_nq (by decide)) (Eq.trans (up2_nq (by omega)) (Eq.trans (up2_nq (by omega)) (Eq.trans (up2_nq (by omega)) (Eq.trans (up2_nq (by omega)) (Eq.trans (up2_nq (by omega)) (Eq.trans (up2_nq (by omega)) (congrFun (hzn20.2 _ (by omega)) _))))))))))))))) ?_
                refine wi_imul ct_121_130 rfl ?_
                refine wi_iload_5 ct_121_131 ?_
                refine wi_iadd ct_121_133 rfl ?_
                refine wi_ic ct_121_134 kc_0 ?_
                refine wi_iast ct_121_135 (sT_37 hS21) (sL_37 hS21) (i_in (i_add (i_mul ki_4 hBn (by omega)) ki_2 (by omega)) (by omega)) (i_cl (k := (4 * B + 2)) (i_add (i_mul ki_4 hBn (by omega)) ki_2 (by omega)) (by omega)) ?_
                refine wi_iinc_5 rfl (z := 3) ct_121_136 (by decide) ?_
                refine wi_goto ct_121_139 ?_
                refine wi_iload_5 ct_121_115 ?_
                refine wi_ic ct_121_117 kc_4 ?_
                refine wi_icge_f ct_121_118 ki_3 ki_4 (by decide) ?_
                refine wi_aload_0 ct_121_121 ?_
                refine wi_gfr ct_121_122 (sT_31 hS21) rfl (sR_31_7 hS21) ?_
                refine wi_ic ct_121_125 kc_4 ?_
                refine wi_aload_0 ct_121_126 ?_
                refine wi_gf (x := fi 31 0) ct_121_127 (sT_31 hS21) rfl rfl (Eq.trans (up2_nq (by decide)) (Eq.trans (up2_nq (by decide)) (Eq.trans (up2_nq (by decide)) (Eq.trans (up2_nq (by decide)) (Eq.trans (up2_nq (by decide)) (Eq.trans (up2_nq (by decide)) (Eq.trans (up2_nq (by decide)) (Eq.trans (up2_nq (by decide)) (Eq.trans (up2_nq (by decide)) (Eq.trans (up2_nq (by omega)) (Eq.trans (up2_nq (by omega)) (Eq.trans (up2_nq (by omega)) (Eq.trans (up2_nq (by omega)) (Eq.trans (up2_nq (by omega)) (Eq.trans (up2_nq (by omega)) (congrFun (hzn20.2 _ (by omega)) _)))))))))))))))) ?_
                refine wi_imul ct_121_130 rfl ?_
                refine wi_iload_5 ct_121_131 ?_
                refine wi_iadd ct_121_133 rfl ?_
                refine wi_ic ct_121_134 kc_0 ?_
                refine wi_iast ct_121_135 (sT_37 hS21) (sL_37 hS21) (i_in (i_add (i_mul ki_4 hBn (by omega)) ki_3 (by omega)) (by omega)) (i_cl (k := (4 * B + 3)) (i_add (i_mul ki_4 hBn (by omega)) ki_3 (by omega)) (by omega)) ?_
                refine wi_iinc_5 rfl (z := 4) ct_121_136 (by decide) ?_
                refine wi_goto ct_121_139 ?_
                refine wi_iload_5 ct_121_115 ?_
                refine wi_ic ct_121_117 kc_4 ?_
                refine wi_icge_t ct_121_118 ki_4 ki_4 (by decide) ?_
                refine wi_aload_0 ct_121_142 ?_
                refine wi_dup ct_121_143 rfl ?_
                refine wi_gf (x := fi 31 0) ct_121_144 (sT_31 hS21) rfl rfl (Eq.trans (up2_nq (by decide)) (Eq.trans (up2_nq (by decide)) (Eq.trans (up2_nq (by decide)) (Eq.trans (up2_nq (by decide)) (Eq.trans (up2_nq (by decide)) (Eq.trans (up2_nq (by decide)) (Eq.trans (up2_nq (by decide)) (Eq.trans (up2_nq (by decide)) (Eq.trans (up2_nq (by decide)) (Eq.trans (up2_nq (by decide)) (Eq.trans (up2_nq (by omega)) (Eq.trans (up2_nq (by omega)) (Eq.trans (up2_nq (by omega)) (Eq.trans (up2_nq (by omega)) (Eq.trans (up2_nq (by omega)) (Eq.trans (up2_nq (by omega)) (congrFun (hzn20.2 _ (by omega)) _))))))))))))))))) ?_
                refine wi_ic ct_121_147 kc_1 ?_
                refine wi_iadd ct_121_148 rfl ?_
                refine wi_pf ct_121_149 (sT_31 hS21) rfl ?_
                refine wi_aload_0 ct_121_152 ?_
                refine wi_gf (x := (fi 31 0 + 1)) ct_121_153 (sT_31 hS21) rfl rfl up2_eq ?_
                refine wi_ic ct_121_156 kc_1 ?_
                refine wi_isub ct_121_157 rfl ?_
                refine wi_iret ct_121_158 rfl (wk_i ?_)
                refine wi_iceq_t ct_211_240 hBn (i_sub (i_add hBn ki_1 (by omega)) ki_1 (by omega)) (by omega) ?_
                have hnl := hmn20.2.1
                have hsl1 := hmn20.2.2.1
                have nf : am_nf 10 = 6 := rfl
                have hnf : am_nx (am_gr gn20 2 B (some p)) = am_nx gn20 := rfl
                have hsf : am_sl (am_gr gn20 2 B (some p)) = am_sl gn20 := rfl
                refine kk (fun q => if q = p then 10 + B else own q) (am_gr gn20 2 B (some p)) (up2 (up2 (up2 (up2 (up2 (up2 (up2 (up2 (up2 (up2 (up2 (up2 (up2 (up2 (up2 (up2 (up2 fin20 p 5 (0)) p 0 (a1)) p 1 (fi 31 0)) p 2 (a2)) p 3 (a3)) p 4 (a4)) 1 1 ((fi 31 0 + 1))) 32 B (a1)) 33 B (a2)) 34 B (a3)) 35 B (a4)) 36 B (0)) 37 (4 * B) (0)) 37 (4 * B + 1) (0)) 37 (4 * B + 2) (0)) 37 (4 * B + 3) (0)) 31 0 ((fi 31 0 + 1))) _ (hR.one (B := B) hBn (by omega) hS21 ⟨by omega, fun q h1 h2 _ => ⟨((hmn20.2.2.2.2.2.2 _ (by omega)).1), ((hmn20.2.2.2.2.2.2 _ (by omega)).2.1), funext fun j => (Eq.trans (gr_nq (by omega)) (congrFun (hmn20.2.2.2.2.2.2 _ (by omega)).2.2 _)), if_neg (by omega), (Eq.trans (funext fun _ => up2_nq (by omega)) (Eq.trans (funext fun _ => up2_nq (by omega)) (Eq.trans (funext fun _ => up2_nq (by omega)) (Eq.trans (funext fun _ => up2_nq (by omega)) (Eq.trans (funext fun _ => up2_nq (by omega)) (Eq.trans (funext fun _ => up2_nq (by omega)) (Eq.trans (funext fun _ => up2_nq (by omega)) (Eq.trans (funext fun _ => up2_nq (by omega)) (Eq.trans (funext fun _ => up2_nq (by omega)) (Eq.trans (funext fun _ => up2_nq (by omega)) (Eq.trans (funext fun _ => up2_nq (by omega)) (Eq.trans (funext fun _ => up2_nq (by omega)) (Eq.trans (funext fun _ => up2_nq (by omega)) (Eq.trans (funext fun _ => up2_nq (by omega)) (Eq.trans (funext fun _ => up2_nq (by omega)) (Eq.trans (funext fun _ => up2_nq (by omega)) (Eq.trans (funext fun _ => up2_nq (by omega)) (hzn20.2 _ (by omega)))))))))))))))))))⟩⟩ (fun q hq => ((hmn20.2.2.2.2.2.2 _ (by omega)).1)) (fun q j h1 h2 => (Eq.trans (if_neg (by omega)) (congrFun (hmn20.2.2.2.2.2.2 _ (by omega)).2.2 _))) (Eq.trans (funext fun _ => up2_nq (by first | decide | exact sc_nd (by omega))) (Eq.trans (funext fun _ => up2_nq (by first | decide | exact sc_nd (by omega))) (Eq.trans (funext fun _ => up2_nq (by first | decide | exact sc_nd (by omega))) (Eq.trans (funext fun _ => up2_nq (by first | decide | exact sc_nd (by omega))) (Eq.trans (funext fun _ => up2_nq (by first | decide | exact sc_nd (by omega))) (Eq.trans (funext fun _ => up2_nq (by first | decide | exact sc_nd (by omega))) (Eq.trans (funext fun _ => up2_nq (by first | decide | exact sc_nd (by omega))) (Eq.trans (funext fun _ => up2_nq (by first | decide | exact sc_nd (by omega))) (Eq.trans (funext fun _ => up2_nq (by first | decide | exact sc_nd (by omega))) (Eq.trans (funext fun _ => up2_nq (by first | decide | exact sc_nd (by omega))) (Eq.trans (funext fun _ => up2_nq (by first | decide | exact sc_nd (by omega))) (Eq.trans (funext fun _ => up2_nq (by first | decide | exact sc_nd (by omega))) (Eq.trans (funext fun _ => up2_nq (by first | decide | exact sc_nd (by omega))) (Eq.trans (funext fun _ => up2_nq (by first | decide | exact sc_nd (by omega))) (Eq.trans (funext fun _ => up2_nq (by first | decide | exact sc_nd (by omega))) (Eq.trans (funext fun _ => up2_nq (by first | decide | exact sc_nd (by omega))) (Eq.trans (funext fun _ => up2_nq (by first | decide | exact sc_nd (by omega))) (hzn20.2 _ (sc_nd (by omega)))))))))))))))))))) (fun q h1 h2 => (Eq.trans (funext fun _ => up2_nq (by omega)) (Eq.trans (funext fun _ => up2_nq (by omega)) (Eq.trans (funext fun _ => up2_nq (by omega)) (Eq.trans (funext fun _ => up2_nq (by omega)) (Eq.trans (funext fun _ => up2_nq (by omega)) (Eq.trans (funext fun _ => up2_nq (by omega)) (Eq.trans (funext fun _ => up2_nq (by omega)) (Eq.trans (funext fun _ => up2_nq (by omega)) (Eq.trans (funext fun _ => up2_nq (by omega)) (Eq.trans (funext fun _ => up2_nq (by omega)) (Eq.trans (funext fun _ => up2_nq (by omega)) (Eq.trans (funext fun _ => up2_nq (by omega)) (Eq.trans (funext fun _ => up2_nq (by omega)) (Eq.trans (funext fun _ => up2_nq (by omega)) (Eq.trans (funext fun _ => up2_nq (by omega)) (Eq.trans (funext fun _ => up2_nq (by omega)) (Eq.trans (funext fun _ => up2_nq (by omega)) (hzn20.2 _ (by omega)))))))))))))))))))) (fun j hj => (Eq.trans (up2_nq (by omega)) (Eq.trans (up2_nq (by omega)) (Eq.trans (up2_nq (by omega)) (Eq.trans (up2_nq (by omega)) (Eq.trans (up2_nq (by omega)) (Eq.trans (up2_nq (by omega)) (Eq.trans (up2_nq (by omega)) (Eq.trans (up2_nq (by omega)) (Eq.trans (up2_nq (by omega)) (Eq.trans (up2_nq (by omega)) (Eq.trans (up2_nj hj) (Eq.trans (up2_nq (by omega)) (Eq.trans (up2_nq (by omega)) (Eq.trans (up2_nq (by omega)) (Eq.trans (up2_nq (by omega)) (Eq.trans (up2_nq (by omega)) (Eq.trans (up2_nq (by omega)) (congrFun (hzn20.2 _ (by omega)) _))))))))))))))))))) (fun j hj => (Eq.trans (up2_nj hj) (Eq.trans (up2_nq (by omega)) (Eq.trans (up2_nq (by omega)) (Eq.trans (up2_nq (by omega)) (Eq.trans (up2_nq (by omega)) (Eq.trans (up2_nq (by omega)) (Eq.trans (up2_nq (by omega)) (Eq.trans (up2_nq (by omega)) (Eq.trans (up2_nq (by omega)) (Eq.trans (up2_nq (by omega)) (Eq.trans (up2_nq (by omega)) (Eq.trans (up2_nq (by omega)) (Eq.trans (up2_nq (by omega)) (Eq.trans (up2_nq (by omega)) (Eq.trans (up2_nq (by omega)) (Eq.trans (up2_nq (by omega)) (Eq.trans (up2_nq (by omega)) (congrFun (hzn20.2 _ (by omega)) _))))))))))))))))))) ⟨((Eq.trans (up2_nq (by decide)) (Eq.trans (up2_nq (by decide)) (Eq.trans (up2_nq (by decide)) (Eq.trans (up2_nq (by decide)) (Eq.trans (up2_nq (by decide)) (Eq.trans (up2_nq (by decide)) (Eq.trans (up2_nq (by decide)) (Eq.trans (up2_nq (by decide)) (Eq.trans (up2_nq (by decide)) (Eq.trans (up2_nq (by decide)) up2_eq))))))))))).trans (up2_eq).symm, ?_⟩ (fun q b h1 h2 h3 => ?_) (fun b j h1 h2 => (Eq.trans (up2_nq (by omega)) (Eq.trans (up2_nj (by omega)) (Eq.trans (up2_nj (by omega)) (Eq.trans (up2_nj (by omega)) (Eq.trans (up2_nj (by omega)) (Eq.trans (up2_nq (by omega)) (Eq.trans (up2_nq (by omega)) (Eq.trans (up2_nq (by omega)) (Eq.trans (up2_nq (by omega)) (Eq.trans (up2_nq (by omega)) (Eq.trans (up2_nq (by omega)) (Eq.trans (up2_nq (by omega)) (Eq.trans (up2_nq (by omega)) (Eq.trans (up2_nq (by omega)) (Eq.trans (up2_nq (by omega)) (Eq.trans (up2_nq (by omega)) (Eq.trans (up2_nq (by omega)) (congrFun (hzn20.2 _ (by omega)) _))))))))))))))))))) (fun q hq => (hln20.2 _ (by omega))) ?_ ⟨p, 0, ⟨gr_eq, ⟨by omega, by omega, if_pos rfl⟩, ?_, ((Eq.trans (up2_nq (by omega)) (Eq.trans (up2_nq (by omega)) (Eq.trans (up2_nq (by omega)) (Eq.trans (up2_nq (by omega)) (Eq.trans (up2_nq (by omega)) (Eq.trans (up2_nq (by omega)) (Eq.trans (up2_nq (by omega)) (Eq.trans (up2_nq (by omega)) (Eq.trans (up2_nq (by omega)) (Eq.trans (up2_nq (by omega)) (Eq.trans (up2_nq (by omega)) (Eq.trans (up2_nj (by decide)) (Eq.trans (up2_nj (by decide)) (Eq.trans (up2_nj (by decide)) (Eq.trans (up2_nj (by decide)) up2_eq)))))))))))))))).trans ((Eq.trans (up2_nq (by decide)) (Eq.trans (up2_nq (by decide)) (Eq.trans (up2_nq (by decide)) (Eq.trans (up2_nq (by decide)) (Eq.trans (up2_nq (by decide)) (Eq.trans (up2_nq (by decide)) (Eq.trans (up2_nq (by decide)) (Eq.trans (up2_nq (by decide)) (Eq.trans (up2_nq (by decide)) up2_eq)))))))))).symm, ?_, ((Eq.trans (up2_nq (by omega)) (Eq.trans (up2_nq (by omega)) (Eq.trans (up2_nq (by omega)) (Eq.trans (up2_nq (by omega)) (Eq.trans (up2_nq (by omega)) (Eq.trans (up2_nq (by omega)) (Eq.trans (up2_nq (by omega)) (Eq.trans (up2_nq (by omega)) (Eq.trans (up2_nq (by omega)) (Eq.trans (up2_nq (by omega)) (Eq.trans (up2_nq (by omega)) (Eq.trans (up2_nj (by decide)) (Eq.trans (up2_nj (by decide)) up2_eq)))))))))))))).trans ((Eq.trans (up2_nq (by decide)) (Eq.trans (up2_nq (by decide)) (Eq.trans (up2_nq (by decide)) (Eq.trans (up2_nq (by decide)) (Eq.trans (up2_nq (by decide)) (Eq.trans (up2_nq (by decide)) (Eq.trans (up2_nq (by decide)) (Eq.trans (up2_nq (by decide)) up2_eq))))))))).symm, ((Eq.trans (up2_nq (by omega)) (Eq.trans (up2_nq (by omega)) (Eq.trans (up2_nq (by omega)) (Eq.trans (up2_nq (by omega)) (Eq.trans (up2_nq (by omega)) (Eq.trans (up2_nq (by omega)) (Eq.trans (up2_nq (by omega)) (Eq.trans (up2_nq (by omega)) (Eq.trans (up2_nq (by omega)) (Eq.trans (up2_nq (by omega)) (Eq.trans (up2_nq (by omega)) (Eq.trans (up2_nj (by decide)) up2_eq))))))))))))).trans ((Eq.trans (up2_nq (by decide)) (Eq.trans (up2_nq (by decide)) (Eq.trans (up2_nq (by decide)) (Eq.trans (up2_nq (by decide)) (Eq.trans (up2_nq (by decide)) (Eq.trans (up2_nq (by decide)) (Eq.trans (up2_nq (by decide)) up2_eq)))))))).symm, ((Eq.trans (up2_nq (by omega)) (Eq.trans (up2_nq (by omega)) (Eq.trans (up2_nq (by omega)) (Eq.trans (up2_nq (by omega)) (Eq.trans (up2_nq (by omega)) (Eq.trans (up2_nq (by omega)) (Eq.trans (up2_nq (by omega)) (Eq.trans (up2_nq (by omega)) (Eq.trans (up2_nq (by omega)) (Eq.trans (up2_nq (by omega)) (Eq.trans (up2_nq (by omega)) up2_eq)))))))))))).trans ((Eq.trans (up2_nq (by decide)) (Eq.trans (up2_nq (by decide)) (Eq.trans (up2_nq (by decide)) (Eq.trans (up2_nq (by decide)) (Eq.trans (up2_nq (by decide)) (Eq.trans (up2_nq (by decide)) up2_eq))))))).symm, ((Eq.trans (up2_nq (by omega)) (Eq.trans (up2_nq (by omega)) (Eq.trans (up2_nq (by omega)) (Eq.trans (up2_nq (by omega)) (Eq.trans (up2_nq (by omega)) (Eq.trans (up2_nq (by omega)) (Eq.trans (up2_nq (by omega)) (Eq.trans (up2_nq (by omega)) (Eq.trans (up2_nq (by omega)) (Eq.trans (up2_nq (by omega)) (Eq.trans (up2_nq (by omega)) (Eq.trans (up2_nj (by decide)) (Eq.trans (up2_nj (by decide)) (Eq.trans (up2_nj (by decide)) (Eq.trans (up2_nj (by decide)) (Eq.trans (up2_nj (by decide)) up2_eq))))))))))))))))).trans ((Eq.trans (up2_nq (by decide)) (Eq.trans (up2_nq (by decide)) (Eq.trans (up2_nq (by decide)) (Eq.trans (up2_nq (by decide)) (Eq.trans (up2_nq (by decide)) up2_eq)))))).symm, ?_⟩, ((congrArg (fun t => am_sub t 0) hmn20.2.2.2.1).trans rfl)⟩) (by omega) (by omega)
                · exact (congrArg Int32.toInt (up2_eq)).trans ((i_add hBn ki_1 (by omega)).trans (by omega))
                · exact (Eq.trans (if_neg (by omega)) (Eq.trans (if_neg (by omega)) (Eq.trans (if_neg (by omega)) (Eq.trans (if_neg (by omega)) (Eq.trans (if_neg (by omega)) (Eq.trans (if_neg (by omega)) (Eq.trans (if_neg (by omega)) (Eq.trans (if_neg (by omega)) (Eq.trans (if_neg (by omega)) (Eq.trans (if_neg (by omega)) (Eq.trans (if_neg (by omega)) (Eq.trans (if_neg (by omega)) (Eq.trans (if_neg (by omega)) (Eq.trans (if_neg (by omega)) (Eq.trans (if_neg (by omega)) (Eq.trans (if_neg (by omega)) (Eq.trans (if_neg (by omega)) (congrFun (hzn20.2 _ (by omega)) _))))))))))))))))))
                · unfold RM
                  rw [show (up2 (up2 (up2 (up2 (up2 (up2 (up2 (up2 (up2 (up2 (up2 (up2 (up2 (up2 (up2 (up2 (up2 fin20 p 5 (0)) p 0 (a1)) p 1 (fi 31 0)) p 2 (a2)) p 3 (a3)) p 4 (a4)) 1 1 ((fi 31 0 + 1))) 32 B (a1)) 33 B (a2)) 34 B (a3)) 35 B (a4)) 36 B (0)) 37 (4 * B) (0)) 37 (4 * B + 1) (0)) 37 (4 * B + 2) (0)) 37 (4 * B + 3) (0)) 31 0 ((fi 31 0 + 1))) 32 B = a1 from (Eq.trans (up2_nq (by decide)) (Eq.trans (up2_nq (by decide)) (Eq.trans (up2_nq (by decide)) (Eq.trans (up2_nq (by decide)) (Eq.trans (up2_nq (by decide)) (Eq.trans (up2_nq (by decide)) (Eq.trans (up2_nq (by decide)) (Eq.trans (up2_nq (by decide)) (Eq.trans (up2_nq (by decide)) up2_eq)))))))))]
                  rw [show (up2 (up2 (up2 (up2 (up2 (up2 (up2 (up2 (up2 (up2 (up2 (up2 (up2 (up2 (up2 (up2 (up2 fin20 p 5 (0)) p 0 (a1)) p 1 (fi 31 0)) p 2 (a2)) p 3 (a3)) p 4 (a4)) 1 1 ((fi 31 0 + 1))) 32 B (a1)) 33 B (a2)) 34 B (a3)) 35 B (a4)) 36 B (0)) 37 (4 * B) (0)) 37 (4 * B + 1) (0)) 37 (4 * B + 2) (0)) 37 (4 * B + 3) (0)) 31 0 ((fi 31 0 + 1))) 33 B = a2 from (Eq.trans (up2_nq (by decide)) (Eq.trans (up2_nq (by decide)) (Eq.trans (up2_nq (by decide)) (Eq.trans (up2_nq (by decide)) (Eq.trans (up2_nq (by decide)) (Eq.trans (up2_nq (by decide)) (Eq.trans (up2_nq (by decide)) (Eq.trans (up2_nq (by decide)) up2_eq))))))))]
                  rw [show (up2 (up2 (up2 (up2 (up2 (up2 (up2 (up2 (up2 (up2 (up2 (up2 (up2 (up2 (up2 (up2 (up2 fin20 p 5 (0)) p 0 (a1)) p 1 (fi 31 0)) p 2 (a2)) p 3 (a3)) p 4 (a4)) 1 1 ((fi 31 0 + 1))) 32 B (a1)) 33 B (a2)) 34 B (a3)) 35 B (a4)) 36 B (0)) 37 (4 * B) (0)) 37 (4 * B + 1) (0)) 37 (4 * B + 2) (0)) 37 (4 * B + 3) (0)) 31 0 ((fi 31 0 + 1))) 34 B = a3 from (Eq.trans (up2_nq (by decide)) (Eq.trans (up2_nq (by decide)) (Eq.trans (up2_nq (by decide)) (Eq.trans (up2_nq (by decide)) (Eq.trans (up2_nq (by decide)) (Eq.trans (up2_nq (by decide)) (Eq.trans (up2_nq (by decide)) up2_eq)))))))]
                  rw [show (up2 (up2 (up2 (up2 (up2 (up2 (up2 (up2 (up2 (up2 (up2 (up2 (up2 (up2 (up2 (up2 (up2 fin20 p 5 (0)) p 0 (a1)) p 1 (fi 31 0)) p 2 (a2)) p 3 (a3)) p 4 (a4)) 1 1 ((fi 31 0 + 1))) 32 B (a1)) 33 B (a2)) 34 B (a3)) 35 B (a4)) 36 B (0)) 37 (4 * B) (0)) 37 (4 * B + 1) (0)) 37 (4 * B + 2) (0)) 37 (4 * B + 3) (0)) 31 0 ((fi 31 0 + 1))) 35 B = a4 from (Eq.trans (up2_nq (by decide)) (Eq.trans (up2_nq (by decide)) (Eq.trans (up2_nq (by decide)) (Eq.trans (up2_nq (by decide)) (Eq.trans (up2_nq (by decide)) (Eq.trans (up2_nq (by decide)) up2_eq))))))]
                  rw [show (up2 (up2 (up2 (up2 (up2 (up2 (up2 (up2 (up2 (up2 (up2 (up2 (up2 (up2 (up2 (up2 (up2 fin20 p 5 (0)) p 0 (a1)) p 1 (fi 31 0)) p 2 (a2)) p 3 (a3)) p 4 (a4)) 1 1 ((fi 31 0 + 1))) 32 B (a1)) 33 B (a2)) 34 B (a3)) 35 B (a4)) 36 B (0)) 37 (4 * B) (0)) 37 (4 * B + 1) (0)) 37 (4 * B + 2) (0)) 37 (4 * B + 3) (0)) 31 0 ((fi 31 0 + 1))) 36 B = 0 from (Eq.trans (up2_nq (by decide)) (Eq.trans (up2_nq (by decide)) (Eq.trans (up2_nq (by decide)) (Eq.trans (up2_nq (by decide)) (Eq.trans (up2_nq (by decide)) up2_eq)))))]
                  refine ⟨by omega, by omega, by omega, by omega, by decide, fun j hj => ?_⟩
                  match j, hj with
                  | 0, _ => rw [show (up2 (up2 (up2 (up2 (up2 (up2 (up2 (up2 (up2 (up2 (up2 (up2 (up2 (up2 (up2 (up2 (up2 fin20 p 5 (0)) p 0 (a1)) p 1 (fi 31 0)) p 2 (a2)) p 3 (a3)) p 4 (a4)) 1 1 ((fi 31 0 + 1))) 32 B (a1)) 33 B (a2)) 34 B (a3)) 35 B (a4)) 36 B (0)) 37 (4 * B) (0)) 37 (4 * B + 1) (0)) 37 (4 * B + 2) (0)) 37 (4 * B + 3) (0)) 31 0 ((fi 31 0 + 1))) 37 (4 * B + 0) = 0 from (Eq.trans (up2_nq (by decide)) (Eq.trans (up2_nj (by omega)) (Eq.trans (up2_nj (by omega)) (Eq.trans (up2_nj (by omega)) up2_eq))))]; decide
                  | 1, _ => rw [show (up2 (up2 (up2 (up2 (up2 (up2 (up2 (up2 (up2 (up2 (up2 (up2 (up2 (up2 (up2 (up2 (up2 fin20 p 5 (0)) p 0 (a1)) p 1 (fi 31 0)) p 2 (a2)) p 3 (a3)) p 4 (a4)) 1 1 ((fi 31 0 + 1))) 32 B (a1)) 33 B (a2)) 34 B (a3)) 35 B (a4)) 36 B (0)) 37 (4 * B) (0)) 37 (4 * B + 1) (0)) 37 (4 * B + 2) (0)) 37 (4 * B + 3) (0)) 31 0 ((fi 31 0 + 1))) 37 (4 * B + 1) = 0 from (Eq.trans (up2_nq (by decide)) (Eq.trans (up2_nj (by omega)) (Eq.trans (up2_nj (by omega)) up2_eq)))]; decide
                  | 2, _ => rw [show (up2 (up2 (up2 (up2 (up2 (up2 (up2 (up2 (up2 (up2 (up2 (up2 (up2 (up2 (up2 (up2 (up2 fin20 p 5 (0)) p 0 (a1)) p 1 (fi 31 0)) p 2 (a2)) p 3 (a3)) p 4 (a4)) 1 1 ((fi 31 0 + 1))) 32 B (a1)) 33 B (a2)) 34 B (a3)) 35 B (a4)) 36 B (0)) 37 (4 * B) (0)) 37 (4 * B + 1) (0)) 37 (4 * B + 2) (0)) 37 (4 * B + 3) (0)) 31 0 ((fi 31 0 + 1))) 37 (4 * B + 2) = 0 from (Eq.trans (up2_nq (by decide)) (Eq.trans (up2_nj (by omega)) up2_eq))]; decide
                  | 3, _ => rw [show (up2 (up2 (up2 (up2 (up2 (up2 (up2 (up2 (up2 (up2 (up2 (up2 (up2 (up2 (up2 (up2 (up2 fin20 p 5 (0)) p 0 (a1)) p 1 (fi 31 0)) p 2 (a2)) p 3 (a3)) p 4 (a4)) 1 1 ((fi 31 0 + 1))) 32 B (a1)) 33 B (a2)) 34 B (a3)) 35 B (a4)) 36 B (0)) 37 (4 * B) (0)) 37 (4 * B + 1) (0)) 37 (4 * B + 2) (0)) 37 (4 * B + 3) (0)) 31 0 ((fi 31 0 + 1))) 37 (4 * B + 3) = 0 from (Eq.trans (up2_nq (by decide)) up2_eq)]; decide
                  | j + 4, h => exact absurd h (by omega)
                · exact hmn20.2.2.2.1.trans (by rw [show (up2 (up2 (up2 (up2 (up2 (up2 (up2 (up2 (up2 (up2 (up2 (up2 (up2 (up2 (up2 (up2 (up2 fin20 p 5 (0)) p 0 (a1)) p 1 (fi 31 0)) p 2 (a2)) p 3 (a3)) p 4 (a4)) 1 1 ((fi 31 0 + 1))) 32 B (a1)) 33 B (a2)) 34 B (a3)) 35 B (a4)) 36 B (0)) 37 (4 * B) (0)) 37 (4 * B + 1) (0)) 37 (4 * B + 2) (0)) 37 (4 * B + 3) (0)) 31 0 ((fi 31 0 + 1))) 32 B = a1 from (Eq.trans (up2_nq (by decide)) (Eq.trans (up2_nq (by decide)) (Eq.trans (up2_nq (by decide)) (Eq.trans (up2_nq (by decide)) (Eq.trans (up2_nq (by decide)) (Eq.trans (up2_nq (by decide)) (Eq.trans (up2_nq (by decide)) (Eq.trans (up2_nq (by decide)) (Eq.trans (up2_nq (by decide)) up2_eq))))))))), show (a1).toInt = 5 by omega] <;> rfl)
                · exact (congrArg Int32.toInt ((Eq.trans (up2_nq (by omega)) (Eq.trans (up2_nq (by omega)) (Eq.trans (up2_nq (by omega)) (Eq.trans (up2_nq (by omega)) (Eq.trans (up2_nq (by omega)) (Eq.trans (up2_nq (by omega)) (Eq.trans (up2_nq (by omega)) (Eq.trans (up2_nq (by omega)) (Eq.trans (up2_nq (by omega)) (Eq.trans (up2_nq (by omega)) (Eq.trans (up2_nq (by omega)) (Eq.trans (up2_nj (by decide)) (Eq.trans (up2_nj (by decide)) (Eq.trans (up2_nj (by decide)) up2_eq)))))))))))))))).trans hBn
                · intro h6
                  rw [show (up2 (up2 (up2 (up2 (up2 (up2 (up2 (up2 (up2 (up2 (up2 (up2 (up2 (up2 (up2 (up2 (up2 fin20 p 5 (0)) p 0 (a1)) p 1 (fi 31 0)) p 2 (a2)) p 3 (a3)) p 4 (a4)) 1 1 ((fi 31 0 + 1))) 32 B (a1)) 33 B (a2)) 34 B (a3)) 35 B (a4)) 36 B (0)) 37 (4 * B) (0)) 37 (4 * B + 1) (0)) 37 (4 * B + 2) (0)) 37 (4 * B + 3) (0)) 31 0 ((fi 31 0 + 1))) 32 B = a1 from (Eq.trans (up2_nq (by decide)) (Eq.trans (up2_nq (by decide)) (Eq.trans (up2_nq (by decide)) (Eq.trans (up2_nq (by decide)) (Eq.trans (up2_nq (by decide)) (Eq.trans (up2_nq (by decide)) (Eq.trans (up2_nq (by decide)) (Eq.trans (up2_nq (by decide)) (Eq.trans (up2_nq (by decide)) up2_eq)))))))))] at h6
                  exact absurd h6 (by omega)
              rcases Decidable.em ((a1).toInt = 6) with h22 | h22
              · refine wi_tsw (X := 6) (t := 110) ct_105_1 (by omega) rfl ?_
                obtain ⟨p, hp⟩ : ∃ p, am_nx g = p := ⟨_, rfl⟩
                have hp72 : 72 ≤ p := hp ▸ hS.nx
                refine wi_newF ct_105_110 hp (by omega) (fun gn23 fin23 fln23 hmn23 hzn23 hln23 => ?_)
                have hSn23 := hS.mkF hmn23 (by omega)
                refine wi_dup ct_105_113 rfl ?_
                refine wi_iload_0 ct_105_114 ?_
                refine wi_iload_1 ct_105_115 ?_
                refine wi_iload_2 ct_105_116 ?_
                refine wi_iload_3 ct_105_117 ?_
                refine wi_iload_4 ct_105_118 ?_
                refine wi_cp5 (ls' := [some _, some _, some _, some _, some _, some _]) ct_105_120 (Nat.le_of_ble_eq_true rfl) hmn23.2.2.2.1 (by decide) rfl (Nat.le_of_ble_eq_true rfl) ?_
                refine wi_aload_0 ct_57_0 ?_
                refine wi_iload_1 ct_57_1 ?_
                refine wi_iload_2 ct_57_2 ?_
                refine wi_iload_3 ct_57_3 ?_
                refine wi_iload_4 ct_57_4 ?_
                refine wi_iload_5 ct_57_6 ?_
                refine wi_cp5 (ls' := [some _, some _, some _, some _, some _, some _]) ct_57_8 (Nat.le_of_ble_eq_true rfl) hmn23.2.2.2.1 (by decide) rfl (Nat.le_of_ble_eq_true rfl) ?_
                refine wi_aload_0 ct_27_0 ?_
                refine wi_iload_1 ct_27_1 ?_
                refine wi_iload_2 ct_27_2 ?_
                refine wi_iload_3 ct_27_3 ?_
                refine wi_iload_4 ct_27_4 ?_
                refine wi_iload_5 ct_27_6 ?_
                refine wi_cp5 (ls' := [some _, some _, some _, some _, some _, some _]) ct_27_8 (Nat.le_of_ble_eq_true rfl) hmn23.2.2.2.1 (by decide) rfl (Nat.le_of_ble_eq_true rfl) ?_
                refine wi_aload_0 ct_0_0 ?_
                refine wi_obj ct_0_1 (Nat.le_of_ble_eq_true rfl) ?_
                refine wi_aload_0 ct_0_4 ?_
                refine wi_ic ct_0_5 kc_0 ?_
                refine wi_pf ct_0_6 hmn23.2.2.2.1 rfl ?_
                refine wi_aload_0 ct_0_9 ?_
                refine wi_iload_1 ct_0_10 ?_
                refine wi_pf ct_0_11 hmn23.2.2.2.1 rfl ?_
                refine wi_aload_0 ct_0_14 ?_
                refine wi_iload_2 ct_0_15 ?_
                refine wi_pf ct_0_16 hmn23.2.2.2.1 rfl ?_
                refine wi_aload_0 ct_0_19 ?_
                refine wi_iload_3 ct_0_20 ?_
                refine wi_pf ct_0_21 hmn23.2.2.2.1 rfl ?_
                refine wi_aload_0 ct_0_24 ?_
                refine wi_iload_4 ct_0_25 ?_
                refine wi_pf ct_0_27 hmn23.2.2.2.1 rfl ?_
                refine wi_aload_0 ct_0_30 ?_
                refine wi_iload_5 ct_0_31 ?_
                refine wi_pf ct_0_33 hmn23.2.2.2.1 rfl ?_
                refine wi_ret ct_0_36 (wk_v ?_)
                refine wi_ret ct_27_11 (wk_v ?_)
                refine wi_aload_0 ct_57_11 ?_
                refine wi_ic ct_57_12 kc_4 ?_
                obtain ⟨r, hr⟩ : ∃ r, p + 1 = r := ⟨_, rfl⟩
                refine wi_newaF ct_57_13 (by decide) (by decide : _ = 4) (hmn23.2.1.trans hr) (by omega) (fun gn24 fin24 fln24 hmn24 hzn24 hln24 => ?_)
                have hSn24 := hSn23.mkF hmn24 (by omega)
                refine wi_pfr ct_57_15 (Eq.trans ((hmn24.2.2.2.2.2.2 _ (by omega)).1) hmn23.2.2.2.1) rfl ?_
                have hS25 := hSn24.grd (q := p) (a := 6) (x := (some r)) (by omega)
                refine wi_ret ct_57_18 (wk_v ?_)
                refine wi_aret ct_105_123 (wk_r ?_)
                refine wi_aast ct_67_88 (Or.inl ⟨(sT_2 hS25), ((Eq.trans ((hmn24.2.2.2.2.2.2 _ (by omega)).1) hmn23.2.2.2.1)).symm ▸ rfl⟩) (sL_2 hS25) (i_in hBn (by omega)) (i_cl (k := B) hBn (by omega)) ?_
                have hS26 := hS25.grq (q := 2) (a := B) (x := (some p)) (by decide)
                refine wi_aload_0 ct_67_89 ?_
                refine wi_gfr ct_67_90 (sT_0 hS26) rfl (sR_0_0 hS26) ?_
                refine wi_dup ct_67_93 rfl ?_
                refine wi_gf (x := fi 31 0) ct_67_94 (sT_1 hS26) rfl rfl (Eq.trans (congrFun (hzn24.2 _ (by omega)) _) (Eq.trans (up2_nq (by omega)) (Eq.trans (up2_nq (by omega)) (Eq.trans (up2_nq (by omega)) (Eq.trans (up2_nq (by omega)) (Eq.trans (up2_nq (by omega)) (Eq.trans (up2_nq (by omega)) (Eq.trans (congrFun (hzn23.2 _ (by omega)) _) c0)))))))) ?_
                refine wi_ic ct_67_97 kc_1 ?_
                refine wi_iadd ct_67_98 rfl ?_
                refine wi_pf ct_67_99 (sT_1 hS26) rfl ?_
                refine wi_iload_5 ct_67_102 ?_
                refine wi_iret ct_67_104 rfl (wk_i ?_)
                refine wi_aload_2 ct_211_216 ?_
                refine wi_aloadT_0 ct_211_217 ?_
                refine wi_iload_3 ct_211_218 ?_
                refine wi_ic ct_211_219 kc_1 ?_
                refine wi_iadd ct_211_220 rfl ?_
                refine wi_ialdT (j := I + 1) (x := a1) ct_211_221 (sL_SC hS26) (i_in (i_add hi ki_1 (by omega)) (by omega)) (i_cl (i_add hi ki_1 (by omega)) (by omega)) ((Eq.trans (up2_nq (by decide)) (Eq.trans (congrFun (hzn24.2 _ (sc_nd (by omega))) _) (Eq.trans (up2_nq (sc_nd (by omega))) (Eq.trans (up2_nq (sc_nd (by omega))) (Eq.trans (up2_nq (sc_nd (by omega))) (Eq.trans (up2_nq (sc_nd (by omega))) (Eq.trans (up2_nq (sc_nd (by omega))) (Eq.trans (up2_nq (sc_nd (by omega))) (Eq.trans (congrFun (hzn23.2 _ (sc_nd (by omega))) _) ((hsc _).trans e1))))))))))) ?_
                refine wi_aloadT_0 ct_211_222 ?_
                refine wi_iload_3 ct_211_223 ?_
                refine wi_ic ct_211_224 kc_2 ?_
                refine wi_iadd ct_211_225 rfl ?_
                refine wi_ialdT (j := I + 2) (x := a2) ct_211_226 (sL_SC hS26) (i_in (i_add hi ki_2 (by omega)) (by omega)) (i_cl (i_add hi ki_2 (by omega)) (by omega)) ((Eq.trans (up2_nq (by decide)) (Eq.trans (congrFun (hzn24.2 _ (sc_nd (by omega))) _) (Eq.trans (up2_nq (sc_nd (by omega))) (Eq.trans (up2_nq (sc_nd (by omega))) (Eq.trans (up2_nq (sc_nd (by omega))) (Eq.trans (up2_nq (sc_nd (by omega))) (Eq.trans (up2_nq (sc_nd (by omega))) (Eq.trans (up2_nq (sc_nd (by omega))) (Eq.trans (congrFun (hzn23.2 _ (sc_nd (by omega))) _) ((hsc _).trans e2))))))))))) ?_
                refine wi_aloadT_0 ct_211_227 ?_
                refine wi_iload_3 ct_211_228 ?_
                refine wi_ic ct_211_229 kc_3 ?_
                refine wi_iadd ct_211_230 rfl ?_
                refine wi_ialdT (j := I + 3) (x := a3) ct_211_231 (sL_SC hS26) (i_in (i_add hi ki_3 (by omega)) (by omega)) (i_cl (i_add hi ki_3 (by omega)) (by omega)) ((Eq.trans (up2_nq (by decide)) (Eq.trans (congrFun (hzn24.2 _ (sc_nd (by omega))) _) (Eq.trans (up2_nq (sc_nd (by omega))) (Eq.trans (up2_nq (sc_nd (by omega))) (Eq.trans (up2_nq (sc_nd (by omega))) (Eq.trans (up2_nq (sc_nd (by omega))) (Eq.trans (up2_nq (sc_nd (by omega))) (Eq.trans (up2_nq (sc_nd (by omega))) (Eq.trans (congrFun (hzn23.2 _ (sc_nd (by omega))) _) ((hsc _).trans e3))))))))))) ?_
                refine wi_aloadT_0 ct_211_232 ?_
                refine wi_iload_3 ct_211_233 ?_
                refine wi_ic ct_211_234 kc_4 ?_
                refine wi_iadd ct_211_235 rfl ?_
                refine wi_ialdT (j := I + 4) (x := a4) ct_211_236 (sL_SC hS26) (i_in (i_add hi ki_4 (by omega)) (by omega)) (i_cl (i_add hi ki_4 (by omega)) (by omega)) ((Eq.trans (up2_nq (by decide)) (Eq.trans (congrFun (hzn24.2 _ (sc_nd (by omega))) _) (Eq.trans (up2_nq (sc_nd (by omega))) (Eq.trans (up2_nq (sc_nd (by omega))) (Eq.trans (up2_nq (sc_nd (by omega))) (Eq.trans (up2_nq (sc_nd (by omega))) (Eq.trans (up2_nq (sc_nd (by omega))) (Eq.trans (up2_nq (sc_nd (by omega))) (Eq.trans (congrFun (hzn23.2 _ (sc_nd (by omega))) _) ((hsc _).trans e4))))))))))) ?_
                refine wi_cv4 (ls' := [some _, some _, some _, some _, some _, none]) ct_211_237 (Nat.le_of_ble_eq_true rfl) (by decide) (sT_31 hS26) rfl (by decide) rfl rfl (Nat.le_of_ble_eq_true rfl) ?_
                refine wi_aload_0 ct_121_0 ?_
                refine wi_iload_1 ct_121_1 ?_
                refine wi_ic ct_121_2 kc_0 ?_
                refine wi_ic ct_121_3 kc_6 ?_
                refine wi_cv3 (ls' := [some _, some _, some _, some _]) ct_121_5 (Nat.le_of_ble_eq_true rfl) (by decide) (sT_31 hS26) rfl (by decide) rfl rfl (Nat.le_of_ble_eq_true rfl) ?_
                refine c_in rfl ki_0 ki_6 (fun _ => wk_i ?_) (fun h => absurd h (by omega))
                refine wi_ifne_t ct_121_8 ki_1 (by decide) ?_
                refine wi_aload_0 ct_121_13 ?_
                refine wi_iload_2 ct_121_14 ?_
                refine wi_ic ct_121_15 kc_0 ?_
                refine wi_ic ct_121_16 kc_9 ?_
                refine wi_cv3 (ls' := [some _, some _, some _, some _]) ct_121_18 (Nat.le_of_ble_eq_true rfl) (by decide) (sT_31 hS26) rfl (by decide) rfl rfl (Nat.le_of_ble_eq_true rfl) ?_
                refine c_in rfl ki_0 ki_9 (fun _ => wk_i ?_) (fun h => absurd h (by omega))
                refine wi_ifeq_f ct_121_21 ki_1 (by decide) ?_
                refine wi_aload_0 ct_121_24 ?_
                refine wi_iload_3 ct_121_25 ?_
                refine wi_ic ct_121_26 kc_1 ?_
                refine wi_ic ct_121_27 kc_9 ?_
                refine wi_cv3 (ls' := [some _, some _, some _, some _]) ct_121_29 (Nat.le_of_ble_eq_true rfl) (by decide) (sT_31 hS26) rfl (by decide) rfl rfl (Nat.le_of_ble_eq_true rfl) ?_
                refine c_in rfl ki_1 ki_9 (fun _ => wk_i ?_) (fun h => absurd h (by omega))
                refine wi_ifeq_f ct_121_32 ki_1 (by decide) ?_
                refine wi_aload_0 ct_121_35 ?_
                refine wi_iload_4 ct_121_36 ?_
                refine wi_ic ct_121_38 kc_1 ?_
                refine wi_ic ct_121_39 kc_60 ?_
                refine wi_cv3 (ls' := [some _, some _, some _, some _]) ct_121_41 (Nat.le_of_ble_eq_true rfl) (by decide) (sT_31 hS26) rfl (by decide) rfl rfl (Nat.le_of_ble_eq_true rfl) ?_
                refine c_in rfl ki_1 ki_60 (fun _ => wk_i ?_) (fun h => absurd h (by omega))
                refine wi_ifne_t ct_121_44 ki_1 (by decide) ?_
                refine wi_aload_0 ct_121_50 ?_
                refine wi_gf (x := fi 31 0) ct_121_51 (sT_31 hS26) rfl rfl (Eq.trans (up2_nq (by decide)) (Eq.trans (congrFun (hzn24.2 _ (by omega)) _) (Eq.trans (up2_nq (by omega)) (Eq.trans (up2_nq (by omega)) (Eq.trans (up2_nq (by omega)) (Eq.trans (up2_nq (by omega)) (Eq.trans (up2_nq (by omega)) (Eq.trans (up2_nq (by omega)) (congrFun (hzn23.2 _ (by omega)) _))))))))) ?_
                refine wi_ic ct_121_54 kc_5 ?_
                refine wi_icne_t ct_121_55 hBn ki_5 (by omega) ?_
                refine wi_aload_0 ct_121_61 ?_
                refine wi_gfr ct_121_62 (sT_31 hS26) rfl (sR_31_2 hS26) ?_
                refine wi_aload_0 ct_121_65 ?_
                refine wi_gf (x := fi 31 0) ct_121_66 (sT_31 hS26) rfl rfl (Eq.trans (up2_nq (by decide)) (Eq.trans (congrFun (hzn24.2 _ (by omega)) _) (Eq.trans (up2_nq (by omega)) (Eq.trans (up2_nq (by omega)) (Eq.trans (up2_nq (by omega)) (Eq.trans (up2_nq (by omega)) (Eq.trans (up2_nq (by omega)) (Eq.trans (up2_nq (by omega)) (congrFun (hzn23.2 _ (by omega)) _))))))))) ?_
                refine wi_iload_1 ct_121_69 ?_
                refine wi_iast ct_121_70 (sT_32 hS26) (sL_32 hS26) (i_in hBn (by omega)) (i_cl (k := B) hBn (by omega)) ?_
                refine wi_aload_0 ct_121_71 ?_
                refine wi_gfr ct_121_72 (sT_31 hS26) rfl (sR_31_3 hS26) ?_
                refine wi_aload_0 ct_121_75 ?_
                refine wi_gf (x := fi 31 0) ct_121_76 (sT_31 hS26) rfl rfl (Eq.trans (up2_nq (by decide)) (Eq.trans (up2_nq (by decide)) (Eq.trans (congrFun (hzn24.2 _ (by omega)) _) (Eq.trans (up2_nq (by omega)) (Eq.trans (up2_nq (by omega)) (Eq.trans (up2_nq (by omega)) (Eq.trans (up2_nq (by omega)) (Eq.trans (up2_nq (by omega)) (Eq.trans (up2_nq (by omega)) (congrFun (hzn23.2 _ (by omega)) _)))))))))) ?_
                refine wi_iload_2 ct_121_79 ?_
                refine wi_iast ct_121_80 (sT_33 hS26) (sL_33 hS26) (i_in hBn (by omega)) (i_cl (k := B) hBn (by omega)) ?_
                refine wi_aload_0 ct_121_81 ?_
                refine wi_gfr ct_121_82 (sT_31 hS26) rfl (sR_31_4 hS26) ?_
                refine wi_aload_0 ct_121_85 ?_
                refine wi_gf (x := fi 31 0) ct_121_86 (sT_31 hS26) rfl rfl (Eq.trans (up2_nq (by decide)) (Eq.trans (up2_nq (by decide)) (Eq.trans (up2_nq (by decide)) (Eq.trans (congrFun (hzn24.2 _ (by omega)) _) (Eq.trans (up2_nq (by omega)) (Eq.trans (up2_nq (by omega)) (Eq.trans (up2_nq (by omega)) (Eq.trans (up2_nq (by omega)) (Eq.trans (up2_nq (by omega)) (Eq.trans (up2_nq (by omega)) (congrFun (hzn23.2 _ (by omega)) _))))))))))) ?_
                refine wi_iload_3 ct_121_89 ?_
                refine wi_iast ct_121_90 (sT_34 hS26) (sL_34 hS26) (i_in hBn (by omega)) (i_cl (k := B) hBn (by omega)) ?_
                refine wi_aload_0 ct_121_91 ?_
                refine wi_gfr ct_121_92 (sT_31 hS26) rfl (sR_31_5 hS26) ?_
                refine wi_aload_0 ct_121_95 ?_
                refine wi_gf (x := fi 31 0) ct_121_96 (sT_31 hS26) rfl rfl (Eq.trans (up2_nq (by decide)) (Eq.trans (up2_nq (by decide)) (Eq.trans (up2_nq (by decide)) (Eq.trans (up2_nq (by decide)) (Eq.trans (congrFun (hzn24.2 _ (by omega)) _) (Eq.trans (up2_nq (by omega)) (Eq.trans (up2_nq (by omega)) (Eq.trans (up2_nq (by omega)) (Eq.trans (up2_nq (by omega)) (Eq.trans (up2_nq (by omega)) (Eq.trans (up2_nq (by omega)) (congrFun (hzn23.2 _ (by omega)) _)))))))))))) ?_
                refine wi_iload_4 ct_121_99 ?_
                refine wi_iast ct_121_101 (sT_35 hS26) (sL_35 hS26) (i_in hBn (by omega)) (i_cl (k := B) hBn (by omega)) ?_
                refine wi_aload_0 ct_121_102 ?_
                refine wi_gfr ct_121_103 (sT_31 hS26) rfl (sR_31_6 hS26) ?_
                refine wi_aload_0 ct_121_106 ?_
                refine wi_gf (x := fi 31 0) ct_121_107 (sT_31 hS26) rfl rfl (Eq.trans (up2_nq (by decide)) (Eq.trans (up2_nq (by decide)) (Eq.trans (up2_nq (by decide)) (Eq.trans (up2_nq (by decide)) (Eq.trans (up2_nq (by decide)) (Eq.trans (congrFun (hzn24.2 _ (by omega)) _) (Eq.trans (up2_nq (by omega)) (Eq.trans (up2_nq (by omega)) (Eq.trans (up2_nq (by omega)) (Eq.trans (up2_nq (by omega)) (Eq.trans (up2_nq (by omega)) (Eq.trans (up2_nq (by omega)) (congrFun (hzn23.2 _ (by omega)) _))))))))))))) ?_
                refine wi_ic ct_121_110 kc_0 ?_
                refine wi_iast ct_121_111 (sT_36 hS26) (sL_36 hS26) (i_in hBn (by omega)) (i_cl (k := B) hBn (by omega)) ?_
                refine wi_ic ct_121_112 kc_0 ?_
                refine wi_istore_5 rfl ct_121_113 ?_
                refine wi_iload_5 ct_121_115 ?_
                refine wi_ic ct_121_117 kc_4 ?_
                refine wi_icge_f ct_121_118 ki_0 ki_4 (by decide) ?_
                refine wi_aload_0 ct_121_121 ?_
                refine wi_gfr ct_121_122 (sT_31 hS26) rfl (sR_31_7 hS26) ?_
                refine wi_ic ct_121_125 kc_4 ?_
                refine wi_aload_0 ct_121_126 ?_
                refine wi_gf (x := fi 31 0) ct_121_127 (sT_31 hS26) rfl rfl (Eq.trans (up2_nq (by decide)) (Eq.trans (up2_nq (by decide)) (Eq.trans (up2_nq (by decide)) (Eq.trans (up2_nq (by decide)) (Eq.trans (up2_nq (by decide)) (Eq.trans (up2_nq (by decide)) (Eq.trans (congrFun (hzn24.2 _ (by omega)) _) (Eq.trans (up2_nq (by omega)) (Eq.trans (up2_nq (by omega)) (Eq.trans (up2_nq (by omega)) (Eq.trans (up2_nq (by omega)) (Eq.trans (up2_nq (by omega)) (Eq.trans (up2_nq (by omega)) (congrFun (hzn23.2 _ (by omega)) _)))))))))))))) ?_
                refine wi_imul ct_121_130 rfl ?_
                refine wi_iload_5 ct_121_131 ?_
                refine wi_iadd ct_121_133 rfl ?_
                refine wi_ic ct_121_134 kc_0 ?_
                refine wi_iast ct_121_135 (sT_37 hS26) (sL_37 hS26) (i_in (i_add (i_mul ki_4 hBn (by omega)) ki_0 (by omega)) (by omega)) (i_cl (k := (4 * B)) (i_add (i_mul ki_4 hBn (by omega)) ki_0 (by omega)) (by omega)) ?_
                refine wi_iinc_5 rfl (z := 1) ct_121_136 (by decide) ?_
                refine wi_goto ct_121_139 ?_
                refine wi_iload_5 ct_121_115 ?_
                refine wi_ic ct_121_117 kc_4 ?_
                refine wi_icge_f ct_121_118 ki_1 ki_4 (by decide) ?_
                refine wi_aload_0 ct_121_121 ?_
                refine wi_gfr ct_121_122 (sT_31 hS26) rfl (sR_31_7 hS26) ?_
                refine wi_ic ct_121_125 kc_4 ?_
                refine wi_aload_0 ct_121_126 ?_
                refine wi_gf (x := fi 31 0) ct_121_127 (sT_31 hS26) rfl rfl (Eq.trans (up2_nq (by decide)) (Eq.trans (up2_nq (by decide)) (Eq.trans (up2_nq (by decide)) (Eq.trans (up2_nq (by decide)) (Eq.trans (up2_nq (by decide)) (Eq.trans (up2_nq (by decide)) (Eq.trans (up2_nq (by decide)) (Eq.trans (congrFun (hzn24.2 _ (by omega)) _) (Eq.trans (up2_nq (by omega)) (Eq.trans (up2_nq (by omega)) (Eq.trans (up2_nq (by omega)) (Eq.trans (up2_nq (by omega)) (Eq.trans (up2_nq (by omega)) (Eq.trans (up2_nq (by omega)) (congrFun (hzn23.2 _ (by omega)) _))))))))))))))) ?_
                refine wi_imul ct_121_130 rfl ?_
                refine wi_iload_5 ct_121_131 ?_
                refine wi_iadd ct_121_133 rfl ?_
                refine wi_ic ct_121_134 kc_0 ?_
                refine wi_iast ct_121_135 (sT_37 hS26) (sL_37 hS26) (i_in (i_add (i_mul ki_4 hBn (by omega)) ki_1 (by omega)) (by omega)) (i_cl (k := (4 * B + 1)) (i_add (i_mul ki_4 hBn (by omega)) ki_1 (by omega)) (by omega)) ?_
                refine wi_iinc_5 rfl (z := 2) ct_121_136 (by decide) ?_
                refine wi_goto ct_121_139 ?_
                refine wi_iload_5 ct_121_115 ?_
                refine wi_ic ct_121_117 kc_4 ?_
                refine wi_icge_f ct_121_118 ki_2 ki_4 (by decide) ?_
                refine wi_aload_0 ct_121_121 ?_
                refine wi_gfr ct_121_122 (sT_31 hS26) rfl (sR_31_7 hS26) ?_
                refine wi_ic ct_121_125 kc_4 ?_
                refine wi_aload_0 ct_121_126 ?_
                refine wi_gf (x := fi 31 0) ct_121_127 (sT_31 hS26) rfl rfl (Eq.trans (up2_nq (by decide)) (Eq.trans (up2_nq (by decide)) (Eq.trans (up2_nq (by decide)) (Eq.trans (up2_nq (by decide)) (Eq.trans (up2_nq (by decide)) (Eq.trans (up2_nq (by decide)) (Eq.trans (up2_nq (by decide)) (Eq.trans (up2_nq (by decide)) (Eq.trans (congrFun (hzn24.2 _ (by omega)) _) (Eq.trans (up2_nq (by omega)) (Eq.trans (up2_nq (by omega)) (Eq.trans (up2_nq (by omega)) (Eq.trans (up2_nq (by omega)) (Eq.trans (up2_nq (by omega)) (Eq.trans (up2_nq (by omega)) (congrFun (hzn23.2 _ (by omega)) _)))))))))))))))) ?_
                refine wi_imul ct_121_130 rfl ?_
                refine wi_iload_5 ct_121_131 ?_
                refine wi_iadd ct_121_133 rfl ?_
                refine wi_ic ct_121_134 kc_0 ?_
                refine wi_iast ct_121_135 (sT_37 hS26) (sL_37 hS26) (i_in (i_add (i_mul ki_4 hBn (by omega)) ki_2 (by omega)) (by omega)) (i_cl (k := (4 * B + 2)) (i_add (i_mul ki_4 hBn (by omega)) ki_2 (by omega)) (by omega)) ?_
                refine wi_iinc_5 rfl (z := 3) ct_121_136 (by decide) ?_
                refine wi_goto ct_121_139 ?_
                refine wi_iload_5 ct_121_115 ?_
                refine wi_ic ct_121_117 kc_4 ?_
                refine wi_icge_f ct_121_118 ki_3 ki_4 (by decide) ?_
                refine wi_aload_0 ct_121_121 ?_
                refine wi_gfr ct_121_122 (sT_31 hS26) rfl (sR_31_7 hS26) ?_
                refine wi_ic ct_121_125 kc_4 ?_
                refine wi_aload_0 ct_121_126 ?_
                refine wi_gf (x := fi 31 0) ct_121_127 (sT_31 hS26) rfl rfl (Eq.trans (up2_nq (by decide)) (Eq.trans (up2_nq (by decide)) (Eq.trans (up2_nq (by decide)) (Eq.trans (up2_nq (by decide)) (Eq.trans (up2_nq (by decide)) (Eq.trans (up2_nq (by decide)) (Eq.trans (up2_nq (by decide)) (Eq.trans (up2_nq (by decide)) (Eq.trans (up2_nq (by decide)) (Eq.trans (congrFun (hzn24.2 _ (by omega)) _) (Eq.trans (up2_nq (by omega)) (Eq.trans (up2_nq (by omega)) (Eq.trans (up2_nq (by omega)) (Eq.trans (up2_nq (by omega)) (Eq.trans (up2_nq (by omega)) (Eq.trans (up2_nq (by omega)) (congrFun (hzn23.2 _ (by omega)) _))))))))))))))))) ?_
                refine wi_imul ct_121_130 rfl ?_
                refine wi_iload_5 ct_121_131 ?_
                refine wi_iadd ct_121_133 rfl ?_
                refine wi_ic ct_121_134 kc_0 ?_
                refine wi_iast ct_121_135 (sT_37 hS26) (sL_37 hS26) (i_in (i_add (i_mul ki_4 hBn (by omega)) ki_3 (by omega)) (by omega)) (i_cl (k := (4 * B + 3)) (i_add (i_mul ki_4 hBn (by omega)) ki_3 (by omega)) (by omega)) ?_
                refine wi_iinc_5 rfl (z := 4) ct_121_136 (by decide) ?_
                refine wi_goto ct_121_139 ?_
                refine wi_iload_5 ct_121_115 ?_
                refine wi_ic ct_121_117 kc_4 ?_
                refine wi_icge_t ct_121_118 ki_4 ki_4 (by decide) ?_
                refine wi_aload_0 ct_121_142 ?_
                refine wi_dup ct_121_143 rfl ?_
                refine wi_gf (x := fi 31 0) ct_121_144 (sT_31 hS26) rfl rfl (Eq.trans (up2_nq (by decide)) (Eq.trans (up2_nq (by decide)) (Eq.trans (up2_nq (by decide)) (Eq.trans (up2_nq (by decide)) (Eq.trans (up2_nq (by decide)) (Eq.trans (up2_nq (by decide)) (Eq.trans (up2_nq (by decide)) (Eq.trans (up2_nq (by decide)) (Eq.trans (up2_nq (by decide)) (Eq.trans (up2_nq (by decide)) (Eq.trans (congrFun (hzn24.2 _ (by omega)) _) (Eq.trans (up2_nq (by omega)) (Eq.trans (up2_nq (by omega)) (Eq.trans (up2_nq (by omega)) (Eq.trans (up2_nq (by omega)) (Eq.trans (up2_nq (by omega)) (Eq.trans (up2_nq (by omega)) (congrFun (hzn23.2 _ (by omega)) _)))))))))))))))))) ?_
                refine wi_ic ct_121_147 kc_1 ?_
                refine wi_iadd ct_121_148 rfl ?_
                refine wi_pf ct_121_149 (sT_31 hS26) rfl ?_
                refine wi_aload_0 ct_121_152 ?_
                refine wi_gf (x := (fi 31 0 + 1)) ct_121_153 (sT_31 hS26) rfl rfl up2_eq ?_
                refine wi_ic ct_121_156 kc_1 ?_
                refine wi_isub ct_121_157 rfl ?_
                refine wi_iret ct_121_158 rfl (wk_i ?_)
                refine wi_iceq_t ct_211_240 hBn (i_sub (i_add hBn ki_1 (by omega)) ki_1 (by omega)) (by omega) ?_
                have hnl := hmn24.2.1
                have hsl1 := hmn23.2.2.1
                have hsl2 := hmn24.2.2.1
                have nf : am_nf 9 = 7 := rfl
                have hnf : am_nx (am_gr (am_gr gn24 p 6 (some r)) 2 B (some p)) = am_nx gn24 := rfl
                have hsf : am_sl (am_gr (am_gr gn24 p 6 (some r)) 2 B (some p)) = am_sl gn24 := rfl
                refine kk (fun q => if q = p then 10 + B else if q = r then 20 + B else own q) (am_gr (am_gr gn24 p 6 (some r)) 2 B (some p)) (up2 (up2 (up2 (up2 (up2 (up2 (up2 (up2 (up2 (up2 (up2 fin24 1 1 ((fi 31 0 + 1))) 32 B (a1)) 33 B (a2)) 34 B (a3)) 35 B (a4)) 36 B (0)) 37 (4 * B) (0)) 37 (4 * B + 1) (0)) 37 (4 * B + 2) (0)) 37 (4 * B + 3) (0)) 31 0 ((fi 31 0 + 1))) _ (hR.one (B := B) hBn (by omega) hS26 ⟨by omega, fun q h1 h2 _ => ⟨(Eq.trans ((hmn24.2.2.2.2.2.2 _ (by omega)).1) ((hmn23.2.2.2.2.2.2 _ (by omega)).1)), (Eq.trans ((hmn24.2.2.2.2.2.2 _ (by omega)).2.1) ((hmn23.2.2.2.2.2.2 _ (by omega)).2.1)), funext fun j => (Eq.trans (gr_nq (by omega)) (Eq.trans (gr_nq (by omega)) (Eq.trans (congrFun (hmn24.2.2.2.2.2.2 _ (by omega)).2.2 _) (congrFun (hmn23.2.2.2.2.2.2 _ (by omega)).2.2 _)))), (if_neg (by omega)).trans (if_neg (by omega)), (Eq.trans (funext fun _ => up2_nq (by omega)) (Eq.trans (funext fun _ => up2_nq (by omega)) (Eq.trans (funext fun _ => up2_nq (by omega)) (Eq.trans (funext fun _ => up2_nq (by omega)) (Eq.trans (funext fun _ => up2_nq (by omega)) (Eq.trans (funext fun _ => up2_nq (by omega)) (Eq.trans (funext fun _ => up2_nq (by omega)) (Eq.trans (funext fun _ => up2_nq (by omega)) (Eq.trans (funext fun _ => up2_nq (by omega)) (Eq.trans (funext fun _ => up2_nq (by omega)) (Eq.trans (funext fun _ => up2_nq (by omega)) (Eq.trans (hzn24.2 _ (by omega)) (Eq.trans (funext fun _ => up2_nq (by omega)) (Eq.trans (funext fun _ => up2_nq (by omega)) (Eq.trans (funext fun _ => up2_nq (by omega)) (Eq.trans (funext fun _ => up2_nq (by omega)) (Eq.trans (funext fun _ => up2_nq (by omega)) (Eq.trans (funext fun _ => up2_nq (by omega)) (hzn23.2 _ (by omega))))))))))))))))))))⟩⟩ (fun q hq => (Eq.trans ((hmn24.2.2.2.2.2.2 _ (by omega)).1) ((hmn23.2.2.2.2.2.2 _ (by omega)).1))) (fun q j h1 h2 => (Eq.trans (if_neg (by omega)) (Eq.trans (if_neg (by omega)) (Eq.trans (congrFun (hmn24.2.2.2.2.2.2 _ (by omega)).2.2 _) (congrFun (hmn23.2.2.2.2.2.2 _ (by omega)).2.2 _))))) (Eq.trans (funext fun _ => up2_nq (by first | decide | exact sc_nd (by omega))) (Eq.trans (funext fun _ => up2_nq (by first | decide | exact sc_nd (by omega))) (Eq.trans (funext fun _ => up2_nq (by first | decide | exact sc_nd (by omega))) (Eq.trans (funext fun _ => up2_nq (by first | decide | exact sc_nd (by omega))) (Eq.trans (funext fun _ => up2_nq (by first | decide | exact sc_nd (by omega))) (Eq.trans (funext fun _ => up2_nq (by first | decide | exact sc_nd (by omega))) (Eq.trans (funext fun _ => up2_nq (by first | decide | exact sc_nd (by omega))) (Eq.trans (funext fun _ => up2_nq (by first | decide | exact sc_nd (by omega))) (Eq.trans (funext fun _ => up2_nq (by first | decide | exact sc_nd (by omega))) (Eq.trans (funext fun _ => up2_nq (by first | decide | exact sc_nd (by omega))) (Eq.trans (funext fun _ => up2_nq (by first | decide | exact sc_nd (by omega))) (Eq.trans (hzn24.2 _ (sc_nd (by omega))) (Eq.trans (funext fun _ => up2_nq (by first | decide | exact sc_nd (by omega))) (Eq.trans (funext fun _ => up2_nq (by first | decide | exact sc_nd (by omega))) (Eq.trans (funext fun _ => up2_nq (by first | decide | exact sc_nd (by omega))) (Eq.trans (funext fun _ => up2_nq (by first | decide | exact sc_nd (by omega))) (Eq.trans (funext fun _ => up2_nq (by first | decide | exact sc_nd (by omega))) (Eq.trans (funext fun _ => up2_nq (by first | decide | exact sc_nd (by omega))) (hzn23.2 _ (sc_nd (by omega))))))))))))))))))))) (fun q h1 h2 => (Eq.trans (funext fun _ => up2_nq (by omega)) (Eq.trans (funext fun _ => up2_nq (by omega)) (Eq.trans (funext fun _ => up2_nq (by omega)) (Eq.trans (funext fun _ => up2_nq (by omega)) (Eq.trans (funext fun _ => up2_nq (by omega)) (Eq.trans (funext fun _ => up2_nq (by omega)) (Eq.trans (funext fun _ => up2_nq (by omega)) (Eq.trans (funext fun _ => up2_nq (by omega)) (Eq.trans (funext fun _ => up2_nq (by omega)) (Eq.trans (funext fun _ => up2_nq (by omega)) (Eq.trans (funext fun _ => up2_nq (by omega)) (Eq.trans (hzn24.2 _ (by omega)) (Eq.trans (funext fun _ => up2_nq (by omega)) (Eq.trans (funext fun _ => up2_nq (by omega)) (Eq.trans (funext fun _ => up2_nq (by omega)) (Eq.trans (funext fun _ => up2_nq (by omega)) (Eq.trans (funext fun _ => up2_nq (by omega)) (Eq.trans (funext fun _ => up2_nq (by omega)) (hzn23.2 _ (by omega))))))))))))))))))))) (fun j hj => (Eq.trans (up2_nq (by omega)) (Eq.trans (up2_nq (by omega)) (Eq.trans (up2_nq (by omega)) (Eq.trans (up2_nq (by omega)) (Eq.trans (up2_nq (by omega)) (Eq.trans (up2_nq (by omega)) (Eq.trans (up2_nq (by omega)) (Eq.trans (up2_nq (by omega)) (Eq.trans (up2_nq (by omega)) (Eq.trans (up2_nq (by omega)) (Eq.trans (up2_nj hj) (Eq.trans (congrFun (hzn24.2 _ (by omega)) _) (Eq.trans (up2_nq (by omega)) (Eq.trans (up2_nq (by omega)) (Eq.trans (up2_nq (by omega)) (Eq.trans (up2_nq (by omega)) (Eq.trans (up2_nq (by omega)) (Eq.trans (up2_nq (by omega)) (congrFun (hzn23.2 _ (by omega)) _)))))))))))))))))))) (fun j hj => (Eq.trans (up2_nj hj) (Eq.trans (up2_nq (by omega)) (Eq.trans (up2_nq (by omega)) (Eq.trans (up2_nq (by omega)) (Eq.trans (up2_nq (by omega)) (Eq.trans (up2_nq (by omega)) (Eq.trans (up2_nq (by omega)) (Eq.trans (up2_nq (by omega)) (Eq.trans (up2_nq (by omega)) (Eq.trans (up2_nq (by omega)) (Eq.trans (up2_nq (by omega)) (Eq.trans (congrFun (hzn24.2 _ (by omega)) _) (Eq.trans (up2_nq (by omega)) (Eq.trans (up2_nq (by omega)) (Eq.trans (up2_nq (by omega)) (Eq.trans (up2_nq (by omega)) (Eq.trans (up2_nq (by omega)) (Eq.trans (up2_nq (by omega)) (congrFun (hzn23.2 _ (by omega)) _)))))))))))))))))))) ⟨((Eq.trans (up2_nq (by decide)) (Eq.trans (up2_nq (by decide)) (Eq.trans (up2_nq (by decide)) (Eq.trans (up2_nq (by decide)) (Eq.trans (up2_nq (by decide)) (Eq.trans (up2_nq (by decide)) (Eq.trans (up2_nq (by decide)) (Eq.trans (up2_nq (by decide)) (Eq.trans (up2_nq (by decide)) (Eq.trans (up2_nq (by decide)) up2_eq))))))))))).trans (up2_eq).symm, ?_⟩ (fun q b h1 h2 h3 => ?_) (fun b j h1 h2 => (Eq.trans (up2_nq (by omega)) (Eq.trans (up2_nj (by omega)) (Eq.trans (up2_nj (by omega)) (Eq.trans (up2_nj (by omega)) (Eq.trans (up2_nj (by omega)) (Eq.trans (up2_nq (by omega)) (Eq.trans (up2_nq (by omega)) (Eq.trans (up2_nq (by omega)) (Eq.trans (up2_nq (by omega)) (Eq.trans (up2_nq (by omega)) (Eq.trans (up2_nq (by omega)) (Eq.trans (congrFun (hzn24.2 _ (by omega)) _) (Eq.trans (up2_nq (by omega)) (Eq.trans (up2_nq (by omega)) (Eq.trans (up2_nq (by omega)) (Eq.trans (up2_nq (by omega)) (Eq.trans (up2_nq (by omega)) (Eq.trans (up2_nq (by omega)) (congrFun (hzn23.2 _ (by omega)) _)))))))))))))))))))) (fun q hq => (Eq.trans (hln24.2 _ (by omega)) (hln23.2 _ (by omega)))) ?_ ⟨p, r, ⟨gr_eq, ⟨by omega, by omega, if_pos rfl⟩, ?_, ((Eq.trans (up2_nq (by omega)) (Eq.trans (up2_nq (by omega)) (Eq.trans (up2_nq (by omega)) (Eq.trans (up2_nq (by omega)) (Eq.trans (up2_nq (by omega)) (Eq.trans (up2_nq (by omega)) (Eq.trans (up2_nq (by omega)) (Eq.trans (up2_nq (by omega)) (Eq.trans (up2_nq (by omega)) (Eq.trans (up2_nq (by omega)) (Eq.trans (up2_nq (by omega)) (Eq.trans (congrFun (hzn24.2 _ (by omega)) _) (Eq.trans (up2_nj (by decide)) (Eq.trans (up2_nj (by decide)) (Eq.trans (up2_nj (by decide)) (Eq.trans (up2_nj (by decide)) up2_eq))))))))))))))))).trans ((Eq.trans (up2_nq (by decide)) (Eq.trans (up2_nq (by decide)) (Eq.trans (up2_nq (by decide)) (Eq.trans (up2_nq (by decide)) (Eq.trans (up2_nq (by decide)) (Eq.trans (up2_nq (by decide)) (Eq.trans (up2_nq (by decide)) (Eq.trans (up2_nq (by decide)) (Eq.trans (up2_nq (by decide)) up2_eq)))))))))).symm, ?_, ((Eq.trans (up2_nq (by omega)) (Eq.trans (up2_nq (by omega)) (Eq.trans (up2_nq (by omega)) (Eq.trans (up2_nq (by omega)) (Eq.trans (up2_nq (by omega)) (Eq.trans (up2_nq (by omega)) (Eq.trans (up2_nq (by omega)) (Eq.trans (up2_nq (by omega)) (Eq.trans (up2_nq (by omega)) (Eq.trans (up2_nq (by omega)) (Eq.trans (up2_nq (by omega)) (Eq.trans (congrFun (hzn24.2 _ (by omega)) _) (Eq.trans (up2_nj (by decide)) (Eq.trans (up2_nj (by decide)) up2_eq))))))))))))))).trans ((Eq.trans (up2_nq (by decide)) (Eq.trans (up2_nq (by decide)) (Eq.trans (up2_nq (by decide)) (Eq.trans (up2_nq (by decide)) (Eq.trans (up2_nq (by decide)) (Eq.trans (up2_nq (by decide)) (Eq.trans (up2_nq (by decide)) (Eq.trans (up2_nq (by decide)) up2_eq))))))))).symm, ((Eq.trans (up2_nq (by omega)) (Eq.trans (up2_nq (by omega)) (Eq.trans (up2_nq (by omega)) (Eq.trans (up2_nq (by omega)) (Eq.trans (up2_nq (by omega)) (Eq.trans (up2_nq (by omega)) (Eq.trans (up2_nq (by omega)) (Eq.trans (up2_nq (by omega)) (Eq.trans (up2_nq (by omega)) (Eq.trans (up2_nq (by omega)) (Eq.trans (up2_nq (by omega)) (Eq.trans (congrFun (hzn24.2 _ (by omega)) _) (Eq.trans (up2_nj (by decide)) up2_eq)))))))))))))).trans ((Eq.trans (up2_nq (by decide)) (Eq.trans (up2_nq (by decide)) (Eq.trans (up2_nq (by decide)) (Eq.trans (up2_nq (by decide)) (Eq.trans (up2_nq (by decide)) (Eq.trans (up2_nq (by decide)) (Eq.trans (up2_nq (by decide)) up2_eq)))))))).symm, ((Eq.trans (up2_nq (by omega)) (Eq.trans (up2_nq (by omega)) (Eq.trans (up2_nq (by omega)) (Eq.trans (up2_nq (by omega)) (Eq.trans (up2_nq (by omega)) (Eq.trans (up2_nq (by omega)) (Eq.trans (up2_nq (by omega)) (Eq.trans (up2_nq (by omega)) (Eq.trans (up2_nq (by omega)) (Eq.trans (up2_nq (by omega)) (Eq.trans (up2_nq (by omega)) (Eq.trans (congrFun (hzn24.2 _ (by omega)) _) up2_eq))))))))))))).trans ((Eq.trans (up2_nq (by decide)) (Eq.trans (up2_nq (by decide)) (Eq.trans (up2_nq (by decide)) (Eq.trans (up2_nq (by decide)) (Eq.trans (up2_nq (by decide)) (Eq.trans (up2_nq (by decide)) up2_eq))))))).symm, ((Eq.trans (up2_nq (by omega)) (Eq.trans (up2_nq (by omega)) (Eq.trans (up2_nq (by omega)) (Eq.trans (up2_nq (by omega)) (Eq.trans (up2_nq (by omega)) (Eq.trans (up2_nq (by omega)) (Eq.trans (up2_nq (by omega)) (Eq.trans (up2_nq (by omega)) (Eq.trans (up2_nq (by omega)) (Eq.trans (up2_nq (by omega)) (Eq.trans (up2_nq (by omega)) (Eq.trans (congrFun (hzn24.2 _ (by omega)) _) (Eq.trans (up2_nj (by decide)) (Eq.trans (up2_nj (by decide)) (Eq.trans (up2_nj (by decide)) (Eq.trans (up2_nj (by decide)) (Eq.trans (up2_nj (by decide)) up2_eq)))))))))))))))))).trans ((Eq.trans (up2_nq (by decide)) (Eq.trans (up2_nq (by decide)) (Eq.trans (up2_nq (by decide)) (Eq.trans (up2_nq (by decide)) (Eq.trans (up2_nq (by decide)) up2_eq)))))).symm, ?_⟩, ((congrArg (fun t => am_sub t 0) (Eq.trans ((hmn24.2.2.2.2.2.2 _ (by omega)).1) hmn23.2.2.2.1)).trans rfl)⟩) (by omega) (by omega)
                · exact (congrArg Int32.toInt (up2_eq)).trans ((i_add hBn ki_1 (by omega)).trans (by omega))
                · exact (Eq.trans (if_neg (by omega)) (Eq.trans (if_neg (by omega)) (Eq.trans (if_neg (by omega)) (Eq.trans (if_neg (by omega)) (Eq.trans (if_neg (by omega)) (Eq.trans (if_neg (by omega)) (Eq.trans (if_neg (by omega)) (Eq.trans (if_neg (by omega)) (Eq.trans (if_neg (by omega)) (Eq.trans (if_neg (by omega)) (Eq.trans (if_neg (by omega)) (Eq.trans (congrFun (hzn24.2 _ (by omega)) _) (Eq.trans (if_neg (by omega)) (Eq.trans (if_neg (by omega)) (Eq.trans (if_neg (by omega)) (Eq.trans (if_neg (by omega)) (Eq.trans (if_neg (by omega)) (Eq.trans (if_neg (by omega)) (congrFun (hzn23.2 _ (by omega)) _)))))))))))))))))))
                · unfold RM
                  rw [show (up2 (up2 (up2 (up2 (up2 (up2 (up2 (up2 (up2 (up2 (up2 fin24 1 1 ((fi 31 0 + 1))) 32 B (a1)) 33 B (a2)) 34 B (a3)) 35 B (a4)) 36 B (0)) 37 (4 * B) (0)) 37 (4 * B + 1) (0)) 37 (4 * B + 2) (0)) 37 (4 * B + 3) (0)) 31 0 ((fi 31 0 + 1))) 32 B = a1 from (Eq.trans (up2_nq (by decide)) (Eq.trans (up2_nq (by decide)) (Eq.trans (up2_nq (by decide)) (Eq.trans (up2_nq (by decide)) (Eq.trans (up2_nq (by decide)) (Eq.trans (up2_nq (by decide)) (Eq.trans (up2_nq (by decide)) (Eq.trans (up2_nq (by decide)) (Eq.trans (up2_nq (by decide)) up2_eq)))))))))]
                  rw [show (up2 (up2 (up2 (up2 (up2 (up2 (up2 (up2 (up2 (up2 (up2 fin24 1 1 ((fi 31 0 + 1))) 32 B (a1)) 33 B (a2)) 34 B (a3)) 35 B (a4)) 36 B (0)) 37 (4 * B) (0)) 37 (4 * B + 1) (0)) 37 (4 * B + 2) (0)) 37 (4 * B + 3) (0)) 31 0 ((fi 31 0 + 1))) 33 B = a2 from (Eq.trans (up2_nq (by decide)) (Eq.trans (up2_nq (by decide)) (Eq.trans (up2_nq (by decide)) (Eq.trans (up2_nq (by decide)) (Eq.trans (up2_nq (by decide)) (Eq.trans (up2_nq (by decide)) (Eq.trans (up2_nq (by decide)) (Eq.trans (up2_nq (by decide)) up2_eq))))))))]
                  rw [show (up2 (up2 (up2 (up2 (up2 (up2 (up2 (up2 (up2 (up2 (up2 fin24 1 1 ((fi 31 0 + 1))) 32 B (a1)) 33 B (a2)) 34 B (a3)) 35 B (a4)) 36 B (0)) 37 (4 * B) (0)) 37 (4 * B + 1) (0)) 37 (4 * B + 2) (0)) 37 (4 * B + 3) (0)) 31 0 ((fi 31 0 + 1))) 34 B = a3 from (Eq.trans (up2_nq (by decide)) (Eq.trans (up2_nq (by decide)) (Eq.trans (up2_nq (by decide)) (Eq.trans (up2_nq (by decide)) (Eq.trans (up2_nq (by decide)) (Eq.trans (up2_nq (by decide)) (Eq.trans (up2_nq (by decide)) up2_eq)))))))]
                  rw [show (up2 (up2 (up2 (up2 (up2 (up2 (up2 (up2 (up2 (up2 (up2 fin24 1 1 ((fi 31 0 + 1))) 32 B (a1)) 33 B (a2)) 34 B (a3)) 35 B (a4)) 36 B (0)) 37 (4 * B) (0)) 37 (4 * B + 1) (0)) 37 (4 * B + 2) (0)) 37 (4 * B + 3) (0)) 31 0 ((fi 31 0 + 1))) 35 B = a4 from (Eq.trans (up2_nq (by decide)) (Eq.trans (up2_nq (by decide)) (Eq.trans (up2_nq (by decide)) (Eq.trans (up2_nq (by decide)) (Eq.trans (up2_nq (by decide)) (Eq.trans (up2_nq (by decide)) up2_eq))))))]
                  rw [show (up2 (up2 (up2 (up2 (up2 (up2 (up2 (up2 (up2 (up2 (up2 fin24 1 1 ((fi 31 0 + 1))) 32 B (a1)) 33 B (a2)) 34 B (a3)) 35 B (a4)) 36 B (0)) 37 (4 * B) (0)) 37 (4 * B + 1) (0)) 37 (4 * B + 2) (0)) 37 (4 * B + 3) (0)) 31 0 ((fi 31 0 + 1))) 36 B = 0 from (Eq.trans (up2_nq (by decide)) (Eq.trans (up2_nq (by decide)) (Eq.trans (up2_nq (by decide)) (Eq.trans (up2_nq (by decide)) (Eq.trans (up2_nq (by decide)) up2_eq)))))]
                  refine ⟨by omega, by omega, by omega, by omega, by decide, fun j hj => ?_⟩
                  match j, hj with
                  | 0, _ => rw [show (up2 (up2 (up2 (up2 (up2 (up2 (up2 (up2 (up2 (up2 (up2 fin24 1 1 ((fi 31 0 + 1))) 32 B (a1)) 33 B (a2)) 34 B (a3)) 35 B (a4)) 36 B (0)) 37 (4 * B) (0)) 37 (4 * B + 1) (0)) 37 (4 * B + 2) (0)) 37 (4 * B + 3) (0)) 31 0 ((fi 31 0 + 1))) 37 (4 * B + 0) = 0 from (Eq.trans (up2_nq (by decide)) (Eq.trans (up2_nj (by omega)) (Eq.trans (up2_nj (by omega)) (Eq.trans (up2_nj (by omega)) up2_eq))))]; decide
                  | 1, _ => rw [show (up2 (up2 (up2 (up2 (up2 (up2 (up2 (up2 (up2 (up2 (up2 fin24 1 1 ((fi 31 0 + 1))) 32 B (a1)) 33 B (a2)) 34 B (a3)) 35 B (a4)) 36 B (0)) 37 (4 * B) (0)) 37 (4 * B + 1) (0)) 37 (4 * B + 2) (0)) 37 (4 * B + 3) (0)) 31 0 ((fi 31 0 + 1))) 37 (4 * B + 1) = 0 from (Eq.trans (up2_nq (by decide)) (Eq.trans (up2_nj (by omega)) (Eq.trans (up2_nj (by omega)) up2_eq)))]; decide
                  | 2, _ => rw [show (up2 (up2 (up2 (up2 (up2 (up2 (up2 (up2 (up2 (up2 (up2 fin24 1 1 ((fi 31 0 + 1))) 32 B (a1)) 33 B (a2)) 34 B (a3)) 35 B (a4)) 36 B (0)) 37 (4 * B) (0)) 37 (4 * B + 1) (0)) 37 (4 * B + 2) (0)) 37 (4 * B + 3) (0)) 31 0 ((fi 31 0 + 1))) 37 (4 * B + 2) = 0 from (Eq.trans (up2_nq (by decide)) (Eq.trans (up2_nj (by omega)) up2_eq))]; decide
                  | 3, _ => rw [show (up2 (up2 (up2 (up2 (up2 (up2 (up2 (up2 (up2 (up2 (up2 fin24 1 1 ((fi 31 0 + 1))) 32 B (a1)) 33 B (a2)) 34 B (a3)) 35 B (a4)) 36 B (0)) 37 (4 * B) (0)) 37 (4 * B + 1) (0)) 37 (4 * B + 2) (0)) 37 (4 * B + 3) (0)) 31 0 ((fi 31 0 + 1))) 37 (4 * B + 3) = 0 from (Eq.trans (up2_nq (by decide)) up2_eq)]; decide
                  | j + 4, h => exact absurd h (by omega)
                · exact (Eq.trans ((hmn24.2.2.2.2.2.2 _ (by omega)).1) hmn23.2.2.2.1).trans (by rw [show (up2 (up2 (up2 (up2 (up2 (up2 (up2 (up2 (up2 (up2 (up2 fin24 1 1 ((fi 31 0 + 1))) 32 B (a1)) 33 B (a2)) 34 B (a3)) 35 B (a4)) 36 B (0)) 37 (4 * B) (0)) 37 (4 * B + 1) (0)) 37 (4 * B + 2) (0)) 37 (4 * B + 3) (0)) 31 0 ((fi 31 0 + 1))) 32 B = a1 from (Eq.trans (up2_nq (by decide)) (Eq.trans (up2_nq (by decide)) (Eq.trans (up2_nq (by decide)) (Eq.trans (up2_nq (by decide)) (Eq.trans (up2_nq (by decide)) (Eq.trans (up2_nq (by decide)) (Eq.trans (up2_nq (by decide)) (Eq.trans (up2_nq (by decide)) (Eq.trans (up2_nq (by decide)) up2_eq))))))))), show (a1).toInt = 6 by omega] <;> rfl)
                · exact (congrArg Int32.toInt ((Eq.trans (up2_nq (by omega)) (Eq.trans (up2_nq (by omega)) (Eq.trans (up2_nq (by omega)) (Eq.trans (up2_nq (by omega)) (Eq.trans (up2_nq (by omega)) (Eq.trans (up2_nq (by omega)) (Eq.trans (up2_nq (by omega)) (Eq.trans (up2_nq (by omega)) (Eq.trans (up2_nq (by omega)) (Eq.trans (up2_nq (by omega)) (Eq.trans (up2_nq (by omega)) (Eq.trans (congrFun (hzn24.2 _ (by omega)) _) (Eq.trans (up2_nj (by decide)) (Eq.trans (up2_nj (by decide)) (Eq.trans (up2_nj (by decide)) up2_eq))))))))))))))))).trans hBn
                · intro h6
                  refine ⟨(Eq.trans (gr_nq (by omega)) gr_eq), ⟨by omega, by omega, (if_neg (by omega)).trans (if_pos rfl)⟩, hmn24.2.2.2.1, hmn24.2.2.2.2.1, fun j hj => ?_⟩
                  match j, hj with
                  | 0, _ => exact ((Eq.trans (up2_nq (by omega)) (Eq.trans (up2_nq (by omega)) (Eq.trans (up2_nq (by omega)) (Eq.trans (up2_nq (by omega)) (Eq.trans (up2_nq (by omega)) (Eq.trans (up2_nq (by omega)) (Eq.trans (up2_nq (by omega)) (Eq.trans (up2_nq (by omega)) (Eq.trans (up2_nq (by omega)) (Eq.trans (up2_nq (by omega)) (Eq.trans (up2_nq (by omega)) (hzn24.1 _))))))))))))).trans ((Eq.trans (up2_nq (by decide)) (Eq.trans (up2_nj (by omega)) (Eq.trans (up2_nj (by omega)) (Eq.trans (up2_nj (by omega)) up2_eq))))).symm
                  | 1, _ => exact ((Eq.trans (up2_nq (by omega)) (Eq.trans (up2_nq (by omega)) (Eq.trans (up2_nq (by omega)) (Eq.trans (up2_nq (by omega)) (Eq.trans (up2_nq (by omega)) (Eq.trans (up2_nq (by omega)) (Eq.trans (up2_nq (by omega)) (Eq.trans (up2_nq (by omega)) (Eq.trans (up2_nq (by omega)) (Eq.trans (up2_nq (by omega)) (Eq.trans (up2_nq (by omega)) (hzn24.1 _))))))))))))).trans ((Eq.trans (up2_nq (by decide)) (Eq.trans (up2_nj (by omega)) (Eq.trans (up2_nj (by omega)) up2_eq)))).symm
                  | 2, _ => exact ((Eq.trans (up2_nq (by omega)) (Eq.trans (up2_nq (by omega)) (Eq.trans (up2_nq (by omega)) (Eq.trans (up2_nq (by omega)) (Eq.trans (up2_nq (by omega)) (Eq.trans (up2_nq (by omega)) (Eq.trans (up2_nq (by omega)) (Eq.trans (up2_nq (by omega)) (Eq.trans (up2_nq (by omega)) (Eq.trans (up2_nq (by omega)) (Eq.trans (up2_nq (by omega)) (hzn24.1 _))))))))))))).trans ((Eq.trans (up2_nq (by decide)) (Eq.trans (up2_nj (by omega)) up2_eq))).symm
                  | 3, _ => exact ((Eq.trans (up2_nq (by omega)) (Eq.trans (up2_nq (by omega)) (Eq.trans (up2_nq (by omega)) (Eq.trans (up2_nq (by omega)) (Eq.trans (up2_nq (by omega)) (Eq.trans (up2_nq (by omega)) (Eq.trans (up2_nq (by omega)) (Eq.trans (up2_nq (by omega)) (Eq.trans (up2_nq (by omega)) (Eq.trans (up2_nq (by omega)) (Eq.trans (up2_nq (by omega)) (hzn24.1 _))))))))))))).trans ((Eq.trans (up2_nq (by decide)) up2_eq)).symm
                  | j + 4, h => exact absurd h (by omega)
              refine wi_tsw (t := 124) ct_105_1 rfl ((am_tswD (by omega)).trans rfl) ?_
              obtain ⟨p, hp⟩ : ∃ p, am_nx g = p := ⟨_, rfl⟩
              have hp72 : 72 ≤ p := hp ▸ hS.nx
              refine wi_newF ct_105_124 hp (by omega) (fun gn27 fin27 fln27 hmn27 hzn27 hln27 => ?_)
              have hSn27 := hS.mkF hmn27 (by omega)
              refine wi_dup ct_105_127 rfl ?_
              refine wi_iload_0 ct_105_128 ?_
              refine wi_iload_1 ct_105_129 ?_
              refine wi_iload_2 ct_105_130 ?_
              refine wi_iload_3 ct_105_131 ?_
              refine wi_iload_4 ct_105_132 ?_
              refine wi_cp5 (ls' := [some _, some _, some _, some _, some _, some _]) ct_105_134 (Nat.le_of_ble_eq_true rfl) hmn27.2.2.2.1 (by decide) rfl (Nat.le_of_ble_eq_true rfl) ?_
              refine wi_aload_0 ct_0_0 ?_
              refine wi_obj ct_0_1 (Nat.le_of_ble_eq_true rfl) ?_
              refine wi_aload_0 ct_0_4 ?_
              refine wi_ic ct_0_5 kc_0 ?_
              refine wi_pf ct_0_6 hmn27.2.2.2.1 rfl ?_
              refine wi_aload_0 ct_0_9 ?_
              refine wi_iload_1 ct_0_10 ?_
              refine wi_pf ct_0_11 hmn27.2.2.2.1 rfl ?_
              refine wi_aload_0 ct_0_14 ?_
              refine wi_iload_2 ct_0_15 ?_
              refine wi_pf ct_0_16 hmn27.2.2.2.1 rfl ?_
              refine wi_aload_0 ct_0_19 ?_
              refine wi_iload_3 ct_0_20 ?_
              refine wi_pf ct_0_21 hmn27.2.2.2.1 rfl ?_
              refine wi_aload_0 ct_0_24 ?_
              refine wi_iload_4 ct_0_25 ?_
              refine wi_pf ct_0_27 hmn27.2.2.2.1 rfl ?_
              refine wi_aload_0 ct_0_30 ?_
              refine wi_iload_5 ct_0_31 ?_
              refine wi_pf ct_0_33 hmn27.2.2.2.1 rfl ?_
              refine wi_ret ct_0_36 (wk_v ?_)
              refine wi_aret ct_105_137 (wk_r ?_)
              refine wi_aast ct_67_88 (Or.inl ⟨(sT_2 hSn27), (hmn27.2.2.2.1).symm ▸ rfl⟩) (sL_2 hSn27) (i_in hBn (by omega)) (i_cl (k := B) hBn (by omega)) ?_
              have hS28 := hSn27.grq (q := 2) (a := B) (x := (some p)) (by decide)
              refine wi_aload_0 ct_67_89 ?_
              refine wi_gfr ct_67_90 (sT_0 hS28) rfl (sR_0_0 hS28) ?_
              refine wi_dup ct_67_93 rfl ?_
              refine wi_gf (x := fi 31 0) ct_67_94 (sT_1 hS28) rfl rfl (Eq.trans (up2_nq (by omega)) (Eq.trans (up2_nq (by omega)) (Eq.trans (up2_nq (by omega)) (Eq.trans (up2_nq (by omega)) (Eq.trans (up2_nq (by omega)) (Eq.trans (up2_nq (by omega)) (Eq.trans (congrFun (hzn27.2 _ (by omega)) _) c0))))))) ?_
              refine wi_ic ct_67_97 kc_1 ?_
              refine wi_iadd ct_67_98 rfl ?_
              refine wi_pf ct_67_99 (sT_1 hS28) rfl ?_
              refine wi_iload_5 ct_67_102 ?_
              refine wi_iret ct_67_104 rfl (wk_i ?_)
              refine wi_aload_2 ct_211_216 ?_
              refine wi_aloadT_0 ct_211_217 ?_
              refine wi_iload_3 ct_211_218 ?_
              refine wi_ic ct_211_219 kc_1 ?_
              refine wi_iadd ct_211_220 rfl ?_
              refine wi_ialdT (j := I + 1) (x := a1) ct_211_221 (sL_SC hS28) (i_in (i_add hi ki_1 (by omega)) (by omega)) (i_cl (i_add hi ki_1 (by omega)) (by omega)) ((Eq.trans (up2_nq (by decide)) (Eq.trans (up2_nq (sc_nd (by omega))) (Eq.trans (up2_nq (sc_nd (by omega))) (Eq.trans (up2_nq (sc_nd (by omega))) (Eq.trans (up2_nq (sc_nd (by omega))) (Eq.trans (up2_nq (sc_nd (by omega))) (Eq.trans (up2_nq (sc_nd (by omega))) (Eq.trans (congrFun (hzn27.2 _ (sc_nd (by omega))) _) ((hsc _).trans e1)))))))))) ?_
              refine wi_aloadT_0 ct_211_222 ?_
              refine wi_iload_3 ct_211_223 ?_
              refine wi_ic ct_211_224 kc_2 ?_
              refine wi_iadd ct_211_225 rfl ?_
              refine wi_ialdT (j := I + 2) (x := a2) ct_211_226 (sL_SC hS28) (i_in (i_add hi ki_2 (by omega)) (by omega)) (i_cl (i_add hi ki_2 (by omega)) (by omega)) ((Eq.trans (up2_nq (by decide)) (Eq.trans (up2_nq (sc_nd (by omega))) (Eq.trans (up2_nq (sc_nd (by omega))) (Eq.trans (up2_nq (sc_nd (by omega))) (Eq.trans (up2_nq (sc_nd (by omega))) (Eq.trans (up2_nq (sc_nd (by omega))) (Eq.trans (up2_nq (sc_nd (by omega))) (Eq.trans (congrFun (hzn27.2 _ (sc_nd (by omega))) _) ((hsc _).trans e2)))))))))) ?_
              refine wi_aloadT_0 ct_211_227 ?_
              refine wi_iload_3 ct_211_228 ?_
              refine wi_ic ct_211_229 kc_3 ?_
              refine wi_iadd ct_211_230 rfl ?_
              refine wi_ialdT (j := I + 3) (x := a3) ct_211_231 (sL_SC hS28) (i_in (i_add hi ki_3 (by omega)) (by omega)) (i_cl (i_add hi ki_3 (by omega)) (by omega)) ((Eq.trans (up2_nq (by decide)) (Eq.trans (up2_nq (sc_nd (by omega))) (Eq.trans (up2_nq (sc_nd (by omega))) (Eq.trans (up2_nq (sc_nd (by omega))) (Eq.trans (up2_nq (sc_nd (by omega))) (Eq.trans (up2_nq (sc_nd (by omega))) (Eq.trans (up2_nq (sc_nd (by omega))) (Eq.trans (congrFun (hzn27.2 _ (sc_nd (by omega))) _) ((hsc _).trans e3)))))))))) ?_
              refine wi_aloadT_0 ct_211_232 ?_
              refine wi_iload_3 ct_211_233 ?_
              refine wi_ic ct_211_234 kc_4 ?_
              refine wi_iadd ct_211_235 rfl ?_
              refine wi_ialdT (j := I + 4) (x := a4) ct_211_236 (sL_SC hS28) (i_in (i_add hi ki_4 (by omega)) (by omega)) (i_cl (i_add hi ki_4 (by omega)) (by omega)) ((Eq.trans (up2_nq (by decide)) (Eq.trans (up2_nq (sc_nd (by omega))) (Eq.trans (up2_nq (sc_nd (by omega))) (Eq.trans (up2_nq (sc_nd (by omega))) (Eq.trans (up2_nq (sc_nd (by omega))) (Eq.trans (up2_nq (sc_nd (by omega))) (Eq.trans (up2_nq (sc_nd (by omega))) (Eq.trans (congrFun (hzn27.2 _ (sc_nd (by omega))) _) ((hsc _).trans e4)))))))))) ?_
              refine wi_cv4 (ls' := [some _, some _, some _, some _, some _, none]) ct_211_237 (Nat.le_of_ble_eq_true rfl) (by decide) (sT_31 hS28) rfl (by decide) rfl rfl (Nat.le_of_ble_eq_true rfl) ?_
              refine wi_aload_0 ct_121_0 ?_
              refine wi_iload_1 ct_121_1 ?_
              refine wi_ic ct_121_2 kc_0 ?_
              refine wi_ic ct_121_3 kc_6 ?_
              refine wi_cv3 (ls' := [some _, some _, some _, some _]) ct_121_5 (Nat.le_of_ble_eq_true rfl) (by decide) (sT_31 hS28) rfl (by decide) rfl rfl (Nat.le_of_ble_eq_true rfl) ?_
              refine c_in rfl ki_0 ki_6 (fun _ => wk_i ?_) (fun h => absurd h (by omega))
              refine wi_ifne_t ct_121_8 ki_1 (by decide) ?_
              refine wi_aload_0 ct_121_13 ?_
              refine wi_iload_2 ct_121_14 ?_
              refine wi_ic ct_121_15 kc_0 ?_
              refine wi_ic ct_121_16 kc_9 ?_
              refine wi_cv3 (ls' := [some _, some _, some _, some _]) ct_121_18 (Nat.le_of_ble_eq_true rfl) (by decide) (sT_31 hS28) rfl (by decide) rfl rfl (Nat.le_of_ble_eq_true rfl) ?_
              refine c_in rfl ki_0 ki_9 (fun _ => wk_i ?_) (fun h => absurd h (by omega))
              refine wi_ifeq_f ct_121_21 ki_1 (by decide) ?_
              refine wi_aload_0 ct_121_24 ?_
              refine wi_iload_3 ct_121_25 ?_
              refine wi_ic ct_121_26 kc_1 ?_
              refine wi_ic ct_121_27 kc_9 ?_
              refine wi_cv3 (ls' := [some _, some _, some _, some _]) ct_121_29 (Nat.le_of_ble_eq_true rfl) (by decide) (sT_31 hS28) rfl (by decide) rfl rfl (Nat.le_of_ble_eq_true rfl) ?_
              refine c_in rfl ki_1 ki_9 (fun _ => wk_i ?_) (fun h => absurd h (by omega))
              refine wi_ifeq_f ct_121_32 ki_1 (by decide) ?_
              refine wi_aload_0 ct_121_35 ?_
              refine wi_iload_4 ct_121_36 ?_
              refine wi_ic ct_121_38 kc_1 ?_
              refine wi_ic ct_121_39 kc_60 ?_
              refine wi_cv3 (ls' := [some _, some _, some _, some _]) ct_121_41 (Nat.le_of_ble_eq_true rfl) (by decide) (sT_31 hS28) rfl (by decide) rfl rfl (Nat.le_of_ble_eq_true rfl) ?_
              refine c_in rfl ki_1 ki_60 (fun _ => wk_i ?_) (fun h => absurd h (by omega))
              refine wi_ifne_t ct_121_44 ki_1 (by decide) ?_
              refine wi_aload_0 ct_121_50 ?_
              refine wi_gf (x := fi 31 0) ct_121_51 (sT_31 hS28) rfl rfl (Eq.trans (up2_nq (by decide)) (Eq.trans (up2_nq (by omega)) (Eq.trans (up2_nq (by omega)) (Eq.trans (up2_nq (by omega)) (Eq.trans (up2_nq (by omega)) (Eq.trans (up2_nq (by omega)) (Eq.trans (up2_nq (by omega)) (congrFun (hzn27.2 _ (by omega)) _)))))))) ?_
              refine wi_ic ct_121_54 kc_5 ?_
              refine wi_icne_t ct_121_55 hBn ki_5 (by omega) ?_
              refine wi_aload_0 ct_121_61 ?_
              refine wi_gfr ct_121_62 (sT_31 hS28) rfl (sR_31_2 hS28) ?_
              refine wi_aload_0 ct_121_65 ?_
              refine wi_gf (x := fi 31 0) ct_121_66 (sT_31 hS28) rfl rfl (Eq.trans (up2_nq (by decide)) (Eq.trans (up2_nq (by omega)) (Eq.trans (up2_nq (by omega)) (Eq.trans (up2_nq (by omega)) (Eq.trans (up2_nq (by omega)) (Eq.trans (up2_nq (by omega)) (Eq.trans (up2_nq (by omega)) (congrFun (hzn27.2 _ (by omega)) _)))))))) ?_
              refine wi_iload_1 ct_121_69 ?_
              refine wi_iast ct_121_70 (sT_32 hS28) (sL_32 hS28) (i_in hBn (by omega)) (i_cl (k := B) hBn (by omega)) ?_
              refine wi_aload_0 ct_121_71 ?_
              refine wi_gfr ct_121_72 (sT_31 hS28) rfl (sR_31_3 hS28) ?_
              refine wi_aload_0 ct_121_75 ?_
              refine wi_gf (x := fi 31 0) ct_121_76 (sT_31 hS28) rfl rfl (Eq.trans (up2_nq (by decide)) (Eq.trans (up2_nq (by decide)) (Eq.trans (up2_nq (by omega)) (Eq.trans (up2_nq (by omega)) (Eq.trans (up2_nq (by omega)) (Eq.trans (up2_nq (by omega)) (Eq.trans (up2_nq (by omega)) (Eq.trans (up2_nq (by omega)) (congrFun (hzn27.2 _ (by omega)) _))))))))) ?_
              refine wi_iload_2 ct_121_79 ?_
              refine wi_iast ct_121_80 (sT_33 hS28) (sL_33 hS28) (i_in hBn (by omega)) (i_cl (k := B) hBn (by omega)) ?_
              refine wi_aload_0 ct_121_81 ?_
              refine wi_gfr ct_121_82 (sT_31 hS28) rfl (sR_31_4 hS28) ?_
              refine wi_aload_0 ct_121_85 ?_
              refine wi_gf (x := fi 31 0) ct_121_86 (sT_31 hS28) rfl rfl (Eq.trans (up2_nq (by decide)) (Eq.trans (up2_nq (by decide)) (Eq.trans (up2_nq (by decide)) (Eq.trans (up2_nq (by omega)) (Eq.trans (up2_nq (by omega)) (Eq.trans (up2_nq (by omega)) (Eq.trans (up2_nq (by omega)) (Eq.trans (up2_nq (by omega)) (Eq.trans (up2_nq (by omega)) (congrFun (hzn27.2 _ (by omega)) _)))))))))) ?_
              refine wi_iload_3 ct_121_89 ?_
              refine wi_iast ct_121_90 (sT_34 hS28) (sL_34 hS28) (i_in hBn (by omega)) (i_cl (k := B) hBn (by omega)) ?_
              refine wi_aload_0 ct_121_91 ?_
              refine wi_gfr ct_121_92 (sT_31 hS28) rfl (sR_31_5 hS28) ?_
              refine wi_aload_0 ct_121_95 ?_
              refine wi_gf (x := fi 31 0) ct_121_96 (sT_31 hS28) rfl rfl (Eq.trans (up2_nq (by decide)) (Eq.trans (up2_nq (by decide)) (Eq.trans (up2_nq (by decide)) (Eq.trans (up2_nq (by decide)) (Eq.trans (up2_nq (by omega)) (Eq.trans (up2_nq (by omega)) (Eq.trans (up2_nq (by omega)) (Eq.trans (up2_nq (by omega)) (Eq.trans (up2_nq (by omega)) (Eq.trans (up2_nq (by omega)) (congrFun (hzn27.2 _ (by omega)) _))))))))))) ?_
              refine wi_iload_4 ct_121_99 ?_
              refine wi_iast ct_121_101 (sT_35 hS28) (sL_35 hS28) (i_in hBn (by omega)) (i_cl (k := B) hBn (by omega)) ?_
              refine wi_aload_0 ct_121_102 ?_
              refine wi_gfr ct_121_103 (sT_31 hS28) rfl (sR_31_6 hS28) ?_
              refine wi_aload_0 ct_121_106 ?_
              refine wi_gf (x := fi 31 0) ct_121_107 (sT_31 hS28) rfl rfl (Eq.trans (up2_nq (by decide)) (Eq.trans (up2_nq (by decide)) (Eq.trans (up2_nq (by decide)) (Eq.trans (up2_nq (by decide)) (Eq.trans (up2_nq (by decide)) (Eq.trans (up2_nq (by omega)) (Eq.trans (up2_nq (by omega)) (Eq.trans (up2_nq (by omega)) (Eq.trans (up2_nq (by omega)) (Eq.trans (up2_nq (by omega)) (Eq.trans (up2_nq (by omega)) (congrFun (hzn27.2 _ (by omega)) _)))))))))))) ?_
              refine wi_ic ct_121_110 kc_0 ?_
              refine wi_iast ct_121_111 (sT_36 hS28) (sL_36 hS28) (i_in hBn (by omega)) (i_cl (k := B) hBn (by omega)) ?_
              refine wi_ic ct_121_112 kc_0 ?_
              refine wi_istore_5 rfl ct_121_113 ?_
              refine wi_iload_5 ct_121_115 ?_
              refine wi_ic ct_121_117 kc_4 ?_
              refine wi_icge_f ct_121_118 ki_0 ki_4 (by decide) ?_
              refine wi_aload_0 ct_121_121 ?_
              refine wi_gfr ct_121_122 (sT_31 hS28) rfl (sR_31_7 hS28) ?_
              refine wi_ic ct_121_125 kc_4 ?_
              refine wi_aload_0 ct_121_126 ?_
              refine wi_gf (x := fi 31 0) ct_121_127 (sT_31 hS28) rfl rfl (Eq.trans (up2_nq (by decide)) (Eq.trans (up2_nq (by decide)) (Eq.trans (up2_nq (by decide)) (Eq.trans (up2_nq (by decide)) (Eq.trans (up2_nq (by decide)) (Eq.trans (up2_nq (by decide)) (Eq.trans (up2_nq (by omega)) (Eq.trans (up2_nq (by omega)) (Eq.trans (up2_nq (by omega)) (Eq.trans (up2_nq (by omega)) (Eq.trans (up2_nq (by omega)) (Eq.trans (up2_nq (by omega)) (congrFun (hzn27.2 _ (by omega)) _))))))))))))) ?_
              refine wi_imul ct_121_130 rfl ?_
              refine wi_iload_5 ct_121_131 ?_
              refine wi_iadd ct_121_133 rfl ?_
              refine wi_ic ct_121_134 kc_0 ?_
              refine wi_iast ct_121_135 (sT_37 hS28) (sL_37 hS28) (i_in (i_add (i_mul ki_4 hBn (by omega)) ki_0 (by omega)) (by omega)) (i_cl (k := (4 * B)) (i_add (i_mul ki_4 hBn (by omega)) ki_0 (by omega)) (by omega)) ?_
              refine wi_iinc_5 rfl (z := 1) ct_121_136 (by decide) ?_
              refine wi_goto ct_121_139 ?_
              refine wi_iload_5 ct_121_115 ?_
              refine wi_ic ct_121_117 kc_4 ?_
              refine wi_icge_f ct_121_118 ki_1 ki_4 (by decide) ?_
              refine wi_aload_0 ct_121_121 ?_
              refine wi_gfr ct_121_122 (sT_31 hS28) rfl (sR_31_7 hS28) ?_
              refine wi_ic ct_121_125 kc_4 ?_
              refine wi_aload_0 ct_121_126 ?_
              refine wi_gf (x := fi 31 0) ct_121_127 (sT_31 hS28) rfl rfl (Eq.trans (up2_nq (by decide)) (Eq.trans (up2_nq (by decide)) (Eq.trans (up2_nq (by decide)) (Eq.trans (up2_nq (by decide)) (Eq.trans (up2_nq (by decide)) (Eq.trans (up2_nq (by decide)) (Eq.trans (up2_nq (by decide)) (Eq.trans (up2_nq (by omega)) (Eq.trans (up2_nq (by omega)) (Eq.trans (up2_nq (by omega)) (Eq.trans (up2_nq (by omega)) (Eq.trans (up2_nq (by omega)) (Eq.trans (up2_nq (by omega)) (congrFun (hzn27.2 _ (by omega)) _)))))))))))))) ?_
              refine wi_imul ct_121_130 rfl ?_
              refine wi_iload_5 ct_121_131 ?_
              refine wi_iadd ct_121_133 rfl ?_
              refine wi_ic ct_121_134 kc_0 ?_
              refine wi_iast ct_121_135 (sT_37 hS28) (sL_37 hS28) (i_in (i_add (i_mul ki_4 hBn (by omega)) ki_1 (by omega)) (by omega)) (i_cl (k := (4 * B + 1)) (i_add (i_mul ki_4 hBn (by omega)) ki_1 (by omega)) (by omega)) ?_
              refine wi_iinc_5 rfl (z := 2) ct_121_136 (by decide) ?_
              refine wi_goto ct_121_139 ?_
              refine wi_iload_5 ct_121_115 ?_
              refine wi_ic ct_121_117 kc_4 ?_
              refine wi_icge_f ct_121_118 ki_2 ki_4 (by decide) ?_
              refine wi_aload_0 ct_121_121 ?_
              refine wi_gfr ct_121_122 (sT_31 hS28) rfl (sR_31_7 hS28) ?_
              refine wi_ic ct_121_125 kc_4 ?_
              refine wi_aload_0 ct_121_126 ?_
              refine wi_gf (x := fi 31 0) ct_121_127 (sT_31 hS28) rfl rfl (Eq.trans (up2_nq (by decide)) (Eq.trans (up2_nq (by decide)) (Eq.trans (up2_nq (by decide)) (Eq.trans (up2_nq (by decide)) (Eq.trans (up2_nq (by decide)) (Eq.trans (up2_nq (by decide)) (Eq.trans (up2_nq (by decide)) (Eq.trans (up2_nq (by decide)) (Eq.trans (up2_nq (by omega)) (Eq.trans (up2_nq (by omega)) (Eq.trans (up2_nq (by omega)) (Eq.trans (up2_nq (by omega)) (Eq.trans (up2_nq (by omega)) (Eq.trans (up2_nq (by omega)) (congrFun (hzn27.2 _ (by omega)) _))))))))))))))) ?_
              refine wi_imul ct_121_130 rfl ?_
              refine wi_iload_5 ct_121_131 ?_
              refine wi_iadd ct_121_133 rfl ?_
              refine wi_ic ct_121_134 kc_0 ?_
              refine wi_iast ct_121_135 (sT_37 hS28) (sL_37 hS28) (i_in (i_add (i_mul ki_4 hBn (by omega)) ki_2 (by omega)) (by omega)) (i_cl (k := (4 * B + 2)) (i_add (i_mul ki_4 hBn (by omega)) ki_2 (by omega)) (by omega)) ?_
              refine wi_iinc_5 rfl (z := 3) ct_121_136 (by decide) ?_
              refine wi_goto ct_121_139 ?_
              refine wi_iload_5 ct_121_115 ?_
              refine wi_ic ct_121_117 kc_4 ?_
              refine wi_icge_f ct_121_118 ki_3 ki_4 (by decide) ?_
              refine wi_aload_0 ct_121_121 ?_
              refine wi_gfr ct_121_122 (sT_31 hS28) rfl (sR_31_7 hS28) ?_
              refine wi_ic ct_121_125 kc_4 ?_
              refine wi_aload_0 ct_121_126 ?_
              refine wi_gf (x := fi 31 0) ct_121_127 (sT_31 hS28) rfl rfl (Eq.trans (up2_nq (by decide)) (Eq.trans (up2_nq (by decide)) (Eq.trans (up2_nq (by decide)) (Eq.trans (up2_nq (by decide)) (Eq.trans (up2_nq (by decide)) (Eq.trans (up2_nq (by decide)) (Eq.trans (up2_nq (by decide)) (Eq.trans (up2_nq (by decide)) (Eq.trans (up2_nq (by decide)) (Eq.trans (up2_nq (by omega)) (Eq.trans (up2_nq (by omega)) (Eq.trans (up2_nq (by omega)) (Eq.trans (up2_nq (by omega)) (Eq.trans (up2_nq (by omega)) (Eq.trans (up2_nq (by omega)) (congrFun (hzn27.2 _ (by omega)) _)))))))))))))))) ?_
              refine wi_imul ct_121_130 rfl ?_
              refine wi_iload_5 ct_121_131 ?_
              refine wi_iadd ct_121_133 rfl ?_
              refine wi_ic ct_121_134 kc_0 ?_
              refine wi_iast ct_121_135 (sT_37 hS28) (sL_37 hS28) (i_in (i_add (i_mul ki_4 hBn (by omega)) ki_3 (by omega)) (by omega)) (i_cl (k := (4 * B + 3)) (i_add (i_mul ki_4 hBn (by omega)) ki_3 (by omega)) (by omega)) ?_
              refine wi_iinc_5 rfl (z := 4) ct_121_136 (by decide) ?_
              refine wi_goto ct_121_139 ?_
              refine wi_iload_5 ct_121_115 ?_
              refine wi_ic ct_121_117 kc_4 ?_
              refine wi_icge_t ct_121_118 ki_4 ki_4 (by decide) ?_
              refine wi_aload_0 ct_121_142 ?_
              refine wi_dup ct_121_143 rfl ?_
              refine wi_gf (x := fi 31 0) ct_121_144 (sT_31 hS28) rfl rfl (Eq.trans (up2_nq (by decide)) (Eq.trans (up2_nq (by decide)) (Eq.trans (up2_nq (by decide)) (Eq.trans (up2_nq (by decide)) (Eq.trans (up2_nq (by decide)) (Eq.trans (up2_nq (by decide)) (Eq.trans (up2_nq (by decide)) (Eq.trans (up2_nq (by decide)) (Eq.trans (up2_nq (by decide)) (Eq.trans (up2_nq (by decide)) (Eq.trans (up2_nq (by omega)) (Eq.trans (up2_nq (by omega)) (Eq.trans (up2_nq (by omega)) (Eq.trans (up2_nq (by omega)) (Eq.trans (up2_nq (by omega)) (Eq.trans (up2_nq (by omega)) (congrFun (hzn27.2 _ (by omega)) _))))))))))))))))) ?_
              refine wi_ic ct_121_147 kc_1 ?_
              refine wi_iadd ct_121_148 rfl ?_
              refine wi_pf ct_121_149 (sT_31 hS28) rfl ?_
              refine wi_aload_0 ct_121_152 ?_
              refine wi_gf (x := (fi 31 0 + 1)) ct_121_153 (sT_31 hS28) rfl rfl up2_eq ?_
              refine wi_ic ct_121_156 kc_1 ?_
              refine wi_isub ct_121_157 rfl ?_
              refine wi_iret ct_121_158 rfl (wk_i ?_)
              refine wi_iceq_t ct_211_240 hBn (i_sub (i_add hBn ki_1 (by omega)) ki_1 (by omega)) (by omega) ?_
              have hnl := hmn27.2.1
              have hsl1 := hmn27.2.2.1
              have nf : am_nf 0 = 6 := rfl
              have hnf : am_nx (am_gr gn27 2 B (some p)) = am_nx gn27 := rfl
              have hsf : am_sl (am_gr gn27 2 B (some p)) = am_sl gn27 := rfl
              refine kk (fun q => if q = p then 10 + B else own q) (am_gr gn27 2 B (some p)) (up2 (up2 (up2 (up2 (up2 (up2 (up2 (up2 (up2 (up2 (up2 (up2 (up2 (up2 (up2 (up2 (up2 fin27 p 5 (0)) p 0 (a1)) p 1 (fi 31 0)) p 2 (a2)) p 3 (a3)) p 4 (a4)) 1 1 ((fi 31 0 + 1))) 32 B (a1)) 33 B (a2)) 34 B (a3)) 35 B (a4)) 36 B (0)) 37 (4 * B) (0)) 37 (4 * B + 1) (0)) 37 (4 * B + 2) (0)) 37 (4 * B + 3) (0)) 31 0 ((fi 31 0 + 1))) _ (hR.one (B := B) hBn (by omega) hS28 ⟨by omega, fun q h1 h2 _ => ⟨((hmn27.2.2.2.2.2.2 _ (by omega)).1), ((hmn27.2.2.2.2.2.2 _ (by omega)).2.1), funext fun j => (Eq.trans (gr_nq (by omega)) (congrFun (hmn27.2.2.2.2.2.2 _ (by omega)).2.2 _)), if_neg (by omega), (Eq.trans (funext fun _ => up2_nq (by omega)) (Eq.trans (funext fun _ => up2_nq (by omega)) (Eq.trans (funext fun _ => up2_nq (by omega)) (Eq.trans (funext fun _ => up2_nq (by omega)) (Eq.trans (funext fun _ => up2_nq (by omega)) (Eq.trans (funext fun _ => up2_nq (by omega)) (Eq.trans (funext fun _ => up2_nq (by omega)) (Eq.trans (funext fun _ => up2_nq (by omega)) (Eq.trans (funext fun _ => up2_nq (by omega)) (Eq.trans (funext fun _ => up2_nq (by omega)) (Eq.trans (funext fun _ => up2_nq (by omega)) (Eq.trans (funext fun _ => up2_nq (by omega)) (Eq.trans (funext fun _ => up2_nq (by omega)) (Eq.trans (funext fun _ => up2_nq (by omega)) (Eq.trans (funext fun _ => up2_nq (by omega)) (Eq.trans (funext fun _ => up2_nq (by omega)) (Eq.trans (funext fun _ => up2_nq (by omega)) (hzn27.2 _ (by omega)))))))))))))))))))⟩⟩ (fun q hq => ((hmn27.2.2.2.2.2.2 _ (by omega)).1)) (fun q j h1 h2 => (Eq.trans (if_neg (by omega)) (congrFun (hmn27.2.2.2.2.2.2 _ (by omega)).2.2 _))) (Eq.trans (funext fun _ => up2_nq (by first | decide | exact sc_nd (by omega))) (Eq.trans (funext fun _ => up2_nq (by first | decide | exact sc_nd (by omega))) (Eq.trans (funext fun _ => up2_nq (by first | decide | exact sc_nd (by omega))) (Eq.trans (funext fun _ => up2_nq (by first | decide | exact sc_nd (by omega))) (Eq.trans (funext fun _ => up2_nq (by first | decide | exact sc_nd (by omega))) (Eq.trans (funext fun _ => up2_nq (by first | decide | exact sc_nd (by omega))) (Eq.trans (funext fun _ => up2_nq (by first | decide | exact sc_nd (by omega))) (Eq.trans (funext fun _ => up2_nq (by first | decide | exact sc_nd (by omega))) (Eq.trans (funext fun _ => up2_nq (by first | decide | exact sc_nd (by omega))) (Eq.trans (funext fun _ => up2_nq (by first | decide | exact sc_nd (by omega))) (Eq.trans (funext fun _ => up2_nq (by first | decide | exact sc_nd (by omega))) (Eq.trans (funext fun _ => up2_nq (by first | decide | exact sc_nd (by omega))) (Eq.trans (funext fun _ => up2_nq (by first | decide | exact sc_nd (by omega))) (Eq.trans (funext fun _ => up2_nq (by first | decide | exact sc_nd (by omega))) (Eq.trans (funext fun _ => up2_nq (by first | decide | exact sc_nd (by omega))) (Eq.trans (funext fun _ => up2_nq (by first | decide | exact sc_nd (by omega))) (Eq.trans (funext fun _ => up2_nq (by first | decide | exact sc_nd (by omega))) (hzn27.2 _ (sc_nd (by omega)))))))))))))))))))) (fun q h1 h2 => (Eq.trans (funext fun _ => up2_nq (by omega)) (Eq.trans (funext fun _ => up2_nq (by omega)) (Eq.trans (funext fun _ => up2_nq (by omega)) (Eq.trans (funext fun _ => up2_nq (by omega)) (Eq.trans (funext fun _ => up2_nq (by omega)) (Eq.trans (funext fun _ => up2_nq (by omega)) (Eq.trans (funext fun _ => up2_nq (by omega)) (Eq.trans (funext fun _ => up2_nq (by omega)) (Eq.trans (funext fun _ => up2_nq (by omega)) (Eq.trans (funext fun _ => up2_nq (by omega)) (Eq.trans (funext fun _ => up2_nq (by omega)) (Eq.trans (funext fun _ => up2_nq (by omega)) (Eq.trans (funext fun _ => up2_nq (by omega)) (Eq.trans (funext fun _ => up2_nq (by omega)) (Eq.trans (funext fun _ => up2_nq (by omega)) (Eq.trans (funext fun _ => up2_nq (by omega)) (Eq.trans (funext fun _ => up2_nq (by omega)) (hzn27.2 _ (by omega)))))))))))))))))))) (fun j hj => (Eq.trans (up2_nq (by omega)) (Eq.trans (up2_nq (by omega)) (Eq.trans (up2_nq (by omega)) (Eq.trans (up2_nq (by omega)) (Eq.trans (up2_nq (by omega)) (Eq.trans (up2_nq (by omega)) (Eq.trans (up2_nq (by omega)) (Eq.trans (up2_nq (by omega)) (Eq.trans (up2_nq (by omega)) (Eq.trans (up2_nq (by omega)) (Eq.trans (up2_nj hj) (Eq.trans (up2_nq (by omega)) (Eq.trans (up2_nq (by omega)) (Eq.trans (up2_nq (by omega)) (Eq.trans (up2_nq (by omega)) (Eq.trans (up2_nq (by omega)) (Eq.trans (up2_nq (by omega)) (congrFun (hzn27.2 _ (by omega)) _))))))))))))))))))) (fun j hj => (Eq.trans (up2_nj hj) (Eq.trans (up2_nq (by omega)) (Eq.trans (up2_nq (by omega)) (Eq.trans (up2_nq (by omega)) (Eq.trans (up2_nq (by omega)) (Eq.trans (up2_nq (by omega)) (Eq.trans (up2_nq (by omega)) (Eq.trans (up2_nq (by omega)) (Eq.trans (up2_nq (by omega)) (Eq.trans (up2_nq (by omega)) (Eq.trans (up2_nq (by omega)) (Eq.trans (up2_nq (by omega)) (Eq.trans (up2_nq (by omega)) (Eq.trans (up2_nq (by omega)) (Eq.trans (up2_nq (by omega)) (Eq.trans (up2_nq (by omega)) (Eq.trans (up2_nq (by omega)) (congrFun (hzn27.2 _ (by omega)) _))))))))))))))))))) ⟨((Eq.trans (up2_nq (by decide)) (Eq.trans (up2_nq (by decide)) (Eq.trans (up2_nq (by decide)) (Eq.trans (up2_nq (by decide)) (Eq.trans (up2_nq (by decide)) (Eq.trans (up2_nq (by decide)) (Eq.trans (up2_nq (by decide)) (Eq.trans (up2_nq (by decide)) (Eq.trans (up2_nq (by decide)) (Eq.trans (up2_nq (by decide)) up2_eq))))))))))).trans (up2_eq).symm, ?_⟩ (fun q b h1 h2 h3 => ?_) (fun b j h1 h2 => (Eq.trans (up2_nq (by omega)) (Eq.trans (up2_nj (by omega)) (Eq.trans (up2_nj (by omega)) (Eq.trans (up2_nj (by omega)) (Eq.trans (up2_nj (by omega)) (Eq.trans (up2_nq (by omega)) (Eq.trans (up2_nq (by omega)) (Eq.trans (up2_nq (by omega)) (Eq.trans (up2_nq (by omega)) (Eq.trans (up2_nq (by omega)) (Eq.trans (up2_nq (by omega)) (Eq.trans (up2_nq (by omega)) (Eq.trans (up2_nq (by omega)) (Eq.trans (up2_nq (by omega)) (Eq.trans (up2_nq (by omega)) (Eq.trans (up2_nq (by omega)) (Eq.trans (up2_nq (by omega)) (congrFun (hzn27.2 _ (by omega)) _))))))))))))))))))) (fun q hq => (hln27.2 _ (by omega))) ?_ ⟨p, 0, ⟨gr_eq, ⟨by omega, by omega, if_pos rfl⟩, ?_, ((Eq.trans (up2_nq (by omega)) (Eq.trans (up2_nq (by omega)) (Eq.trans (up2_nq (by omega)) (Eq.trans (up2_nq (by omega)) (Eq.trans (up2_nq (by omega)) (Eq.trans (up2_nq (by omega)) (Eq.trans (up2_nq (by omega)) (Eq.trans (up2_nq (by omega)) (Eq.trans (up2_nq (by omega)) (Eq.trans (up2_nq (by omega)) (Eq.trans (up2_nq (by omega)) (Eq.trans (up2_nj (by decide)) (Eq.trans (up2_nj (by decide)) (Eq.trans (up2_nj (by decide)) (Eq.trans (up2_nj (by decide)) up2_eq)))))))))))))))).trans ((Eq.trans (up2_nq (by decide)) (Eq.trans (up2_nq (by decide)) (Eq.trans (up2_nq (by decide)) (Eq.trans (up2_nq (by decide)) (Eq.trans (up2_nq (by decide)) (Eq.trans (up2_nq (by decide)) (Eq.trans (up2_nq (by decide)) (Eq.trans (up2_nq (by decide)) (Eq.trans (up2_nq (by decide)) up2_eq)))))))))).symm, ?_, ((Eq.trans (up2_nq (by omega)) (Eq.trans (up2_nq (by omega)) (Eq.trans (up2_nq (by omega)) (Eq.trans (up2_nq (by omega)) (Eq.trans (up2_nq (by omega)) (Eq.trans (up2_nq (by omega)) (Eq.trans (up2_nq (by omega)) (Eq.trans (up2_nq (by omega)) (Eq.trans (up2_nq (by omega)) (Eq.trans (up2_nq (by omega)) (Eq.trans (up2_nq (by omega)) (Eq.trans (up2_nj (by decide)) (Eq.trans (up2_nj (by decide)) up2_eq)))))))))))))).trans ((Eq.trans (up2_nq (by decide)) (Eq.trans (up2_nq (by decide)) (Eq.trans (up2_nq (by decide)) (Eq.trans (up2_nq (by decide)) (Eq.trans (up2_nq (by decide)) (Eq.trans (up2_nq (by decide)) (Eq.trans (up2_nq (by decide)) (Eq.trans (up2_nq (by decide)) up2_eq))))))))).symm, ((Eq.trans (up2_nq (by omega)) (Eq.trans (up2_nq (by omega)) (Eq.trans (up2_nq (by omega)) (Eq.trans (up2_nq (by omega)) (Eq.trans (up2_nq (by omega)) (Eq.trans (up2_nq (by omega)) (Eq.trans (up2_nq (by omega)) (Eq.trans (up2_nq (by omega)) (Eq.trans (up2_nq (by omega)) (Eq.trans (up2_nq (by omega)) (Eq.trans (up2_nq (by omega)) (Eq.trans (up2_nj (by decide)) up2_eq))))))))))))).trans ((Eq.trans (up2_nq (by decide)) (Eq.trans (up2_nq (by decide)) (Eq.trans (up2_nq (by decide)) (Eq.trans (up2_nq (by decide)) (Eq.trans (up2_nq (by decide)) (Eq.trans (up2_nq (by decide)) (Eq.trans (up2_nq (by decide)) up2_eq)))))))).symm, ((Eq.trans (up2_nq (by omega)) (Eq.trans (up2_nq (by omega)) (Eq.trans (up2_nq (by omega)) (Eq.trans (up2_nq (by omega)) (Eq.trans (up2_nq (by omega)) (Eq.trans (up2_nq (by omega)) (Eq.trans (up2_nq (by omega)) (Eq.trans (up2_nq (by omega)) (Eq.trans (up2_nq (by omega)) (Eq.trans (up2_nq (by omega)) (Eq.trans (up2_nq (by omega)) up2_eq)))))))))))).trans ((Eq.trans (up2_nq (by decide)) (Eq.trans (up2_nq (by decide)) (Eq.trans (up2_nq (by decide)) (Eq.trans (up2_nq (by decide)) (Eq.trans (up2_nq (by decide)) (Eq.trans (up2_nq (by decide)) up2_eq))))))).symm, ((Eq.trans (up2_nq (by omega)) (Eq.trans (up2_nq (by omega)) (Eq.trans (up2_nq (by omega)) (Eq.trans (up2_nq (by omega)) (Eq.trans (up2_nq (by omega)) (Eq.trans (up2_nq (by omega)) (Eq.trans (up2_nq (by omega)) (Eq.trans (up2_nq (by omega)) (Eq.trans (up2_nq (by omega)) (Eq.trans (up2_nq (by omega)) (Eq.trans (up2_nq (by omega)) (Eq.trans (up2_nj (by decide)) (Eq.trans (up2_nj (by decide)) (Eq.trans (up2_nj (by decide)) (Eq.trans (up2_nj (by decide)) (Eq.trans (up2_nj (by decide)) up2_eq))))))))))))))))).trans ((Eq.trans (up2_nq (by decide)) (Eq.trans (up2_nq (by decide)) (Eq.trans (up2_nq (by decide)) (Eq.trans (up2_nq (by decide)) (Eq.trans (up2_nq (by decide)) up2_eq)))))).symm, ?_⟩, ((congrArg (fun t => am_sub t 0) hmn27.2.2.2.1).trans rfl)⟩) (by omega) (by omega)
              · exact (congrArg Int32.toInt (up2_eq)).trans ((i_add hBn ki_1 (by omega)).trans (by omega))
              · exact (Eq.trans (if_neg (by omega)) (Eq.trans (if_neg (by omega)) (Eq.trans (if_neg (by omega)) (Eq.trans (if_neg (by omega)) (Eq.trans (if_neg (by omega)) (Eq.trans (if_neg (by omega)) (Eq.trans (if_neg (by omega)) (Eq.trans (if_neg (by omega)) (Eq.trans (if_neg (by omega)) (Eq.trans (if_neg (by omega)) (Eq.trans (if_neg (by omega)) (Eq.trans (if_neg (by omega)) (Eq.trans (if_neg (by omega)) (Eq.trans (if_neg (by omega)) (Eq.trans (if_neg (by omega)) (Eq.trans (if_neg (by omega)) (Eq.trans (if_neg (by omega)) (congrFun (hzn27.2 _ (by omega)) _))))))))))))))))))
              · unfold RM
                rw [show (up2 (up2 (up2 (up2 (up2 (up2 (up2 (up2 (up2 (up2 (up2 (up2 (up2 (up2 (up2 (up2 (up2 fin27 p 5 (0)) p 0 (a1)) p 1 (fi 31 0)) p 2 (a2)) p 3 (a3)) p 4 (a4)) 1 1 ((fi 31 0 + 1))) 32 B (a1)) 33 B (a2)) 34 B (a3)) 35 B (a4)) 36 B (0)) 37 (4 * B) (0)) 37 (4 * B + 1) (0)) 37 (4 * B + 2) (0)) 37 (4 * B + 3) (0)) 31 0 ((fi 31 0 + 1))) 32 B = a1 from (Eq.trans (up2_nq (by decide)) (Eq.trans (up2_nq (by decide)) (Eq.trans (up2_nq (by decide)) (Eq.trans (up2_nq (by decide)) (Eq.trans (up2_nq (by decide)) (Eq.trans (up2_nq (by decide)) (Eq.trans (up2_nq (by decide)) (Eq.trans (up2_nq (by decide)) (Eq.trans (up2_nq (by decide)) up2_eq)))))))))]
                rw [show (up2 (up2 (up2 (up2 (up2 (up2 (up2 (up2 (up2 (up2 (up2 (up2 (up2 (up2 (up2 (up2 (up2 fin27 p 5 (0)) p 0 (a1)) p 1 (fi 31 0)) p 2 (a2)) p 3 (a3)) p 4 (a4)) 1 1 ((fi 31 0 + 1))) 32 B (a1)) 33 B (a2)) 34 B (a3)) 35 B (a4)) 36 B (0)) 37 (4 * B) (0)) 37 (4 * B + 1) (0)) 37 (4 * B + 2) (0)) 37 (4 * B + 3) (0)) 31 0 ((fi 31 0 + 1))) 33 B = a2 from (Eq.trans (up2_nq (by decide)) (Eq.trans (up2_nq (by decide)) (Eq.trans (up2_nq (by decide)) (Eq.trans (up2_nq (by decide)) (Eq.trans (up2_nq (by decide)) (Eq.trans (up2_nq (by decide)) (Eq.trans (up2_nq (by decide)) (Eq.trans (up2_nq (by decide)) up2_eq))))))))]
                rw [show (up2 (up2 (up2 (up2 (up2 (up2 (up2 (up2 (up2 (up2 (up2 (up2 (up2 (up2 (up2 (up2 (up2 fin27 p 5 (0)) p 0 (a1)) p 1 (fi 31 0)) p 2 (a2)) p 3 (a3)) p 4 (a4)) 1 1 ((fi 31 0 + 1))) 32 B (a1)) 33 B (a2)) 34 B (a3)) 35 B (a4)) 36 B (0)) 37 (4 * B) (0)) 37 (4 * B + 1) (0)) 37 (4 * B + 2) (0)) 37 (4 * B + 3) (0)) 31 0 ((fi 31 0 + 1))) 34 B = a3 from (Eq.trans (up2_nq (by decide)) (Eq.trans (up2_nq (by decide)) (Eq.trans (up2_nq (by decide)) (Eq.trans (up2_nq (by decide)) (Eq.trans (up2_nq (by decide)) (Eq.trans (up2_nq (by decide)) (Eq.trans (up2_nq (by decide)) up2_eq)))))))]
                rw [show (up2 (up2 (up2 (up2 (up2 (up2 (up2 (up2 (up2 (up2 (up2 (up2 (up2 (up2 (up2 (up2 (up2 fin27 p 5 (0)) p 0 (a1)) p 1 (fi 31 0)) p 2 (a2)) p 3 (a3)) p 4 (a4)) 1 1 ((fi 31 0 + 1))) 32 B (a1)) 33 B (a2)) 34 B (a3)) 35 B (a4)) 36 B (0)) 37 (4 * B) (0)) 37 (4 * B + 1) (0)) 37 (4 * B + 2) (0)) 37 (4 * B + 3) (0)) 31 0 ((fi 31 0 + 1))) 35 B = a4 from (Eq.trans (up2_nq (by decide)) (Eq.trans (up2_nq (by decide)) (Eq.trans (up2_nq (by decide)) (Eq.trans (up2_nq (by decide)) (Eq.trans (up2_nq (by decide)) (Eq.trans (up2_nq (by decide)) up2_eq))))))]
                rw [show (up2 (up2 (up2 (up2 (up2 (up2 (up2 (up2 (up2 (up2 (up2 (up2 (up2 (up2 (up2 (up2 (up2 fin27 p 5 (0)) p 0 (a1)) p 1 (fi 31 0)) p 2 (a2)) p 3 (a3)) p 4 (a4)) 1 1 ((fi 31 0 + 1))) 32 B (a1)) 33 B (a2)) 34 B (a3)) 35 B (a4)) 36 B (0)) 37 (4 * B) (0)) 37 (4 * B + 1) (0)) 37 (4 * B + 2) (0)) 37 (4 * B + 3) (0)) 31 0 ((fi 31 0 + 1))) 36 B = 0 from (Eq.trans (up2_nq (by decide)) (Eq.trans (up2_nq (by decide)) (Eq.trans (up2_nq (by decide)) (Eq.trans (up2_nq (by decide)) (Eq.trans (up2_nq (by decide)) up2_eq)))))]
                refine ⟨by omega, by omega, by omega, by omega, by decide, fun j hj => ?_⟩
                match j, hj with
                | 0, _ => rw [show (up2 (up2 (up2 (up2 (up2 (up2 (up2 (up2 (up2 (up2 (up2 (up2 (up2 (up2 (up2 (up2 (up2 fin27 p 5 (0)) p 0 (a1)) p 1 (fi 31 0)) p 2 (a2)) p 3 (a3)) p 4 (a4)) 1 1 ((fi 31 0 + 1))) 32 B (a1)) 33 B (a2)) 34 B (a3)) 35 B (a4)) 36 B (0)) 37 (4 * B) (0)) 37 (4 * B + 1) (0)) 37 (4 * B + 2) (0)) 37 (4 * B + 3) (0)) 31 0 ((fi 31 0 + 1))) 37 (4 * B + 0) = 0 from (Eq.trans (up2_nq (by decide)) (Eq.trans (up2_nj (by omega)) (Eq.trans (up2_nj (by omega)) (Eq.trans (up2_nj (by omega)) up2_eq))))]; decide
                | 1, _ => rw [show (up2 (up2 (up2 (up2 (up2 (up2 (up2 (up2 (up2 (up2 (up2 (up2 (up2 (up2 (up2 (up2 (up2 fin27 p 5 (0)) p 0 (a1)) p 1 (fi 31 0)) p 2 (a2)) p 3 (a3)) p 4 (a4)) 1 1 ((fi 31 0 + 1))) 32 B (a1)) 33 B (a2)) 34 B (a3)) 35 B (a4)) 36 B (0)) 37 (4 * B) (0)) 37 (4 * B + 1) (0)) 37 (4 * B + 2) (0)) 37 (4 * B + 3) (0)) 31 0 ((fi 31 0 + 1))) 37 (4 * B + 1) = 0 from (Eq.trans (up2_nq (by decide)) (Eq.trans (up2_nj (by omega)) (Eq.trans (up2_nj (by omega)) up2_eq)))]; decide
                | 2, _ => rw [show (up2 (up2 (up2 (up2 (up2 (up2 (up2 (up2 (up2 (up2 (up2 (up2 (up2 (up2 (up2 (up2 (up2 fin27 p 5 (0)) p 0 (a1)) p 1 (fi 31 0)) p 2 (a2)) p 3 (a3)) p 4 (a4)) 1 1 ((fi 31 0 + 1))) 32 B (a1)) 33 B (a2)) 34 B (a3)) 35 B (a4)) 36 B (0)) 37 (4 * B) (0)) 37 (4 * B + 1) (0)) 37 (4 * B + 2) (0)) 37 (4 * B + 3) (0)) 31 0 ((fi 31 0 + 1))) 37 (4 * B + 2) = 0 from (Eq.trans (up2_nq (by decide)) (Eq.trans (up2_nj (by omega)) up2_eq))]; decide
                | 3, _ => rw [show (up2 (up2 (up2 (up2 (up2 (up2 (up2 (up2 (up2 (up2 (up2 (up2 (up2 (up2 (up2 (up2 (up2 fin27 p 5 (0)) p 0 (a1)) p 1 (fi 31 0)) p 2 (a2)) p 3 (a3)) p 4 (a4)) 1 1 ((fi 31 0 + 1))) 32 B (a1)) 33 B (a2)) 34 B (a3)) 35 B (a4)) 36 B (0)) 37 (4 * B) (0)) 37 (4 * B + 1) (0)) 37 (4 * B + 2) (0)) 37 (4 * B + 3) (0)) 31 0 ((fi 31 0 + 1))) 37 (4 * B + 3) = 0 from (Eq.trans (up2_nq (by decide)) up2_eq)]; decide
                | j + 4, h => exact absurd h (by omega)
              · exact hmn27.2.2.2.1.trans (by rw [show (up2 (up2 (up2 (up2 (up2 (up2 (up2 (up2 (up2 (up2 (up2 (up2 (up2 (up2 (up2 (up2 (up2 fin27 p 5 (0)) p 0 (a1)) p 1 (fi 31 0)) p 2 (a2)) p 3 (a3)) p 4 (a4)) 1 1 ((fi 31 0 + 1))) 32 B (a1)) 33 B (a2)) 34 B (a3)) 35 B (a4)) 36 B (0)) 37 (4 * B) (0)) 37 (4 * B + 1) (0)) 37 (4 * B + 2) (0)) 37 (4 * B + 3) (0)) 31 0 ((fi 31 0 + 1))) 32 B = a1 from (Eq.trans (up2_nq (by decide)) (Eq.trans (up2_nq (by decide)) (Eq.trans (up2_nq (by decide)) (Eq.trans (up2_nq (by decide)) (Eq.trans (up2_nq (by decide)) (Eq.trans (up2_nq (by decide)) (Eq.trans (up2_nq (by decide)) (Eq.trans (up2_nq (by decide)) (Eq.trans (up2_nq (by decide)) up2_eq))))))))), show (a1).toInt = 0 by omega] <;> rfl)
              · exact (congrArg Int32.toInt ((Eq.trans (up2_nq (by omega)) (Eq.trans (up2_nq (by omega)) (Eq.trans (up2_nq (by omega)) (Eq.trans (up2_nq (by omega)) (Eq.trans (up2_nq (by omega)) (Eq.trans (up2_nq (by omega)) (Eq.trans (up2_nq (by omega)) (Eq.trans (up2_nq (by omega)) (Eq.trans (up2_nq (by omega)) (Eq.trans (up2_nq (by omega)) (Eq.trans (up2_nq (by omega)) (Eq.trans (up2_nj (by decide)) (Eq.trans (up2_nj (by decide)) (Eq.trans (up2_nj (by decide)) up2_eq)))))))))))))))).trans hBn
              · intro h6
                rw [show (up2 (up2 (up2 (up2 (up2 (up2 (up2 (up2 (up2 (up2 (up2 (up2 (up2 (up2 (up2 (up2 (up2 fin27 p 5 (0)) p 0 (a1)) p 1 (fi 31 0)) p 2 (a2)) p 3 (a3)) p 4 (a4)) 1 1 ((fi 31 0 + 1))) 32 B (a1)) 33 B (a2)) 34 B (a3)) 35 B (a4)) 36 B (0)) 37 (4 * B) (0)) 37 (4 * B + 1) (0)) 37 (4 * B + 2) (0)) 37 (4 * B + 3) (0)) 31 0 ((fi 31 0 + 1))) 32 B = a1 from (Eq.trans (up2_nq (by decide)) (Eq.trans (up2_nq (by decide)) (Eq.trans (up2_nq (by decide)) (Eq.trans (up2_nq (by decide)) (Eq.trans (up2_nq (by decide)) (Eq.trans (up2_nq (by decide)) (Eq.trans (up2_nq (by decide)) (Eq.trans (up2_nq (by decide)) (Eq.trans (up2_nq (by decide)) up2_eq)))))))))] at h6
                exact absurd h6 (by omega)
            · skip
              refine wi_ic ct_67_57 kc_m4 ?_
              refine wi_iret ct_67_59 rfl (wk_i ?_)
              refine wi_aload_2 ct_211_216 ?_
              refine wi_aloadT_0 ct_211_217 ?_
              refine wi_iload_3 ct_211_218 ?_
              refine wi_ic ct_211_219 kc_1 ?_
              refine wi_iadd ct_211_220 rfl ?_
              refine wi_ialdT (j := I + 1) (x := a1) ct_211_221 (sL_SC hS) (i_in (i_add hi ki_1 (by omega)) (by omega)) (i_cl (i_add hi ki_1 (by omega)) (by omega)) (((hsc _).trans e1)) ?_
              refine wi_aloadT_0 ct_211_222 ?_
              refine wi_iload_3 ct_211_223 ?_
              refine wi_ic ct_211_224 kc_2 ?_
              refine wi_iadd ct_211_225 rfl ?_
              refine wi_ialdT (j := I + 2) (x := a2) ct_211_226 (sL_SC hS) (i_in (i_add hi ki_2 (by omega)) (by omega)) (i_cl (i_add hi ki_2 (by omega)) (by omega)) (((hsc _).trans e2)) ?_
              refine wi_aloadT_0 ct_211_227 ?_
              refine wi_iload_3 ct_211_228 ?_
              refine wi_ic ct_211_229 kc_3 ?_
              refine wi_iadd ct_211_230 rfl ?_
              refine wi_ialdT (j := I + 3) (x := a3) ct_211_231 (sL_SC hS) (i_in (i_add hi ki_3 (by omega)) (by omega)) (i_cl (i_add hi ki_3 (by omega)) (by omega)) (((hsc _).trans e3)) ?_
              refine wi_aloadT_0 ct_211_232 ?_
              refine wi_iload_3 ct_211_233 ?_
              refine wi_ic ct_211_234 kc_4 ?_
              refine wi_iadd ct_211_235 rfl ?_
              refine wi_ialdT (j := I + 4) (x := a4) ct_211_236 (sL_SC hS) (i_in (i_add hi ki_4 (by omega)) (by omega)) (i_cl (i_add hi ki_4 (by omega)) (by omega)) (((hsc _).trans e4)) ?_
              refine wi_cv4 (ls' := [some _, some _, some _, some _, some _, none]) ct_211_237 (Nat.le_of_ble_eq_true rfl) (by decide) (sT_31 hS) rfl (by decide) rfl rfl (Nat.le_of_ble_eq_true rfl) ?_
              refine wi_aload_0 ct_121_0 ?_
              refine wi_iload_1 ct_121_1 ?_
              refine wi_ic ct_121_2 kc_0 ?_
              refine wi_ic ct_121_3 kc_6 ?_
              refine wi_cv3 (ls' := [some _, some _, some _, some _]) ct_121_5 (Nat.le_of_ble_eq_true rfl) (by decide) (sT_31 hS) rfl (by decide) rfl rfl (Nat.le_of_ble_eq_true rfl) ?_
              refine c_in rfl ki_0 ki_6 (fun _ => wk_i ?_) (fun h => absurd h (by omega))
              refine wi_ifne_t ct_121_8 ki_1 (by decide) ?_
              refine wi_aload_0 ct_121_13 ?_
              refine wi_iload_2 ct_121_14 ?_
              refine wi_ic ct_121_15 kc_0 ?_
              refine wi_ic ct_121_16 kc_9 ?_
              refine wi_cv3 (ls' := [some _, some _, some _, some _]) ct_121_18 (Nat.le_of_ble_eq_true rfl) (by decide) (sT_31 hS) rfl (by decide) rfl rfl (Nat.le_of_ble_eq_true rfl) ?_
              refine c_in rfl ki_0 ki_9 (fun _ => wk_i ?_) (fun h => absurd h (by omega))
              refine wi_ifeq_f ct_121_21 ki_1 (by decide) ?_
              refine wi_aload_0 ct_121_24 ?_
              refine wi_iload_3 ct_121_25 ?_
              refine wi_ic ct_121_26 kc_1 ?_
              refine wi_ic ct_121_27 kc_9 ?_
              refine wi_cv3 (ls' := [some _, some _, some _, some _]) ct_121_29 (Nat.le_of_ble_eq_true rfl) (by decide) (sT_31 hS) rfl (by decide) rfl rfl (Nat.le_of_ble_eq_true rfl) ?_
              refine c_in rfl ki_1 ki_9 (fun _ => wk_i ?_) (fun h => absurd h (by omega))
              refine wi_ifeq_f ct_121_32 ki_1 (by decide) ?_
              refine wi_aload_0 ct_121_35 ?_
              refine wi_iload_4 ct_121_36 ?_
              refine wi_ic ct_121_38 kc_1 ?_
              refine wi_ic ct_121_39 kc_60 ?_
              refine wi_cv3 (ls' := [some _, some _, some _, some _]) ct_121_41 (Nat.le_of_ble_eq_true rfl) (by decide) (sT_31 hS) rfl (by decide) rfl rfl (Nat.le_of_ble_eq_true rfl) ?_
              refine c_in rfl ki_1 ki_60 (fun _ => wk_i ?_) (fun h => absurd h (by omega))
              refine wi_ifne_t ct_121_44 ki_1 (by decide) ?_
              refine wi_aload_0 ct_121_50 ?_
              refine wi_gf (x := fi 31 0) ct_121_51 (sT_31 hS) rfl rfl rfl ?_
              refine wi_ic ct_121_54 kc_5 ?_
              refine wi_icne_f ct_121_55 hBn ki_5 (by omega) ?_
              refine wi_ic ct_121_58 kc_m4 ?_
              refine wi_iret ct_121_60 rfl (wk_i ?_)
              refine wi_iceq_t ct_211_240 ki_m4 ki_m4 (by decide) ?_
              exact kk own g fi fl hR (by omega) (by omega)
          · skip
            refine wi_ifne_f ct_67_40 ki_0 (by decide) ?_
            refine wi_ic ct_67_43 kc_m2 ?_
            refine wi_iret ct_67_45 rfl (wk_i ?_)
            refine wi_aload_2 ct_211_216 ?_
            refine wi_aloadT_0 ct_211_217 ?_
            refine wi_iload_3 ct_211_218 ?_
            refine wi_ic ct_211_219 kc_1 ?_
            refine wi_iadd ct_211_220 rfl ?_
            refine wi_ialdT (j := I + 1) (x := a1) ct_211_221 (sL_SC hS) (i_in (i_add hi ki_1 (by omega)) (by omega)) (i_cl (i_add hi ki_1 (by omega)) (by omega)) (((hsc _).trans e1)) ?_
            refine wi_aloadT_0 ct_211_222 ?_
            refine wi_iload_3 ct_211_223 ?_
            refine wi_ic ct_211_224 kc_2 ?_
            refine wi_iadd ct_211_225 rfl ?_
            refine wi_ialdT (j := I + 2) (x := a2) ct_211_226 (sL_SC hS) (i_in (i_add hi ki_2 (by omega)) (by omega)) (i_cl (i_add hi ki_2 (by omega)) (by omega)) (((hsc _).trans e2)) ?_
            refine wi_aloadT_0 ct_211_227 ?_
            refine wi_iload_3 ct_211_228 ?_
            refine wi_ic ct_211_229 kc_3 ?_
            refine wi_iadd ct_211_230 rfl ?_
            refine wi_ialdT (j := I + 3) (x := a3) ct_211_231 (sL_SC hS) (i_in (i_add hi ki_3 (by omega)) (by omega)) (i_cl (i_add hi ki_3 (by omega)) (by omega)) (((hsc _).trans e3)) ?_
            refine wi_aloadT_0 ct_211_232 ?_
            refine wi_iload_3 ct_211_233 ?_
            refine wi_ic ct_211_234 kc_4 ?_
            refine wi_iadd ct_211_235 rfl ?_
            refine wi_ialdT (j := I + 4) (x := a4) ct_211_236 (sL_SC hS) (i_in (i_add hi ki_4 (by omega)) (by omega)) (i_cl (i_add hi ki_4 (by omega)) (by omega)) (((hsc _).trans e4)) ?_
            refine wi_cv4 (ls' := [some _, some _, some _, some _, some _, none]) ct_211_237 (Nat.le_of_ble_eq_true rfl) (by decide) (sT_31 hS) rfl (by decide) rfl rfl (Nat.le_of_ble_eq_true rfl) ?_
            refine wi_aload_0 ct_121_0 ?_
            refine wi_iload_1 ct_121_1 ?_
            refine wi_ic ct_121_2 kc_0 ?_
            refine wi_ic ct_121_3 kc_6 ?_
            refine wi_cv3 (ls' := [some _, some _, some _, some _]) ct_121_5 (Nat.le_of_ble_eq_true rfl) (by decide) (sT_31 hS) rfl (by decide) rfl rfl (Nat.le_of_ble_eq_true rfl) ?_
            refine c_in rfl ki_0 ki_6 (fun _ => wk_i ?_) (fun h => absurd h (by omega))
            refine wi_ifne_t ct_121_8 ki_1 (by decide) ?_
            refine wi_aload_0 ct_121_13 ?_
            refine wi_iload_2 ct_121_14 ?_
            refine wi_ic ct_121_15 kc_0 ?_
            refine wi_ic ct_121_16 kc_9 ?_
            refine wi_cv3 (ls' := [some _, some _, some _, some _]) ct_121_18 (Nat.le_of_ble_eq_true rfl) (by decide) (sT_31 hS) rfl (by decide) rfl rfl (Nat.le_of_ble_eq_true rfl) ?_
            refine c_in rfl ki_0 ki_9 (fun _ => wk_i ?_) (fun h => absurd h (by omega))
            refine wi_ifeq_f ct_121_21 ki_1 (by decide) ?_
            refine wi_aload_0 ct_121_24 ?_
            refine wi_iload_3 ct_121_25 ?_
            refine wi_ic ct_121_26 kc_1 ?_
            refine wi_ic ct_121_27 kc_9 ?_
            refine wi_cv3 (ls' := [some _, some _, some _, some _]) ct_121_29 (Nat.le_of_ble_eq_true rfl) (by decide) (sT_31 hS) rfl (by decide) rfl rfl (Nat.le_of_ble_eq_true rfl) ?_
            refine c_in rfl ki_1 ki_9 (fun _ => wk_i ?_) (fun h => absurd h (by omega))
            refine wi_ifeq_f ct_121_32 ki_1 (by decide) ?_
            refine wi_aload_0 ct_121_35 ?_
            refine wi_iload_4 ct_121_36 ?_
            refine wi_ic ct_121_38 kc_1 ?_
            refine wi_ic ct_121_39 kc_60 ?_
            refine wi_cv3 (ls' := [some _, some _, some _, some _]) ct_121_41 (Nat.le_of_ble_eq_true rfl) (by decide) (sT_31 hS) rfl (by decide) rfl rfl (Nat.le_of_ble_eq_true rfl) ?_
            refine c_in rfl ki_1 ki_60 (fun h => absurd h (by omega)) (fun _ => wk_i ?_)
            refine wi_ifne_f ct_121_44 ki_0 (by decide) ?_
            refine wi_ic ct_121_47 kc_m2 ?_
            refine wi_iret ct_121_49 rfl (wk_i ?_)
            refine wi_iceq_t ct_211_240 ki_m2 ki_m2 (by decide) ?_
            exact kk own g fi fl hR (by omega) (by omega)
        · skip
          refine wi_ifeq_t ct_67_29 ki_0 (by decide) ?_
          refine wi_ic ct_67_43 kc_m2 ?_
          refine wi_iret ct_67_45 rfl (wk_i ?_)
          refine wi_aload_2 ct_211_216 ?_
          refine wi_aloadT_0 ct_211_217 ?_
          refine wi_iload_3 ct_211_218 ?_
          refine wi_ic ct_211_219 kc_1 ?_
          refine wi_iadd ct_211_220 rfl ?_
          refine wi_ialdT (j := I + 1) (x := a1) ct_211_221 (sL_SC hS) (i_in (i_add hi ki_1 (by omega)) (by omega)) (i_cl (i_add hi ki_1 (by omega)) (by omega)) (((hsc _).trans e1)) ?_
          refine wi_aloadT_0 ct_211_222 ?_
          refine wi_iload_3 ct_211_223 ?_
          refine wi_ic ct_211_224 kc_2 ?_
          refine wi_iadd ct_211_225 rfl ?_
          refine wi_ialdT (j := I + 2) (x := a2) ct_211_226 (sL_SC hS) (i_in (i_add hi ki_2 (by omega)) (by omega)) (i_cl (i_add hi ki_2 (by omega)) (by omega)) (((hsc _).trans e2)) ?_
          refine wi_aloadT_0 ct_211_227 ?_
          refine wi_iload_3 ct_211_228 ?_
          refine wi_ic ct_211_229 kc_3 ?_
          refine wi_iadd ct_211_230 rfl ?_
          refine wi_ialdT (j := I + 3) (x := a3) ct_211_231 (sL_SC hS) (i_in (i_add hi ki_3 (by omega)) (by omega)) (i_cl (i_add hi ki_3 (by omega)) (by omega)) (((hsc _).trans e3)) ?_
          refine wi_aloadT_0 ct_211_232 ?_
          refine wi_iload_3 ct_211_233 ?_
          refine wi_ic ct_211_234 kc_4 ?_
          refine wi_iadd ct_211_235 rfl ?_
          refine wi_ialdT (j := I + 4) (x := a4) ct_211_236 (sL_SC hS) (i_in (i_add hi ki_4 (by omega)) (by omega)) (i_cl (i_add hi ki_4 (by omega)) (by omega)) (((hsc _).trans e4)) ?_
          refine wi_cv4 (ls' := [some _, some _, some _, some _, some _, none]) ct_211_237 (Nat.le_of_ble_eq_true rfl) (by decide) (sT_31 hS) rfl (by decide) rfl rfl (Nat.le_of_ble_eq_true rfl) ?_
          refine wi_aload_0 ct_121_0 ?_
          refine wi_iload_1 ct_121_1 ?_
          refine wi_ic ct_121_2 kc_0 ?_
          refine wi_ic ct_121_3 kc_6 ?_
          refine wi_cv3 (ls' := [some _, some _, some _, some _]) ct_121_5 (Nat.le_of_ble_eq_true rfl) (by decide) (sT_31 hS) rfl (by decide) rfl rfl (Nat.le_of_ble_eq_true rfl) ?_
          refine c_in rfl ki_0 ki_6 (fun _ => wk_i ?_) (fun h => absurd h (by omega))
          refine wi_ifne_t ct_121_8 ki_1 (by decide) ?_
          refine wi_aload_0 ct_121_13 ?_
          refine wi_iload_2 ct_121_14 ?_
          refine wi_ic ct_121_15 kc_0 ?_
          refine wi_ic ct_121_16 kc_9 ?_
          refine wi_cv3 (ls' := [some _, some _, some _, some _]) ct_121_18 (Nat.le_of_ble_eq_true rfl) (by decide) (sT_31 hS) rfl (by decide) rfl rfl (Nat.le_of_ble_eq_true rfl) ?_
          refine c_in rfl ki_0 ki_9 (fun _ => wk_i ?_) (fun h => absurd h (by omega))
          refine wi_ifeq_f ct_121_21 ki_1 (by decide) ?_
          refine wi_aload_0 ct_121_24 ?_
          refine wi_iload_3 ct_121_25 ?_
          refine wi_ic ct_121_26 kc_1 ?_
          refine wi_ic ct_121_27 kc_9 ?_
          refine wi_cv3 (ls' := [some _, some _, some _, some _]) ct_121_29 (Nat.le_of_ble_eq_true rfl) (by decide) (sT_31 hS) rfl (by decide) rfl rfl (Nat.le_of_ble_eq_true rfl) ?_
          refine c_in rfl ki_1 ki_9 (fun h => absurd h (by omega)) (fun _ => wk_i ?_)
          refine wi_ifeq_t ct_121_32 ki_0 (by decide) ?_
          refine wi_ic ct_121_47 kc_m2 ?_
          refine wi_iret ct_121_49 rfl (wk_i ?_)
          refine wi_iceq_t ct_211_240 ki_m2 ki_m2 (by decide) ?_
          exact kk own g fi fl hR (by omega) (by omega)
      · skip
        refine wi_ifeq_t ct_67_19 ki_0 (by decide) ?_
        refine wi_ic ct_67_43 kc_m2 ?_
        refine wi_iret ct_67_45 rfl (wk_i ?_)
        refine wi_aload_2 ct_211_216 ?_
        refine wi_aloadT_0 ct_211_217 ?_
        refine wi_iload_3 ct_211_218 ?_
        refine wi_ic ct_211_219 kc_1 ?_
        refine wi_iadd ct_211_220 rfl ?_
        refine wi_ialdT (j := I + 1) (x := a1) ct_211_221 (sL_SC hS) (i_in (i_add hi ki_1 (by omega)) (by omega)) (i_cl (i_add hi ki_1 (by omega)) (by omega)) (((hsc _).trans e1)) ?_
        refine wi_aloadT_0 ct_211_222 ?_
        refine wi_iload_3 ct_211_223 ?_
        refine wi_ic ct_211_224 kc_2 ?_
        refine wi_iadd ct_211_225 rfl ?_
        refine wi_ialdT (j := I + 2) (x := a2) ct_211_226 (sL_SC hS) (i_in (i_add hi ki_2 (by omega)) (by omega)) (i_cl (i_add hi ki_2 (by omega)) (by omega)) (((hsc _).trans e2)) ?_
        refine wi_aloadT_0 ct_211_227 ?_
        refine wi_iload_3 ct_211_228 ?_
        refine wi_ic ct_211_229 kc_3 ?_
        refine wi_iadd ct_211_230 rfl ?_
        refine wi_ialdT (j := I + 3) (x := a3) ct_211_231 (sL_SC hS) (i_in (i_add hi ki_3 (by omega)) (by omega)) (i_cl (i_add hi ki_3 (by omega)) (by omega)) (((hsc _).trans e3)) ?_
        refine wi_aloadT_0 ct_211_232 ?_
        refine wi_iload_3 ct_211_233 ?_
        refine wi_ic ct_211_234 kc_4 ?_
        refine wi_iadd ct_211_235 rfl ?_
        refine wi_ialdT (j := I + 4) (x := a4) ct_211_236 (sL_SC hS) (i_in (i_add hi ki_4 (by omega)) (by omega)) (i_cl (i_add hi ki_4 (by omega)) (by omega)) (((hsc _).trans e4)) ?_
        refine wi_cv4 (ls' := [some _, some _, some _, some _, some _, none]) ct_211_237 (Nat.le_of_ble_eq_true rfl) (by decide) (sT_31 hS) rfl (by decide) rfl rfl (Nat.le_of_ble_eq_true rfl) ?_
        refine wi_aload_0 ct_121_0 ?_
        refine wi_iload_1 ct_121_1 ?_
        refine wi_ic ct_121_2 kc_0 ?_
        refine wi_ic ct_121_3 kc_6 ?_
        refine wi_cv3 (ls' := [some _, some _, some _, some _]) ct_121_5 (Nat.le_of_ble_eq_true rfl) (by decide) (sT_31 hS) rfl (by decide) rfl rfl (Nat.le_of_ble_eq_true rfl) ?_
        refine c_in rfl ki_0 ki_6 (fun _ => wk_i ?_) (fun h => absurd h (by omega))
        refine wi_ifne_t ct_121_8 ki_1 (by decide) ?_
        refine wi_aload_0 ct_121_13 ?_
        refine wi_iload_2 ct_121_14 ?_
        refine wi_ic ct_121_15 kc_0 ?_
        refine wi_ic ct_121_16 kc_9 ?_
        refine wi_cv3 (ls' := [some _, some _, some _, some _]) ct_121_18 (Nat.le_of_ble_eq_true rfl) (by decide) (sT_31 hS) rfl (by decide) rfl rfl (Nat.le_of_ble_eq_true rfl) ?_
        refine c_in rfl ki_0 ki_9 (fun h => absurd h (by omega)) (fun _ => wk_i ?_)
        refine wi_ifeq_t ct_121_21 ki_0 (by decide) ?_
        refine wi_ic ct_121_47 kc_m2 ?_
        refine wi_iret ct_121_49 rfl (wk_i ?_)
        refine wi_iceq_t ct_211_240 ki_m2 ki_m2 (by decide) ?_
        exact kk own g fi fl hR (by omega) (by omega)
    · skip
      refine wi_ic ct_67_10 kc_m1 ?_
      refine wi_iret ct_67_11 rfl (wk_i ?_)
      refine wi_aload_2 ct_211_216 ?_
      refine wi_aloadT_0 ct_211_217 ?_
      refine wi_iload_3 ct_211_218 ?_
      refine wi_ic ct_211_219 kc_1 ?_
      refine wi_iadd ct_211_220 rfl ?_
      refine wi_ialdT (j := I + 1) (x := a1) ct_211_221 (sL_SC hS) (i_in (i_add hi ki_1 (by omega)) (by omega)) (i_cl (i_add hi ki_1 (by omega)) (by omega)) (((hsc _).trans e1)) ?_
      refine wi_aloadT_0 ct_211_222 ?_
      refine wi_iload_3 ct_211_223 ?_
      refine wi_ic ct_211_224 kc_2 ?_
      refine wi_iadd ct_211_225 rfl ?_
      refine wi_ialdT (j := I + 2) (x := a2) ct_211_226 (sL_SC hS) (i_in (i_add hi ki_2 (by omega)) (by omega)) (i_cl (i_add hi ki_2 (by omega)) (by omega)) (((hsc _).trans e2)) ?_
      refine wi_aloadT_0 ct_211_227 ?_
      refine wi_iload_3 ct_211_228 ?_
      refine wi_ic ct_211_229 kc_3 ?_
      refine wi_iadd ct_211_230 rfl ?_
      refine wi_ialdT (j := I + 3) (x := a3) ct_211_231 (sL_SC hS) (i_in (i_add hi ki_3 (by omega)) (by omega)) (i_cl (i_add hi ki_3 (by omega)) (by omega)) (((hsc _).trans e3)) ?_
      refine wi_aloadT_0 ct_211_232 ?_
      refine wi_iload_3 ct_211_233 ?_
      refine wi_ic ct_211_234 kc_4 ?_
      refine wi_iadd ct_211_235 rfl ?_
      refine wi_ialdT (j := I + 4) (x := a4) ct_211_236 (sL_SC hS) (i_in (i_add hi ki_4 (by omega)) (by omega)) (i_cl (i_add hi ki_4 (by omega)) (by omega)) (((hsc _).trans e4)) ?_
      refine wi_cv4 (ls' := [some _, some _, some _, some _, some _, none]) ct_211_237 (Nat.le_of_ble_eq_true rfl) (by decide) (sT_31 hS) rfl (by decide) rfl rfl (Nat.le_of_ble_eq_true rfl) ?_
      refine wi_aload_0 ct_121_0 ?_
      refine wi_iload_1 ct_121_1 ?_
      refine wi_ic ct_121_2 kc_0 ?_
      refine wi_ic ct_121_3 kc_6 ?_
      refine wi_cv3 (ls' := [some _, some _, some _, some _]) ct_121_5 (Nat.le_of_ble_eq_true rfl) (by decide) (sT_31 hS) rfl (by decide) rfl rfl (Nat.le_of_ble_eq_true rfl) ?_
      refine c_in rfl ki_0 ki_6 (fun h => absurd h (by omega)) (fun _ => wk_i ?_)
      refine wi_ifne_f ct_121_8 ki_0 (by decide) ?_
      refine wi_ic ct_121_11 kc_m1 ?_
      refine wi_iret ct_121_12 rfl (wk_i ?_)
      refine wi_iceq_t ct_211_240 ki_m1 ki_m1 (by decide) ?_
      exact kk own g fi fl hR (by omega) (by omega)
