/-! Rel where one of the blowers, the bucket, the minute change. -/
section APT
variable {L : Nat} {xs : Nat → Int32} {G : Nat → Prop} {own own2 : Nat → Nat} {g g2 : am_G} {fi fi2 : am_I} {fl : am_L}
theorem RO.fr2 {b p r : Nat} (h : RO own g fi b p r) (hf : rl_fr G own own2 g g2 fi fi2) (h1 : G (10 + b)) (h2 : G (20 + b)) (er : g2.2.2.1 2 b = g.2.2.1 2 b) (e2 : fi2 32 b = fi 32 b) (e3 : fi2 33 b = fi 33 b) (e4 : fi2 34 b = fi 34 b) (e5 : fi2 35 b = fi 35 b) (e6 : fi2 36 b = fi 36 b) (e7 : ∀ j, j < 4 → fi2 37 (4 * b + j) = fi 37 (4 * b + j)) : RO own2 g2 fi2 b p r := by
  obtain ⟨o0, o1, o2, o3, o4, o5, o6, o7, o8, o9⟩ := h
  obtain ⟨d1, d2, d3, d4, d5⟩ := dy_fr o1 hf h1
  unfold RO
  rw [er, d2, d4, d5, e2, e3, e4, e5, e6]
  refine ⟨o0, d1, o2, o3, o4, o5, o6, o7, o8, fun hk => ?_⟩
  obtain ⟨r0, r1, r2, r3, r4⟩ := o9 hk
  obtain ⟨c1, c2, c3, c4, c5⟩ := dy_fr r1 hf h2
  rw [c2, c3, c5]
  exact ⟨r0, c1, r2, r3, fun j hj => (r4 j hj).trans (e7 j hj).symm⟩
def GB (B : Nat) : Nat → Prop := fun o => o ≠ 10 + B ∧ o ≠ 20 + B
theorem RM.fr2 {b : Nat} (h : RM fi b) (e2 : fi2 32 b = fi 32 b) (e3 : fi2 33 b = fi 33 b) (e4 : fi2 34 b = fi 34 b) (e5 : fi2 35 b = fi 35 b) (e6 : fi2 36 b = fi 36 b) (e7 : ∀ j, j < 4 → fi2 37 (4 * b + j) = fi 37 (4 * b + j)) : RM fi2 b := by
  obtain ⟨h1, h2, h3, h4, h5, h6⟩ := h
  unfold RM
  rw [e2, e3, e4, e5, e6]
  exact ⟨h1, h2, h3, h4, h5, fun j hj => by rw [e7 j hj]; exact h6 j hj⟩
theorem Rel.put (hR : Rel L xs own g fi fl) {B : Nat} (hb5 : B < 5) (hd : ∀ q, 72 ≤ q → q < am_nx g → own q ≠ 10 + B → own q ≠ 20 + B → fi2 q = fi q) (hsc2 : fi2 am_SC = fi am_SC) (hw : ∀ q, q < 72 → ¬ (q = 1 ∨ q = 3 ∨ q = 31 ∨ q = 34 ∨ q = 35 ∨ q = 36 ∨ q = 37 ∨ q = 38) → fi2 q = fi q) (h1 : ∀ j, j ≠ 3 → fi2 1 j = fi 1 j) (h31 : ∀ j, j ≠ 1 → fi2 31 j = fi 31 j) (hm : fi2 1 3 = fi2 31 1 ∧ 0 ≤ (fi2 31 1).toInt ∧ (fi2 31 1).toInt ≤ 9999) (hk : RK fi2) (e4 : ∀ b, b ≠ B → fi2 34 b = fi 34 b) (e5 : ∀ b, b ≠ B → fi2 35 b = fi 35 b) (e6 : ∀ b, b ≠ B → fi2 36 b = fi 36 b) (e7 : ∀ b j, b ≠ B → j < 4 → fi2 37 (4 * b + j) = fi 37 (4 * b + j)) (hBB : RM fi2 B ∧ ∃ p r, RO own g fi2 B p r) : Rel L xs own g fi2 fl := by
  obtain ⟨hS, hsc, hC, hK, hX, hV, hT, hP, hB, hN, hQ, hZ, hI⟩ := hR
  have h5 := hC.1.2.2
  have hf : rl_fr (GB B) own own g g fi fi2 := ⟨Nat.le_refl _, fun q a b c => ⟨rfl, rfl, rfl, rfl, hd q a b c.1 c.2⟩⟩
  have w := fun q a b => hw q a b
  have m := h31
  refine ⟨hS, fun j => (congrFun hsc2 j).trans (hsc j), ?_, hk, ?_, ?_, ?_, ?_, ?_, hN, ?_, hZ, ?_⟩
  · unfold RC
    rw [h1 1 (by decide), h1 4 (by decide), h1 8 (by decide), h1 11 (by decide), w 0 (by decide) (by decide), w 17 (by decide) (by decide), w 21 (by decide) (by decide), m 0 (by decide), m 10 (by decide), m 9 (by decide), m 11 (by decide), m 40 (by decide), m 44 (by decide), m 65 (by decide), m 35 (by decide), m 36 (by decide)]
    obtain ⟨c0, c1, c2⟩ := hC
    exact ⟨c0, hm, c2⟩
  · unfold RX RL
    rw [w 18 (by decide) (by decide), w 39 (by decide) (by decide), w 47 (by decide) (by decide), m 11 (by decide)]
    exact hX
  · unfold RV
    rw [w 4 (by decide) (by decide), w 5 (by decide) (by decide), w 6 (by decide) (by decide), w 7 (by decide) (by decide), w 8 (by decide) (by decide), w 50 (by decide) (by decide), w 51 (by decide) (by decide), w 52 (by decide) (by decide), w 53 (by decide) (by decide), w 54 (by decide) (by decide), m 0 (by decide), m 40 (by decide), m 44 (by decide)]
    exact hV
  · unfold RT
    rw [w 21 (by decide) (by decide), w 67 (by decide) (by decide), m 65 (by decide)]
    exact hT
  · unfold RP
    rw [w 22 (by decide) (by decide), w 23 (by decide) (by decide), w 68 (by decide) (by decide), w 69 (by decide) (by decide)]
    exact hP
  · intro b hb
    rw [m 0 (by decide)] at hb
    rcases Decidable.em (b = B) with e | e
    · rw [e]
      exact hBB
    · obtain ⟨hM, p, r, hO⟩ := hB b hb
      have k2 := congrFun (w 32 (by decide) (by decide)) b
      have k3 := congrFun (w 33 (by decide) (by decide)) b
      exact ⟨hM.fr2 k2 k3 (e4 b e) (e5 b e) (e6 b e) (fun j hj => e7 b j e hj), p, r, hO.fr2 hf ⟨by omega, by omega⟩ ⟨by omega, by omega⟩ rfl k2 k3 (e4 b e) (e5 b e) (e6 b e) (fun j hj => e7 b j e hj)⟩
  · exact hQ.fr hf ⟨by omega, by omega⟩ (m 9 (by decide)) rfl (w 40 (by decide) (by decide)) (w 41 (by decide) (by decide)) (w 42 (by decide) (by decide)) (w 43 (by decide) (by decide)) (w 44 (by decide) (by decide)) (w 45 (by decide) (by decide))
  · exact hI.fr h5 hf (fun o _ _ => ⟨by omega, by omega⟩) (fun _ _ => rfl) rfl (fun _ _ => rfl) (Int.le_of_eq (by rw [m 0 (by decide)])) (Int.le_of_eq (by rw [m 9 (by decide)])) (m 47 (by decide)) (m 48 (by decide)) (m 49 (by decide)) (m 50 (by decide)) (m 51 (by decide)) (m 52 (by decide)) (fun b _ => congrFun (w 32 (by decide) (by decide)) b) (fun b _ => congrFun (w 33 (by decide) (by decide)) b) (w 55 (by decide) (by decide)) (w 56 (by decide) (by decide)) (w 57 (by decide) (by decide)) (w 58 (by decide) (by decide)) (w 59 (by decide) (by decide)) (w 60 (by decide) (by decide)) (w 61 (by decide) (by decide)) (w 62 (by decide) (by decide)) (w 63 (by decide) (by decide)) (w 64 (by decide) (by decide)) (w 65 (by decide) (by decide)) (w 66 (by decide) (by decide))
theorem MB.fr {sq : Option sq_T} {B : Nat} {kd v cd aim X Y Z gust : Int} {row : Nat → Int} {calm : Bool} (h : MB fi sq B kd v cd aim row X Y Z gust calm) (e : ∀ q, q = 31 ∨ q = 32 ∨ q = 33 ∨ q = 34 ∨ q = 35 ∨ q = 37 ∨ q = 38 ∨ (40 ≤ q ∧ q ≤ 45) → fi2 q = fi q) : MB fi2 sq B kd v cd aim row X Y Z gust calm := by
  obtain ⟨h0, h1, h2, h3, hb⟩ := h
  refine ⟨h0.fr (by rw [e 31 (by decide)]) (e 40 (by decide)) (e 41 (by decide)) (e 42 (by decide)) (e 43 (by decide)) (e 44 (by decide)) (e 45 (by decide)), ?_, ?_, ?_, hb⟩
  · rw [e 32 (by decide), e 33 (by decide), e 34 (by decide), e 35 (by decide), e 37 (by decide)]
    exact h1
  · rw [e 38 (by decide)]
    exact h2
  · rw [e 31 (by decide)]
    exact h3
end APT
set_option maxHeartbeats 2000000 in
theorem op_of {L I : Nat} {xs : Nat → Int32} {own : Nat → Nat} {d : Nat} {g : am_G} {fi : am_I} {fl : am_L} {P : Option Value → am_G → am_I → am_L → Prop} {i : Int32} (hi : i.toInt = (I : Int)) (hI6 : I + 6 ≤ L) (hL : L ≤ 3072) (hR : Rel L xs own g fi fl) (hnx : am_nx g ≤ 800000) (kk : ∀ own' g' fi' fl', Rel L xs own' g' fi' fl' → am_nx g' ≤ am_nx g + 30 → am_sl g' ≤ am_sl g + 1000 → WP (d + 60) 211 1359 [some (.retAddr 0), some (.ref 0), some (.ref 31), some (.int i)] [] g' fi' fl' P) : WP (d + 60) 211 245 [some (.retAddr 0), some (.ref 0), some (.ref 31), some (.int i)] [] g fi fl P := by
  obtain ⟨hS, hsc, hC, hK, hX, hV, hT, hP, hB, hN, hQ, hZ, hI⟩ := id hR
  obtain ⟨⟨c0, c0a, c0b⟩, ⟨c1, c1a, c1b⟩, ⟨c2, c2a, c2b⟩, ⟨c3, c3a, c3b⟩, ⟨c4, c4a, c4b⟩, ⟨c5, c5a, c5b⟩, ⟨c6, c6a, c6b⟩, ⟨c7, c7a, c7b⟩, c8, c9⟩ := id hC
  obtain ⟨a1, e1⟩ : ∃ a, xs (I + 1) = a := ⟨_, rfl⟩
  obtain ⟨a2, e2⟩ : ∃ a, xs (I + 2) = a := ⟨_, rfl⟩
  by_cases hA : 0 ≤ (a1).toInt ∧ (a1).toInt < (fi 31 0).toInt
  · skip
    obtain ⟨B, hBa⟩ : ∃ B : Nat, (a1).toInt = (B : Int) := ⟨(a1).toInt.toNat, by omega⟩
    have hBn := hBa
    obtain ⟨p, r, kd, v, cd, aim, co, row, hW⟩ := BLW.of hB c0b (B := B) (by omega)
    obtain ⟨sq, hsq, hsx⟩ := sq_of hR
    obtain ⟨hB5, hO, w32, w33, w34, w35, w36, w37, k6, v9, d9, a60, co9, r9⟩ := id hW
    obtain ⟨o0, ⟨o72, onx, oow⟩, ot, ok, on, ov, oc, oa, om, orw⟩ := id hO
    have kq := fun j (h : j < 3) => (hK j (by omega)).2
    have hk0 := kq 0 (by decide)
    have hk1 := kq 1 (by decide)
    have hk2 := kq 2 (by decide)
    replace hk0 := And.intro hk0.1 (hk0.2.2 (by decide))
    replace hk1 := And.intro hk1.1 (hk1.2.2 (by decide))
    replace hk2 := And.intro hk2.1 (hk2.2.2 (by decide))
    have hGb := goodV_bd hk0 hk1 hk2
    refine wi_aload_1 ct_211_245 ?_
    refine wi_aloadT_0 ct_211_246 ?_
    refine wi_iload_3 ct_211_247 ?_
    refine wi_ic ct_211_248 kc_1 ?_
    refine wi_iadd ct_211_249 rfl ?_
    refine wi_ialdT (j := I + 1) (x := a1) ct_211_250 (sL_SC hS) (i_in (i_add hi ki_1 (by omega)) (by omega)) (i_cl (i_add hi ki_1 (by omega)) (by omega)) (((hsc _).trans e1)) ?_
    refine wi_aloadT_0 ct_211_251 ?_
    refine wi_iload_3 ct_211_252 ?_
    refine wi_ic ct_211_253 kc_2 ?_
    refine wi_iadd ct_211_254 rfl ?_
    refine wi_ialdT (j := I + 2) (x := a2) ct_211_255 (sL_SC hS) (i_in (i_add hi ki_2 (by omega)) (by omega)) (i_cl (i_add hi ki_2 (by omega)) (by omega)) (((hsc _).trans e2)) ?_
    refine wi_cv2 (ls' := [some _, some _, some _, none]) ct_211_256 (Nat.le_of_ble_eq_true rfl) (by decide) (sT_0 hS) rfl (by decide) rfl rfl (Nat.le_of_ble_eq_true rfl) ?_
    refine wi_aload_0 ct_68_0 ?_
    refine wi_iload_1 ct_68_1 ?_
    refine wi_cv1 (ls' := [some _, some _]) ct_68_2 (Nat.le_of_ble_eq_true rfl) (by decide) (sT_0 hS) rfl (by decide) rfl rfl (Nat.le_of_ble_eq_true rfl) ?_
    refine wi_iload_1 ct_104_0 ?_
    refine wi_ic ct_104_1 kc_0 ?_
    refine wi_aload_0 ct_104_2 ?_
    refine wi_gfr ct_104_3 (sT_0 hS) rfl (sR_0_0 hS) ?_
    refine wi_gf (x := fi 31 0) ct_104_6 (sT_1 hS) rfl rfl c0 ?_
    refine wi_ic ct_104_9 kc_1 ?_
    refine wi_isub ct_104_10 rfl ?_
    refine wi_cs3 (ls' := [some _, some _, some _]) ct_104_11 (Nat.le_of_ble_eq_true rfl) rfl (Nat.le_of_ble_eq_true rfl) ?_
    refine c_within hBn ki_0 (i_sub rfl ki_1 (by omega)) (fun _ => wk_i ?_) (fun h => absurd h (by omega))
    refine wi_ifeq_f ct_104_14 ki_1 (by decide) ?_
    refine wi_aload_0 ct_104_17 ?_
    refine wi_gfr ct_104_18 (sT_0 hS) rfl (sR_0_0 hS) ?_
    refine wi_gfr ct_104_21 (sT_1 hS) rfl (sR_1_0 hS) ?_
    refine wi_iload_1 ct_104_24 ?_
    refine wi_aald ct_104_25 (sT_2 hS) (by decide) (sL_2 hS) (i_in hBn (by omega)) (i_cl (k := B) hBn (by omega)) o0 ?_
    refine wi_goto ct_104_26 ?_
    refine wi_aret ct_104_30 (wk_r ?_)
    refine wi_astore_3 rfl ct_68_5 ?_
    refine wi_aload_3 ct_68_6 ?_
    refine wi_ifnonnull_r ct_68_7 ?_
    refine wi_iload_2 ct_68_12 ?_
    rcases Decidable.em ((a2).toInt = 0) with h1 | h1
    · refine wi_tsw (X := 0) (t := 48) ct_68_13 (by omega) rfl ?_
      refine wi_aload_3 ct_68_48 ?_
      refine wi_gf (x := fi 32 B) ct_68_49 ot (am_ktb _) rfl ok ?_
      refine wi_iret ct_68_52 rfl (wk_i ?_)
      refine wi_aload_2 ct_211_259 ?_
      refine wi_aloadT_0 ct_211_260 ?_
      refine wi_iload_3 ct_211_261 ?_
      refine wi_ic ct_211_262 kc_1 ?_
      refine wi_iadd ct_211_263 rfl ?_
      refine wi_ialdT (j := I + 1) (x := a1) ct_211_264 (sL_SC hS) (i_in (i_add hi ki_1 (by omega)) (by omega)) (i_cl (i_add hi ki_1 (by omega)) (by omega)) (((hsc _).trans e1)) ?_
      refine wi_aloadT_0 ct_211_265 ?_
      refine wi_iload_3 ct_211_266 ?_
      refine wi_ic ct_211_267 kc_2 ?_
      refine wi_iadd ct_211_268 rfl ?_
      refine wi_ialdT (j := I + 2) (x := a2) ct_211_269 (sL_SC hS) (i_in (i_add hi ki_2 (by omega)) (by omega)) (i_cl (i_add hi ki_2 (by omega)) (by omega)) (((hsc _).trans e2)) ?_
      refine wi_cv2 (ls' := [some _, some _, some _]) ct_211_270 (Nat.le_of_ble_eq_true rfl) (by decide) (sT_31 hS) rfl (by decide) rfl rfl (Nat.le_of_ble_eq_true rfl) ?_
      refine wi_aload_0 ct_122_0 ?_
      refine wi_iload_1 ct_122_1 ?_
      refine wi_cv1 (ls' := [some _, some _]) ct_122_2 (Nat.le_of_ble_eq_true rfl) (by decide) (sT_31 hS) rfl (by decide) rfl rfl (Nat.le_of_ble_eq_true rfl) ?_
      refine wi_aload_0 ct_120_0 ?_
      refine wi_iload_1 ct_120_1 ?_
      refine wi_ic ct_120_2 kc_0 ?_
      refine wi_aload_0 ct_120_3 ?_
      refine wi_gf (x := fi 31 0) ct_120_4 (sT_31 hS) rfl rfl rfl ?_
      refine wi_ic ct_120_7 kc_1 ?_
      refine wi_isub ct_120_8 rfl ?_
      refine wi_cv3 (ls' := [some _, some _, some _, some _]) ct_120_9 (Nat.le_of_ble_eq_true rfl) (by decide) (sT_31 hS) rfl (by decide) rfl rfl (Nat.le_of_ble_eq_true rfl) ?_
      refine c_in hBn ki_0 (i_sub rfl ki_1 (by omega)) (fun _ => wk_i ?_) (fun h => absurd h (by omega))
      refine wi_iret ct_120_12 (by decide) (wk_i ?_)
      refine wi_ifne_t ct_122_5 ki_1 (by decide) ?_
      refine wi_iload_2 ct_122_10 ?_
      refine wi_tsw (X := 0) (t := 44) ct_122_11 (by omega) rfl ?_
      refine wi_aload_0 ct_122_44 ?_
      refine wi_gfr ct_122_45 (sT_31 hS) rfl (sR_31_2 hS) ?_
      refine wi_iload_1 ct_122_48 ?_
      refine wi_iald (x := fi 32 B) ct_122_49 (sT_32 hS) (sL_32 hS) (i_in hBn (by omega)) (i_cl (k := B) hBn (by omega)) rfl ?_
      refine wi_iret ct_122_50 rfl (wk_i ?_)
      refine wi_iceq_t ct_211_273 rfl rfl (by omega) ?_
      exact kk own g fi fl hR (by omega) (by omega)
    rcases Decidable.em ((a2).toInt = 1) with h3 | h3
    · refine wi_tsw (X := 1) (t := 53) ct_68_13 (by omega) rfl ?_
      refine wi_aload_3 ct_68_53 ?_
      refine wi_gf (x := fi 33 B) ct_68_54 ot (am_ktb _) rfl ov ?_
      refine wi_iret ct_68_57 rfl (wk_i ?_)
      refine wi_aload_2 ct_211_259 ?_
      refine wi_aloadT_0 ct_211_260 ?_
      refine wi_iload_3 ct_211_261 ?_
      refine wi_ic ct_211_262 kc_1 ?_
      refine wi_iadd ct_211_263 rfl ?_
      refine wi_ialdT (j := I + 1) (x := a1) ct_211_264 (sL_SC hS) (i_in (i_add hi ki_1 (by omega)) (by omega)) (i_cl (i_add hi ki_1 (by omega)) (by omega)) (((hsc _).trans e1)) ?_
      refine wi_aloadT_0 ct_211_265 ?_
      refine wi_iload_3 ct_211_266 ?_
      refine wi_ic ct_211_267 kc_2 ?_
      refine wi_iadd ct_211_268 rfl ?_
      refine wi_ialdT (j := I + 2) (x := a2) ct_211_269 (sL_SC hS) (i_in (i_add hi ki_2 (by omega)) (by omega)) (i_cl (i_add hi ki_2 (by omega)) (by omega)) (((hsc _).trans e2)) ?_
      refine wi_cv2 (ls' := [some _, some _, some _]) ct_211_270 (Nat.le_of_ble_eq_true rfl) (by decide) (sT_31 hS) rfl (by decide) rfl rfl (Nat.le_of_ble_eq_true rfl) ?_
      refine wi_aload_0 ct_122_0 ?_
      refine wi_iload_1 ct_122_1 ?_
      refine wi_cv1 (ls' := [some _, some _]) ct_122_2 (Nat.le_of_ble_eq_true rfl) (by decide) (sT_31 hS) rfl (by decide) rfl rfl (Nat.le_of_ble_eq_true rfl) ?_
      refine wi_aload_0 ct_120_0 ?_
      refine wi_iload_1 ct_120_1 ?_
      refine wi_ic ct_120_2 kc_0 ?_
      refine wi_aload_0 ct_120_3 ?_
      refine wi_gf (x := fi 31 0) ct_120_4 (sT_31 hS) rfl rfl rfl ?_
      refine wi_ic ct_120_7 kc_1 ?_
      refine wi_isub ct_120_8 rfl ?_
      refine wi_cv3 (ls' := [some _, some _, some _, some _]) ct_120_9 (Nat.le_of_ble_eq_true rfl) (by decide) (sT_31 hS) rfl (by decide) rfl rfl (Nat.le_of_ble_eq_true rfl) ?_
      refine c_in hBn ki_0 (i_sub rfl ki_1 (by omega)) (fun _ => wk_i ?_) (fun h => absurd h (by omega))
      refine wi_iret ct_120_12 (by decide) (wk_i ?_)
      refine wi_ifne_t ct_122_5 ki_1 (by decide) ?_
      refine wi_iload_2 ct_122_10 ?_
      refine wi_tsw (X := 1) (t := 51) ct_122_11 (by omega) rfl ?_
      refine wi_aload_0 ct_122_51 ?_
      refine wi_gfr ct_122_52 (sT_31 hS) rfl (sR_31_3 hS) ?_
      refine wi_iload_1 ct_122_55 ?_
      refine wi_iald (x := fi 33 B) ct_122_56 (sT_33 hS) (sL_33 hS) (i_in hBn (by omega)) (i_cl (k := B) hBn (by omega)) rfl ?_
      refine wi_iret ct_122_57 rfl (wk_i ?_)
      refine wi_iceq_t ct_211_273 rfl rfl (by omega) ?_
      exact kk own g fi fl hR (by omega) (by omega)
    rcases Decidable.em ((a2).toInt = 2) with h5 | h5
    · refine wi_tsw (X := 2) (t := 58) ct_68_13 (by omega) rfl ?_
      refine wi_aload_3 ct_68_58 ?_
      refine wi_gf (x := fi 34 B) ct_68_59 ot (am_ktb _) rfl oc ?_
      refine wi_iret ct_68_62 rfl (wk_i ?_)
      refine wi_aload_2 ct_211_259 ?_
      refine wi_aloadT_0 ct_211_260 ?_
      refine wi_iload_3 ct_211_261 ?_
      refine wi_ic ct_211_262 kc_1 ?_
      refine wi_iadd ct_211_263 rfl ?_
      refine wi_ialdT (j := I + 1) (x := a1) ct_211_264 (sL_SC hS) (i_in (i_add hi ki_1 (by omega)) (by omega)) (i_cl (i_add hi ki_1 (by omega)) (by omega)) (((hsc _).trans e1)) ?_
      refine wi_aloadT_0 ct_211_265 ?_
      refine wi_iload_3 ct_211_266 ?_
      refine wi_ic ct_211_267 kc_2 ?_
      refine wi_iadd ct_211_268 rfl ?_
      refine wi_ialdT (j := I + 2) (x := a2) ct_211_269 (sL_SC hS) (i_in (i_add hi ki_2 (by omega)) (by omega)) (i_cl (i_add hi ki_2 (by omega)) (by omega)) (((hsc _).trans e2)) ?_
      refine wi_cv2 (ls' := [some _, some _, some _]) ct_211_270 (Nat.le_of_ble_eq_true rfl) (by decide) (sT_31 hS) rfl (by decide) rfl rfl (Nat.le_of_ble_eq_true rfl) ?_
      refine wi_aload_0 ct_122_0 ?_
      refine wi_iload_1 ct_122_1 ?_
      refine wi_cv1 (ls' := [some _, some _]) ct_122_2 (Nat.le_of_ble_eq_true rfl) (by decide) (sT_31 hS) rfl (by decide) rfl rfl (Nat.le_of_ble_eq_true rfl) ?_
      refine wi_aload_0 ct_120_0 ?_
      refine wi_iload_1 ct_120_1 ?_
      refine wi_ic ct_120_2 kc_0 ?_
      refine wi_aload_0 ct_120_3 ?_
      refine wi_gf (x := fi 31 0) ct_120_4 (sT_31 hS) rfl rfl rfl ?_
      refine wi_ic ct_120_7 kc_1 ?_
      refine wi_isub ct_120_8 rfl ?_
      refine wi_cv3 (ls' := [some _, some _, some _, some _]) ct_120_9 (Nat.le_of_ble_eq_true rfl) (by decide) (sT_31 hS) rfl (by decide) rfl rfl (Nat.le_of_ble_eq_true rfl) ?_
      refine c_in hBn ki_0 (i_sub rfl ki_1 (by omega)) (fun _ => wk_i ?_) (fun h => absurd h (by omega))
      refine wi_iret ct_120_12 (by decide) (wk_i ?_)
      refine wi_ifne_t ct_122_5 ki_1 (by decide) ?_
      refine wi_iload_2 ct_122_10 ?_
      refine wi_tsw (X := 2) (t := 58) ct_122_11 (by omega) rfl ?_
      refine wi_aload_0 ct_122_58 ?_
      refine wi_gfr ct_122_59 (sT_31 hS) rfl (sR_31_4 hS) ?_
      refine wi_iload_1 ct_122_62 ?_
      refine wi_iald (x := fi 34 B) ct_122_63 (sT_34 hS) (sL_34 hS) (i_in hBn (by omega)) (i_cl (k := B) hBn (by omega)) rfl ?_
      refine wi_iret ct_122_64 rfl (wk_i ?_)
      refine wi_iceq_t ct_211_273 rfl rfl (by omega) ?_
      exact kk own g fi fl hR (by omega) (by omega)
    rcases Decidable.em ((a2).toInt = 3) with h7 | h7
    · refine wi_tsw (X := 3) (t := 63) ct_68_13 (by omega) rfl ?_
      refine wi_aload_3 ct_68_63 ?_
      refine wi_gf (x := fi 35 B) ct_68_64 ot (am_ktb _) rfl oa ?_
      refine wi_iret ct_68_67 rfl (wk_i ?_)
      refine wi_aload_2 ct_211_259 ?_
      refine wi_aloadT_0 ct_211_260 ?_
      refine wi_iload_3 ct_211_261 ?_
      refine wi_ic ct_211_262 kc_1 ?_
      refine wi_iadd ct_211_263 rfl ?_
      refine wi_ialdT (j := I + 1) (x := a1) ct_211_264 (sL_SC hS) (i_in (i_add hi ki_1 (by omega)) (by omega)) (i_cl (i_add hi ki_1 (by omega)) (by omega)) (((hsc _).trans e1)) ?_
      refine wi_aloadT_0 ct_211_265 ?_
      refine wi_iload_3 ct_211_266 ?_
      refine wi_ic ct_211_267 kc_2 ?_
      refine wi_iadd ct_211_268 rfl ?_
      refine wi_ialdT (j := I + 2) (x := a2) ct_211_269 (sL_SC hS) (i_in (i_add hi ki_2 (by omega)) (by omega)) (i_cl (i_add hi ki_2 (by omega)) (by omega)) (((hsc _).trans e2)) ?_
      refine wi_cv2 (ls' := [some _, some _, some _]) ct_211_270 (Nat.le_of_ble_eq_true rfl) (by decide) (sT_31 hS) rfl (by decide) rfl rfl (Nat.le_of_ble_eq_true rfl) ?_
      refine wi_aload_0 ct_122_0 ?_
      refine wi_iload_1 ct_122_1 ?_
      refine wi_cv1 (ls' := [some _, some _]) ct_122_2 (Nat.le_of_ble_eq_true rfl) (by decide) (sT_31 hS) rfl (by decide) rfl rfl (Nat.le_of_ble_eq_true rfl) ?_
      refine wi_aload_0 ct_120_0 ?_
      refine wi_iload_1 ct_120_1 ?_
      refine wi_ic ct_120_2 kc_0 ?_
      refine wi_aload_0 ct_120_3 ?_
      refine wi_gf (x := fi 31 0) ct_120_4 (sT_31 hS) rfl rfl rfl ?_
      refine wi_ic ct_120_7 kc_1 ?_
      refine wi_isub ct_120_8 rfl ?_
      refine wi_cv3 (ls' := [some _, some _, some _, some _]) ct_120_9 (Nat.le_of_ble_eq_true rfl) (by decide) (sT_31 hS) rfl (by decide) rfl rfl (Nat.le_of_ble_eq_true rfl) ?_
      refine c_in hBn ki_0 (i_sub rfl ki_1 (by omega)) (fun _ => wk_i ?_) (fun h => absurd h (by omega))
      refine wi_iret ct_120_12 (by decide) (wk_i ?_)
      refine wi_ifne_t ct_122_5 ki_1 (by decide) ?_
      refine wi_iload_2 ct_122_10 ?_
      refine wi_tsw (X := 3) (t := 65) ct_122_11 (by omega) rfl ?_
      refine wi_aload_0 ct_122_65 ?_
      refine wi_gfr ct_122_66 (sT_31 hS) rfl (sR_31_5 hS) ?_
      refine wi_iload_1 ct_122_69 ?_
      refine wi_iald (x := fi 35 B) ct_122_70 (sT_35 hS) (sL_35 hS) (i_in hBn (by omega)) (i_cl (k := B) hBn (by omega)) rfl ?_
      refine wi_iret ct_122_71 rfl (wk_i ?_)
      refine wi_iceq_t ct_211_273 rfl rfl (by omega) ?_
      exact kk own g fi fl hR (by omega) (by omega)
    rcases Decidable.em ((a2).toInt = 4) with h9 | h9
    · refine wi_tsw (X := 4) (t := 68) ct_68_13 (by omega) rfl ?_
      refine wi_aload_3 ct_68_68 ?_
      refine wi_gf (x := fi 36 B) ct_68_69 ot (am_ktb _) rfl om ?_
      refine wi_iret ct_68_72 rfl (wk_i ?_)
      refine wi_aload_2 ct_211_259 ?_
      refine wi_aloadT_0 ct_211_260 ?_
      refine wi_iload_3 ct_211_261 ?_
      refine wi_ic ct_211_262 kc_1 ?_
      refine wi_iadd ct_211_263 rfl ?_
      refine wi_ialdT (j := I + 1) (x := a1) ct_211_264 (sL_SC hS) (i_in (i_add hi ki_1 (by omega)) (by omega)) (i_cl (i_add hi ki_1 (by omega)) (by omega)) (((hsc _).trans e1)) ?_
      refine wi_aloadT_0 ct_211_265 ?_
      refine wi_iload_3 ct_211_266 ?_
      refine wi_ic ct_211_267 kc_2 ?_
      refine wi_iadd ct_211_268 rfl ?_
      refine wi_ialdT (j := I + 2) (x := a2) ct_211_269 (sL_SC hS) (i_in (i_add hi ki_2 (by omega)) (by omega)) (i_cl (i_add hi ki_2 (by omega)) (by omega)) (((hsc _).trans e2)) ?_
      refine wi_cv2 (ls' := [some _, some _, some _]) ct_211_270 (Nat.le_of_ble_eq_true rfl) (by decide) (sT_31 hS) rfl (by decide) rfl rfl (Nat.le_of_ble_eq_true rfl) ?_
      refine wi_aload_0 ct_122_0 ?_
      refine wi_iload_1 ct_122_1 ?_
      refine wi_cv1 (ls' := [some _, some _]) ct_122_2 (Nat.le_of_ble_eq_true rfl) (by decide) (sT_31 hS) rfl (by decide) rfl rfl (Nat.le_of_ble_eq_true rfl) ?_
      refine wi_aload_0 ct_120_0 ?_
      refine wi_iload_1 ct_120_1 ?_
      refine wi_ic ct_120_2 kc_0 ?_
      refine wi_aload_0 ct_120_3 ?_
      refine wi_gf (x := fi 31 0) ct_120_4 (sT_31 hS) rfl rfl rfl ?_
      refine wi_ic ct_120_7 kc_1 ?_
      refine wi_isub ct_120_8 rfl ?_
      refine wi_cv3 (ls' := [some _, some _, some _, some _]) ct_120_9 (Nat.le_of_ble_eq_true rfl) (by decide) (sT_31 hS) rfl (by decide) rfl rfl (Nat.le_of_ble_eq_true rfl) ?_
      refine c_in hBn ki_0 (i_sub rfl ki_1 (by omega)) (fun _ => wk_i ?_) (fun h => absurd h (by omega))
      refine wi_iret ct_120_12 (by decide) (wk_i ?_)
      refine wi_ifne_t ct_122_5 ki_1 (by decide) ?_
      refine wi_iload_2 ct_122_10 ?_
      refine wi_tsw (X := 4) (t := 72) ct_122_11 (by omega) rfl ?_
      refine wi_aload_0 ct_122_72 ?_
      refine wi_gfr ct_122_73 (sT_31 hS) rfl (sR_31_6 hS) ?_
      refine wi_iload_1 ct_122_76 ?_
      refine wi_iald (x := fi 36 B) ct_122_77 (sT_36 hS) (sL_36 hS) (i_in hBn (by omega)) (i_cl (k := B) hBn (by omega)) rfl ?_
      refine wi_iret ct_122_78 rfl (wk_i ?_)
      refine wi_iceq_t ct_211_273 rfl rfl (by omega) ?_
      exact kk own g fi fl hR (by omega) (by omega)
    refine wi_tsw (t := 73) ct_68_13 rfl ((am_tswD (by omega)).trans rfl) ?_
    refine wi_ic ct_68_73 kc_m1 ?_
    refine wi_iret ct_68_74 rfl (wk_i ?_)
    refine wi_aload_2 ct_211_259 ?_
    refine wi_aloadT_0 ct_211_260 ?_
    refine wi_iload_3 ct_211_261 ?_
    refine wi_ic ct_211_262 kc_1 ?_
    refine wi_iadd ct_211_263 rfl ?_
    refine wi_ialdT (j := I + 1) (x := a1) ct_211_264 (sL_SC hS) (i_in (i_add hi ki_1 (by omega)) (by omega)) (i_cl (i_add hi ki_1 (by omega)) (by omega)) (((hsc _).trans e1)) ?_
    refine wi_aloadT_0 ct_211_265 ?_
    refine wi_iload_3 ct_211_266 ?_
    refine wi_ic ct_211_267 kc_2 ?_
    refine wi_iadd ct_211_268 rfl ?_
    refine wi_ialdT (j := I + 2) (x := a2) ct_211_269 (sL_SC hS) (i_in (i_add hi ki_2 (by omega)) (by omega)) (i_cl (i_add hi ki_2 (by omega)) (by omega)) (((hsc _).trans e2)) ?_
    refine wi_cv2 (ls' := [some _, some _, some _]) ct_211_270 (Nat.le_of_ble_eq_true rfl) (by decide) (sT_31 hS) rfl (by decide) rfl rfl (Nat.le_of_ble_eq_true rfl) ?_
    refine wi_aload_0 ct_122_0 ?_
    refine wi_iload_1 ct_122_1 ?_
    refine wi_cv1 (ls' := [some _, some _]) ct_122_2 (Nat.le_of_ble_eq_true rfl) (by decide) (sT_31 hS) rfl (by decide) rfl rfl (Nat.le_of_ble_eq_true rfl) ?_
    refine wi_aload_0 ct_120_0 ?_
    refine wi_iload_1 ct_120_1 ?_
    refine wi_ic ct_120_2 kc_0 ?_
    refine wi_aload_0 ct_120_3 ?_
    refine wi_gf (x := fi 31 0) ct_120_4 (sT_31 hS) rfl rfl rfl ?_
    refine wi_ic ct_120_7 kc_1 ?_
    refine wi_isub ct_120_8 rfl ?_
    refine wi_cv3 (ls' := [some _, some _, some _, some _]) ct_120_9 (Nat.le_of_ble_eq_true rfl) (by decide) (sT_31 hS) rfl (by decide) rfl rfl (Nat.le_of_ble_eq_true rfl) ?_
    refine c_in hBn ki_0 (i_sub rfl ki_1 (by omega)) (fun _ => wk_i ?_) (fun h => absurd h (by omega))
    refine wi_iret ct_120_12 (by decide) (wk_i ?_)
    refine wi_ifne_t ct_122_5 ki_1 (by decide) ?_
    refine wi_iload_2 ct_122_10 ?_
    refine wi_tsw (t := 79) ct_122_11 rfl ((am_tswD (by omega)).trans rfl) ?_
    refine wi_ic ct_122_79 kc_m1 ?_
    refine wi_iret ct_122_80 rfl (wk_i ?_)
    refine wi_iceq_t ct_211_273 ki_m1 ki_m1 (by decide) ?_
    exact kk own g fi fl hR (by omega) (by omega)
  · skip
    refine wi_aload_1 ct_211_245 ?_
    refine wi_aloadT_0 ct_211_246 ?_
    refine wi_iload_3 ct_211_247 ?_
    refine wi_ic ct_211_248 kc_1 ?_
    refine wi_iadd ct_211_249 rfl ?_
    refine wi_ialdT (j := I + 1) (x := a1) ct_211_250 (sL_SC hS) (i_in (i_add hi ki_1 (by omega)) (by omega)) (i_cl (i_add hi ki_1 (by omega)) (by omega)) (((hsc _).trans e1)) ?_
    refine wi_aloadT_0 ct_211_251 ?_
    refine wi_iload_3 ct_211_252 ?_
    refine wi_ic ct_211_253 kc_2 ?_
    refine wi_iadd ct_211_254 rfl ?_
    refine wi_ialdT (j := I + 2) (x := a2) ct_211_255 (sL_SC hS) (i_in (i_add hi ki_2 (by omega)) (by omega)) (i_cl (i_add hi ki_2 (by omega)) (by omega)) (((hsc _).trans e2)) ?_
    refine wi_cv2 (ls' := [some _, some _, some _, none]) ct_211_256 (Nat.le_of_ble_eq_true rfl) (by decide) (sT_0 hS) rfl (by decide) rfl rfl (Nat.le_of_ble_eq_true rfl) ?_
    refine wi_aload_0 ct_68_0 ?_
    refine wi_iload_1 ct_68_1 ?_
    refine wi_cv1 (ls' := [some _, some _]) ct_68_2 (Nat.le_of_ble_eq_true rfl) (by decide) (sT_0 hS) rfl (by decide) rfl rfl (Nat.le_of_ble_eq_true rfl) ?_
    refine wi_iload_1 ct_104_0 ?_
    refine wi_ic ct_104_1 kc_0 ?_
    refine wi_aload_0 ct_104_2 ?_
    refine wi_gfr ct_104_3 (sT_0 hS) rfl (sR_0_0 hS) ?_
    refine wi_gf (x := fi 31 0) ct_104_6 (sT_1 hS) rfl rfl c0 ?_
    refine wi_ic ct_104_9 kc_1 ?_
    refine wi_isub ct_104_10 rfl ?_
    refine wi_cs3 (ls' := [some _, some _, some _]) ct_104_11 (Nat.le_of_ble_eq_true rfl) rfl (Nat.le_of_ble_eq_true rfl) ?_
    refine c_within rfl ki_0 (i_sub rfl ki_1 (by omega)) (fun h => absurd h (by omega)) (fun _ => wk_i ?_)
    refine wi_ifeq_t ct_104_14 ki_0 (by decide) ?_
    refine wi_null ct_104_29 ?_
    refine wi_aretn ct_104_30 (wk_n ?_)
    refine wi_astoreN_3 rfl ct_68_5 ?_
    refine wi_aloadN_3 ct_68_6 ?_
    refine wi_ifnonnull_n ct_68_7 ?_
    refine wi_ic ct_68_10 kc_m1 ?_
    refine wi_iret ct_68_11 rfl (wk_i ?_)
    refine wi_aload_2 ct_211_259 ?_
    refine wi_aloadT_0 ct_211_260 ?_
    refine wi_iload_3 ct_211_261 ?_
    refine wi_ic ct_211_262 kc_1 ?_
    refine wi_iadd ct_211_263 rfl ?_
    refine wi_ialdT (j := I + 1) (x := a1) ct_211_264 (sL_SC hS) (i_in (i_add hi ki_1 (by omega)) (by omega)) (i_cl (i_add hi ki_1 (by omega)) (by omega)) (((hsc _).trans e1)) ?_
    refine wi_aloadT_0 ct_211_265 ?_
    refine wi_iload_3 ct_211_266 ?_
    refine wi_ic ct_211_267 kc_2 ?_
    refine wi_iadd ct_211_268 rfl ?_
    refine wi_ialdT (j := I + 2) (x := a2) ct_211_269 (sL_SC hS) (i_in (i_add hi ki_2 (by omega)) (by omega)) (i_cl (i_add hi ki_2 (by omega)) (by omega)) (((hsc _).trans e2)) ?_
    refine wi_cv2 (ls' := [some _, some _, some _]) ct_211_270 (Nat.le_of_ble_eq_true rfl) (by decide) (sT_31 hS) rfl (by decide) rfl rfl (Nat.le_of_ble_eq_true rfl) ?_
    refine wi_aload_0 ct_122_0 ?_
    refine wi_iload_1 ct_122_1 ?_
    refine wi_cv1 (ls' := [some _, some _]) ct_122_2 (Nat.le_of_ble_eq_true rfl) (by decide) (sT_31 hS) rfl (by decide) rfl rfl (Nat.le_of_ble_eq_true rfl) ?_
    refine wi_aload_0 ct_120_0 ?_
    refine wi_iload_1 ct_120_1 ?_
    refine wi_ic ct_120_2 kc_0 ?_
    refine wi_aload_0 ct_120_3 ?_
    refine wi_gf (x := fi 31 0) ct_120_4 (sT_31 hS) rfl rfl rfl ?_
    refine wi_ic ct_120_7 kc_1 ?_
    refine wi_isub ct_120_8 rfl ?_
    refine wi_cv3 (ls' := [some _, some _, some _, some _]) ct_120_9 (Nat.le_of_ble_eq_true rfl) (by decide) (sT_31 hS) rfl (by decide) rfl rfl (Nat.le_of_ble_eq_true rfl) ?_
    refine c_in rfl ki_0 (i_sub rfl ki_1 (by omega)) (fun h => absurd h (by omega)) (fun _ => wk_i ?_)
    refine wi_iret ct_120_12 (by decide) (wk_i ?_)
    refine wi_ifne_f ct_122_5 ki_0 (by decide) ?_
    refine wi_ic ct_122_8 kc_m1 ?_
    refine wi_iret ct_122_9 rfl (wk_i ?_)
    refine wi_iceq_t ct_211_273 ki_m1 ki_m1 (by decide) ?_
    exact kk own g fi fl hR (by omega) (by omega)
set_option maxHeartbeats 2000000 in
theorem op_told {L I : Nat} {xs : Nat → Int32} {own : Nat → Nat} {d : Nat} {g : am_G} {fi : am_I} {fl : am_L} {P : Option Value → am_G → am_I → am_L → Prop} {i : Int32} (hi : i.toInt = (I : Int)) (hI6 : I + 6 ≤ L) (hL : L ≤ 3072) (hR : Rel L xs own g fi fl) (hnx : am_nx g ≤ 800000) (kk : ∀ own' g' fi' fl', Rel L xs own' g' fi' fl' → am_nx g' ≤ am_nx g + 30 → am_sl g' ≤ am_sl g + 1000 → WP (d + 60) 211 1359 [some (.retAddr 0), some (.ref 0), some (.ref 31), some (.int i)] [] g' fi' fl' P) : WP (d + 60) 211 433 [some (.retAddr 0), some (.ref 0), some (.ref 31), some (.int i)] [] g fi fl P := by
  obtain ⟨hS, hsc, hC, hK, hX, hV, hT, hP, hB, hN, hQ, hZ, hI⟩ := id hR
  obtain ⟨⟨c0, c0a, c0b⟩, ⟨c1, c1a, c1b⟩, ⟨c2, c2a, c2b⟩, ⟨c3, c3a, c3b⟩, ⟨c4, c4a, c4b⟩, ⟨c5, c5a, c5b⟩, ⟨c6, c6a, c6b⟩, ⟨c7, c7a, c7b⟩, c8, c9⟩ := id hC
  obtain ⟨a1, e1⟩ : ∃ a, xs (I + 1) = a := ⟨_, rfl⟩
  by_cases hA : 0 ≤ (a1).toInt ∧ (a1).toInt ≤ 3
  · skip
    obtain ⟨N1, hN1⟩ : ∃ k : Nat, (a1).toInt = (k : Int) := ⟨_, (i_cln (by omega)).symm⟩
    refine wi_aload_1 ct_211_433 ?_
    refine wi_aloadT_0 ct_211_434 ?_
    refine wi_iload_3 ct_211_435 ?_
    refine wi_ic ct_211_436 kc_1 ?_
    refine wi_iadd ct_211_437 rfl ?_
    refine wi_ialdT (j := I + 1) (x := a1) ct_211_438 (sL_SC hS) (i_in (i_add hi ki_1 (by omega)) (by omega)) (i_cl (i_add hi ki_1 (by omega)) (by omega)) (((hsc _).trans e1)) ?_
    refine wi_cv1 (ls' := [some _, some _]) ct_211_439 (Nat.le_of_ble_eq_true rfl) (by decide) (sT_0 hS) rfl (by decide) rfl rfl (Nat.le_of_ble_eq_true rfl) ?_
    refine wi_iload_1 ct_74_0 ?_
    refine wi_ic ct_74_1 kc_0 ?_
    refine wi_ic ct_74_2 kc_3 ?_
    refine wi_cs3 (ls' := [some _, some _, some _]) ct_74_3 (Nat.le_of_ble_eq_true rfl) rfl (Nat.le_of_ble_eq_true rfl) ?_
    refine c_within hN1 ki_0 ki_3 (fun _ => wk_i ?_) (fun h => absurd h (by omega))
    refine wi_ifeq_f ct_74_6 ki_1 (by decide) ?_
    refine wi_aload_0 ct_74_9 ?_
    refine wi_gfr ct_74_10 (sT_0 hS) rfl (sR_0_0 hS) ?_
    refine wi_gfr ct_74_13 (sT_1 hS) rfl (sR_1_2 hS) ?_
    refine wi_iload_1 ct_74_16 ?_
    have hk2 := hK N1 (by omega)
    refine wi_iald (x := fi 38 N1) ct_74_17 (sT_3 hS) (sL_3 hS) (i_in hN1 (by omega)) (i_cl (k := N1) hN1 (by omega)) hk2.1 ?_
    refine wi_iret ct_74_18 rfl (wk_i ?_)
    refine wi_aload_2 ct_211_442 ?_
    refine wi_aloadT_0 ct_211_443 ?_
    refine wi_iload_3 ct_211_444 ?_
    refine wi_ic ct_211_445 kc_1 ?_
    refine wi_iadd ct_211_446 rfl ?_
    refine wi_ialdT (j := I + 1) (x := a1) ct_211_447 (sL_SC hS) (i_in (i_add hi ki_1 (by omega)) (by omega)) (i_cl (i_add hi ki_1 (by omega)) (by omega)) (((hsc _).trans e1)) ?_
    refine wi_cv1 (ls' := [some _, some _]) ct_211_448 (Nat.le_of_ble_eq_true rfl) (by decide) (sT_31 hS) rfl (by decide) rfl rfl (Nat.le_of_ble_eq_true rfl) ?_
    refine wi_aload_0 ct_151_0 ?_
    refine wi_iload_1 ct_151_1 ?_
    refine wi_ic ct_151_2 kc_0 ?_
    refine wi_ic ct_151_3 kc_3 ?_
    refine wi_cv3 (ls' := [some _, some _, some _, some _]) ct_151_4 (Nat.le_of_ble_eq_true rfl) (by decide) (sT_31 hS) rfl (by decide) rfl rfl (Nat.le_of_ble_eq_true rfl) ?_
    refine c_in hN1 ki_0 ki_3 (fun _ => wk_i ?_) (fun h => absurd h (by omega))
    refine wi_ifeq_f ct_151_7 ki_1 (by decide) ?_
    refine wi_aload_0 ct_151_10 ?_
    refine wi_gfr ct_151_11 (sT_31 hS) rfl (sR_31_8 hS) ?_
    refine wi_iload_1 ct_151_14 ?_
    refine wi_iald (x := fi 38 N1) ct_151_15 (sT_38 hS) (sL_38 hS) (i_in hN1 (by omega)) (i_cl (k := N1) hN1 (by omega)) rfl ?_
    refine wi_goto ct_151_16 ?_
    refine wi_iret ct_151_44 rfl (wk_i ?_)
    refine wi_iceq_t ct_211_451 rfl rfl (by omega) ?_
    exact kk own g fi fl hR (by omega) (by omega)
  · skip
    refine wi_aload_1 ct_211_433 ?_
    refine wi_aloadT_0 ct_211_434 ?_
    refine wi_iload_3 ct_211_435 ?_
    refine wi_ic ct_211_436 kc_1 ?_
    refine wi_iadd ct_211_437 rfl ?_
    refine wi_ialdT (j := I + 1) (x := a1) ct_211_438 (sL_SC hS) (i_in (i_add hi ki_1 (by omega)) (by omega)) (i_cl (i_add hi ki_1 (by omega)) (by omega)) (((hsc _).trans e1)) ?_
    refine wi_cv1 (ls' := [some _, some _]) ct_211_439 (Nat.le_of_ble_eq_true rfl) (by decide) (sT_0 hS) rfl (by decide) rfl rfl (Nat.le_of_ble_eq_true rfl) ?_
    refine wi_iload_1 ct_74_0 ?_
    refine wi_ic ct_74_1 kc_0 ?_
    refine wi_ic ct_74_2 kc_3 ?_
    refine wi_cs3 (ls' := [some _, some _, some _]) ct_74_3 (Nat.le_of_ble_eq_true rfl) rfl (Nat.le_of_ble_eq_true rfl) ?_
    refine c_within rfl ki_0 ki_3 (fun h => absurd h (by omega)) (fun _ => wk_i ?_)
    refine wi_ifeq_t ct_74_6 ki_0 (by decide) ?_
    refine wi_iload_1 ct_74_19 ?_
    refine wi_ic ct_74_20 kc_4 ?_
    refine wi_icne ct_74_21 rfl ki_4 (fun h3 => ?_) (fun h3 => ?_)
    · skip
      refine wi_iload_1 ct_74_32 ?_
      refine wi_ic ct_74_33 kc_5 ?_
      refine wi_icne ct_74_34 rfl ki_5 (fun h4 => ?_) (fun h4 => ?_)
      · skip
        refine wi_ic ct_74_47 kc_m1 ?_
        refine wi_iret ct_74_48 rfl (wk_i ?_)
        refine wi_aload_2 ct_211_442 ?_
        refine wi_aloadT_0 ct_211_443 ?_
        refine wi_iload_3 ct_211_444 ?_
        refine wi_ic ct_211_445 kc_1 ?_
        refine wi_iadd ct_211_446 rfl ?_
        refine wi_ialdT (j := I + 1) (x := a1) ct_211_447 (sL_SC hS) (i_in (i_add hi ki_1 (by omega)) (by omega)) (i_cl (i_add hi ki_1 (by omega)) (by omega)) (((hsc _).trans e1)) ?_
        refine wi_cv1 (ls' := [some _, some _]) ct_211_448 (Nat.le_of_ble_eq_true rfl) (by decide) (sT_31 hS) rfl (by decide) rfl rfl (Nat.le_of_ble_eq_true rfl) ?_
        refine wi_aload_0 ct_151_0 ?_
        refine wi_iload_1 ct_151_1 ?_
        refine wi_ic ct_151_2 kc_0 ?_
        refine wi_ic ct_151_3 kc_3 ?_
        refine wi_cv3 (ls' := [some _, some _, some _, some _]) ct_151_4 (Nat.le_of_ble_eq_true rfl) (by decide) (sT_31 hS) rfl (by decide) rfl rfl (Nat.le_of_ble_eq_true rfl) ?_
        refine c_in rfl ki_0 ki_3 (fun h => absurd h (by omega)) (fun _ => wk_i ?_)
        refine wi_ifeq_t ct_151_7 ki_0 (by decide) ?_
        refine wi_iload_1 ct_151_19 ?_
        refine wi_ic ct_151_20 kc_4 ?_
        refine wi_icne_t ct_151_21 rfl ki_4 (by omega) ?_
        refine wi_iload_1 ct_151_31 ?_
        refine wi_ic ct_151_32 kc_5 ?_
        refine wi_icne_t ct_151_33 rfl ki_5 (by omega) ?_
        refine wi_ic ct_151_43 kc_m1 ?_
        refine wi_iret ct_151_44 rfl (wk_i ?_)
        refine wi_iceq_t ct_211_451 ki_m1 ki_m1 (by decide) ?_
        exact kk own g fi fl hR (by omega) (by omega)
      · skip
        refine wi_aload_0 ct_74_37 ?_
        refine wi_gfr ct_74_38 (sT_0 hS) rfl (sR_0_0 hS) ?_
        refine wi_gf (x := fi 31 1) ct_74_41 (sT_1 hS) rfl rfl c1 ?_
        refine wi_goto ct_74_44 ?_
        refine wi_iret ct_74_48 rfl (wk_i ?_)
        refine wi_aload_2 ct_211_442 ?_
        refine wi_aloadT_0 ct_211_443 ?_
        refine wi_iload_3 ct_211_444 ?_
        refine wi_ic ct_211_445 kc_1 ?_
        refine wi_iadd ct_211_446 rfl ?_
        refine wi_ialdT (j := I + 1) (x := a1) ct_211_447 (sL_SC hS) (i_in (i_add hi ki_1 (by omega)) (by omega)) (i_cl (i_add hi ki_1 (by omega)) (by omega)) (((hsc _).trans e1)) ?_
        refine wi_cv1 (ls' := [some _, some _]) ct_211_448 (Nat.le_of_ble_eq_true rfl) (by decide) (sT_31 hS) rfl (by decide) rfl rfl (Nat.le_of_ble_eq_true rfl) ?_
        refine wi_aload_0 ct_151_0 ?_
        refine wi_iload_1 ct_151_1 ?_
        refine wi_ic ct_151_2 kc_0 ?_
        refine wi_ic ct_151_3 kc_3 ?_
        refine wi_cv3 (ls' := [some _, some _, some _, some _]) ct_151_4 (Nat.le_of_ble_eq_true rfl) (by decide) (sT_31 hS) rfl (by decide) rfl rfl (Nat.le_of_ble_eq_true rfl) ?_
        refine c_in rfl ki_0 ki_3 (fun h => absurd h (by omega)) (fun _ => wk_i ?_)
        refine wi_ifeq_t ct_151_7 ki_0 (by decide) ?_
        refine wi_iload_1 ct_151_19 ?_
        refine wi_ic ct_151_20 kc_4 ?_
        refine wi_icne_t ct_151_21 rfl ki_4 (by omega) ?_
        refine wi_iload_1 ct_151_31 ?_
        refine wi_ic ct_151_32 kc_5 ?_
        refine wi_icne_f ct_151_33 rfl ki_5 (by omega) ?_
        refine wi_aload_0 ct_151_36 ?_
        refine wi_gf (x := fi 31 1) ct_151_37 (sT_31 hS) rfl rfl rfl ?_
        refine wi_goto ct_151_40 ?_
        refine wi_iret ct_151_44 rfl (wk_i ?_)
        refine wi_iceq_t ct_211_451 rfl rfl (by omega) ?_
        exact kk own g fi fl hR (by omega) (by omega)
    · skip
      refine wi_aload_0 ct_74_24 ?_
      refine wi_gfr ct_74_25 (sT_0 hS) rfl (sR_0_0 hS) ?_
      refine wi_cv0 (ls' := [some _]) ct_74_28 (Nat.le_of_ble_eq_true rfl) (by decide) (sT_1 hS) rfl (by decide) rfl rfl (Nat.le_of_ble_eq_true rfl) ?_
      have kq := fun j (h : j < 3) => (hK j (by omega)).2
      refine c_good hS (congrArg Int32.toInt (hK 0 (by decide)).1) (congrArg Int32.toInt (hK 1 (by decide)).1) (congrArg Int32.toInt (hK 2 (by decide)).1) ⟨(kq 0 (by decide)).1, (kq 0 (by decide)).2.2 (by decide)⟩ ⟨(kq 1 (by decide)).1, (kq 1 (by decide)).2.2 (by decide)⟩ ⟨(kq 2 (by decide)).1, (kq 2 (by decide)).2.2 (by decide)⟩ (fun zg5 hzg5 => wk_i ?_)
      refine wi_iret ct_74_31 rfl (wk_i ?_)
      refine wi_aload_2 ct_211_442 ?_
      refine wi_aloadT_0 ct_211_443 ?_
      refine wi_iload_3 ct_211_444 ?_
      refine wi_ic ct_211_445 kc_1 ?_
      refine wi_iadd ct_211_446 rfl ?_
      refine wi_ialdT (j := I + 1) (x := a1) ct_211_447 (sL_SC hS) (i_in (i_add hi ki_1 (by omega)) (by omega)) (i_cl (i_add hi ki_1 (by omega)) (by omega)) (((hsc _).trans e1)) ?_
      refine wi_cv1 (ls' := [some _, some _]) ct_211_448 (Nat.le_of_ble_eq_true rfl) (by decide) (sT_31 hS) rfl (by decide) rfl rfl (Nat.le_of_ble_eq_true rfl) ?_
      refine wi_aload_0 ct_151_0 ?_
      refine wi_iload_1 ct_151_1 ?_
      refine wi_ic ct_151_2 kc_0 ?_
      refine wi_ic ct_151_3 kc_3 ?_
      refine wi_cv3 (ls' := [some _, some _, some _, some _]) ct_151_4 (Nat.le_of_ble_eq_true rfl) (by decide) (sT_31 hS) rfl (by decide) rfl rfl (Nat.le_of_ble_eq_true rfl) ?_
      refine c_in rfl ki_0 ki_3 (fun h => absurd h (by omega)) (fun _ => wk_i ?_)
      refine wi_ifeq_t ct_151_7 ki_0 (by decide) ?_
      refine wi_iload_1 ct_151_19 ?_
      refine wi_ic ct_151_20 kc_4 ?_
      refine wi_icne_f ct_151_21 rfl ki_4 (by omega) ?_
      refine wi_aload_0 ct_151_24 ?_
      refine wi_cv0 (ls' := [some _]) ct_151_25 (Nat.le_of_ble_eq_true rfl) (by decide) (sT_31 hS) rfl (by decide) rfl rfl (Nat.le_of_ble_eq_true rfl) ?_
      have kq := fun j (h : j < 3) => (hK j (by omega)).2
      refine c_mgood hS rfl rfl rfl ⟨(kq 0 (by decide)).1, (kq 0 (by decide)).2.2 (by decide)⟩ ⟨(kq 1 (by decide)).1, (kq 1 (by decide)).2.2 (by decide)⟩ ⟨(kq 2 (by decide)).1, (kq 2 (by decide)).2.2 (by decide)⟩ (fun zg6 hzg6 => wk_i ?_)
      refine wi_goto ct_151_28 ?_
      refine wi_iret ct_151_44 rfl (wk_i ?_)
      refine wi_iceq_t ct_211_451 hzg5 hzg6 (by omega) ?_
      exact kk own g fi fl hR (by omega) (by omega)
set_option maxHeartbeats 2000000 in
theorem op_taken {L I : Nat} {xs : Nat → Int32} {own : Nat → Nat} {d : Nat} {g : am_G} {fi : am_I} {fl : am_L} {P : Option Value → am_G → am_I → am_L → Prop} {i : Int32} (hi : i.toInt = (I : Int)) (hI6 : I + 6 ≤ L) (hL : L ≤ 3072) (hR : Rel L xs own g fi fl) (hnx : am_nx g ≤ 800000) (kk : ∀ own' g' fi' fl', Rel L xs own' g' fi' fl' → am_nx g' ≤ am_nx g + 30 → am_sl g' ≤ am_sl g + 1000 → WP (d + 60) 211 1359 [some (.retAddr 0), some (.ref 0), some (.ref 31), some (.int i)] [] g' fi' fl' P) : WP (d + 60) 211 1090 [some (.retAddr 0), some (.ref 0), some (.ref 31), some (.int i)] [] g fi fl P := by
  obtain ⟨hS, hsc, hC, hK, hX, hV, hT, hP, hB, hN, hQ, hZ, hI⟩ := id hR
  obtain ⟨⟨c0, c0a, c0b⟩, ⟨c1, c1a, c1b⟩, ⟨c2, c2a, c2b⟩, ⟨c3, c3a, c3b⟩, ⟨c4, c4a, c4b⟩, ⟨c5, c5a, c5b⟩, ⟨c6, c6a, c6b⟩, ⟨c7, c7a, c7b⟩, c8, c9⟩ := id hC
  obtain ⟨a1, e1⟩ : ∃ a, xs (I + 1) = a := ⟨_, rfl⟩
  obtain ⟨a2, e2⟩ : ∃ a, xs (I + 2) = a := ⟨_, rfl⟩
  by_cases hA : 0 ≤ (a1).toInt ∧ (a1).toInt < (fi 31 0).toInt
  · skip
    obtain ⟨B, hBa⟩ : ∃ B : Nat, (a1).toInt = (B : Int) := ⟨(a1).toInt.toNat, by omega⟩
    have hBn := hBa
    obtain ⟨p, r, kd, v, cd, aim, co, row, hW⟩ := BLW.of hB c0b (B := B) (by omega)
    obtain ⟨sq, hsq, hsx⟩ := sq_of hR
    obtain ⟨hB5, hO, w32, w33, w34, w35, w36, w37, k6, v9, d9, a60, co9, r9⟩ := id hW
    obtain ⟨o0, ⟨o72, onx, oow⟩, ot, ok, on, ov, oc, oa, om, orw⟩ := id hO
    have kq := fun j (h : j < 3) => (hK j (by omega)).2
    have hk0 := kq 0 (by decide)
    have hk1 := kq 1 (by decide)
    have hk2 := kq 2 (by decide)
    replace hk0 := And.intro hk0.1 (hk0.2.2 (by decide))
    replace hk1 := And.intro hk1.1 (hk1.2.2 (by decide))
    replace hk2 := And.intro hk2.1 (hk2.2.2 (by decide))
    have hGb := goodV_bd hk0 hk1 hk2
    refine wi_aload_1 ct_211_1090 ?_
    refine wi_aloadT_0 ct_211_1091 ?_
    refine wi_iload_3 ct_211_1092 ?_
    refine wi_ic ct_211_1093 kc_1 ?_
    refine wi_iadd ct_211_1094 rfl ?_
    refine wi_ialdT (j := I + 1) (x := a1) ct_211_1095 (sL_SC hS) (i_in (i_add hi ki_1 (by omega)) (by omega)) (i_cl (i_add hi ki_1 (by omega)) (by omega)) (((hsc _).trans e1)) ?_
    refine wi_aloadT_0 ct_211_1096 ?_
    refine wi_iload_3 ct_211_1097 ?_
    refine wi_ic ct_211_1098 kc_2 ?_
    refine wi_iadd ct_211_1099 rfl ?_
    refine wi_ialdT (j := I + 2) (x := a2) ct_211_1100 (sL_SC hS) (i_in (i_add hi ki_2 (by omega)) (by omega)) (i_cl (i_add hi ki_2 (by omega)) (by omega)) (((hsc _).trans e2)) ?_
    refine wi_cv2 (ls' := [some _, some _, some _, none]) ct_211_1101 (Nat.le_of_ble_eq_true rfl) (by decide) (sT_0 hS) rfl (by decide) rfl rfl (Nat.le_of_ble_eq_true rfl) ?_
    refine wi_iload_2 ct_97_0 ?_
    refine wi_iflt ct_97_1 rfl (fun h1 => ?_) (fun h1 => ?_)
    · skip
      refine wi_ic ct_97_10 kc_m2 ?_
      refine wi_iret ct_97_12 rfl (wk_i ?_)
      refine wi_aload_2 ct_211_1104 ?_
      refine wi_aloadT_0 ct_211_1105 ?_
      refine wi_iload_3 ct_211_1106 ?_
      refine wi_ic ct_211_1107 kc_1 ?_
      refine wi_iadd ct_211_1108 rfl ?_
      refine wi_ialdT (j := I + 1) (x := a1) ct_211_1109 (sL_SC hS) (i_in (i_add hi ki_1 (by omega)) (by omega)) (i_cl (i_add hi ki_1 (by omega)) (by omega)) (((hsc _).trans e1)) ?_
      refine wi_aloadT_0 ct_211_1110 ?_
      refine wi_iload_3 ct_211_1111 ?_
      refine wi_ic ct_211_1112 kc_2 ?_
      refine wi_iadd ct_211_1113 rfl ?_
      refine wi_ialdT (j := I + 2) (x := a2) ct_211_1114 (sL_SC hS) (i_in (i_add hi ki_2 (by omega)) (by omega)) (i_cl (i_add hi ki_2 (by omega)) (by omega)) (((hsc _).trans e2)) ?_
      refine wi_cv2 (ls' := [some _, some _, some _, none]) ct_211_1115 (Nat.le_of_ble_eq_true rfl) (by decide) (sT_31 hS) rfl (by decide) rfl rfl (Nat.le_of_ble_eq_true rfl) ?_
      refine wi_aload_0 ct_192_0 ?_
      refine wi_iload_2 ct_192_1 ?_
      refine wi_ic ct_192_2 kc_0 ?_
      refine wi_ic ct_192_3 kc_6 ?_
      refine wi_cv3 (ls' := [some _, some _, some _, some _]) ct_192_5 (Nat.le_of_ble_eq_true rfl) (by decide) (sT_31 hS) rfl (by decide) rfl rfl (Nat.le_of_ble_eq_true rfl) ?_
      refine c_in rfl ki_0 ki_6 (fun h => absurd h (by omega)) (fun _ => wk_i ?_)
      refine wi_ifne_f ct_192_8 ki_0 (by decide) ?_
      refine wi_ic ct_192_11 kc_m2 ?_
      refine wi_iret ct_192_13 rfl (wk_i ?_)
      refine wi_iceq_t ct_211_1118 ki_m2 ki_m2 (by decide) ?_
      exact kk own g fi fl hR (by omega) (by omega)
    · skip
      refine wi_iload_2 ct_97_4 ?_
      refine wi_ic ct_97_5 kc_6 ?_
      refine wi_icle ct_97_7 rfl ki_6 (fun h2 => ?_) (fun h2 => ?_)
      · skip
        refine wi_aload_0 ct_97_13 ?_
        refine wi_iload_1 ct_97_14 ?_
        refine wi_cv1 (ls' := [some _, some _]) ct_97_15 (Nat.le_of_ble_eq_true rfl) (by decide) (sT_0 hS) rfl (by decide) rfl rfl (Nat.le_of_ble_eq_true rfl) ?_
        refine wi_iload_1 ct_104_0 ?_
        refine wi_ic ct_104_1 kc_0 ?_
        refine wi_aload_0 ct_104_2 ?_
        refine wi_gfr ct_104_3 (sT_0 hS) rfl (sR_0_0 hS) ?_
        refine wi_gf (x := fi 31 0) ct_104_6 (sT_1 hS) rfl rfl c0 ?_
        refine wi_ic ct_104_9 kc_1 ?_
        refine wi_isub ct_104_10 rfl ?_
        refine wi_cs3 (ls' := [some _, some _, some _]) ct_104_11 (Nat.le_of_ble_eq_true rfl) rfl (Nat.le_of_ble_eq_true rfl) ?_
        refine c_within hBn ki_0 (i_sub rfl ki_1 (by omega)) (fun _ => wk_i ?_) (fun h => absurd h (by omega))
        refine wi_ifeq_f ct_104_14 ki_1 (by decide) ?_
        refine wi_aload_0 ct_104_17 ?_
        refine wi_gfr ct_104_18 (sT_0 hS) rfl (sR_0_0 hS) ?_
        refine wi_gfr ct_104_21 (sT_1 hS) rfl (sR_1_0 hS) ?_
        refine wi_iload_1 ct_104_24 ?_
        refine wi_aald ct_104_25 (sT_2 hS) (by decide) (sL_2 hS) (i_in hBn (by omega)) (i_cl (k := B) hBn (by omega)) o0 ?_
        refine wi_goto ct_104_26 ?_
        refine wi_aret ct_104_30 (wk_r ?_)
        refine wi_astore_3 rfl ct_97_18 ?_
        refine wi_aload_3 ct_97_19 ?_
        refine wi_ifnonnull_r ct_97_20 ?_
        refine wi_aload_3 ct_97_26 ?_
        refine wi_iload_2 ct_97_27 ?_
        refine wi_cs2 (ls' := [some _, some _]) ct_97_28 (Nat.le_of_ble_eq_true rfl) rfl (Nat.le_of_ble_eq_true rfl) ?_
        refine wi_iload_1 ct_106_0 ?_
        rcases Decidable.em ((a2).toInt = 1) with h3 | h3
        · refine wi_tsw (X := 1) (t := 40) ct_106_1 (by omega) rfl ?_
          refine wi_aload_0 ct_106_40 ?_
          rcases am_k7 (k := (fi 32 B).toInt) (by omega) with hk4 | hk5 | hk6 | hk7 | hk8 | hk9 | hk10
          · skip
            refine wi_iof (z := 0) ct_106_41 (ot.trans (by rw [hk4] <;> rfl)) (by decide) rfl ?_
            refine wi_iret ct_106_44 (by decide) (wk_i ?_)
            refine wi_ifeq_t ct_97_31 ki_0 (by decide) ?_
            refine wi_ic ct_97_41 kc_m12 ?_
            refine wi_iret ct_97_43 rfl (wk_i ?_)
            refine wi_aload_2 ct_211_1104 ?_
            refine wi_aloadT_0 ct_211_1105 ?_
            refine wi_iload_3 ct_211_1106 ?_
            refine wi_ic ct_211_1107 kc_1 ?_
            refine wi_iadd ct_211_1108 rfl ?_
            refine wi_ialdT (j := I + 1) (x := a1) ct_211_1109 (sL_SC hS) (i_in (i_add hi ki_1 (by omega)) (by omega)) (i_cl (i_add hi ki_1 (by omega)) (by omega)) (((hsc _).trans e1)) ?_
            refine wi_aloadT_0 ct_211_1110 ?_
            refine wi_iload_3 ct_211_1111 ?_
            refine wi_ic ct_211_1112 kc_2 ?_
            refine wi_iadd ct_211_1113 rfl ?_
            refine wi_ialdT (j := I + 2) (x := a2) ct_211_1114 (sL_SC hS) (i_in (i_add hi ki_2 (by omega)) (by omega)) (i_cl (i_add hi ki_2 (by omega)) (by omega)) (((hsc _).trans e2)) ?_
            refine wi_cv2 (ls' := [some _, some _, some _, none]) ct_211_1115 (Nat.le_of_ble_eq_true rfl) (by decide) (sT_31 hS) rfl (by decide) rfl rfl (Nat.le_of_ble_eq_true rfl) ?_
            refine wi_aload_0 ct_192_0 ?_
            refine wi_iload_2 ct_192_1 ?_
            refine wi_ic ct_192_2 kc_0 ?_
            refine wi_ic ct_192_3 kc_6 ?_
            refine wi_cv3 (ls' := [some _, some _, some _, some _]) ct_192_5 (Nat.le_of_ble_eq_true rfl) (by decide) (sT_31 hS) rfl (by decide) rfl rfl (Nat.le_of_ble_eq_true rfl) ?_
            refine c_in rfl ki_0 ki_6 (fun _ => wk_i ?_) (fun h => absurd h (by omega))
            refine wi_ifne_t ct_192_8 ki_1 (by decide) ?_
            refine wi_aload_0 ct_192_14 ?_
            refine wi_iload_1 ct_192_15 ?_
            refine wi_cv1 (ls' := [some _, some _]) ct_192_16 (Nat.le_of_ble_eq_true rfl) (by decide) (sT_31 hS) rfl (by decide) rfl rfl (Nat.le_of_ble_eq_true rfl) ?_
            refine wi_aload_0 ct_120_0 ?_
            refine wi_iload_1 ct_120_1 ?_
            refine wi_ic ct_120_2 kc_0 ?_
            refine wi_aload_0 ct_120_3 ?_
            refine wi_gf (x := fi 31 0) ct_120_4 (sT_31 hS) rfl rfl rfl ?_
            refine wi_ic ct_120_7 kc_1 ?_
            refine wi_isub ct_120_8 rfl ?_
            refine wi_cv3 (ls' := [some _, some _, some _, some _]) ct_120_9 (Nat.le_of_ble_eq_true rfl) (by decide) (sT_31 hS) rfl (by decide) rfl rfl (Nat.le_of_ble_eq_true rfl) ?_
            refine c_in hBn ki_0 (i_sub rfl ki_1 (by omega)) (fun _ => wk_i ?_) (fun h => absurd h (by omega))
            refine wi_iret ct_120_12 (by decide) (wk_i ?_)
            refine wi_ifne_t ct_192_19 ki_1 (by decide) ?_
            refine wi_aload_0 ct_192_25 ?_
            refine wi_gfr ct_192_26 (sT_31 hS) rfl (sR_31_2 hS) ?_
            refine wi_iload_1 ct_192_29 ?_
            refine wi_iald (x := fi 32 B) ct_192_30 (sT_32 hS) (sL_32 hS) (i_in hBn (by omega)) (i_cl (k := B) hBn (by omega)) rfl ?_
            refine wi_istore_3 rfl ct_192_31 ?_
            refine wi_iload_2 ct_192_32 ?_
            refine wi_ifeq_f ct_192_33 rfl (by omega) ?_
            refine wi_iload_3 ct_192_36 ?_
            refine wi_iload_2 ct_192_37 ?_
            refine wi_iceq_f ct_192_38 rfl rfl (by omega) ?_
            refine wi_iload_2 ct_192_41 ?_
            refine wi_ic ct_192_42 kc_1 ?_
            refine wi_icne_f ct_192_43 rfl ki_1 (by omega) ?_
            refine wi_iload_3 ct_192_46 ?_
            refine wi_ic ct_192_47 kc_4 ?_
            refine wi_iceq_f ct_192_48 rfl ki_4 (by omega) ?_
            refine wi_iload_2 ct_192_51 ?_
            refine wi_ic ct_192_52 kc_2 ?_
            refine wi_icne_t ct_192_53 rfl ki_2 (by omega) ?_
            refine wi_iload_2 ct_192_61 ?_
            refine wi_ic ct_192_62 kc_3 ?_
            refine wi_icne_t ct_192_63 rfl ki_3 (by omega) ?_
            refine wi_ic ct_192_76 kc_m12 ?_
            refine wi_iret ct_192_78 rfl (wk_i ?_)
            refine wi_iceq_t ct_211_1118 ki_m12 ki_m12 (by decide) ?_
            exact kk own g fi fl hR (by omega) (by omega)
          · skip
            refine wi_iof (z := 1) ct_106_41 (ot.trans (by rw [hk5] <;> rfl)) (by decide) rfl ?_
            refine wi_iret ct_106_44 (by decide) (wk_i ?_)
            refine wi_ifeq_f ct_97_31 ki_1 (by decide) ?_
            refine wi_aload_3 ct_97_34 ?_
            refine wi_gf (x := fi 32 B) ct_97_35 (ot.trans (by rw [hk5] <;> rfl)) rfl rfl ok ?_
            refine wi_goto ct_97_38 ?_
            refine wi_iret ct_97_43 rfl (wk_i ?_)
            refine wi_aload_2 ct_211_1104 ?_
            refine wi_aloadT_0 ct_211_1105 ?_
            refine wi_iload_3 ct_211_1106 ?_
            refine wi_ic ct_211_1107 kc_1 ?_
            refine wi_iadd ct_211_1108 rfl ?_
            refine wi_ialdT (j := I + 1) (x := a1) ct_211_1109 (sL_SC hS) (i_in (i_add hi ki_1 (by omega)) (by omega)) (i_cl (i_add hi ki_1 (by omega)) (by omega)) (((hsc _).trans e1)) ?_
            refine wi_aloadT_0 ct_211_1110 ?_
            refine wi_iload_3 ct_211_1111 ?_
            refine wi_ic ct_211_1112 kc_2 ?_
            refine wi_iadd ct_211_1113 rfl ?_
            refine wi_ialdT (j := I + 2) (x := a2) ct_211_1114 (sL_SC hS) (i_in (i_add hi ki_2 (by omega)) (by omega)) (i_cl (i_add hi ki_2 (by omega)) (by omega)) (((hsc _).trans e2)) ?_
            refine wi_cv2 (ls' := [some _, some _, some _, none]) ct_211_1115 (Nat.le_of_ble_eq_true rfl) (by decide) (sT_31 hS) rfl (by decide) rfl rfl (Nat.le_of_ble_eq_true rfl) ?_
            refine wi_aload_0 ct_192_0 ?_
            refine wi_iload_2 ct_192_1 ?_
            refine wi_ic ct_192_2 kc_0 ?_
            refine wi_ic ct_192_3 kc_6 ?_
            refine wi_cv3 (ls' := [some _, some _, some _, some _]) ct_192_5 (Nat.le_of_ble_eq_true rfl) (by decide) (sT_31 hS) rfl (by decide) rfl rfl (Nat.le_of_ble_eq_true rfl) ?_
            refine c_in rfl ki_0 ki_6 (fun _ => wk_i ?_) (fun h => absurd h (by omega))
            refine wi_ifne_t ct_192_8 ki_1 (by decide) ?_
            refine wi_aload_0 ct_192_14 ?_
            refine wi_iload_1 ct_192_15 ?_
            refine wi_cv1 (ls' := [some _, some _]) ct_192_16 (Nat.le_of_ble_eq_true rfl) (by decide) (sT_31 hS) rfl (by decide) rfl rfl (Nat.le_of_ble_eq_true rfl) ?_
            refine wi_aload_0 ct_120_0 ?_
            refine wi_iload_1 ct_120_1 ?_
            refine wi_ic ct_120_2 kc_0 ?_
            refine wi_aload_0 ct_120_3 ?_
            refine wi_gf (x := fi 31 0) ct_120_4 (sT_31 hS) rfl rfl rfl ?_
            refine wi_ic ct_120_7 kc_1 ?_
            refine wi_isub ct_120_8 rfl ?_
            refine wi_cv3 (ls' := [some _, some _, some _, some _]) ct_120_9 (Nat.le_of_ble_eq_true rfl) (by decide) (sT_31 hS) rfl (by decide) rfl rfl (Nat.le_of_ble_eq_true rfl) ?_
            refine c_in hBn ki_0 (i_sub rfl ki_1 (by omega)) (fun _ => wk_i ?_) (fun h => absurd h (by omega))
            refine wi_iret ct_120_12 (by decide) (wk_i ?_)
            refine wi_ifne_t ct_192_19 ki_1 (by decide) ?_
            refine wi_aload_0 ct_192_25 ?_
            refine wi_gfr ct_192_26 (sT_31 hS) rfl (sR_31_2 hS) ?_
            refine wi_iload_1 ct_192_29 ?_
            refine wi_iald (x := fi 32 B) ct_192_30 (sT_32 hS) (sL_32 hS) (i_in hBn (by omega)) (i_cl (k := B) hBn (by omega)) rfl ?_
            refine wi_istore_3 rfl ct_192_31 ?_
            refine wi_iload_2 ct_192_32 ?_
            refine wi_ifeq_f ct_192_33 rfl (by omega) ?_
            refine wi_iload_3 ct_192_36 ?_
            refine wi_iload_2 ct_192_37 ?_
            refine wi_iceq_t ct_192_38 rfl rfl (by omega) ?_
            refine wi_iload_3 ct_192_72 ?_
            refine wi_goto ct_192_73 ?_
            refine wi_iret ct_192_78 rfl (wk_i ?_)
            refine wi_iceq_t ct_211_1118 rfl rfl (by omega) ?_
            exact kk own g fi fl hR (by omega) (by omega)
          · skip
            refine wi_iof (z := 0) ct_106_41 (ot.trans (by rw [hk6] <;> rfl)) (by decide) rfl ?_
            refine wi_iret ct_106_44 (by decide) (wk_i ?_)
            refine wi_ifeq_t ct_97_31 ki_0 (by decide) ?_
            refine wi_ic ct_97_41 kc_m12 ?_
            refine wi_iret ct_97_43 rfl (wk_i ?_)
            refine wi_aload_2 ct_211_1104 ?_
            refine wi_aloadT_0 ct_211_1105 ?_
            refine wi_iload_3 ct_211_1106 ?_
            refine wi_ic ct_211_1107 kc_1 ?_
            refine wi_iadd ct_211_1108 rfl ?_
            refine wi_ialdT (j := I + 1) (x := a1) ct_211_1109 (sL_SC hS) (i_in (i_add hi ki_1 (by omega)) (by omega)) (i_cl (i_add hi ki_1 (by omega)) (by omega)) (((hsc _).trans e1)) ?_
            refine wi_aloadT_0 ct_211_1110 ?_
            refine wi_iload_3 ct_211_1111 ?_
            refine wi_ic ct_211_1112 kc_2 ?_
            refine wi_iadd ct_211_1113 rfl ?_
            refine wi_ialdT (j := I + 2) (x := a2) ct_211_1114 (sL_SC hS) (i_in (i_add hi ki_2 (by omega)) (by omega)) (i_cl (i_add hi ki_2 (by omega)) (by omega)) (((hsc _).trans e2)) ?_
            refine wi_cv2 (ls' := [some _, some _, some _, none]) ct_211_1115 (Nat.le_of_ble_eq_true rfl) (by decide) (sT_31 hS) rfl (by decide) rfl rfl (Nat.le_of_ble_eq_true rfl) ?_
            refine wi_aload_0 ct_192_0 ?_
            refine wi_iload_2 ct_192_1 ?_
            refine wi_ic ct_192_2 kc_0 ?_
            refine wi_ic ct_192_3 kc_6 ?_
            refine wi_cv3 (ls' := [some _, some _, some _, some _]) ct_192_5 (Nat.le_of_ble_eq_true rfl) (by decide) (sT_31 hS) rfl (by decide) rfl rfl (Nat.le_of_ble_eq_true rfl) ?_
            refine c_in rfl ki_0 ki_6 (fun _ => wk_i ?_) (fun h => absurd h (by omega))
            refine wi_ifne_t ct_192_8 ki_1 (by decide) ?_
            refine wi_aload_0 ct_192_14 ?_
            refine wi_iload_1 ct_192_15 ?_
            refine wi_cv1 (ls' := [some _, some _]) ct_192_16 (Nat.le_of_ble_eq_true rfl) (by decide) (sT_31 hS) rfl (by decide) rfl rfl (Nat.le_of_ble_eq_true rfl) ?_
            refine wi_aload_0 ct_120_0 ?_
            refine wi_iload_1 ct_120_1 ?_
            refine wi_ic ct_120_2 kc_0 ?_
            refine wi_aload_0 ct_120_3 ?_
            refine wi_gf (x := fi 31 0) ct_120_4 (sT_31 hS) rfl rfl rfl ?_
            refine wi_ic ct_120_7 kc_1 ?_
            refine wi_isub ct_120_8 rfl ?_
            refine wi_cv3 (ls' := [some _, some _, some _, some _]) ct_120_9 (Nat.le_of_ble_eq_true rfl) (by decide) (sT_31 hS) rfl (by decide) rfl rfl (Nat.le_of_ble_eq_true rfl) ?_
            refine c_in hBn ki_0 (i_sub rfl ki_1 (by omega)) (fun _ => wk_i ?_) (fun h => absurd h (by omega))
            refine wi_iret ct_120_12 (by decide) (wk_i ?_)
            refine wi_ifne_t ct_192_19 ki_1 (by decide) ?_
            refine wi_aload_0 ct_192_25 ?_
            refine wi_gfr ct_192_26 (sT_31 hS) rfl (sR_31_2 hS) ?_
            refine wi_iload_1 ct_192_29 ?_
            refine wi_iald (x := fi 32 B) ct_192_30 (sT_32 hS) (sL_32 hS) (i_in hBn (by omega)) (i_cl (k := B) hBn (by omega)) rfl ?_
            refine wi_istore_3 rfl ct_192_31 ?_
            refine wi_iload_2 ct_192_32 ?_
            refine wi_ifeq_f ct_192_33 rfl (by omega) ?_
            refine wi_iload_3 ct_192_36 ?_
            refine wi_iload_2 ct_192_37 ?_
            refine wi_iceq_f ct_192_38 rfl rfl (by omega) ?_
            refine wi_iload_2 ct_192_41 ?_
            refine wi_ic ct_192_42 kc_1 ?_
            refine wi_icne_f ct_192_43 rfl ki_1 (by omega) ?_
            refine wi_iload_3 ct_192_46 ?_
            refine wi_ic ct_192_47 kc_4 ?_
            refine wi_iceq_f ct_192_48 rfl ki_4 (by omega) ?_
            refine wi_iload_2 ct_192_51 ?_
            refine wi_ic ct_192_52 kc_2 ?_
            refine wi_icne_t ct_192_53 rfl ki_2 (by omega) ?_
            refine wi_iload_2 ct_192_61 ?_
            refine wi_ic ct_192_62 kc_3 ?_
            refine wi_icne_t ct_192_63 rfl ki_3 (by omega) ?_
            refine wi_ic ct_192_76 kc_m12 ?_
            refine wi_iret ct_192_78 rfl (wk_i ?_)
            refine wi_iceq_t ct_211_1118 ki_m12 ki_m12 (by decide) ?_
            exact kk own g fi fl hR (by omega) (by omega)
          · skip
            refine wi_iof (z := 0) ct_106_41 (ot.trans (by rw [hk7] <;> rfl)) (by decide) rfl ?_
            refine wi_iret ct_106_44 (by decide) (wk_i ?_)
            refine wi_ifeq_t ct_97_31 ki_0 (by decide) ?_
            refine wi_ic ct_97_41 kc_m12 ?_
            refine wi_iret ct_97_43 rfl (wk_i ?_)
            refine wi_aload_2 ct_211_1104 ?_
            refine wi_aloadT_0 ct_211_1105 ?_
            refine wi_iload_3 ct_211_1106 ?_
            refine wi_ic ct_211_1107 kc_1 ?_
            refine wi_iadd ct_211_1108 rfl ?_
            refine wi_ialdT (j := I + 1) (x := a1) ct_211_1109 (sL_SC hS) (i_in (i_add hi ki_1 (by omega)) (by omega)) (i_cl (i_add hi ki_1 (by omega)) (by omega)) (((hsc _).trans e1)) ?_
            refine wi_aloadT_0 ct_211_1110 ?_
            refine wi_iload_3 ct_211_1111 ?_
            refine wi_ic ct_211_1112 kc_2 ?_
            refine wi_iadd ct_211_1113 rfl ?_
            refine wi_ialdT (j := I + 2) (x := a2) ct_211_1114 (sL_SC hS) (i_in (i_add hi ki_2 (by omega)) (by omega)) (i_cl (i_add hi ki_2 (by omega)) (by omega)) (((hsc _).trans e2)) ?_
            refine wi_cv2 (ls' := [some _, some _, some _, none]) ct_211_1115 (Nat.le_of_ble_eq_true rfl) (by decide) (sT_31 hS) rfl (by decide) rfl rfl (Nat.le_of_ble_eq_true rfl) ?_
            refine wi_aload_0 ct_192_0 ?_
            refine wi_iload_2 ct_192_1 ?_
            refine wi_ic ct_192_2 kc_0 ?_
            refine wi_ic ct_192_3 kc_6 ?_
            refine wi_cv3 (ls' := [some _, some _, some _, some _]) ct_192_5 (Nat.le_of_ble_eq_true rfl) (by decide) (sT_31 hS) rfl (by decide) rfl rfl (Nat.le_of_ble_eq_true rfl) ?_
            refine c_in rfl ki_0 ki_6 (fun _ => wk_i ?_) (fun h => absurd h (by omega))
            refine wi_ifne_t ct_192_8 ki_1 (by decide) ?_
            refine wi_aload_0 ct_192_14 ?_
            refine wi_iload_1 ct_192_15 ?_
            refine wi_cv1 (ls' := [some _, some _]) ct_192_16 (Nat.le_of_ble_eq_true rfl) (by decide) (sT_31 hS) rfl (by decide) rfl rfl (Nat.le_of_ble_eq_true rfl) ?_
            refine wi_aload_0 ct_120_0 ?_
            refine wi_iload_1 ct_120_1 ?_
            refine wi_ic ct_120_2 kc_0 ?_
            refine wi_aload_0 ct_120_3 ?_
            refine wi_gf (x := fi 31 0) ct_120_4 (sT_31 hS) rfl rfl rfl ?_
            refine wi_ic ct_120_7 kc_1 ?_
            refine wi_isub ct_120_8 rfl ?_
            refine wi_cv3 (ls' := [some _, some _, some _, some _]) ct_120_9 (Nat.le_of_ble_eq_true rfl) (by decide) (sT_31 hS) rfl (by decide) rfl rfl (Nat.le_of_ble_eq_true rfl) ?_
            refine c_in hBn ki_0 (i_sub rfl ki_1 (by omega)) (fun _ => wk_i ?_) (fun h => absurd h (by omega))
            refine wi_iret ct_120_12 (by decide) (wk_i ?_)
            refine wi_ifne_t ct_192_19 ki_1 (by decide) ?_
            refine wi_aload_0 ct_192_25 ?_
            refine wi_gfr ct_192_26 (sT_31 hS) rfl (sR_31_2 hS) ?_
            refine wi_iload_1 ct_192_29 ?_
            refine wi_iald (x := fi 32 B) ct_192_30 (sT_32 hS) (sL_32 hS) (i_in hBn (by omega)) (i_cl (k := B) hBn (by omega)) rfl ?_
            refine wi_istore_3 rfl ct_192_31 ?_
            refine wi_iload_2 ct_192_32 ?_
            refine wi_ifeq_f ct_192_33 rfl (by omega) ?_
            refine wi_iload_3 ct_192_36 ?_
            refine wi_iload_2 ct_192_37 ?_
            refine wi_iceq_f ct_192_38 rfl rfl (by omega) ?_
            refine wi_iload_2 ct_192_41 ?_
            refine wi_ic ct_192_42 kc_1 ?_
            refine wi_icne_f ct_192_43 rfl ki_1 (by omega) ?_
            refine wi_iload_3 ct_192_46 ?_
            refine wi_ic ct_192_47 kc_4 ?_
            refine wi_iceq_f ct_192_48 rfl ki_4 (by omega) ?_
            refine wi_iload_2 ct_192_51 ?_
            refine wi_ic ct_192_52 kc_2 ?_
            refine wi_icne_t ct_192_53 rfl ki_2 (by omega) ?_
            refine wi_iload_2 ct_192_61 ?_
            refine wi_ic ct_192_62 kc_3 ?_
            refine wi_icne_t ct_192_63 rfl ki_3 (by omega) ?_
            refine wi_ic ct_192_76 kc_m12 ?_
            refine wi_iret ct_192_78 rfl (wk_i ?_)
            refine wi_iceq_t ct_211_1118 ki_m12 ki_m12 (by decide) ?_
            exact kk own g fi fl hR (by omega) (by omega)
          · skip
            refine wi_iof (z := 1) ct_106_41 (ot.trans (by rw [hk8] <;> rfl)) (by decide) rfl ?_
            refine wi_iret ct_106_44 (by decide) (wk_i ?_)
            refine wi_ifeq_f ct_97_31 ki_1 (by decide) ?_
            refine wi_aload_3 ct_97_34 ?_
            refine wi_gf (x := fi 32 B) ct_97_35 (ot.trans (by rw [hk8] <;> rfl)) rfl rfl ok ?_
            refine wi_goto ct_97_38 ?_
            refine wi_iret ct_97_43 rfl (wk_i ?_)
            refine wi_aload_2 ct_211_1104 ?_
            refine wi_aloadT_0 ct_211_1105 ?_
            refine wi_iload_3 ct_211_1106 ?_
            refine wi_ic ct_211_1107 kc_1 ?_
            refine wi_iadd ct_211_1108 rfl ?_
            refine wi_ialdT (j := I + 1) (x := a1) ct_211_1109 (sL_SC hS) (i_in (i_add hi ki_1 (by omega)) (by omega)) (i_cl (i_add hi ki_1 (by omega)) (by omega)) (((hsc _).trans e1)) ?_
            refine wi_aloadT_0 ct_211_1110 ?_
            refine wi_iload_3 ct_211_1111 ?_
            refine wi_ic ct_211_1112 kc_2 ?_
            refine wi_iadd ct_211_1113 rfl ?_
            refine wi_ialdT (j := I + 2) (x := a2) ct_211_1114 (sL_SC hS) (i_in (i_add hi ki_2 (by omega)) (by omega)) (i_cl (i_add hi ki_2 (by omega)) (by omega)) (((hsc _).trans e2)) ?_
            refine wi_cv2 (ls' := [some _, some _, some _, none]) ct_211_1115 (Nat.le_of_ble_eq_true rfl) (by decide) (sT_31 hS) rfl (by decide) rfl rfl (Nat.le_of_ble_eq_true rfl) ?_
            refine wi_aload_0 ct_192_0 ?_
            refine wi_iload_2 ct_192_1 ?_
            refine wi_ic ct_192_2 kc_0 ?_
            refine wi_ic ct_192_3 kc_6 ?_
            refine wi_cv3 (ls' := [some _, some _, some _, some _]) ct_192_5 (Nat.le_of_ble_eq_true rfl) (by decide) (sT_31 hS) rfl (by decide) rfl rfl (Nat.le_of_ble_eq_true rfl) ?_
            refine c_in rfl ki_0 ki_6 (fun _ => wk_i ?_) (fun h => absurd h (by omega))
            refine wi_ifne_t ct_192_8 ki_1 (by decide) ?_
            refine wi_aload_0 ct_192_14 ?_
            refine wi_iload_1 ct_192_15 ?_
            refine wi_cv1 (ls' := [some _, some _]) ct_192_16 (Nat.le_of_ble_eq_true rfl) (by decide) (sT_31 hS) rfl (by decide) rfl rfl (Nat.le_of_ble_eq_true rfl) ?_
            refine wi_aload_0 ct_120_0 ?_
            refine wi_iload_1 ct_120_1 ?_
            refine wi_ic ct_120_2 kc_0 ?_
            refine wi_aload_0 ct_120_3 ?_
            refine wi_gf (x := fi 31 0) ct_120_4 (sT_31 hS) rfl rfl rfl ?_
            refine wi_ic ct_120_7 kc_1 ?_
            refine wi_isub ct_120_8 rfl ?_
            refine wi_cv3 (ls' := [some _, some _, some _, some _]) ct_120_9 (Nat.le_of_ble_eq_true rfl) (by decide) (sT_31 hS) rfl (by decide) rfl rfl (Nat.le_of_ble_eq_true rfl) ?_
            refine c_in hBn ki_0 (i_sub rfl ki_1 (by omega)) (fun _ => wk_i ?_) (fun h => absurd h (by omega))
            refine wi_iret ct_120_12 (by decide) (wk_i ?_)
            refine wi_ifne_t ct_192_19 ki_1 (by decide) ?_
            refine wi_aload_0 ct_192_25 ?_
            refine wi_gfr ct_192_26 (sT_31 hS) rfl (sR_31_2 hS) ?_
            refine wi_iload_1 ct_192_29 ?_
            refine wi_iald (x := fi 32 B) ct_192_30 (sT_32 hS) (sL_32 hS) (i_in hBn (by omega)) (i_cl (k := B) hBn (by omega)) rfl ?_
            refine wi_istore_3 rfl ct_192_31 ?_
            refine wi_iload_2 ct_192_32 ?_
            refine wi_ifeq_f ct_192_33 rfl (by omega) ?_
            refine wi_iload_3 ct_192_36 ?_
            refine wi_iload_2 ct_192_37 ?_
            refine wi_iceq_f ct_192_38 rfl rfl (by omega) ?_
            refine wi_iload_2 ct_192_41 ?_
            refine wi_ic ct_192_42 kc_1 ?_
            refine wi_icne_f ct_192_43 rfl ki_1 (by omega) ?_
            refine wi_iload_3 ct_192_46 ?_
            refine wi_ic ct_192_47 kc_4 ?_
            refine wi_iceq_t ct_192_48 rfl ki_4 (by omega) ?_
            refine wi_iload_3 ct_192_72 ?_
            refine wi_goto ct_192_73 ?_
            refine wi_iret ct_192_78 rfl (wk_i ?_)
            refine wi_iceq_t ct_211_1118 rfl rfl (by omega) ?_
            exact kk own g fi fl hR (by omega) (by omega)
          · skip
            refine wi_iof (z := 0) ct_106_41 (ot.trans (by rw [hk9] <;> rfl)) (by decide) rfl ?_
            refine wi_iret ct_106_44 (by decide) (wk_i ?_)
            refine wi_ifeq_t ct_97_31 ki_0 (by decide) ?_
            refine wi_ic ct_97_41 kc_m12 ?_
            refine wi_iret ct_97_43 rfl (wk_i ?_)
            refine wi_aload_2 ct_211_1104 ?_
            refine wi_aloadT_0 ct_211_1105 ?_
            refine wi_iload_3 ct_211_1106 ?_
            refine wi_ic ct_211_1107 kc_1 ?_
            refine wi_iadd ct_211_1108 rfl ?_
            refine wi_ialdT (j := I + 1) (x := a1) ct_211_1109 (sL_SC hS) (i_in (i_add hi ki_1 (by omega)) (by omega)) (i_cl (i_add hi ki_1 (by omega)) (by omega)) (((hsc _).trans e1)) ?_
            refine wi_aloadT_0 ct_211_1110 ?_
            refine wi_iload_3 ct_211_1111 ?_
            refine wi_ic ct_211_1112 kc_2 ?_
            refine wi_iadd ct_211_1113 rfl ?_
            refine wi_ialdT (j := I + 2) (x := a2) ct_211_1114 (sL_SC hS) (i_in (i_add hi ki_2 (by omega)) (by omega)) (i_cl (i_add hi ki_2 (by omega)) (by omega)) (((hsc _).trans e2)) ?_
            refine wi_cv2 (ls' := [some _, some _, some _, none]) ct_211_1115 (Nat.le_of_ble_eq_true rfl) (by decide) (sT_31 hS) rfl (by decide) rfl rfl (Nat.le_of_ble_eq_true rfl) ?_
            refine wi_aload_0 ct_192_0 ?_
            refine wi_iload_2 ct_192_1 ?_
            refine wi_ic ct_192_2 kc_0 ?_
            refine wi_ic ct_192_3 kc_6 ?_
            refine wi_cv3 (ls' := [some _, some _, some _, some _]) ct_192_5 (Nat.le_of_ble_eq_true rfl) (by decide) (sT_31 hS) rfl (by decide) rfl rfl (Nat.le_of_ble_eq_true rfl) ?_
            refine c_in rfl ki_0 ki_6 (fun _ => wk_i ?_) (fun h => absurd h (by omega))
            refine wi_ifne_t ct_192_8 ki_1 (by decide) ?_
            refine wi_aload_0 ct_192_14 ?_
            refine wi_iload_1 ct_192_15 ?_
            refine wi_cv1 (ls' := [some _, some _]) ct_192_16 (Nat.le_of_ble_eq_true rfl) (by decide) (sT_31 hS) rfl (by decide) rfl rfl (Nat.le_of_ble_eq_true rfl) ?_
            refine wi_aload_0 ct_120_0 ?_
            refine wi_iload_1 ct_120_1 ?_
            refine wi_ic ct_120_2 kc_0 ?_
            refine wi_aload_0 ct_120_3 ?_
            refine wi_gf (x := fi 31 0) ct_120_4 (sT_31 hS) rfl rfl rfl ?_
            refine wi_ic ct_120_7 kc_1 ?_
            refine wi_isub ct_120_8 rfl ?_
            refine wi_cv3 (ls' := [some _, some _, some _, some _]) ct_120_9 (Nat.le_of_ble_eq_true rfl) (by decide) (sT_31 hS) rfl (by decide) rfl rfl (Nat.le_of_ble_eq_true rfl) ?_
            refine c_in hBn ki_0 (i_sub rfl ki_1 (by omega)) (fun _ => wk_i ?_) (fun h => absurd h (by omega))
            refine wi_iret ct_120_12 (by decide) (wk_i ?_)
            refine wi_ifne_t ct_192_19 ki_1 (by decide) ?_
            refine wi_aload_0 ct_192_25 ?_
            refine wi_gfr ct_192_26 (sT_31 hS) rfl (sR_31_2 hS) ?_
            refine wi_iload_1 ct_192_29 ?_
            refine wi_iald (x := fi 32 B) ct_192_30 (sT_32 hS) (sL_32 hS) (i_in hBn (by omega)) (i_cl (k := B) hBn (by omega)) rfl ?_
            refine wi_istore_3 rfl ct_192_31 ?_
            refine wi_iload_2 ct_192_32 ?_
            refine wi_ifeq_f ct_192_33 rfl (by omega) ?_
            refine wi_iload_3 ct_192_36 ?_
            refine wi_iload_2 ct_192_37 ?_
            refine wi_iceq_f ct_192_38 rfl rfl (by omega) ?_
            refine wi_iload_2 ct_192_41 ?_
            refine wi_ic ct_192_42 kc_1 ?_
            refine wi_icne_f ct_192_43 rfl ki_1 (by omega) ?_
            refine wi_iload_3 ct_192_46 ?_
            refine wi_ic ct_192_47 kc_4 ?_
            refine wi_iceq_f ct_192_48 rfl ki_4 (by omega) ?_
            refine wi_iload_2 ct_192_51 ?_
            refine wi_ic ct_192_52 kc_2 ?_
            refine wi_icne_t ct_192_53 rfl ki_2 (by omega) ?_
            refine wi_iload_2 ct_192_61 ?_
            refine wi_ic ct_192_62 kc_3 ?_
            refine wi_icne_t ct_192_63 rfl ki_3 (by omega) ?_
            refine wi_ic ct_192_76 kc_m12 ?_
            refine wi_iret ct_192_78 rfl (wk_i ?_)
            refine wi_iceq_t ct_211_1118 ki_m12 ki_m12 (by decide) ?_
            exact kk own g fi fl hR (by omega) (by omega)
          · skip
            refine wi_iof (z := 0) ct_106_41 (ot.trans (by rw [hk10] <;> rfl)) (by decide) rfl ?_
            refine wi_iret ct_106_44 (by decide) (wk_i ?_)
            refine wi_ifeq_t ct_97_31 ki_0 (by decide) ?_
            refine wi_ic ct_97_41 kc_m12 ?_
            refine wi_iret ct_97_43 rfl (wk_i ?_)
            refine wi_aload_2 ct_211_1104 ?_
            refine wi_aloadT_0 ct_211_1105 ?_
            refine wi_iload_3 ct_211_1106 ?_
            refine wi_ic ct_211_1107 kc_1 ?_
            refine wi_iadd ct_211_1108 rfl ?_
            refine wi_ialdT (j := I + 1) (x := a1) ct_211_1109 (sL_SC hS) (i_in (i_add hi ki_1 (by omega)) (by omega)) (i_cl (i_add hi ki_1 (by omega)) (by omega)) (((hsc _).trans e1)) ?_
            refine wi_aloadT_0 ct_211_1110 ?_
            refine wi_iload_3 ct_211_1111 ?_
            refine wi_ic ct_211_1112 kc_2 ?_
            refine wi_iadd ct_211_1113 rfl ?_
            refine wi_ialdT (j := I + 2) (x := a2) ct_211_1114 (sL_SC hS) (i_in (i_add hi ki_2 (by omega)) (by omega)) (i_cl (i_add hi ki_2 (by omega)) (by omega)) (((hsc _).trans e2)) ?_
            refine wi_cv2 (ls' := [some _, some _, some _, none]) ct_211_1115 (Nat.le_of_ble_eq_true rfl) (by decide) (sT_31 hS) rfl (by decide) rfl rfl (Nat.le_of_ble_eq_true rfl) ?_
            refine wi_aload_0 ct_192_0 ?_
            refine wi_iload_2 ct_192_1 ?_
            refine wi_ic ct_192_2 kc_0 ?_
            refine wi_ic ct_192_3 kc_6 ?_
            refine wi_cv3 (ls' := [some _, some _, some _, some _]) ct_192_5 (Nat.le_of_ble_eq_true rfl) (by decide) (sT_31 hS) rfl (by decide) rfl rfl (Nat.le_of_ble_eq_true rfl) ?_
            refine c_in rfl ki_0 ki_6 (fun _ => wk_i ?_) (fun h => absurd h (by omega))
            refine wi_ifne_t ct_192_8 ki_1 (by decide) ?_
            refine wi_aload_0 ct_192_14 ?_
            refine wi_iload_1 ct_192_15 ?_
            refine wi_cv1 (ls' := [some _, some _]) ct_192_16 (Nat.le_of_ble_eq_true rfl) (by decide) (sT_31 hS) rfl (by decide) rfl rfl (Nat.le_of_ble_eq_true rfl) ?_
            refine wi_aload_0 ct_120_0 ?_
            refine wi_iload_1 ct_120_1 ?_
            refine wi_ic ct_120_2 kc_0 ?_
            refine wi_aload_0 ct_120_3 ?_
            refine wi_gf (x := fi 31 0) ct_120_4 (sT_31 hS) rfl rfl rfl ?_
            refine wi_ic ct_120_7 kc_1 ?_
            refine wi_isub ct_120_8 rfl ?_
            refine wi_cv3 (ls' := [some _, some _, some _, some _]) ct_120_9 (Nat.le_of_ble_eq_true rfl) (by decide) (sT_31 hS) rfl (by decide) rfl rfl (Nat.le_of_ble_eq_true rfl) ?_
            refine c_in hBn ki_0 (i_sub rfl ki_1 (by omega)) (fun _ => wk_i ?_) (fun h => absurd h (by omega))
            refine wi_iret ct_120_12 (by decide) (wk_i ?_)
            refine wi_ifne_t ct_192_19 ki_1 (by decide) ?_
            refine wi_aload_0 ct_192_25 ?_
            refine wi_gfr ct_192_26 (sT_31 hS) rfl (sR_31_2 hS) ?_
            refine wi_iload_1 ct_192_29 ?_
            refine wi_iald (x := fi 32 B) ct_192_30 (sT_32 hS) (sL_32 hS) (i_in hBn (by omega)) (i_cl (k := B) hBn (by omega)) rfl ?_
            refine wi_istore_3 rfl ct_192_31 ?_
            refine wi_iload_2 ct_192_32 ?_
            refine wi_ifeq_f ct_192_33 rfl (by omega) ?_
            refine wi_iload_3 ct_192_36 ?_
            refine wi_iload_2 ct_192_37 ?_
            refine wi_iceq_f ct_192_38 rfl rfl (by omega) ?_
            refine wi_iload_2 ct_192_41 ?_
            refine wi_ic ct_192_42 kc_1 ?_
            refine wi_icne_f ct_192_43 rfl ki_1 (by omega) ?_
            refine wi_iload_3 ct_192_46 ?_
            refine wi_ic ct_192_47 kc_4 ?_
            refine wi_iceq_f ct_192_48 rfl ki_4 (by omega) ?_
            refine wi_iload_2 ct_192_51 ?_
            refine wi_ic ct_192_52 kc_2 ?_
            refine wi_icne_t ct_192_53 rfl ki_2 (by omega) ?_
            refine wi_iload_2 ct_192_61 ?_
            refine wi_ic ct_192_62 kc_3 ?_
            refine wi_icne_t ct_192_63 rfl ki_3 (by omega) ?_
            refine wi_ic ct_192_76 kc_m12 ?_
            refine wi_iret ct_192_78 rfl (wk_i ?_)
            refine wi_iceq_t ct_211_1118 ki_m12 ki_m12 (by decide) ?_
            exact kk own g fi fl hR (by omega) (by omega)
        rcases Decidable.em ((a2).toInt = 2) with h11 | h11
        · refine wi_tsw (X := 2) (t := 45) ct_106_1 (by omega) rfl ?_
          refine wi_aload_0 ct_106_45 ?_
          rcases am_k7 (k := (fi 32 B).toInt) (by omega) with hk12 | hk13 | hk14 | hk15 | hk16 | hk17 | hk18
          · skip
            refine wi_iof (z := 0) ct_106_46 (ot.trans (by rw [hk12] <;> rfl)) (by decide) rfl ?_
            refine wi_iret ct_106_49 (by decide) (wk_i ?_)
            refine wi_ifeq_t ct_97_31 ki_0 (by decide) ?_
            refine wi_ic ct_97_41 kc_m12 ?_
            refine wi_iret ct_97_43 rfl (wk_i ?_)
            refine wi_aload_2 ct_211_1104 ?_
            refine wi_aloadT_0 ct_211_1105 ?_
            refine wi_iload_3 ct_211_1106 ?_
            refine wi_ic ct_211_1107 kc_1 ?_
            refine wi_iadd ct_211_1108 rfl ?_
            refine wi_ialdT (j := I + 1) (x := a1) ct_211_1109 (sL_SC hS) (i_in (i_add hi ki_1 (by omega)) (by omega)) (i_cl (i_add hi ki_1 (by omega)) (by omega)) (((hsc _).trans e1)) ?_
            refine wi_aloadT_0 ct_211_1110 ?_
            refine wi_iload_3 ct_211_1111 ?_
            refine wi_ic ct_211_1112 kc_2 ?_
            refine wi_iadd ct_211_1113 rfl ?_
            refine wi_ialdT (j := I + 2) (x := a2) ct_211_1114 (sL_SC hS) (i_in (i_add hi ki_2 (by omega)) (by omega)) (i_cl (i_add hi ki_2 (by omega)) (by omega)) (((hsc _).trans e2)) ?_
            refine wi_cv2 (ls' := [some _, some _, some _, none]) ct_211_1115 (Nat.le_of_ble_eq_true rfl) (by decide) (sT_31 hS) rfl (by decide) rfl rfl (Nat.le_of_ble_eq_true rfl) ?_
            refine wi_aload_0 ct_192_0 ?_
            refine wi_iload_2 ct_192_1 ?_
            refine wi_ic ct_192_2 kc_0 ?_
            refine wi_ic ct_192_3 kc_6 ?_
            refine wi_cv3 (ls' := [some _, some _, some _, some _]) ct_192_5 (Nat.le_of_ble_eq_true rfl) (by decide) (sT_31 hS) rfl (by decide) rfl rfl (Nat.le_of_ble_eq_true rfl) ?_
            refine c_in rfl ki_0 ki_6 (fun _ => wk_i ?_) (fun h => absurd h (by omega))
            refine wi_ifne_t ct_192_8 ki_1 (by decide) ?_
            refine wi_aload_0 ct_192_14 ?_
            refine wi_iload_1 ct_192_15 ?_
            refine wi_cv1 (ls' := [some _, some _]) ct_192_16 (Nat.le_of_ble_eq_true rfl) (by decide) (sT_31 hS) rfl (by decide) rfl rfl (Nat.le_of_ble_eq_true rfl) ?_
            refine wi_aload_0 ct_120_0 ?_
            refine wi_iload_1 ct_120_1 ?_
            refine wi_ic ct_120_2 kc_0 ?_
            refine wi_aload_0 ct_120_3 ?_
            refine wi_gf (x := fi 31 0) ct_120_4 (sT_31 hS) rfl rfl rfl ?_
            refine wi_ic ct_120_7 kc_1 ?_
            refine wi_isub ct_120_8 rfl ?_
            refine wi_cv3 (ls' := [some _, some _, some _, some _]) ct_120_9 (Nat.le_of_ble_eq_true rfl) (by decide) (sT_31 hS) rfl (by decide) rfl rfl (Nat.le_of_ble_eq_true rfl) ?_
            refine c_in hBn ki_0 (i_sub rfl ki_1 (by omega)) (fun _ => wk_i ?_) (fun h => absurd h (by omega))
            refine wi_iret ct_120_12 (by decide) (wk_i ?_)
            refine wi_ifne_t ct_192_19 ki_1 (by decide) ?_
            refine wi_aload_0 ct_192_25 ?_
            refine wi_gfr ct_192_26 (sT_31 hS) rfl (sR_31_2 hS) ?_
            refine wi_iload_1 ct_192_29 ?_
            refine wi_iald (x := fi 32 B) ct_192_30 (sT_32 hS) (sL_32 hS) (i_in hBn (by omega)) (i_cl (k := B) hBn (by omega)) rfl ?_
            refine wi_istore_3 rfl ct_192_31 ?_
            refine wi_iload_2 ct_192_32 ?_
            refine wi_ifeq_f ct_192_33 rfl (by omega) ?_
            refine wi_iload_3 ct_192_36 ?_
            refine wi_iload_2 ct_192_37 ?_
            refine wi_iceq_f ct_192_38 rfl rfl (by omega) ?_
            refine wi_iload_2 ct_192_41 ?_
            refine wi_ic ct_192_42 kc_1 ?_
            refine wi_icne_t ct_192_43 rfl ki_1 (by omega) ?_
            refine wi_iload_2 ct_192_51 ?_
            refine wi_ic ct_192_52 kc_2 ?_
            refine wi_icne_f ct_192_53 rfl ki_2 (by omega) ?_
            refine wi_iload_3 ct_192_56 ?_
            refine wi_ic ct_192_57 kc_5 ?_
            refine wi_iceq_f ct_192_58 rfl ki_5 (by omega) ?_
            refine wi_iload_2 ct_192_61 ?_
            refine wi_ic ct_192_62 kc_3 ?_
            refine wi_icne_t ct_192_63 rfl ki_3 (by omega) ?_
            refine wi_ic ct_192_76 kc_m12 ?_
            refine wi_iret ct_192_78 rfl (wk_i ?_)
            refine wi_iceq_t ct_211_1118 ki_m12 ki_m12 (by decide) ?_
            exact kk own g fi fl hR (by omega) (by omega)
          · skip
            refine wi_iof (z := 0) ct_106_46 (ot.trans (by rw [hk13] <;> rfl)) (by decide) rfl ?_
            refine wi_iret ct_106_49 (by decide) (wk_i ?_)
            refine wi_ifeq_t ct_97_31 ki_0 (by decide) ?_
            refine wi_ic ct_97_41 kc_m12 ?_
            refine wi_iret ct_97_43 rfl (wk_i ?_)
            refine wi_aload_2 ct_211_1104 ?_
            refine wi_aloadT_0 ct_211_1105 ?_
            refine wi_iload_3 ct_211_1106 ?_
            refine wi_ic ct_211_1107 kc_1 ?_
            refine wi_iadd ct_211_1108 rfl ?_
            refine wi_ialdT (j := I + 1) (x := a1) ct_211_1109 (sL_SC hS) (i_in (i_add hi ki_1 (by omega)) (by omega)) (i_cl (i_add hi ki_1 (by omega)) (by omega)) (((hsc _).trans e1)) ?_
            refine wi_aloadT_0 ct_211_1110 ?_
            refine wi_iload_3 ct_211_1111 ?_
            refine wi_ic ct_211_1112 kc_2 ?_
            refine wi_iadd ct_211_1113 rfl ?_
            refine wi_ialdT (j := I + 2) (x := a2) ct_211_1114 (sL_SC hS) (i_in (i_add hi ki_2 (by omega)) (by omega)) (i_cl (i_add hi ki_2 (by omega)) (by omega)) (((hsc _).trans e2)) ?_
            refine wi_cv2 (ls' := [some _, some _, some _, none]) ct_211_1115 (Nat.le_of_ble_eq_true rfl) (by decide) (sT_31 hS) rfl (by decide) rfl rfl (Nat.le_of_ble_eq_true rfl) ?_
            refine wi_aload_0 ct_192_0 ?_
            refine wi_iload_2 ct_192_1 ?_
            refine wi_ic ct_192_2 kc_0 ?_
            refine wi_ic ct_192_3 kc_6 ?_
            refine wi_cv3 (ls' := [some _, some _, some _, some _]) ct_192_5 (Nat.le_of_ble_eq_true rfl) (by decide) (sT_31 hS) rfl (by decide) rfl rfl (Nat.le_of_ble_eq_true rfl) ?_
            refine c_in rfl ki_0 ki_6 (fun _ => wk_i ?_) (fun h => absurd h (by omega))
            refine wi_ifne_t ct_192_8 ki_1 (by decide) ?_
            refine wi_aload_0 ct_192_14 ?_
            refine wi_iload_1 ct_192_15 ?_
            refine wi_cv1 (ls' := [some _, some _]) ct_192_16 (Nat.le_of_ble_eq_true rfl) (by decide) (sT_31 hS) rfl (by decide) rfl rfl (Nat.le_of_ble_eq_true rfl) ?_
            refine wi_aload_0 ct_120_0 ?_
            refine wi_iload_1 ct_120_1 ?_
            refine wi_ic ct_120_2 kc_0 ?_
            refine wi_aload_0 ct_120_3 ?_
            refine wi_gf (x := fi 31 0) ct_120_4 (sT_31 hS) rfl rfl rfl ?_
            refine wi_ic ct_120_7 kc_1 ?_
            refine wi_isub ct_120_8 rfl ?_
            refine wi_cv3 (ls' := [some _, some _, some _, some _]) ct_120_9 (Nat.le_of_ble_eq_true rfl) (by decide) (sT_31 hS) rfl (by decide) rfl rfl (Nat.le_of_ble_eq_true rfl) ?_
            refine c_in hBn ki_0 (i_sub rfl ki_1 (by omega)) (fun _ => wk_i ?_) (fun h => absurd h (by omega))
            refine wi_iret ct_120_12 (by decide) (wk_i ?_)
            refine wi_ifne_t ct_192_19 ki_1 (by decide) ?_
            refine wi_aload_0 ct_192_25 ?_
            refine wi_gfr ct_192_26 (sT_31 hS) rfl (sR_31_2 hS) ?_
            refine wi_iload_1 ct_192_29 ?_
            refine wi_iald (x := fi 32 B) ct_192_30 (sT_32 hS) (sL_32 hS) (i_in hBn (by omega)) (i_cl (k := B) hBn (by omega)) rfl ?_
            refine wi_istore_3 rfl ct_192_31 ?_
            refine wi_iload_2 ct_192_32 ?_
            refine wi_ifeq_f ct_192_33 rfl (by omega) ?_
            refine wi_iload_3 ct_192_36 ?_
            refine wi_iload_2 ct_192_37 ?_
            refine wi_iceq_f ct_192_38 rfl rfl (by omega) ?_
            refine wi_iload_2 ct_192_41 ?_
            refine wi_ic ct_192_42 kc_1 ?_
            refine wi_icne_t ct_192_43 rfl ki_1 (by omega) ?_
            refine wi_iload_2 ct_192_51 ?_
            refine wi_ic ct_192_52 kc_2 ?_
            refine wi_icne_f ct_192_53 rfl ki_2 (by omega) ?_
            refine wi_iload_3 ct_192_56 ?_
            refine wi_ic ct_192_57 kc_5 ?_
            refine wi_iceq_f ct_192_58 rfl ki_5 (by omega) ?_
            refine wi_iload_2 ct_192_61 ?_
            refine wi_ic ct_192_62 kc_3 ?_
            refine wi_icne_t ct_192_63 rfl ki_3 (by omega) ?_
            refine wi_ic ct_192_76 kc_m12 ?_
            refine wi_iret ct_192_78 rfl (wk_i ?_)
            refine wi_iceq_t ct_211_1118 ki_m12 ki_m12 (by decide) ?_
            exact kk own g fi fl hR (by omega) (by omega)
          · skip
            refine wi_iof (z := 1) ct_106_46 (ot.trans (by rw [hk14] <;> rfl)) (by decide) rfl ?_
            refine wi_iret ct_106_49 (by decide) (wk_i ?_)
            refine wi_ifeq_f ct_97_31 ki_1 (by decide) ?_
            refine wi_aload_3 ct_97_34 ?_
            refine wi_gf (x := fi 32 B) ct_97_35 (ot.trans (by rw [hk14] <;> rfl)) rfl rfl ok ?_
            refine wi_goto ct_97_38 ?_
            refine wi_iret ct_97_43 rfl (wk_i ?_)
            refine wi_aload_2 ct_211_1104 ?_
            refine wi_aloadT_0 ct_211_1105 ?_
            refine wi_iload_3 ct_211_1106 ?_
            refine wi_ic ct_211_1107 kc_1 ?_
            refine wi_iadd ct_211_1108 rfl ?_
            refine wi_ialdT (j := I + 1) (x := a1) ct_211_1109 (sL_SC hS) (i_in (i_add hi ki_1 (by omega)) (by omega)) (i_cl (i_add hi ki_1 (by omega)) (by omega)) (((hsc _).trans e1)) ?_
            refine wi_aloadT_0 ct_211_1110 ?_
            refine wi_iload_3 ct_211_1111 ?_
            refine wi_ic ct_211_1112 kc_2 ?_
            refine wi_iadd ct_211_1113 rfl ?_
            refine wi_ialdT (j := I + 2) (x := a2) ct_211_1114 (sL_SC hS) (i_in (i_add hi ki_2 (by omega)) (by omega)) (i_cl (i_add hi ki_2 (by omega)) (by omega)) (((hsc _).trans e2)) ?_
            refine wi_cv2 (ls' := [some _, some _, some _, none]) ct_211_1115 (Nat.le_of_ble_eq_true rfl) (by decide) (sT_31 hS) rfl (by decide) rfl rfl (Nat.le_of_ble_eq_true rfl) ?_
            refine wi_aload_0 ct_192_0 ?_
            refine wi_iload_2 ct_192_1 ?_
            refine wi_ic ct_192_2 kc_0 ?_
            refine wi_ic ct_192_3 kc_6 ?_
            refine wi_cv3 (ls' := [some _, some _, some _, some _]) ct_192_5 (Nat.le_of_ble_eq_true rfl) (by decide) (sT_31 hS) rfl (by decide) rfl rfl (Nat.le_of_ble_eq_true rfl) ?_
            refine c_in rfl ki_0 ki_6 (fun _ => wk_i ?_) (fun h => absurd h (by omega))
            refine wi_ifne_t ct_192_8 ki_1 (by decide) ?_
            refine wi_aload_0 ct_192_14 ?_
            refine wi_iload_1 ct_192_15 ?_
            refine wi_cv1 (ls' := [some _, some _]) ct_192_16 (Nat.le_of_ble_eq_true rfl) (by decide) (sT_31 hS) rfl (by decide) rfl rfl (Nat.le_of_ble_eq_true rfl) ?_
            refine wi_aload_0 ct_120_0 ?_
            refine wi_iload_1 ct_120_1 ?_
            refine wi_ic ct_120_2 kc_0 ?_
            refine wi_aload_0 ct_120_3 ?_
            refine wi_gf (x := fi 31 0) ct_120_4 (sT_31 hS) rfl rfl rfl ?_
            refine wi_ic ct_120_7 kc_1 ?_
            refine wi_isub ct_120_8 rfl ?_
            refine wi_cv3 (ls' := [some _, some _, some _, some _]) ct_120_9 (Nat.le_of_ble_eq_true rfl) (by decide) (sT_31 hS) rfl (by decide) rfl rfl (Nat.le_of_ble_eq_true rfl) ?_
            refine c_in hBn ki_0 (i_sub rfl ki_1 (by omega)) (fun _ => wk_i ?_) (fun h => absurd h (by omega))
            refine wi_iret ct_120_12 (by decide) (wk_i ?_)
            refine wi_ifne_t ct_192_19 ki_1 (by decide) ?_
            refine wi_aload_0 ct_192_25 ?_
            refine wi_gfr ct_192_26 (sT_31 hS) rfl (sR_31_2 hS) ?_
            refine wi_iload_1 ct_192_29 ?_
            refine wi_iald (x := fi 32 B) ct_192_30 (sT_32 hS) (sL_32 hS) (i_in hBn (by omega)) (i_cl (k := B) hBn (by omega)) rfl ?_
            refine wi_istore_3 rfl ct_192_31 ?_
            refine wi_iload_2 ct_192_32 ?_
            refine wi_ifeq_f ct_192_33 rfl (by omega) ?_
            refine wi_iload_3 ct_192_36 ?_
            refine wi_iload_2 ct_192_37 ?_
            refine wi_iceq_t ct_192_38 rfl rfl (by omega) ?_
            refine wi_iload_3 ct_192_72 ?_
            refine wi_goto ct_192_73 ?_
            refine wi_iret ct_192_78 rfl (wk_i ?_)
            refine wi_iceq_t ct_211_1118 rfl rfl (by omega) ?_
            exact kk own g fi fl hR (by omega) (by omega)
          · skip
            refine wi_iof (z := 0) ct_106_46 (ot.trans (by rw [hk15] <;> rfl)) (by decide) rfl ?_
            refine wi_iret ct_106_49 (by decide) (wk_i ?_)
            refine wi_ifeq_t ct_97_31 ki_0 (by decide) ?_
            refine wi_ic ct_97_41 kc_m12 ?_
            refine wi_iret ct_97_43 rfl (wk_i ?_)
            refine wi_aload_2 ct_211_1104 ?_
            refine wi_aloadT_0 ct_211_1105 ?_
            refine wi_iload_3 ct_211_1106 ?_
            refine wi_ic ct_211_1107 kc_1 ?_
            refine wi_iadd ct_211_1108 rfl ?_
            refine wi_ialdT (j := I + 1) (x := a1) ct_211_1109 (sL_SC hS) (i_in (i_add hi ki_1 (by omega)) (by omega)) (i_cl (i_add hi ki_1 (by omega)) (by omega)) (((hsc _).trans e1)) ?_
            refine wi_aloadT_0 ct_211_1110 ?_
            refine wi_iload_3 ct_211_1111 ?_
            refine wi_ic ct_211_1112 kc_2 ?_
            refine wi_iadd ct_211_1113 rfl ?_
            refine wi_ialdT (j := I + 2) (x := a2) ct_211_1114 (sL_SC hS) (i_in (i_add hi ki_2 (by omega)) (by omega)) (i_cl (i_add hi ki_2 (by omega)) (by omega)) (((hsc _).trans e2)) ?_
            refine wi_cv2 (ls' := [some _, some _, some _, none]) ct_211_1115 (Nat.le_of_ble_eq_true rfl) (by decide) (sT_31 hS) rfl (by decide) rfl rfl (Nat.le_of_ble_eq_true rfl) ?_
            refine wi_aload_0 ct_192_0 ?_
            refine wi_iload_2 ct_192_1 ?_
            refine wi_ic ct_192_2 kc_0 ?_
            refine wi_ic ct_192_3 kc_6 ?_
            refine wi_cv3 (ls' := [some _, some _, some _, some _]) ct_192_5 (Nat.le_of_ble_eq_true rfl) (by decide) (sT_31 hS) rfl (by decide) rfl rfl (Nat.le_of_ble_eq_true rfl) ?_
            refine c_in rfl ki_0 ki_6 (fun _ => wk_i ?_) (fun h => absurd h (by omega))
            refine wi_ifne_t ct_192_8 ki_1 (by decide) ?_
            refine wi_aload_0 ct_192_14 ?_
            refine wi_iload_1 ct_192_15 ?_
            refine wi_cv1 (ls' := [some _, some _]) ct_192_16 (Nat.le_of_ble_eq_true rfl) (by decide) (sT_31 hS) rfl (by decide) rfl rfl (Nat.le_of_ble_eq_true rfl) ?_
            refine wi_aload_0 ct_120_0 ?_
            refine wi_iload_1 ct_120_1 ?_
            refine wi_ic ct_120_2 kc_0 ?_
            refine wi_aload_0 ct_120_3 ?_
            refine wi_gf (x := fi 31 0) ct_120_4 (sT_31 hS) rfl rfl rfl ?_
            refine wi_ic ct_120_7 kc_1 ?_
            refine wi_isub ct_120_8 rfl ?_
            refine wi_cv3 (ls' := [some _, some _, some _, some _]) ct_120_9 (Nat.le_of_ble_eq_true rfl) (by decide) (sT_31 hS) rfl (by decide) rfl rfl (Nat.le_of_ble_eq_true rfl) ?_
            refine c_in hBn ki_0 (i_sub rfl ki_1 (by omega)) (fun _ => wk_i ?_) (fun h => absurd h (by omega))
            refine wi_iret ct_120_12 (by decide) (wk_i ?_)
            refine wi_ifne_t ct_192_19 ki_1 (by decide) ?_
            refine wi_aload_0 ct_192_25 ?_
            refine wi_gfr ct_192_26 (sT_31 hS) rfl (sR_31_2 hS) ?_
            refine wi_iload_1 ct_192_29 ?_
            refine wi_iald (x := fi 32 B) ct_192_30 (sT_32 hS) (sL_32 hS) (i_in hBn (by omega)) (i_cl (k := B) hBn (by omega)) rfl ?_
            refine wi_istore_3 rfl ct_192_31 ?_
            refine wi_iload_2 ct_192_32 ?_
            refine wi_ifeq_f ct_192_33 rfl (by omega) ?_
            refine wi_iload_3 ct_192_36 ?_
            refine wi_iload_2 ct_192_37 ?_
            refine wi_iceq_f ct_192_38 rfl rfl (by omega) ?_
            refine wi_iload_2 ct_192_41 ?_
            refine wi_ic ct_192_42 kc_1 ?_
            refine wi_icne_t ct_192_43 rfl ki_1 (by omega) ?_
            refine wi_iload_2 ct_192_51 ?_
            refine wi_ic ct_192_52 kc_2 ?_
            refine wi_icne_f ct_192_53 rfl ki_2 (by omega) ?_
            refine wi_iload_3 ct_192_56 ?_
            refine wi_ic ct_192_57 kc_5 ?_
            refine wi_iceq_f ct_192_58 rfl ki_5 (by omega) ?_
            refine wi_iload_2 ct_192_61 ?_
            refine wi_ic ct_192_62 kc_3 ?_
            refine wi_icne_t ct_192_63 rfl ki_3 (by omega) ?_
            refine wi_ic ct_192_76 kc_m12 ?_
            refine wi_iret ct_192_78 rfl (wk_i ?_)
            refine wi_iceq_t ct_211_1118 ki_m12 ki_m12 (by decide) ?_
            exact kk own g fi fl hR (by omega) (by omega)
          · skip
            refine wi_iof (z := 0) ct_106_46 (ot.trans (by rw [hk16] <;> rfl)) (by decide) rfl ?_
            refine wi_iret ct_106_49 (by decide) (wk_i ?_)
            refine wi_ifeq_t ct_97_31 ki_0 (by decide) ?_
            refine wi_ic ct_97_41 kc_m12 ?_
            refine wi_iret ct_97_43 rfl (wk_i ?_)
            refine wi_aload_2 ct_211_1104 ?_
            refine wi_aloadT_0 ct_211_1105 ?_
            refine wi_iload_3 ct_211_1106 ?_
            refine wi_ic ct_211_1107 kc_1 ?_
            refine wi_iadd ct_211_1108 rfl ?_
            refine wi_ialdT (j := I + 1) (x := a1) ct_211_1109 (sL_SC hS) (i_in (i_add hi ki_1 (by omega)) (by omega)) (i_cl (i_add hi ki_1 (by omega)) (by omega)) (((hsc _).trans e1)) ?_
            refine wi_aloadT_0 ct_211_1110 ?_
            refine wi_iload_3 ct_211_1111 ?_
            refine wi_ic ct_211_1112 kc_2 ?_
            refine wi_iadd ct_211_1113 rfl ?_
            refine wi_ialdT (j := I + 2) (x := a2) ct_211_1114 (sL_SC hS) (i_in (i_add hi ki_2 (by omega)) (by omega)) (i_cl (i_add hi ki_2 (by omega)) (by omega)) (((hsc _).trans e2)) ?_
            refine wi_cv2 (ls' := [some _, some _, some _, none]) ct_211_1115 (Nat.le_of_ble_eq_true rfl) (by decide) (sT_31 hS) rfl (by decide) rfl rfl (Nat.le_of_ble_eq_true rfl) ?_
            refine wi_aload_0 ct_192_0 ?_
            refine wi_iload_2 ct_192_1 ?_
            refine wi_ic ct_192_2 kc_0 ?_
            refine wi_ic ct_192_3 kc_6 ?_
            refine wi_cv3 (ls' := [some _, some _, some _, some _]) ct_192_5 (Nat.le_of_ble_eq_true rfl) (by decide) (sT_31 hS) rfl (by decide) rfl rfl (Nat.le_of_ble_eq_true rfl) ?_
            refine c_in rfl ki_0 ki_6 (fun _ => wk_i ?_) (fun h => absurd h (by omega))
            refine wi_ifne_t ct_192_8 ki_1 (by decide) ?_
            refine wi_aload_0 ct_192_14 ?_
            refine wi_iload_1 ct_192_15 ?_
            refine wi_cv1 (ls' := [some _, some _]) ct_192_16 (Nat.le_of_ble_eq_true rfl) (by decide) (sT_31 hS) rfl (by decide) rfl rfl (Nat.le_of_ble_eq_true rfl) ?_
            refine wi_aload_0 ct_120_0 ?_
            refine wi_iload_1 ct_120_1 ?_
            refine wi_ic ct_120_2 kc_0 ?_
            refine wi_aload_0 ct_120_3 ?_
            refine wi_gf (x := fi 31 0) ct_120_4 (sT_31 hS) rfl rfl rfl ?_
            refine wi_ic ct_120_7 kc_1 ?_
            refine wi_isub ct_120_8 rfl ?_
            refine wi_cv3 (ls' := [some _, some _, some _, some _]) ct_120_9 (Nat.le_of_ble_eq_true rfl) (by decide) (sT_31 hS) rfl (by decide) rfl rfl (Nat.le_of_ble_eq_true rfl) ?_
            refine c_in hBn ki_0 (i_sub rfl ki_1 (by omega)) (fun _ => wk_i ?_) (fun h => absurd h (by omega))
            refine wi_iret ct_120_12 (by decide) (wk_i ?_)
            refine wi_ifne_t ct_192_19 ki_1 (by decide) ?_
            refine wi_aload_0 ct_192_25 ?_
            refine wi_gfr ct_192_26 (sT_31 hS) rfl (sR_31_2 hS) ?_
            refine wi_iload_1 ct_192_29 ?_
            refine wi_iald (x := fi 32 B) ct_192_30 (sT_32 hS) (sL_32 hS) (i_in hBn (by omega)) (i_cl (k := B) hBn (by omega)) rfl ?_
            refine wi_istore_3 rfl ct_192_31 ?_
            refine wi_iload_2 ct_192_32 ?_
            refine wi_ifeq_f ct_192_33 rfl (by omega) ?_
            refine wi_iload_3 ct_192_36 ?_
            refine wi_iload_2 ct_192_37 ?_
            refine wi_iceq_f ct_192_38 rfl rfl (by omega) ?_
            refine wi_iload_2 ct_192_41 ?_
            refine wi_ic ct_192_42 kc_1 ?_
            refine wi_icne_t ct_192_43 rfl ki_1 (by omega) ?_
            refine wi_iload_2 ct_192_51 ?_
            refine wi_ic ct_192_52 kc_2 ?_
            refine wi_icne_f ct_192_53 rfl ki_2 (by omega) ?_
            refine wi_iload_3 ct_192_56 ?_
            refine wi_ic ct_192_57 kc_5 ?_
            refine wi_iceq_f ct_192_58 rfl ki_5 (by omega) ?_
            refine wi_iload_2 ct_192_61 ?_
            refine wi_ic ct_192_62 kc_3 ?_
            refine wi_icne_t ct_192_63 rfl ki_3 (by omega) ?_
            refine wi_ic ct_192_76 kc_m12 ?_
            refine wi_iret ct_192_78 rfl (wk_i ?_)
            refine wi_iceq_t ct_211_1118 ki_m12 ki_m12 (by decide) ?_
            exact kk own g fi fl hR (by omega) (by omega)
          · skip
            refine wi_iof (z := 1) ct_106_46 (ot.trans (by rw [hk17] <;> rfl)) (by decide) rfl ?_
            refine wi_iret ct_106_49 (by decide) (wk_i ?_)
            refine wi_ifeq_f ct_97_31 ki_1 (by decide) ?_
            refine wi_aload_3 ct_97_34 ?_
            refine wi_gf (x := fi 32 B) ct_97_35 (ot.trans (by rw [hk17] <;> rfl)) rfl rfl ok ?_
            refine wi_goto ct_97_38 ?_
            refine wi_iret ct_97_43 rfl (wk_i ?_)
            refine wi_aload_2 ct_211_1104 ?_
            refine wi_aloadT_0 ct_211_1105 ?_
            refine wi_iload_3 ct_211_1106 ?_
            refine wi_ic ct_211_1107 kc_1 ?_
            refine wi_iadd ct_211_1108 rfl ?_
            refine wi_ialdT (j := I + 1) (x := a1) ct_211_1109 (sL_SC hS) (i_in (i_add hi ki_1 (by omega)) (by omega)) (i_cl (i_add hi ki_1 (by omega)) (by omega)) (((hsc _).trans e1)) ?_
            refine wi_aloadT_0 ct_211_1110 ?_
            refine wi_iload_3 ct_211_1111 ?_
            refine wi_ic ct_211_1112 kc_2 ?_
            refine wi_iadd ct_211_1113 rfl ?_
            refine wi_ialdT (j := I + 2) (x := a2) ct_211_1114 (sL_SC hS) (i_in (i_add hi ki_2 (by omega)) (by omega)) (i_cl (i_add hi ki_2 (by omega)) (by omega)) (((hsc _).trans e2)) ?_
            refine wi_cv2 (ls' := [some _, some _, some _, none]) ct_211_1115 (Nat.le_of_ble_eq_true rfl) (by decide) (sT_31 hS) rfl (by decide) rfl rfl (Nat.le_of_ble_eq_true rfl) ?_
            refine wi_aload_0 ct_192_0 ?_
            refine wi_iload_2 ct_192_1 ?_
            refine wi_ic ct_192_2 kc_0 ?_
            refine wi_ic ct_192_3 kc_6 ?_
            refine wi_cv3 (ls' := [some _, some _, some _, some _]) ct_192_5 (Nat.le_of_ble_eq_true rfl) (by decide) (sT_31 hS) rfl (by decide) rfl rfl (Nat.le_of_ble_eq_true rfl) ?_
            refine c_in rfl ki_0 ki_6 (fun _ => wk_i ?_) (fun h => absurd h (by omega))
            refine wi_ifne_t ct_192_8 ki_1 (by decide) ?_
            refine wi_aload_0 ct_192_14 ?_
            refine wi_iload_1 ct_192_15 ?_
            refine wi_cv1 (ls' := [some _, some _]) ct_192_16 (Nat.le_of_ble_eq_true rfl) (by decide) (sT_31 hS) rfl (by decide) rfl rfl (Nat.le_of_ble_eq_true rfl) ?_
            refine wi_aload_0 ct_120_0 ?_
            refine wi_iload_1 ct_120_1 ?_
            refine wi_ic ct_120_2 kc_0 ?_
            refine wi_aload_0 ct_120_3 ?_
            refine wi_gf (x := fi 31 0) ct_120_4 (sT_31 hS) rfl rfl rfl ?_
            refine wi_ic ct_120_7 kc_1 ?_
            refine wi_isub ct_120_8 rfl ?_
            refine wi_cv3 (ls' := [some _, some _, some _, some _]) ct_120_9 (Nat.le_of_ble_eq_true rfl) (by decide) (sT_31 hS) rfl (by decide) rfl rfl (Nat.le_of_ble_eq_true rfl) ?_
            refine c_in hBn ki_0 (i_sub rfl ki_1 (by omega)) (fun _ => wk_i ?_) (fun h => absurd h (by omega))
            refine wi_iret ct_120_12 (by decide) (wk_i ?_)
            refine wi_ifne_t ct_192_19 ki_1 (by decide) ?_
            refine wi_aload_0 ct_192_25 ?_
            refine wi_gfr ct_192_26 (sT_31 hS) rfl (sR_31_2 hS) ?_
            refine wi_iload_1 ct_192_29 ?_
            refine wi_iald (x := fi 32 B) ct_192_30 (sT_32 hS) (sL_32 hS) (i_in hBn (by omega)) (i_cl (k := B) hBn (by omega)) rfl ?_
            refine wi_istore_3 rfl ct_192_31 ?_
            refine wi_iload_2 ct_192_32 ?_
            refine wi_ifeq_f ct_192_33 rfl (by omega) ?_
            refine wi_iload_3 ct_192_36 ?_
            refine wi_iload_2 ct_192_37 ?_
            refine wi_iceq_f ct_192_38 rfl rfl (by omega) ?_
            refine wi_iload_2 ct_192_41 ?_
            refine wi_ic ct_192_42 kc_1 ?_
            refine wi_icne_t ct_192_43 rfl ki_1 (by omega) ?_
            refine wi_iload_2 ct_192_51 ?_
            refine wi_ic ct_192_52 kc_2 ?_
            refine wi_icne_f ct_192_53 rfl ki_2 (by omega) ?_
            refine wi_iload_3 ct_192_56 ?_
            refine wi_ic ct_192_57 kc_5 ?_
            refine wi_iceq_t ct_192_58 rfl ki_5 (by omega) ?_
            refine wi_iload_3 ct_192_72 ?_
            refine wi_goto ct_192_73 ?_
            refine wi_iret ct_192_78 rfl (wk_i ?_)
            refine wi_iceq_t ct_211_1118 rfl rfl (by omega) ?_
            exact kk own g fi fl hR (by omega) (by omega)
          · skip
            refine wi_iof (z := 0) ct_106_46 (ot.trans (by rw [hk18] <;> rfl)) (by decide) rfl ?_
            refine wi_iret ct_106_49 (by decide) (wk_i ?_)
            refine wi_ifeq_t ct_97_31 ki_0 (by decide) ?_
            refine wi_ic ct_97_41 kc_m12 ?_
            refine wi_iret ct_97_43 rfl (wk_i ?_)
            refine wi_aload_2 ct_211_1104 ?_
            refine wi_aloadT_0 ct_211_1105 ?_
            refine wi_iload_3 ct_211_1106 ?_
            refine wi_ic ct_211_1107 kc_1 ?_
            refine wi_iadd ct_211_1108 rfl ?_
            refine wi_ialdT (j := I + 1) (x := a1) ct_211_1109 (sL_SC hS) (i_in (i_add hi ki_1 (by omega)) (by omega)) (i_cl (i_add hi ki_1 (by omega)) (by omega)) (((hsc _).trans e1)) ?_
            refine wi_aloadT_0 ct_211_1110 ?_
            refine wi_iload_3 ct_211_1111 ?_
            refine wi_ic ct_211_1112 kc_2 ?_
            refine wi_iadd ct_211_1113 rfl ?_
            refine wi_ialdT (j := I + 2) (x := a2) ct_211_1114 (sL_SC hS) (i_in (i_add hi ki_2 (by omega)) (by omega)) (i_cl (i_add hi ki_2 (by omega)) (by omega)) (((hsc _).trans e2)) ?_
            refine wi_cv2 (ls' := [some _, some _, some _, none]) ct_211_1115 (Nat.le_of_ble_eq_true rfl) (by decide) (sT_31 hS) rfl (by decide) rfl rfl (Nat.le_of_ble_eq_true rfl) ?_
            refine wi_aload_0 ct_192_0 ?_
            refine wi_iload_2 ct_192_1 ?_
            refine wi_ic ct_192_2 kc_0 ?_
            refine wi_ic ct_192_3 kc_6 ?_
            refine wi_cv3 (ls' := [some _, some _, some _, some _]) ct_192_5 (Nat.le_of_ble_eq_true rfl) (by decide) (sT_31 hS) rfl (by decide) rfl rfl (Nat.le_of_ble_eq_true rfl) ?_
            refine c_in rfl ki_0 ki_6 (fun _ => wk_i ?_) (fun h => absurd h (by omega))
            refine wi_ifne_t ct_192_8 ki_1 (by decide) ?_
            refine wi_aload_0 ct_192_14 ?_
            refine wi_iload_1 ct_192_15 ?_
            refine wi_cv1 (ls' := [some _, some _]) ct_192_16 (Nat.le_of_ble_eq_true rfl) (by decide) (sT_31 hS) rfl (by decide) rfl rfl (Nat.le_of_ble_eq_true rfl) ?_
            refine wi_aload_0 ct_120_0 ?_
            refine wi_iload_1 ct_120_1 ?_
            refine wi_ic ct_120_2 kc_0 ?_
            refine wi_aload_0 ct_120_3 ?_
            refine wi_gf (x := fi 31 0) ct_120_4 (sT_31 hS) rfl rfl rfl ?_
            refine wi_ic ct_120_7 kc_1 ?_
            refine wi_isub ct_120_8 rfl ?_
            refine wi_cv3 (ls' := [some _, some _, some _, some _]) ct_120_9 (Nat.le_of_ble_eq_true rfl) (by decide) (sT_31 hS) rfl (by decide) rfl rfl (Nat.le_of_ble_eq_true rfl) ?_
            refine c_in hBn ki_0 (i_sub rfl ki_1 (by omega)) (fun _ => wk_i ?_) (fun h => absurd h (by omega))
            refine wi_iret ct_120_12 (by decide) (wk_i ?_)
            refine wi_ifne_t ct_192_19 ki_1 (by decide) ?_
            refine wi_aload_0 ct_192_25 ?_
            refine wi_gfr ct_192_26 (sT_31 hS) rfl (sR_31_2 hS) ?_
            refine wi_iload_1 ct_192_29 ?_
            refine wi_iald (x := fi 32 B) ct_192_30 (sT_32 hS) (sL_32 hS) (i_in hBn (by omega)) (i_cl (k := B) hBn (by omega)) rfl ?_
            refine wi_istore_3 rfl ct_192_31 ?_
            refine wi_iload_2 ct_192_32 ?_
            refine wi_ifeq_f ct_192_33 rfl (by omega) ?_
            refine wi_iload_3 ct_192_36 ?_
            refine wi_iload_2 ct_192_37 ?_
            refine wi_iceq_f ct_192_38 rfl rfl (by omega) ?_
            refine wi_iload_2 ct_192_41 ?_
            refine wi_ic ct_192_42 kc_1 ?_
            refine wi_icne_t ct_192_43 rfl ki_1 (by omega) ?_
            refine wi_iload_2 ct_192_51 ?_
            refine wi_ic ct_192_52 kc_2 ?_
            refine wi_icne_f ct_192_53 rfl ki_2 (by omega) ?_
            refine wi_iload_3 ct_192_56 ?_
            refine wi_ic ct_192_57 kc_5 ?_
            refine wi_iceq_f ct_192_58 rfl ki_5 (by omega) ?_
            refine wi_iload_2 ct_192_61 ?_
            refine wi_ic ct_192_62 kc_3 ?_
            refine wi_icne_t ct_192_63 rfl ki_3 (by omega) ?_
            refine wi_ic ct_192_76 kc_m12 ?_
            refine wi_iret ct_192_78 rfl (wk_i ?_)
            refine wi_iceq_t ct_211_1118 ki_m12 ki_m12 (by decide) ?_
            exact kk own g fi fl hR (by omega) (by omega)
        rcases Decidable.em ((a2).toInt = 3) with h19 | h19
        · refine wi_tsw (X := 3) (t := 50) ct_106_1 (by omega) rfl ?_
          refine wi_aload_0 ct_106_50 ?_
          rcases am_k7 (k := (fi 32 B).toInt) (by omega) with hk20 | hk21 | hk22 | hk23 | hk24 | hk25 | hk26
          · skip
            refine wi_iof (z := 0) ct_106_51 (ot.trans (by rw [hk20] <;> rfl)) (by decide) rfl ?_
            refine wi_iret ct_106_54 (by decide) (wk_i ?_)
            refine wi_ifeq_t ct_97_31 ki_0 (by decide) ?_
            refine wi_ic ct_97_41 kc_m12 ?_
            refine wi_iret ct_97_43 rfl (wk_i ?_)
            refine wi_aload_2 ct_211_1104 ?_
            refine wi_aloadT_0 ct_211_1105 ?_
            refine wi_iload_3 ct_211_1106 ?_
            refine wi_ic ct_211_1107 kc_1 ?_
            refine wi_iadd ct_211_1108 rfl ?_
            refine wi_ialdT (j := I + 1) (x := a1) ct_211_1109 (sL_SC hS) (i_in (i_add hi ki_1 (by omega)) (by omega)) (i_cl (i_add hi ki_1 (by omega)) (by omega)) (((hsc _).trans e1)) ?_
            refine wi_aloadT_0 ct_211_1110 ?_
            refine wi_iload_3 ct_211_1111 ?_
            refine wi_ic ct_211_1112 kc_2 ?_
            refine wi_iadd ct_211_1113 rfl ?_
            refine wi_ialdT (j := I + 2) (x := a2) ct_211_1114 (sL_SC hS) (i_in (i_add hi ki_2 (by omega)) (by omega)) (i_cl (i_add hi ki_2 (by omega)) (by omega)) (((hsc _).trans e2)) ?_
            refine wi_cv2 (ls' := [some _, some _, some _, none]) ct_211_1115 (Nat.le_of_ble_eq_true rfl) (by decide) (sT_31 hS) rfl (by decide) rfl rfl (Nat.le_of_ble_eq_true rfl) ?_
            refine wi_aload_0 ct_192_0 ?_
            refine wi_iload_2 ct_192_1 ?_
            refine wi_ic ct_192_2 kc_0 ?_
            refine wi_ic ct_192_3 kc_6 ?_
            refine wi_cv3 (ls' := [some _, some _, some _, some _]) ct_192_5 (Nat.le_of_ble_eq_true rfl) (by decide) (sT_31 hS) rfl (by decide) rfl rfl (Nat.le_of_ble_eq_true rfl) ?_
            refine c_in rfl ki_0 ki_6 (fun _ => wk_i ?_) (fun h => absurd h (by omega))
            refine wi_ifne_t ct_192_8 ki_1 (by decide) ?_
            refine wi_aload_0 ct_192_14 ?_
            refine wi_iload_1 ct_192_15 ?_
            refine wi_cv1 (ls' := [some _, some _]) ct_192_16 (Nat.le_of_ble_eq_true rfl) (by decide) (sT_31 hS) rfl (by decide) rfl rfl (Nat.le_of_ble_eq_true rfl) ?_
            refine wi_aload_0 ct_120_0 ?_
            refine wi_iload_1 ct_120_1 ?_
            refine wi_ic ct_120_2 kc_0 ?_
            refine wi_aload_0 ct_120_3 ?_
            refine wi_gf (x := fi 31 0) ct_120_4 (sT_31 hS) rfl rfl rfl ?_
            refine wi_ic ct_120_7 kc_1 ?_
            refine wi_isub ct_120_8 rfl ?_
            refine wi_cv3 (ls' := [some _, some _, some _, some _]) ct_120_9 (Nat.le_of_ble_eq_true rfl) (by decide) (sT_31 hS) rfl (by decide) rfl rfl (Nat.le_of_ble_eq_true rfl) ?_
            refine c_in hBn ki_0 (i_sub rfl ki_1 (by omega)) (fun _ => wk_i ?_) (fun h => absurd h (by omega))
            refine wi_iret ct_120_12 (by decide) (wk_i ?_)
            refine wi_ifne_t ct_192_19 ki_1 (by decide) ?_
            refine wi_aload_0 ct_192_25 ?_
            refine wi_gfr ct_192_26 (sT_31 hS) rfl (sR_31_2 hS) ?_
            refine wi_iload_1 ct_192_29 ?_
            refine wi_iald (x := fi 32 B) ct_192_30 (sT_32 hS) (sL_32 hS) (i_in hBn (by omega)) (i_cl (k := B) hBn (by omega)) rfl ?_
            refine wi_istore_3 rfl ct_192_31 ?_
            refine wi_iload_2 ct_192_32 ?_
            refine wi_ifeq_f ct_192_33 rfl (by omega) ?_
            refine wi_iload_3 ct_192_36 ?_
            refine wi_iload_2 ct_192_37 ?_
            refine wi_iceq_f ct_192_38 rfl rfl (by omega) ?_
            refine wi_iload_2 ct_192_41 ?_
            refine wi_ic ct_192_42 kc_1 ?_
            refine wi_icne_t ct_192_43 rfl ki_1 (by omega) ?_
            refine wi_iload_2 ct_192_51 ?_
            refine wi_ic ct_192_52 kc_2 ?_
            refine wi_icne_t ct_192_53 rfl ki_2 (by omega) ?_
            refine wi_iload_2 ct_192_61 ?_
            refine wi_ic ct_192_62 kc_3 ?_
            refine wi_icne_f ct_192_63 rfl ki_3 (by omega) ?_
            refine wi_iload_3 ct_192_66 ?_
            refine wi_ic ct_192_67 kc_6 ?_
            refine wi_icne_t ct_192_69 rfl ki_6 (by omega) ?_
            refine wi_ic ct_192_76 kc_m12 ?_
            refine wi_iret ct_192_78 rfl (wk_i ?_)
            refine wi_iceq_t ct_211_1118 ki_m12 ki_m12 (by decide) ?_
            exact kk own g fi fl hR (by omega) (by omega)
          · skip
            refine wi_iof (z := 0) ct_106_51 (ot.trans (by rw [hk21] <;> rfl)) (by decide) rfl ?_
            refine wi_iret ct_106_54 (by decide) (wk_i ?_)
            refine wi_ifeq_t ct_97_31 ki_0 (by decide) ?_
            refine wi_ic ct_97_41 kc_m12 ?_
            refine wi_iret ct_97_43 rfl (wk_i ?_)
            refine wi_aload_2 ct_211_1104 ?_
            refine wi_aloadT_0 ct_211_1105 ?_
            refine wi_iload_3 ct_211_1106 ?_
            refine wi_ic ct_211_1107 kc_1 ?_
            refine wi_iadd ct_211_1108 rfl ?_
            refine wi_ialdT (j := I + 1) (x := a1) ct_211_1109 (sL_SC hS) (i_in (i_add hi ki_1 (by omega)) (by omega)) (i_cl (i_add hi ki_1 (by omega)) (by omega)) (((hsc _).trans e1)) ?_
            refine wi_aloadT_0 ct_211_1110 ?_
            refine wi_iload_3 ct_211_1111 ?_
            refine wi_ic ct_211_1112 kc_2 ?_
            refine wi_iadd ct_211_1113 rfl ?_
            refine wi_ialdT (j := I + 2) (x := a2) ct_211_1114 (sL_SC hS) (i_in (i_add hi ki_2 (by omega)) (by omega)) (i_cl (i_add hi ki_2 (by omega)) (by omega)) (((hsc _).trans e2)) ?_
            refine wi_cv2 (ls' := [some _, some _, some _, none]) ct_211_1115 (Nat.le_of_ble_eq_true rfl) (by decide) (sT_31 hS) rfl (by decide) rfl rfl (Nat.le_of_ble_eq_true rfl) ?_
            refine wi_aload_0 ct_192_0 ?_
            refine wi_iload_2 ct_192_1 ?_
            refine wi_ic ct_192_2 kc_0 ?_
            refine wi_ic ct_192_3 kc_6 ?_
            refine wi_cv3 (ls' := [some _, some _, some _, some _]) ct_192_5 (Nat.le_of_ble_eq_true rfl) (by decide) (sT_31 hS) rfl (by decide) rfl rfl (Nat.le_of_ble_eq_true rfl) ?_
            refine c_in rfl ki_0 ki_6 (fun _ => wk_i ?_) (fun h => absurd h (by omega))
            refine wi_ifne_t ct_192_8 ki_1 (by decide) ?_
            refine wi_aload_0 ct_192_14 ?_
            refine wi_iload_1 ct_192_15 ?_
            refine wi_cv1 (ls' := [some _, some _]) ct_192_16 (Nat.le_of_ble_eq_true rfl) (by decide) (sT_31 hS) rfl (by decide) rfl rfl (Nat.le_of_ble_eq_true rfl) ?_
            refine wi_aload_0 ct_120_0 ?_
            refine wi_iload_1 ct_120_1 ?_
            refine wi_ic ct_120_2 kc_0 ?_
            refine wi_aload_0 ct_120_3 ?_
            refine wi_gf (x := fi 31 0) ct_120_4 (sT_31 hS) rfl rfl rfl ?_
            refine wi_ic ct_120_7 kc_1 ?_
            refine wi_isub ct_120_8 rfl ?_
            refine wi_cv3 (ls' := [some _, some _, some _, some _]) ct_120_9 (Nat.le_of_ble_eq_true rfl) (by decide) (sT_31 hS) rfl (by decide) rfl rfl (Nat.le_of_ble_eq_true rfl) ?_
            refine c_in hBn ki_0 (i_sub rfl ki_1 (by omega)) (fun _ => wk_i ?_) (fun h => absurd h (by omega))
            refine wi_iret ct_120_12 (by decide) (wk_i ?_)
            refine wi_ifne_t ct_192_19 ki_1 (by decide) ?_
            refine wi_aload_0 ct_192_25 ?_
            refine wi_gfr ct_192_26 (sT_31 hS) rfl (sR_31_2 hS) ?_
            refine wi_iload_1 ct_192_29 ?_
            refine wi_iald (x := fi 32 B) ct_192_30 (sT_32 hS) (sL_32 hS) (i_in hBn (by omega)) (i_cl (k := B) hBn (by omega)) rfl ?_
            refine wi_istore_3 rfl ct_192_31 ?_
            refine wi_iload_2 ct_192_32 ?_
            refine wi_ifeq_f ct_192_33 rfl (by omega) ?_
            refine wi_iload_3 ct_192_36 ?_
            refine wi_iload_2 ct_192_37 ?_
            refine wi_iceq_f ct_192_38 rfl rfl (by omega) ?_
            refine wi_iload_2 ct_192_41 ?_
            refine wi_ic ct_192_42 kc_1 ?_
            refine wi_icne_t ct_192_43 rfl ki_1 (by omega) ?_
            refine wi_iload_2 ct_192_51 ?_
            refine wi_ic ct_192_52 kc_2 ?_
            refine wi_icne_t ct_192_53 rfl ki_2 (by omega) ?_
            refine wi_iload_2 ct_192_61 ?_
            refine wi_ic ct_192_62 kc_3 ?_
            refine wi_icne_f ct_192_63 rfl ki_3 (by omega) ?_
            refine wi_iload_3 ct_192_66 ?_
            refine wi_ic ct_192_67 kc_6 ?_
            refine wi_icne_t ct_192_69 rfl ki_6 (by omega) ?_
            refine wi_ic ct_192_76 kc_m12 ?_
            refine wi_iret ct_192_78 rfl (wk_i ?_)
            refine wi_iceq_t ct_211_1118 ki_m12 ki_m12 (by decide) ?_
            exact kk own g fi fl hR (by omega) (by omega)
          · skip
            refine wi_iof (z := 0) ct_106_51 (ot.trans (by rw [hk22] <;> rfl)) (by decide) rfl ?_
            refine wi_iret ct_106_54 (by decide) (wk_i ?_)
            refine wi_ifeq_t ct_97_31 ki_0 (by decide) ?_
            refine wi_ic ct_97_41 kc_m12 ?_
            refine wi_iret ct_97_43 rfl (wk_i ?_)
            refine wi_aload_2 ct_211_1104 ?_
            refine wi_aloadT_0 ct_211_1105 ?_
            refine wi_iload_3 ct_211_1106 ?_
            refine wi_ic ct_211_1107 kc_1 ?_
            refine wi_iadd ct_211_1108 rfl ?_
            refine wi_ialdT (j := I + 1) (x := a1) ct_211_1109 (sL_SC hS) (i_in (i_add hi ki_1 (by omega)) (by omega)) (i_cl (i_add hi ki_1 (by omega)) (by omega)) (((hsc _).trans e1)) ?_
            refine wi_aloadT_0 ct_211_1110 ?_
            refine wi_iload_3 ct_211_1111 ?_
            refine wi_ic ct_211_1112 kc_2 ?_
            refine wi_iadd ct_211_1113 rfl ?_
            refine wi_ialdT (j := I + 2) (x := a2) ct_211_1114 (sL_SC hS) (i_in (i_add hi ki_2 (by omega)) (by omega)) (i_cl (i_add hi ki_2 (by omega)) (by omega)) (((hsc _).trans e2)) ?_
            refine wi_cv2 (ls' := [some _, some _, some _, none]) ct_211_1115 (Nat.le_of_ble_eq_true rfl) (by decide) (sT_31 hS) rfl (by decide) rfl rfl (Nat.le_of_ble_eq_true rfl) ?_
            refine wi_aload_0 ct_192_0 ?_
            refine wi_iload_2 ct_192_1 ?_
            refine wi_ic ct_192_2 kc_0 ?_
            refine wi_ic ct_192_3 kc_6 ?_
            refine wi_cv3 (ls' := [some _, some _, some _, some _]) ct_192_5 (Nat.le_of_ble_eq_true rfl) (by decide) (sT_31 hS) rfl (by decide) rfl rfl (Nat.le_of_ble_eq_true rfl) ?_
            refine c_in rfl ki_0 ki_6 (fun _ => wk_i ?_) (fun h => absurd h (by omega))
            refine wi_ifne_t ct_192_8 ki_1 (by decide) ?_
            refine wi_aload_0 ct_192_14 ?_
            refine wi_iload_1 ct_192_15 ?_
            refine wi_cv1 (ls' := [some _, some _]) ct_192_16 (Nat.le_of_ble_eq_true rfl) (by decide) (sT_31 hS) rfl (by decide) rfl rfl (Nat.le_of_ble_eq_true rfl) ?_
            refine wi_aload_0 ct_120_0 ?_
            refine wi_iload_1 ct_120_1 ?_
            refine wi_ic ct_120_2 kc_0 ?_
            refine wi_aload_0 ct_120_3 ?_
            refine wi_gf (x := fi 31 0) ct_120_4 (sT_31 hS) rfl rfl rfl ?_
            refine wi_ic ct_120_7 kc_1 ?_
            refine wi_isub ct_120_8 rfl ?_
            refine wi_cv3 (ls' := [some _, some _, some _, some _]) ct_120_9 (Nat.le_of_ble_eq_true rfl) (by decide) (sT_31 hS) rfl (by decide) rfl rfl (Nat.le_of_ble_eq_true rfl) ?_
            refine c_in hBn ki_0 (i_sub rfl ki_1 (by omega)) (fun _ => wk_i ?_) (fun h => absurd h (by omega))
            refine wi_iret ct_120_12 (by decide) (wk_i ?_)
            refine wi_ifne_t ct_192_19 ki_1 (by decide) ?_
            refine wi_aload_0 ct_192_25 ?_
            refine wi_gfr ct_192_26 (sT_31 hS) rfl (sR_31_2 hS) ?_
            refine wi_iload_1 ct_192_29 ?_
            refine wi_iald (x := fi 32 B) ct_192_30 (sT_32 hS) (sL_32 hS) (i_in hBn (by omega)) (i_cl (k := B) hBn (by omega)) rfl ?_
            refine wi_istore_3 rfl ct_192_31 ?_
            refine wi_iload_2 ct_192_32 ?_
            refine wi_ifeq_f ct_192_33 rfl (by omega) ?_
            refine wi_iload_3 ct_192_36 ?_
            refine wi_iload_2 ct_192_37 ?_
            refine wi_iceq_f ct_192_38 rfl rfl (by omega) ?_
            refine wi_iload_2 ct_192_41 ?_
            refine wi_ic ct_192_42 kc_1 ?_
            refine wi_icne_t ct_192_43 rfl ki_1 (by omega) ?_
            refine wi_iload_2 ct_192_51 ?_
            refine wi_ic ct_192_52 kc_2 ?_
            refine wi_icne_t ct_192_53 rfl ki_2 (by omega) ?_
            refine wi_iload_2 ct_192_61 ?_
            refine wi_ic ct_192_62 kc_3 ?_
            refine wi_icne_f ct_192_63 rfl ki_3 (by omega) ?_
            refine wi_iload_3 ct_192_66 ?_
            refine wi_ic ct_192_67 kc_6 ?_
            refine wi_icne_t ct_192_69 rfl ki_6 (by omega) ?_
            refine wi_ic ct_192_76 kc_m12 ?_
            refine wi_iret ct_192_78 rfl (wk_i ?_)
            refine wi_iceq_t ct_211_1118 ki_m12 ki_m12 (by decide) ?_
            exact kk own g fi fl hR (by omega) (by omega)
          · skip
            refine wi_iof (z := 1) ct_106_51 (ot.trans (by rw [hk23] <;> rfl)) (by decide) rfl ?_
            refine wi_iret ct_106_54 (by decide) (wk_i ?_)
            refine wi_ifeq_f ct_97_31 ki_1 (by decide) ?_
            refine wi_aload_3 ct_97_34 ?_
            refine wi_gf (x := fi 32 B) ct_97_35 (ot.trans (by rw [hk23] <;> rfl)) rfl rfl ok ?_
            refine wi_goto ct_97_38 ?_
            refine wi_iret ct_97_43 rfl (wk_i ?_)
            refine wi_aload_2 ct_211_1104 ?_
            refine wi_aloadT_0 ct_211_1105 ?_
            refine wi_iload_3 ct_211_1106 ?_
            refine wi_ic ct_211_1107 kc_1 ?_
            refine wi_iadd ct_211_1108 rfl ?_
            refine wi_ialdT (j := I + 1) (x := a1) ct_211_1109 (sL_SC hS) (i_in (i_add hi ki_1 (by omega)) (by omega)) (i_cl (i_add hi ki_1 (by omega)) (by omega)) (((hsc _).trans e1)) ?_
            refine wi_aloadT_0 ct_211_1110 ?_
            refine wi_iload_3 ct_211_1111 ?_
            refine wi_ic ct_211_1112 kc_2 ?_
            refine wi_iadd ct_211_1113 rfl ?_
            refine wi_ialdT (j := I + 2) (x := a2) ct_211_1114 (sL_SC hS) (i_in (i_add hi ki_2 (by omega)) (by omega)) (i_cl (i_add hi ki_2 (by omega)) (by omega)) (((hsc _).trans e2)) ?_
            refine wi_cv2 (ls' := [some _, some _, some _, none]) ct_211_1115 (Nat.le_of_ble_eq_true rfl) (by decide) (sT_31 hS) rfl (by decide) rfl rfl (Nat.le_of_ble_eq_true rfl) ?_
            refine wi_aload_0 ct_192_0 ?_
            refine wi_iload_2 ct_192_1 ?_
            refine wi_ic ct_192_2 kc_0 ?_
            refine wi_ic ct_192_3 kc_6 ?_
            refine wi_cv3 (ls' := [some _, some _, some _, some _]) ct_192_5 (Nat.le_of_ble_eq_true rfl) (by decide) (sT_31 hS) rfl (by decide) rfl rfl (Nat.le_of_ble_eq_true rfl) ?_
            refine c_in rfl ki_0 ki_6 (fun _ => wk_i ?_) (fun h => absurd h (by omega))
            refine wi_ifne_t ct_192_8 ki_1 (by decide) ?_
            refine wi_aload_0 ct_192_14 ?_
            refine wi_iload_1 ct_192_15 ?_
            refine wi_cv1 (ls' := [some _, some _]) ct_192_16 (Nat.le_of_ble_eq_true rfl) (by decide) (sT_31 hS) rfl (by decide) rfl rfl (Nat.le_of_ble_eq_true rfl) ?_
            refine wi_aload_0 ct_120_0 ?_
            refine wi_iload_1 ct_120_1 ?_
            refine wi_ic ct_120_2 kc_0 ?_
            refine wi_aload_0 ct_120_3 ?_
            refine wi_gf (x := fi 31 0) ct_120_4 (sT_31 hS) rfl rfl rfl ?_
            refine wi_ic ct_120_7 kc_1 ?_
            refine wi_isub ct_120_8 rfl ?_
            refine wi_cv3 (ls' := [some _, some _, some _, some _]) ct_120_9 (Nat.le_of_ble_eq_true rfl) (by decide) (sT_31 hS) rfl (by decide) rfl rfl (Nat.le_of_ble_eq_true rfl) ?_
            refine c_in hBn ki_0 (i_sub rfl ki_1 (by omega)) (fun _ => wk_i ?_) (fun h => absurd h (by omega))
            refine wi_iret ct_120_12 (by decide) (wk_i ?_)
            refine wi_ifne_t ct_192_19 ki_1 (by decide) ?_
            refine wi_aload_0 ct_192_25 ?_
            refine wi_gfr ct_192_26 (sT_31 hS) rfl (sR_31_2 hS) ?_
            refine wi_iload_1 ct_192_29 ?_
            refine wi_iald (x := fi 32 B) ct_192_30 (sT_32 hS) (sL_32 hS) (i_in hBn (by omega)) (i_cl (k := B) hBn (by omega)) rfl ?_
            refine wi_istore_3 rfl ct_192_31 ?_
            refine wi_iload_2 ct_192_32 ?_
            refine wi_ifeq_f ct_192_33 rfl (by omega) ?_
            refine wi_iload_3 ct_192_36 ?_
            refine wi_iload_2 ct_192_37 ?_
            refine wi_iceq_t ct_192_38 rfl rfl (by omega) ?_
            refine wi_iload_3 ct_192_72 ?_
            refine wi_goto ct_192_73 ?_
            refine wi_iret ct_192_78 rfl (wk_i ?_)
            refine wi_iceq_t ct_211_1118 rfl rfl (by omega) ?_
            exact kk own g fi fl hR (by omega) (by omega)
          · skip
            refine wi_iof (z := 0) ct_106_51 (ot.trans (by rw [hk24] <;> rfl)) (by decide) rfl ?_
            refine wi_iret ct_106_54 (by decide) (wk_i ?_)
            refine wi_ifeq_t ct_97_31 ki_0 (by decide) ?_
            refine wi_ic ct_97_41 kc_m12 ?_
            refine wi_iret ct_97_43 rfl (wk_i ?_)
            refine wi_aload_2 ct_211_1104 ?_
            refine wi_aloadT_0 ct_211_1105 ?_
            refine wi_iload_3 ct_211_1106 ?_
            refine wi_ic ct_211_1107 kc_1 ?_
            refine wi_iadd ct_211_1108 rfl ?_
            refine wi_ialdT (j := I + 1) (x := a1) ct_211_1109 (sL_SC hS) (i_in (i_add hi ki_1 (by omega)) (by omega)) (i_cl (i_add hi ki_1 (by omega)) (by omega)) (((hsc _).trans e1)) ?_
            refine wi_aloadT_0 ct_211_1110 ?_
            refine wi_iload_3 ct_211_1111 ?_
            refine wi_ic ct_211_1112 kc_2 ?_
            refine wi_iadd ct_211_1113 rfl ?_
            refine wi_ialdT (j := I + 2) (x := a2) ct_211_1114 (sL_SC hS) (i_in (i_add hi ki_2 (by omega)) (by omega)) (i_cl (i_add hi ki_2 (by omega)) (by omega)) (((hsc _).trans e2)) ?_
            refine wi_cv2 (ls' := [some _, some _, some _, none]) ct_211_1115 (Nat.le_of_ble_eq_true rfl) (by decide) (sT_31 hS) rfl (by decide) rfl rfl (Nat.le_of_ble_eq_true rfl) ?_
            refine wi_aload_0 ct_192_0 ?_
            refine wi_iload_2 ct_192_1 ?_
            refine wi_ic ct_192_2 kc_0 ?_
            refine wi_ic ct_192_3 kc_6 ?_
            refine wi_cv3 (ls' := [some _, some _, some _, some _]) ct_192_5 (Nat.le_of_ble_eq_true rfl) (by decide) (sT_31 hS) rfl (by decide) rfl rfl (Nat.le_of_ble_eq_true rfl) ?_
            refine c_in rfl ki_0 ki_6 (fun _ => wk_i ?_) (fun h => absurd h (by omega))
            refine wi_ifne_t ct_192_8 ki_1 (by decide) ?_
            refine wi_aload_0 ct_192_14 ?_
            refine wi_iload_1 ct_192_15 ?_
            refine wi_cv1 (ls' := [some _, some _]) ct_192_16 (Nat.le_of_ble_eq_true rfl) (by decide) (sT_31 hS) rfl (by decide) rfl rfl (Nat.le_of_ble_eq_true rfl) ?_
            refine wi_aload_0 ct_120_0 ?_
            refine wi_iload_1 ct_120_1 ?_
            refine wi_ic ct_120_2 kc_0 ?_
            refine wi_aload_0 ct_120_3 ?_
            refine wi_gf (x := fi 31 0) ct_120_4 (sT_31 hS) rfl rfl rfl ?_
            refine wi_ic ct_120_7 kc_1 ?_
            refine wi_isub ct_120_8 rfl ?_
            refine wi_cv3 (ls' := [some _, some _, some _, some _]) ct_120_9 (Nat.le_of_ble_eq_true rfl) (by decide) (sT_31 hS) rfl (by decide) rfl rfl (Nat.le_of_ble_eq_true rfl) ?_
            refine c_in hBn ki_0 (i_sub rfl ki_1 (by omega)) (fun _ => wk_i ?_) (fun h => absurd h (by omega))
            refine wi_iret ct_120_12 (by decide) (wk_i ?_)
            refine wi_ifne_t ct_192_19 ki_1 (by decide) ?_
            refine wi_aload_0 ct_192_25 ?_
            refine wi_gfr ct_192_26 (sT_31 hS) rfl (sR_31_2 hS) ?_
            refine wi_iload_1 ct_192_29 ?_
            refine wi_iald (x := fi 32 B) ct_192_30 (sT_32 hS) (sL_32 hS) (i_in hBn (by omega)) (i_cl (k := B) hBn (by omega)) rfl ?_
            refine wi_istore_3 rfl ct_192_31 ?_
            refine wi_iload_2 ct_192_32 ?_
            refine wi_ifeq_f ct_192_33 rfl (by omega) ?_
            refine wi_iload_3 ct_192_36 ?_
            refine wi_iload_2 ct_192_37 ?_
            refine wi_iceq_f ct_192_38 rfl rfl (by omega) ?_
            refine wi_iload_2 ct_192_41 ?_
            refine wi_ic ct_192_42 kc_1 ?_
            refine wi_icne_t ct_192_43 rfl ki_1 (by omega) ?_
            refine wi_iload_2 ct_192_51 ?_
            refine wi_ic ct_192_52 kc_2 ?_
            refine wi_icne_t ct_192_53 rfl ki_2 (by omega) ?_
            refine wi_iload_2 ct_192_61 ?_
            refine wi_ic ct_192_62 kc_3 ?_
            refine wi_icne_f ct_192_63 rfl ki_3 (by omega) ?_
            refine wi_iload_3 ct_192_66 ?_
            refine wi_ic ct_192_67 kc_6 ?_
            refine wi_icne_t ct_192_69 rfl ki_6 (by omega) ?_
            refine wi_ic ct_192_76 kc_m12 ?_
            refine wi_iret ct_192_78 rfl (wk_i ?_)
            refine wi_iceq_t ct_211_1118 ki_m12 ki_m12 (by decide) ?_
            exact kk own g fi fl hR (by omega) (by omega)
          · skip
            refine wi_iof (z := 0) ct_106_51 (ot.trans (by rw [hk25] <;> rfl)) (by decide) rfl ?_
            refine wi_iret ct_106_54 (by decide) (wk_i ?_)
            refine wi_ifeq_t ct_97_31 ki_0 (by decide) ?_
            refine wi_ic ct_97_41 kc_m12 ?_
            refine wi_iret ct_97_43 rfl (wk_i ?_)
            refine wi_aload_2 ct_211_1104 ?_
            refine wi_aloadT_0 ct_211_1105 ?_
            refine wi_iload_3 ct_211_1106 ?_
            refine wi_ic ct_211_1107 kc_1 ?_
            refine wi_iadd ct_211_1108 rfl ?_
            refine wi_ialdT (j := I + 1) (x := a1) ct_211_1109 (sL_SC hS) (i_in (i_add hi ki_1 (by omega)) (by omega)) (i_cl (i_add hi ki_1 (by omega)) (by omega)) (((hsc _).trans e1)) ?_
            refine wi_aloadT_0 ct_211_1110 ?_
            refine wi_iload_3 ct_211_1111 ?_
            refine wi_ic ct_211_1112 kc_2 ?_
            refine wi_iadd ct_211_1113 rfl ?_
            refine wi_ialdT (j := I + 2) (x := a2) ct_211_1114 (sL_SC hS) (i_in (i_add hi ki_2 (by omega)) (by omega)) (i_cl (i_add hi ki_2 (by omega)) (by omega)) (((hsc _).trans e2)) ?_
            refine wi_cv2 (ls' := [some _, some _, some _, none]) ct_211_1115 (Nat.le_of_ble_eq_true rfl) (by decide) (sT_31 hS) rfl (by decide) rfl rfl (Nat.le_of_ble_eq_true rfl) ?_
            refine wi_aload_0 ct_192_0 ?_
            refine wi_iload_2 ct_192_1 ?_
            refine wi_ic ct_192_2 kc_0 ?_
            refine wi_ic ct_192_3 kc_6 ?_
            refine wi_cv3 (ls' := [some _, some _, some _, some _]) ct_192_5 (Nat.le_of_ble_eq_true rfl) (by decide) (sT_31 hS) rfl (by decide) rfl rfl (Nat.le_of_ble_eq_true rfl) ?_
            refine c_in rfl ki_0 ki_6 (fun _ => wk_i ?_) (fun h => absurd h (by omega))
            refine wi_ifne_t ct_192_8 ki_1 (by decide) ?_
            refine wi_aload_0 ct_192_14 ?_
            refine wi_iload_1 ct_192_15 ?_
            refine wi_cv1 (ls' := [some _, some _]) ct_192_16 (Nat.le_of_ble_eq_true rfl) (by decide) (sT_31 hS) rfl (by decide) rfl rfl (Nat.le_of_ble_eq_true rfl) ?_
            refine wi_aload_0 ct_120_0 ?_
            refine wi_iload_1 ct_120_1 ?_
            refine wi_ic ct_120_2 kc_0 ?_
            refine wi_aload_0 ct_120_3 ?_
            refine wi_gf (x := fi 31 0) ct_120_4 (sT_31 hS) rfl rfl rfl ?_
            refine wi_ic ct_120_7 kc_1 ?_
            refine wi_isub ct_120_8 rfl ?_
            refine wi_cv3 (ls' := [some _, some _, some _, some _]) ct_120_9 (Nat.le_of_ble_eq_true rfl) (by decide) (sT_31 hS) rfl (by decide) rfl rfl (Nat.le_of_ble_eq_true rfl) ?_
            refine c_in hBn ki_0 (i_sub rfl ki_1 (by omega)) (fun _ => wk_i ?_) (fun h => absurd h (by omega))
            refine wi_iret ct_120_12 (by decide) (wk_i ?_)
            refine wi_ifne_t ct_192_19 ki_1 (by decide) ?_
            refine wi_aload_0 ct_192_25 ?_
            refine wi_gfr ct_192_26 (sT_31 hS) rfl (sR_31_2 hS) ?_
            refine wi_iload_1 ct_192_29 ?_
            refine wi_iald (x := fi 32 B) ct_192_30 (sT_32 hS) (sL_32 hS) (i_in hBn (by omega)) (i_cl (k := B) hBn (by omega)) rfl ?_
            refine wi_istore_3 rfl ct_192_31 ?_
            refine wi_iload_2 ct_192_32 ?_
            refine wi_ifeq_f ct_192_33 rfl (by omega) ?_
            refine wi_iload_3 ct_192_36 ?_
            refine wi_iload_2 ct_192_37 ?_
            refine wi_iceq_f ct_192_38 rfl rfl (by omega) ?_
            refine wi_iload_2 ct_192_41 ?_
            refine wi_ic ct_192_42 kc_1 ?_
            refine wi_icne_t ct_192_43 rfl ki_1 (by omega) ?_
            refine wi_iload_2 ct_192_51 ?_
            refine wi_ic ct_192_52 kc_2 ?_
            refine wi_icne_t ct_192_53 rfl ki_2 (by omega) ?_
            refine wi_iload_2 ct_192_61 ?_
            refine wi_ic ct_192_62 kc_3 ?_
            refine wi_icne_f ct_192_63 rfl ki_3 (by omega) ?_
            refine wi_iload_3 ct_192_66 ?_
            refine wi_ic ct_192_67 kc_6 ?_
            refine wi_icne_t ct_192_69 rfl ki_6 (by omega) ?_
            refine wi_ic ct_192_76 kc_m12 ?_
            refine wi_iret ct_192_78 rfl (wk_i ?_)
            refine wi_iceq_t ct_211_1118 ki_m12 ki_m12 (by decide) ?_
            exact kk own g fi fl hR (by omega) (by omega)
          · skip
            refine wi_iof (z := 1) ct_106_51 (ot.trans (by rw [hk26] <;> rfl)) (by decide) rfl ?_
            refine wi_iret ct_106_54 (by decide) (wk_i ?_)
            refine wi_ifeq_f ct_97_31 ki_1 (by decide) ?_
            refine wi_aload_3 ct_97_34 ?_
            refine wi_gf (x := fi 32 B) ct_97_35 (ot.trans (by rw [hk26] <;> rfl)) rfl rfl ok ?_
            refine wi_goto ct_97_38 ?_
            refine wi_iret ct_97_43 rfl (wk_i ?_)
            refine wi_aload_2 ct_211_1104 ?_
            refine wi_aloadT_0 ct_211_1105 ?_
            refine wi_iload_3 ct_211_1106 ?_
            refine wi_ic ct_211_1107 kc_1 ?_
            refine wi_iadd ct_211_1108 rfl ?_
            refine wi_ialdT (j := I + 1) (x := a1) ct_211_1109 (sL_SC hS) (i_in (i_add hi ki_1 (by omega)) (by omega)) (i_cl (i_add hi ki_1 (by omega)) (by omega)) (((hsc _).trans e1)) ?_
            refine wi_aloadT_0 ct_211_1110 ?_
            refine wi_iload_3 ct_211_1111 ?_
            refine wi_ic ct_211_1112 kc_2 ?_
            refine wi_iadd ct_211_1113 rfl ?_
            refine wi_ialdT (j := I + 2) (x := a2) ct_211_1114 (sL_SC hS) (i_in (i_add hi ki_2 (by omega)) (by omega)) (i_cl (i_add hi ki_2 (by omega)) (by omega)) (((hsc _).trans e2)) ?_
            refine wi_cv2 (ls' := [some _, some _, some _, none]) ct_211_1115 (Nat.le_of_ble_eq_true rfl) (by decide) (sT_31 hS) rfl (by decide) rfl rfl (Nat.le_of_ble_eq_true rfl) ?_
            refine wi_aload_0 ct_192_0 ?_
            refine wi_iload_2 ct_192_1 ?_
            refine wi_ic ct_192_2 kc_0 ?_
            refine wi_ic ct_192_3 kc_6 ?_
            refine wi_cv3 (ls' := [some _, some _, some _, some _]) ct_192_5 (Nat.le_of_ble_eq_true rfl) (by decide) (sT_31 hS) rfl (by decide) rfl rfl (Nat.le_of_ble_eq_true rfl) ?_
            refine c_in rfl ki_0 ki_6 (fun _ => wk_i ?_) (fun h => absurd h (by omega))
            refine wi_ifne_t ct_192_8 ki_1 (by decide) ?_
            refine wi_aload_0 ct_192_14 ?_
            refine wi_iload_1 ct_192_15 ?_
            refine wi_cv1 (ls' := [some _, some _]) ct_192_16 (Nat.le_of_ble_eq_true rfl) (by decide) (sT_31 hS) rfl (by decide) rfl rfl (Nat.le_of_ble_eq_true rfl) ?_
            refine wi_aload_0 ct_120_0 ?_
            refine wi_iload_1 ct_120_1 ?_
            refine wi_ic ct_120_2 kc_0 ?_
            refine wi_aload_0 ct_120_3 ?_
            refine wi_gf (x := fi 31 0) ct_120_4 (sT_31 hS) rfl rfl rfl ?_
            refine wi_ic ct_120_7 kc_1 ?_
            refine wi_isub ct_120_8 rfl ?_
            refine wi_cv3 (ls' := [some _, some _, some _, some _]) ct_120_9 (Nat.le_of_ble_eq_true rfl) (by decide) (sT_31 hS) rfl (by decide) rfl rfl (Nat.le_of_ble_eq_true rfl) ?_
            refine c_in hBn ki_0 (i_sub rfl ki_1 (by omega)) (fun _ => wk_i ?_) (fun h => absurd h (by omega))
            refine wi_iret ct_120_12 (by decide) (wk_i ?_)
            refine wi_ifne_t ct_192_19 ki_1 (by decide) ?_
            refine wi_aload_0 ct_192_25 ?_
            refine wi_gfr ct_192_26 (sT_31 hS) rfl (sR_31_2 hS) ?_
            refine wi_iload_1 ct_192_29 ?_
            refine wi_iald (x := fi 32 B) ct_192_30 (sT_32 hS) (sL_32 hS) (i_in hBn (by omega)) (i_cl (k := B) hBn (by omega)) rfl ?_
            refine wi_istore_3 rfl ct_192_31 ?_
            refine wi_iload_2 ct_192_32 ?_
            refine wi_ifeq_f ct_192_33 rfl (by omega) ?_
            refine wi_iload_3 ct_192_36 ?_
            refine wi_iload_2 ct_192_37 ?_
            refine wi_iceq_f ct_192_38 rfl rfl (by omega) ?_
            refine wi_iload_2 ct_192_41 ?_
            refine wi_ic ct_192_42 kc_1 ?_
            refine wi_icne_t ct_192_43 rfl ki_1 (by omega) ?_
            refine wi_iload_2 ct_192_51 ?_
            refine wi_ic ct_192_52 kc_2 ?_
            refine wi_icne_t ct_192_53 rfl ki_2 (by omega) ?_
            refine wi_iload_2 ct_192_61 ?_
            refine wi_ic ct_192_62 kc_3 ?_
            refine wi_icne_f ct_192_63 rfl ki_3 (by omega) ?_
            refine wi_iload_3 ct_192_66 ?_
            refine wi_ic ct_192_67 kc_6 ?_
            refine wi_icne_f ct_192_69 rfl ki_6 (by omega) ?_
            refine wi_iload_3 ct_192_72 ?_
            refine wi_goto ct_192_73 ?_
            refine wi_iret ct_192_78 rfl (wk_i ?_)
            refine wi_iceq_t ct_211_1118 rfl rfl (by omega) ?_
            exact kk own g fi fl hR (by omega) (by omega)
        rcases Decidable.em ((a2).toInt = 4) with h27 | h27
        · refine wi_tsw (X := 4) (t := 55) ct_106_1 (by omega) rfl ?_
          refine wi_aload_0 ct_106_55 ?_
          rcases am_k7 (k := (fi 32 B).toInt) (by omega) with hk28 | hk29 | hk30 | hk31 | hk32 | hk33 | hk34
          · skip
            refine wi_iof (z := 0) ct_106_56 (ot.trans (by rw [hk28] <;> rfl)) (by decide) rfl ?_
            refine wi_iret ct_106_59 (by decide) (wk_i ?_)
            refine wi_ifeq_t ct_97_31 ki_0 (by decide) ?_
            refine wi_ic ct_97_41 kc_m12 ?_
            refine wi_iret ct_97_43 rfl (wk_i ?_)
            refine wi_aload_2 ct_211_1104 ?_
            refine wi_aloadT_0 ct_211_1105 ?_
            refine wi_iload_3 ct_211_1106 ?_
            refine wi_ic ct_211_1107 kc_1 ?_
            refine wi_iadd ct_211_1108 rfl ?_
            refine wi_ialdT (j := I + 1) (x := a1) ct_211_1109 (sL_SC hS) (i_in (i_add hi ki_1 (by omega)) (by omega)) (i_cl (i_add hi ki_1 (by omega)) (by omega)) (((hsc _).trans e1)) ?_
            refine wi_aloadT_0 ct_211_1110 ?_
            refine wi_iload_3 ct_211_1111 ?_
            refine wi_ic ct_211_1112 kc_2 ?_
            refine wi_iadd ct_211_1113 rfl ?_
            refine wi_ialdT (j := I + 2) (x := a2) ct_211_1114 (sL_SC hS) (i_in (i_add hi ki_2 (by omega)) (by omega)) (i_cl (i_add hi ki_2 (by omega)) (by omega)) (((hsc _).trans e2)) ?_
            refine wi_cv2 (ls' := [some _, some _, some _, none]) ct_211_1115 (Nat.le_of_ble_eq_true rfl) (by decide) (sT_31 hS) rfl (by decide) rfl rfl (Nat.le_of_ble_eq_true rfl) ?_
            refine wi_aload_0 ct_192_0 ?_
            refine wi_iload_2 ct_192_1 ?_
            refine wi_ic ct_192_2 kc_0 ?_
            refine wi_ic ct_192_3 kc_6 ?_
            refine wi_cv3 (ls' := [some _, some _, some _, some _]) ct_192_5 (Nat.le_of_ble_eq_true rfl) (by decide) (sT_31 hS) rfl (by decide) rfl rfl (Nat.le_of_ble_eq_true rfl) ?_
            refine c_in rfl ki_0 ki_6 (fun _ => wk_i ?_) (fun h => absurd h (by omega))
            refine wi_ifne_t ct_192_8 ki_1 (by decide) ?_
            refine wi_aload_0 ct_192_14 ?_
            refine wi_iload_1 ct_192_15 ?_
            refine wi_cv1 (ls' := [some _, some _]) ct_192_16 (Nat.le_of_ble_eq_true rfl) (by decide) (sT_31 hS) rfl (by decide) rfl rfl (Nat.le_of_ble_eq_true rfl) ?_
            refine wi_aload_0 ct_120_0 ?_
            refine wi_iload_1 ct_120_1 ?_
            refine wi_ic ct_120_2 kc_0 ?_
            refine wi_aload_0 ct_120_3 ?_
            refine wi_gf (x := fi 31 0) ct_120_4 (sT_31 hS) rfl rfl rfl ?_
            refine wi_ic ct_120_7 kc_1 ?_
            refine wi_isub ct_120_8 rfl ?_
            refine wi_cv3 (ls' := [some _, some _, some _, some _]) ct_120_9 (Nat.le_of_ble_eq_true rfl) (by decide) (sT_31 hS) rfl (by decide) rfl rfl (Nat.le_of_ble_eq_true rfl) ?_
            refine c_in hBn ki_0 (i_sub rfl ki_1 (by omega)) (fun _ => wk_i ?_) (fun h => absurd h (by omega))
            refine wi_iret ct_120_12 (by decide) (wk_i ?_)
            refine wi_ifne_t ct_192_19 ki_1 (by decide) ?_
            refine wi_aload_0 ct_192_25 ?_
            refine wi_gfr ct_192_26 (sT_31 hS) rfl (sR_31_2 hS) ?_
            refine wi_iload_1 ct_192_29 ?_
            refine wi_iald (x := fi 32 B) ct_192_30 (sT_32 hS) (sL_32 hS) (i_in hBn (by omega)) (i_cl (k := B) hBn (by omega)) rfl ?_
            refine wi_istore_3 rfl ct_192_31 ?_
            refine wi_iload_2 ct_192_32 ?_
            refine wi_ifeq_f ct_192_33 rfl (by omega) ?_
            refine wi_iload_3 ct_192_36 ?_
            refine wi_iload_2 ct_192_37 ?_
            refine wi_iceq_f ct_192_38 rfl rfl (by omega) ?_
            refine wi_iload_2 ct_192_41 ?_
            refine wi_ic ct_192_42 kc_1 ?_
            refine wi_icne_t ct_192_43 rfl ki_1 (by omega) ?_
            refine wi_iload_2 ct_192_51 ?_
            refine wi_ic ct_192_52 kc_2 ?_
            refine wi_icne_t ct_192_53 rfl ki_2 (by omega) ?_
            refine wi_iload_2 ct_192_61 ?_
            refine wi_ic ct_192_62 kc_3 ?_
            refine wi_icne_t ct_192_63 rfl ki_3 (by omega) ?_
            refine wi_ic ct_192_76 kc_m12 ?_
            refine wi_iret ct_192_78 rfl (wk_i ?_)
            refine wi_iceq_t ct_211_1118 ki_m12 ki_m12 (by decide) ?_
            exact kk own g fi fl hR (by omega) (by omega)
          · skip
            refine wi_iof (z := 0) ct_106_56 (ot.trans (by rw [hk29] <;> rfl)) (by decide) rfl ?_
            refine wi_iret ct_106_59 (by decide) (wk_i ?_)
            refine wi_ifeq_t ct_97_31 ki_0 (by decide) ?_
            refine wi_ic ct_97_41 kc_m12 ?_
            refine wi_iret ct_97_43 rfl (wk_i ?_)
            refine wi_aload_2 ct_211_1104 ?_
            refine wi_aloadT_0 ct_211_1105 ?_
            refine wi_iload_3 ct_211_1106 ?_
            refine wi_ic ct_211_1107 kc_1 ?_
            refine wi_iadd ct_211_1108 rfl ?_
            refine wi_ialdT (j := I + 1) (x := a1) ct_211_1109 (sL_SC hS) (i_in (i_add hi ki_1 (by omega)) (by omega)) (i_cl (i_add hi ki_1 (by omega)) (by omega)) (((hsc _).trans e1)) ?_
            refine wi_aloadT_0 ct_211_1110 ?_
            refine wi_iload_3 ct_211_1111 ?_
            refine wi_ic ct_211_1112 kc_2 ?_
            refine wi_iadd ct_211_1113 rfl ?_
            refine wi_ialdT (j := I + 2) (x := a2) ct_211_1114 (sL_SC hS) (i_in (i_add hi ki_2 (by omega)) (by omega)) (i_cl (i_add hi ki_2 (by omega)) (by omega)) (((hsc _).trans e2)) ?_
            refine wi_cv2 (ls' := [some _, some _, some _, none]) ct_211_1115 (Nat.le_of_ble_eq_true rfl) (by decide) (sT_31 hS) rfl (by decide) rfl rfl (Nat.le_of_ble_eq_true rfl) ?_
            refine wi_aload_0 ct_192_0 ?_
            refine wi_iload_2 ct_192_1 ?_
            refine wi_ic ct_192_2 kc_0 ?_
            refine wi_ic ct_192_3 kc_6 ?_
            refine wi_cv3 (ls' := [some _, some _, some _, some _]) ct_192_5 (Nat.le_of_ble_eq_true rfl) (by decide) (sT_31 hS) rfl (by decide) rfl rfl (Nat.le_of_ble_eq_true rfl) ?_
            refine c_in rfl ki_0 ki_6 (fun _ => wk_i ?_) (fun h => absurd h (by omega))
            refine wi_ifne_t ct_192_8 ki_1 (by decide) ?_
            refine wi_aload_0 ct_192_14 ?_
            refine wi_iload_1 ct_192_15 ?_
            refine wi_cv1 (ls' := [some _, some _]) ct_192_16 (Nat.le_of_ble_eq_true rfl) (by decide) (sT_31 hS) rfl (by decide) rfl rfl (Nat.le_of_ble_eq_true rfl) ?_
            refine wi_aload_0 ct_120_0 ?_
            refine wi_iload_1 ct_120_1 ?_
            refine wi_ic ct_120_2 kc_0 ?_
            refine wi_aload_0 ct_120_3 ?_
            refine wi_gf (x := fi 31 0) ct_120_4 (sT_31 hS) rfl rfl rfl ?_
            refine wi_ic ct_120_7 kc_1 ?_
            refine wi_isub ct_120_8 rfl ?_
            refine wi_cv3 (ls' := [some _, some _, some _, some _]) ct_120_9 (Nat.le_of_ble_eq_true rfl) (by decide) (sT_31 hS) rfl (by decide) rfl rfl (Nat.le_of_ble_eq_true rfl) ?_
            refine c_in hBn ki_0 (i_sub rfl ki_1 (by omega)) (fun _ => wk_i ?_) (fun h => absurd h (by omega))
            refine wi_iret ct_120_12 (by decide) (wk_i ?_)
            refine wi_ifne_t ct_192_19 ki_1 (by decide) ?_
            refine wi_aload_0 ct_192_25 ?_
            refine wi_gfr ct_192_26 (sT_31 hS) rfl (sR_31_2 hS) ?_
            refine wi_iload_1 ct_192_29 ?_
            refine wi_iald (x := fi 32 B) ct_192_30 (sT_32 hS) (sL_32 hS) (i_in hBn (by omega)) (i_cl (k := B) hBn (by omega)) rfl ?_
            refine wi_istore_3 rfl ct_192_31 ?_
            refine wi_iload_2 ct_192_32 ?_
            refine wi_ifeq_f ct_192_33 rfl (by omega) ?_
            refine wi_iload_3 ct_192_36 ?_
            refine wi_iload_2 ct_192_37 ?_
            refine wi_iceq_f ct_192_38 rfl rfl (by omega) ?_
            refine wi_iload_2 ct_192_41 ?_
            refine wi_ic ct_192_42 kc_1 ?_
            refine wi_icne_t ct_192_43 rfl ki_1 (by omega) ?_
            refine wi_iload_2 ct_192_51 ?_
            refine wi_ic ct_192_52 kc_2 ?_
            refine wi_icne_t ct_192_53 rfl ki_2 (by omega) ?_
            refine wi_iload_2 ct_192_61 ?_
            refine wi_ic ct_192_62 kc_3 ?_
            refine wi_icne_t ct_192_63 rfl ki_3 (by omega) ?_
            refine wi_ic ct_192_76 kc_m12 ?_
            refine wi_iret ct_192_78 rfl (wk_i ?_)
            refine wi_iceq_t ct_211_1118 ki_m12 ki_m12 (by decide) ?_
            exact kk own g fi fl hR (by omega) (by omega)
          · skip
            refine wi_iof (z := 0) ct_106_56 (ot.trans (by rw [hk30] <;> rfl)) (by decide) rfl ?_
            refine wi_iret ct_106_59 (by decide) (wk_i ?_)
            refine wi_ifeq_t ct_97_31 ki_0 (by decide) ?_
            refine wi_ic ct_97_41 kc_m12 ?_
            refine wi_iret ct_97_43 rfl (wk_i ?_)
            refine wi_aload_2 ct_211_1104 ?_
            refine wi_aloadT_0 ct_211_1105 ?_
            refine wi_iload_3 ct_211_1106 ?_
            refine wi_ic ct_211_1107 kc_1 ?_
            refine wi_iadd ct_211_1108 rfl ?_
            refine wi_ialdT (j := I + 1) (x := a1) ct_211_1109 (sL_SC hS) (i_in (i_add hi ki_1 (by omega)) (by omega)) (i_cl (i_add hi ki_1 (by omega)) (by omega)) (((hsc _).trans e1)) ?_
            refine wi_aloadT_0 ct_211_1110 ?_
            refine wi_iload_3 ct_211_1111 ?_
            refine wi_ic ct_211_1112 kc_2 ?_
            refine wi_iadd ct_211_1113 rfl ?_
            refine wi_ialdT (j := I + 2) (x := a2) ct_211_1114 (sL_SC hS) (i_in (i_add hi ki_2 (by omega)) (by omega)) (i_cl (i_add hi ki_2 (by omega)) (by omega)) (((hsc _).trans e2)) ?_
            refine wi_cv2 (ls' := [some _, some _, some _, none]) ct_211_1115 (Nat.le_of_ble_eq_true rfl) (by decide) (sT_31 hS) rfl (by decide) rfl rfl (Nat.le_of_ble_eq_true rfl) ?_
            refine wi_aload_0 ct_192_0 ?_
            refine wi_iload_2 ct_192_1 ?_
            refine wi_ic ct_192_2 kc_0 ?_
            refine wi_ic ct_192_3 kc_6 ?_
            refine wi_cv3 (ls' := [some _, some _, some _, some _]) ct_192_5 (Nat.le_of_ble_eq_true rfl) (by decide) (sT_31 hS) rfl (by decide) rfl rfl (Nat.le_of_ble_eq_true rfl) ?_
            refine c_in rfl ki_0 ki_6 (fun _ => wk_i ?_) (fun h => absurd h (by omega))
            refine wi_ifne_t ct_192_8 ki_1 (by decide) ?_
            refine wi_aload_0 ct_192_14 ?_
            refine wi_iload_1 ct_192_15 ?_
            refine wi_cv1 (ls' := [some _, some _]) ct_192_16 (Nat.le_of_ble_eq_true rfl) (by decide) (sT_31 hS) rfl (by decide) rfl rfl (Nat.le_of_ble_eq_true rfl) ?_
            refine wi_aload_0 ct_120_0 ?_
            refine wi_iload_1 ct_120_1 ?_
            refine wi_ic ct_120_2 kc_0 ?_
            refine wi_aload_0 ct_120_3 ?_
            refine wi_gf (x := fi 31 0) ct_120_4 (sT_31 hS) rfl rfl rfl ?_
            refine wi_ic ct_120_7 kc_1 ?_
            refine wi_isub ct_120_8 rfl ?_
            refine wi_cv3 (ls' := [some _, some _, some _, some _]) ct_120_9 (Nat.le_of_ble_eq_true rfl) (by decide) (sT_31 hS) rfl (by decide) rfl rfl (Nat.le_of_ble_eq_true rfl) ?_
            refine c_in hBn ki_0 (i_sub rfl ki_1 (by omega)) (fun _ => wk_i ?_) (fun h => absurd h (by omega))
            refine wi_iret ct_120_12 (by decide) (wk_i ?_)
            refine wi_ifne_t ct_192_19 ki_1 (by decide) ?_
            refine wi_aload_0 ct_192_25 ?_
            refine wi_gfr ct_192_26 (sT_31 hS) rfl (sR_31_2 hS) ?_
            refine wi_iload_1 ct_192_29 ?_
            refine wi_iald (x := fi 32 B) ct_192_30 (sT_32 hS) (sL_32 hS) (i_in hBn (by omega)) (i_cl (k := B) hBn (by omega)) rfl ?_
            refine wi_istore_3 rfl ct_192_31 ?_
            refine wi_iload_2 ct_192_32 ?_
            refine wi_ifeq_f ct_192_33 rfl (by omega) ?_
            refine wi_iload_3 ct_192_36 ?_
            refine wi_iload_2 ct_192_37 ?_
            refine wi_iceq_f ct_192_38 rfl rfl (by omega) ?_
            refine wi_iload_2 ct_192_41 ?_
            refine wi_ic ct_192_42 kc_1 ?_
            refine wi_icne_t ct_192_43 rfl ki_1 (by omega) ?_
            refine wi_iload_2 ct_192_51 ?_
            refine wi_ic ct_192_52 kc_2 ?_
            refine wi_icne_t ct_192_53 rfl ki_2 (by omega) ?_
            refine wi_iload_2 ct_192_61 ?_
            refine wi_ic ct_192_62 kc_3 ?_
            refine wi_icne_t ct_192_63 rfl ki_3 (by omega) ?_
            refine wi_ic ct_192_76 kc_m12 ?_
            refine wi_iret ct_192_78 rfl (wk_i ?_)
            refine wi_iceq_t ct_211_1118 ki_m12 ki_m12 (by decide) ?_
            exact kk own g fi fl hR (by omega) (by omega)
          · skip
            refine wi_iof (z := 0) ct_106_56 (ot.trans (by rw [hk31] <;> rfl)) (by decide) rfl ?_
            refine wi_iret ct_106_59 (by decide) (wk_i ?_)
            refine wi_ifeq_t ct_97_31 ki_0 (by decide) ?_
            refine wi_ic ct_97_41 kc_m12 ?_
            refine wi_iret ct_97_43 rfl (wk_i ?_)
            refine wi_aload_2 ct_211_1104 ?_
            refine wi_aloadT_0 ct_211_1105 ?_
            refine wi_iload_3 ct_211_1106 ?_
            refine wi_ic ct_211_1107 kc_1 ?_
            refine wi_iadd ct_211_1108 rfl ?_
            refine wi_ialdT (j := I + 1) (x := a1) ct_211_1109 (sL_SC hS) (i_in (i_add hi ki_1 (by omega)) (by omega)) (i_cl (i_add hi ki_1 (by omega)) (by omega)) (((hsc _).trans e1)) ?_
            refine wi_aloadT_0 ct_211_1110 ?_
            refine wi_iload_3 ct_211_1111 ?_
            refine wi_ic ct_211_1112 kc_2 ?_
            refine wi_iadd ct_211_1113 rfl ?_
            refine wi_ialdT (j := I + 2) (x := a2) ct_211_1114 (sL_SC hS) (i_in (i_add hi ki_2 (by omega)) (by omega)) (i_cl (i_add hi ki_2 (by omega)) (by omega)) (((hsc _).trans e2)) ?_
            refine wi_cv2 (ls' := [some _, some _, some _, none]) ct_211_1115 (Nat.le_of_ble_eq_true rfl) (by decide) (sT_31 hS) rfl (by decide) rfl rfl (Nat.le_of_ble_eq_true rfl) ?_
            refine wi_aload_0 ct_192_0 ?_
            refine wi_iload_2 ct_192_1 ?_
            refine wi_ic ct_192_2 kc_0 ?_
            refine wi_ic ct_192_3 kc_6 ?_
            refine wi_cv3 (ls' := [some _, some _, some _, some _]) ct_192_5 (Nat.le_of_ble_eq_true rfl) (by decide) (sT_31 hS) rfl (by decide) rfl rfl (Nat.le_of_ble_eq_true rfl) ?_
            refine c_in rfl ki_0 ki_6 (fun _ => wk_i ?_) (fun h => absurd h (by omega))
            refine wi_ifne_t ct_192_8 ki_1 (by decide) ?_
            refine wi_aload_0 ct_192_14 ?_
            refine wi_iload_1 ct_192_15 ?_
            refine wi_cv1 (ls' := [some _, some _]) ct_192_16 (Nat.le_of_ble_eq_true rfl) (by decide) (sT_31 hS) rfl (by decide) rfl rfl (Nat.le_of_ble_eq_true rfl) ?_
            refine wi_aload_0 ct_120_0 ?_
            refine wi_iload_1 ct_120_1 ?_
            refine wi_ic ct_120_2 kc_0 ?_
            refine wi_aload_0 ct_120_3 ?_
            refine wi_gf (x := fi 31 0) ct_120_4 (sT_31 hS) rfl rfl rfl ?_
            refine wi_ic ct_120_7 kc_1 ?_
            refine wi_isub ct_120_8 rfl ?_
            refine wi_cv3 (ls' := [some _, some _, some _, some _]) ct_120_9 (Nat.le_of_ble_eq_true rfl) (by decide) (sT_31 hS) rfl (by decide) rfl rfl (Nat.le_of_ble_eq_true rfl) ?_
            refine c_in hBn ki_0 (i_sub rfl ki_1 (by omega)) (fun _ => wk_i ?_) (fun h => absurd h (by omega))
            refine wi_iret ct_120_12 (by decide) (wk_i ?_)
            refine wi_ifne_t ct_192_19 ki_1 (by decide) ?_
            refine wi_aload_0 ct_192_25 ?_
            refine wi_gfr ct_192_26 (sT_31 hS) rfl (sR_31_2 hS) ?_
            refine wi_iload_1 ct_192_29 ?_
            refine wi_iald (x := fi 32 B) ct_192_30 (sT_32 hS) (sL_32 hS) (i_in hBn (by omega)) (i_cl (k := B) hBn (by omega)) rfl ?_
            refine wi_istore_3 rfl ct_192_31 ?_
            refine wi_iload_2 ct_192_32 ?_
            refine wi_ifeq_f ct_192_33 rfl (by omega) ?_
            refine wi_iload_3 ct_192_36 ?_
            refine wi_iload_2 ct_192_37 ?_
            refine wi_iceq_f ct_192_38 rfl rfl (by omega) ?_
            refine wi_iload_2 ct_192_41 ?_
            refine wi_ic ct_192_42 kc_1 ?_
            refine wi_icne_t ct_192_43 rfl ki_1 (by omega) ?_
            refine wi_iload_2 ct_192_51 ?_
            refine wi_ic ct_192_52 kc_2 ?_
            refine wi_icne_t ct_192_53 rfl ki_2 (by omega) ?_
            refine wi_iload_2 ct_192_61 ?_
            refine wi_ic ct_192_62 kc_3 ?_
            refine wi_icne_t ct_192_63 rfl ki_3 (by omega) ?_
            refine wi_ic ct_192_76 kc_m12 ?_
            refine wi_iret ct_192_78 rfl (wk_i ?_)
            refine wi_iceq_t ct_211_1118 ki_m12 ki_m12 (by decide) ?_
            exact kk own g fi fl hR (by omega) (by omega)
          · skip
            refine wi_iof (z := 1) ct_106_56 (ot.trans (by rw [hk32] <;> rfl)) (by decide) rfl ?_
            refine wi_iret ct_106_59 (by decide) (wk_i ?_)
            refine wi_ifeq_f ct_97_31 ki_1 (by decide) ?_
            refine wi_aload_3 ct_97_34 ?_
            refine wi_gf (x := fi 32 B) ct_97_35 (ot.trans (by rw [hk32] <;> rfl)) rfl rfl ok ?_
            refine wi_goto ct_97_38 ?_
            refine wi_iret ct_97_43 rfl (wk_i ?_)
            refine wi_aload_2 ct_211_1104 ?_
            refine wi_aloadT_0 ct_211_1105 ?_
            refine wi_iload_3 ct_211_1106 ?_
            refine wi_ic ct_211_1107 kc_1 ?_
            refine wi_iadd ct_211_1108 rfl ?_
            refine wi_ialdT (j := I + 1) (x := a1) ct_211_1109 (sL_SC hS) (i_in (i_add hi ki_1 (by omega)) (by omega)) (i_cl (i_add hi ki_1 (by omega)) (by omega)) (((hsc _).trans e1)) ?_
            refine wi_aloadT_0 ct_211_1110 ?_
            refine wi_iload_3 ct_211_1111 ?_
            refine wi_ic ct_211_1112 kc_2 ?_
            refine wi_iadd ct_211_1113 rfl ?_
            refine wi_ialdT (j := I + 2) (x := a2) ct_211_1114 (sL_SC hS) (i_in (i_add hi ki_2 (by omega)) (by omega)) (i_cl (i_add hi ki_2 (by omega)) (by omega)) (((hsc _).trans e2)) ?_
            refine wi_cv2 (ls' := [some _, some _, some _, none]) ct_211_1115 (Nat.le_of_ble_eq_true rfl) (by decide) (sT_31 hS) rfl (by decide) rfl rfl (Nat.le_of_ble_eq_true rfl) ?_
            refine wi_aload_0 ct_192_0 ?_
            refine wi_iload_2 ct_192_1 ?_
            refine wi_ic ct_192_2 kc_0 ?_
            refine wi_ic ct_192_3 kc_6 ?_
            refine wi_cv3 (ls' := [some _, some _, some _, some _]) ct_192_5 (Nat.le_of_ble_eq_true rfl) (by decide) (sT_31 hS) rfl (by decide) rfl rfl (Nat.le_of_ble_eq_true rfl) ?_
            refine c_in rfl ki_0 ki_6 (fun _ => wk_i ?_) (fun h => absurd h (by omega))
            refine wi_ifne_t ct_192_8 ki_1 (by decide) ?_
            refine wi_aload_0 ct_192_14 ?_
            refine wi_iload_1 ct_192_15 ?_
            refine wi_cv1 (ls' := [some _, some _]) ct_192_16 (Nat.le_of_ble_eq_true rfl) (by decide) (sT_31 hS) rfl (by decide) rfl rfl (Nat.le_of_ble_eq_true rfl) ?_
            refine wi_aload_0 ct_120_0 ?_
            refine wi_iload_1 ct_120_1 ?_
            refine wi_ic ct_120_2 kc_0 ?_
            refine wi_aload_0 ct_120_3 ?_
            refine wi_gf (x := fi 31 0) ct_120_4 (sT_31 hS) rfl rfl rfl ?_
            refine wi_ic ct_120_7 kc_1 ?_
            refine wi_isub ct_120_8 rfl ?_
            refine wi_cv3 (ls' := [some _, some _, some _, some _]) ct_120_9 (Nat.le_of_ble_eq_true rfl) (by decide) (sT_31 hS) rfl (by decide) rfl rfl (Nat.le_of_ble_eq_true rfl) ?_
            refine c_in hBn ki_0 (i_sub rfl ki_1 (by omega)) (fun _ => wk_i ?_) (fun h => absurd h (by omega))
            refine wi_iret ct_120_12 (by decide) (wk_i ?_)
            refine wi_ifne_t ct_192_19 ki_1 (by decide) ?_
            refine wi_aload_0 ct_192_25 ?_
            refine wi_gfr ct_192_26 (sT_31 hS) rfl (sR_31_2 hS) ?_
            refine wi_iload_1 ct_192_29 ?_
            refine wi_iald (x := fi 32 B) ct_192_30 (sT_32 hS) (sL_32 hS) (i_in hBn (by omega)) (i_cl (k := B) hBn (by omega)) rfl ?_
            refine wi_istore_3 rfl ct_192_31 ?_
            refine wi_iload_2 ct_192_32 ?_
            refine wi_ifeq_f ct_192_33 rfl (by omega) ?_
            refine wi_iload_3 ct_192_36 ?_
            refine wi_iload_2 ct_192_37 ?_
            refine wi_iceq_t ct_192_38 rfl rfl (by omega) ?_
            refine wi_iload_3 ct_192_72 ?_
            refine wi_goto ct_192_73 ?_
            refine wi_iret ct_192_78 rfl (wk_i ?_)
            refine wi_iceq_t ct_211_1118 rfl rfl (by omega) ?_
            exact kk own g fi fl hR (by omega) (by omega)
          · skip
            refine wi_iof (z := 0) ct_106_56 (ot.trans (by rw [hk33] <;> rfl)) (by decide) rfl ?_
            refine wi_iret ct_106_59 (by decide) (wk_i ?_)
            refine wi_ifeq_t ct_97_31 ki_0 (by decide) ?_
            refine wi_ic ct_97_41 kc_m12 ?_
            refine wi_iret ct_97_43 rfl (wk_i ?_)
            refine wi_aload_2 ct_211_1104 ?_
            refine wi_aloadT_0 ct_211_1105 ?_
            refine wi_iload_3 ct_211_1106 ?_
            refine wi_ic ct_211_1107 kc_1 ?_
            refine wi_iadd ct_211_1108 rfl ?_
            refine wi_ialdT (j := I + 1) (x := a1) ct_211_1109 (sL_SC hS) (i_in (i_add hi ki_1 (by omega)) (by omega)) (i_cl (i_add hi ki_1 (by omega)) (by omega)) (((hsc _).trans e1)) ?_
            refine wi_aloadT_0 ct_211_1110 ?_
            refine wi_iload_3 ct_211_1111 ?_
            refine wi_ic ct_211_1112 kc_2 ?_
            refine wi_iadd ct_211_1113 rfl ?_
            refine wi_ialdT (j := I + 2) (x := a2) ct_211_1114 (sL_SC hS) (i_in (i_add hi ki_2 (by omega)) (by omega)) (i_cl (i_add hi ki_2 (by omega)) (by omega)) (((hsc _).trans e2)) ?_
            refine wi_cv2 (ls' := [some _, some _, some _, none]) ct_211_1115 (Nat.le_of_ble_eq_true rfl) (by decide) (sT_31 hS) rfl (by decide) rfl rfl (Nat.le_of_ble_eq_true rfl) ?_
            refine wi_aload_0 ct_192_0 ?_
            refine wi_iload_2 ct_192_1 ?_
            refine wi_ic ct_192_2 kc_0 ?_
            refine wi_ic ct_192_3 kc_6 ?_
            refine wi_cv3 (ls' := [some _, some _, some _, some _]) ct_192_5 (Nat.le_of_ble_eq_true rfl) (by decide) (sT_31 hS) rfl (by decide) rfl rfl (Nat.le_of_ble_eq_true rfl) ?_
            refine c_in rfl ki_0 ki_6 (fun _ => wk_i ?_) (fun h => absurd h (by omega))
            refine wi_ifne_t ct_192_8 ki_1 (by decide) ?_
            refine wi_aload_0 ct_192_14 ?_
            refine wi_iload_1 ct_192_15 ?_
            refine wi_cv1 (ls' := [some _, some _]) ct_192_16 (Nat.le_of_ble_eq_true rfl) (by decide) (sT_31 hS) rfl (by decide) rfl rfl (Nat.le_of_ble_eq_true rfl) ?_
            refine wi_aload_0 ct_120_0 ?_
            refine wi_iload_1 ct_120_1 ?_
            refine wi_ic ct_120_2 kc_0 ?_
            refine wi_aload_0 ct_120_3 ?_
            refine wi_gf (x := fi 31 0) ct_120_4 (sT_31 hS) rfl rfl rfl ?_
            refine wi_ic ct_120_7 kc_1 ?_
            refine wi_isub ct_120_8 rfl ?_
            refine wi_cv3 (ls' := [some _, some _, some _, some _]) ct_120_9 (Nat.le_of_ble_eq_true rfl) (by decide) (sT_31 hS) rfl (by decide) rfl rfl (Nat.le_of_ble_eq_true rfl) ?_
            refine c_in hBn ki_0 (i_sub rfl ki_1 (by omega)) (fun _ => wk_i ?_) (fun h => absurd h (by omega))
            refine wi_iret ct_120_12 (by decide) (wk_i ?_)
            refine wi_ifne_t ct_192_19 ki_1 (by decide) ?_
            refine wi_aload_0 ct_192_25 ?_
            refine wi_gfr ct_192_26 (sT_31 hS) rfl (sR_31_2 hS) ?_
            refine wi_iload_1 ct_192_29 ?_
            refine wi_iald (x := fi 32 B) ct_192_30 (sT_32 hS) (sL_32 hS) (i_in hBn (by omega)) (i_cl (k := B) hBn (by omega)) rfl ?_
            refine wi_istore_3 rfl ct_192_31 ?_
            refine wi_iload_2 ct_192_32 ?_
            refine wi_ifeq_f ct_192_33 rfl (by omega) ?_
            refine wi_iload_3 ct_192_36 ?_
            refine wi_iload_2 ct_192_37 ?_
            refine wi_iceq_f ct_192_38 rfl rfl (by omega) ?_
            refine wi_iload_2 ct_192_41 ?_
            refine wi_ic ct_192_42 kc_1 ?_
            refine wi_icne_t ct_192_43 rfl ki_1 (by omega) ?_
            refine wi_iload_2 ct_192_51 ?_
            refine wi_ic ct_192_52 kc_2 ?_
            refine wi_icne_t ct_192_53 rfl ki_2 (by omega) ?_
            refine wi_iload_2 ct_192_61 ?_
            refine wi_ic ct_192_62 kc_3 ?_
            refine wi_icne_t ct_192_63 rfl ki_3 (by omega) ?_
            refine wi_ic ct_192_76 kc_m12 ?_
            refine wi_iret ct_192_78 rfl (wk_i ?_)
            refine wi_iceq_t ct_211_1118 ki_m12 ki_m12 (by decide) ?_
            exact kk own g fi fl hR (by omega) (by omega)
          · skip
            refine wi_iof (z := 0) ct_106_56 (ot.trans (by rw [hk34] <;> rfl)) (by decide) rfl ?_
            refine wi_iret ct_106_59 (by decide) (wk_i ?_)
            refine wi_ifeq_t ct_97_31 ki_0 (by decide) ?_
            refine wi_ic ct_97_41 kc_m12 ?_
            refine wi_iret ct_97_43 rfl (wk_i ?_)
            refine wi_aload_2 ct_211_1104 ?_
            refine wi_aloadT_0 ct_211_1105 ?_
            refine wi_iload_3 ct_211_1106 ?_
            refine wi_ic ct_211_1107 kc_1 ?_
            refine wi_iadd ct_211_1108 rfl ?_
            refine wi_ialdT (j := I + 1) (x := a1) ct_211_1109 (sL_SC hS) (i_in (i_add hi ki_1 (by omega)) (by omega)) (i_cl (i_add hi ki_1 (by omega)) (by omega)) (((hsc _).trans e1)) ?_
            refine wi_aloadT_0 ct_211_1110 ?_
            refine wi_iload_3 ct_211_1111 ?_
            refine wi_ic ct_211_1112 kc_2 ?_
            refine wi_iadd ct_211_1113 rfl ?_
            refine wi_ialdT (j := I + 2) (x := a2) ct_211_1114 (sL_SC hS) (i_in (i_add hi ki_2 (by omega)) (by omega)) (i_cl (i_add hi ki_2 (by omega)) (by omega)) (((hsc _).trans e2)) ?_
            refine wi_cv2 (ls' := [some _, some _, some _, none]) ct_211_1115 (Nat.le_of_ble_eq_true rfl) (by decide) (sT_31 hS) rfl (by decide) rfl rfl (Nat.le_of_ble_eq_true rfl) ?_
            refine wi_aload_0 ct_192_0 ?_
            refine wi_iload_2 ct_192_1 ?_
            refine wi_ic ct_192_2 kc_0 ?_
            refine wi_ic ct_192_3 kc_6 ?_
            refine wi_cv3 (ls' := [some _, some _, some _, some _]) ct_192_5 (Nat.le_of_ble_eq_true rfl) (by decide) (sT_31 hS) rfl (by decide) rfl rfl (Nat.le_of_ble_eq_true rfl) ?_
            refine c_in rfl ki_0 ki_6 (fun _ => wk_i ?_) (fun h => absurd h (by omega))
            refine wi_ifne_t ct_192_8 ki_1 (by decide) ?_
            refine wi_aload_0 ct_192_14 ?_
            refine wi_iload_1 ct_192_15 ?_
            refine wi_cv1 (ls' := [some _, some _]) ct_192_16 (Nat.le_of_ble_eq_true rfl) (by decide) (sT_31 hS) rfl (by decide) rfl rfl (Nat.le_of_ble_eq_true rfl) ?_
            refine wi_aload_0 ct_120_0 ?_
            refine wi_iload_1 ct_120_1 ?_
            refine wi_ic ct_120_2 kc_0 ?_
            refine wi_aload_0 ct_120_3 ?_
            refine wi_gf (x := fi 31 0) ct_120_4 (sT_31 hS) rfl rfl rfl ?_
            refine wi_ic ct_120_7 kc_1 ?_
            refine wi_isub ct_120_8 rfl ?_
            refine wi_cv3 (ls' := [some _, some _, some _, some _]) ct_120_9 (Nat.le_of_ble_eq_true rfl) (by decide) (sT_31 hS) rfl (by decide) rfl rfl (Nat.le_of_ble_eq_true rfl) ?_
            refine c_in hBn ki_0 (i_sub rfl ki_1 (by omega)) (fun _ => wk_i ?_) (fun h => absurd h (by omega))
            refine wi_iret ct_120_12 (by decide) (wk_i ?_)
            refine wi_ifne_t ct_192_19 ki_1 (by decide) ?_
            refine wi_aload_0 ct_192_25 ?_
            refine wi_gfr ct_192_26 (sT_31 hS) rfl (sR_31_2 hS) ?_
            refine wi_iload_1 ct_192_29 ?_
            refine wi_iald (x := fi 32 B) ct_192_30 (sT_32 hS) (sL_32 hS) (i_in hBn (by omega)) (i_cl (k := B) hBn (by omega)) rfl ?_
            refine wi_istore_3 rfl ct_192_31 ?_
            refine wi_iload_2 ct_192_32 ?_
            refine wi_ifeq_f ct_192_33 rfl (by omega) ?_
            refine wi_iload_3 ct_192_36 ?_
            refine wi_iload_2 ct_192_37 ?_
            refine wi_iceq_f ct_192_38 rfl rfl (by omega) ?_
            refine wi_iload_2 ct_192_41 ?_
            refine wi_ic ct_192_42 kc_1 ?_
            refine wi_icne_t ct_192_43 rfl ki_1 (by omega) ?_
            refine wi_iload_2 ct_192_51 ?_
            refine wi_ic ct_192_52 kc_2 ?_
            refine wi_icne_t ct_192_53 rfl ki_2 (by omega) ?_
            refine wi_iload_2 ct_192_61 ?_
            refine wi_ic ct_192_62 kc_3 ?_
            refine wi_icne_t ct_192_63 rfl ki_3 (by omega) ?_
            refine wi_ic ct_192_76 kc_m12 ?_
            refine wi_iret ct_192_78 rfl (wk_i ?_)
            refine wi_iceq_t ct_211_1118 ki_m12 ki_m12 (by decide) ?_
            exact kk own g fi fl hR (by omega) (by omega)
        rcases Decidable.em ((a2).toInt = 5) with h35 | h35
        · refine wi_tsw (X := 5) (t := 60) ct_106_1 (by omega) rfl ?_
          refine wi_aload_0 ct_106_60 ?_
          rcases am_k7 (k := (fi 32 B).toInt) (by omega) with hk36 | hk37 | hk38 | hk39 | hk40 | hk41 | hk42
          · skip
            refine wi_iof (z := 0) ct_106_61 (ot.trans (by rw [hk36] <;> rfl)) (by decide) rfl ?_
            refine wi_iret ct_106_64 (by decide) (wk_i ?_)
            refine wi_ifeq_t ct_97_31 ki_0 (by decide) ?_
            refine wi_ic ct_97_41 kc_m12 ?_
            refine wi_iret ct_97_43 rfl (wk_i ?_)
            refine wi_aload_2 ct_211_1104 ?_
            refine wi_aloadT_0 ct_211_1105 ?_
            refine wi_iload_3 ct_211_1106 ?_
            refine wi_ic ct_211_1107 kc_1 ?_
            refine wi_iadd ct_211_1108 rfl ?_
            refine wi_ialdT (j := I + 1) (x := a1) ct_211_1109 (sL_SC hS) (i_in (i_add hi ki_1 (by omega)) (by omega)) (i_cl (i_add hi ki_1 (by omega)) (by omega)) (((hsc _).trans e1)) ?_
            refine wi_aloadT_0 ct_211_1110 ?_
            refine wi_iload_3 ct_211_1111 ?_
            refine wi_ic ct_211_1112 kc_2 ?_
            refine wi_iadd ct_211_1113 rfl ?_
            refine wi_ialdT (j := I + 2) (x := a2) ct_211_1114 (sL_SC hS) (i_in (i_add hi ki_2 (by omega)) (by omega)) (i_cl (i_add hi ki_2 (by omega)) (by omega)) (((hsc _).trans e2)) ?_
            refine wi_cv2 (ls' := [some _, some _, some _, none]) ct_211_1115 (Nat.le_of_ble_eq_true rfl) (by decide) (sT_31 hS) rfl (by decide) rfl rfl (Nat.le_of_ble_eq_true rfl) ?_
            refine wi_aload_0 ct_192_0 ?_
            refine wi_iload_2 ct_192_1 ?_
            refine wi_ic ct_192_2 kc_0 ?_
            refine wi_ic ct_192_3 kc_6 ?_
            refine wi_cv3 (ls' := [some _, some _, some _, some _]) ct_192_5 (Nat.le_of_ble_eq_true rfl) (by decide) (sT_31 hS) rfl (by decide) rfl rfl (Nat.le_of_ble_eq_true rfl) ?_
            refine c_in rfl ki_0 ki_6 (fun _ => wk_i ?_) (fun h => absurd h (by omega))
            refine wi_ifne_t ct_192_8 ki_1 (by decide) ?_
            refine wi_aload_0 ct_192_14 ?_
            refine wi_iload_1 ct_192_15 ?_
            refine wi_cv1 (ls' := [some _, some _]) ct_192_16 (Nat.le_of_ble_eq_true rfl) (by decide) (sT_31 hS) rfl (by decide) rfl rfl (Nat.le_of_ble_eq_true rfl) ?_
            refine wi_aload_0 ct_120_0 ?_
            refine wi_iload_1 ct_120_1 ?_
            refine wi_ic ct_120_2 kc_0 ?_
            refine wi_aload_0 ct_120_3 ?_
            refine wi_gf (x := fi 31 0) ct_120_4 (sT_31 hS) rfl rfl rfl ?_
            refine wi_ic ct_120_7 kc_1 ?_
            refine wi_isub ct_120_8 rfl ?_
            refine wi_cv3 (ls' := [some _, some _, some _, some _]) ct_120_9 (Nat.le_of_ble_eq_true rfl) (by decide) (sT_31 hS) rfl (by decide) rfl rfl (Nat.le_of_ble_eq_true rfl) ?_
            refine c_in hBn ki_0 (i_sub rfl ki_1 (by omega)) (fun _ => wk_i ?_) (fun h => absurd h (by omega))
            refine wi_iret ct_120_12 (by decide) (wk_i ?_)
            refine wi_ifne_t ct_192_19 ki_1 (by decide) ?_
            refine wi_aload_0 ct_192_25 ?_
            refine wi_gfr ct_192_26 (sT_31 hS) rfl (sR_31_2 hS) ?_
            refine wi_iload_1 ct_192_29 ?_
            refine wi_iald (x := fi 32 B) ct_192_30 (sT_32 hS) (sL_32 hS) (i_in hBn (by omega)) (i_cl (k := B) hBn (by omega)) rfl ?_
            refine wi_istore_3 rfl ct_192_31 ?_
            refine wi_iload_2 ct_192_32 ?_
            refine wi_ifeq_f ct_192_33 rfl (by omega) ?_
            refine wi_iload_3 ct_192_36 ?_
            refine wi_iload_2 ct_192_37 ?_
            refine wi_iceq_f ct_192_38 rfl rfl (by omega) ?_
            refine wi_iload_2 ct_192_41 ?_
            refine wi_ic ct_192_42 kc_1 ?_
            refine wi_icne_t ct_192_43 rfl ki_1 (by omega) ?_
            refine wi_iload_2 ct_192_51 ?_
            refine wi_ic ct_192_52 kc_2 ?_
            refine wi_icne_t ct_192_53 rfl ki_2 (by omega) ?_
            refine wi_iload_2 ct_192_61 ?_
            refine wi_ic ct_192_62 kc_3 ?_
            refine wi_icne_t ct_192_63 rfl ki_3 (by omega) ?_
            refine wi_ic ct_192_76 kc_m12 ?_
            refine wi_iret ct_192_78 rfl (wk_i ?_)
            refine wi_iceq_t ct_211_1118 ki_m12 ki_m12 (by decide) ?_
            exact kk own g fi fl hR (by omega) (by omega)
          · skip
            refine wi_iof (z := 0) ct_106_61 (ot.trans (by rw [hk37] <;> rfl)) (by decide) rfl ?_
            refine wi_iret ct_106_64 (by decide) (wk_i ?_)
            refine wi_ifeq_t ct_97_31 ki_0 (by decide) ?_
            refine wi_ic ct_97_41 kc_m12 ?_
            refine wi_iret ct_97_43 rfl (wk_i ?_)
            refine wi_aload_2 ct_211_1104 ?_
            refine wi_aloadT_0 ct_211_1105 ?_
            refine wi_iload_3 ct_211_1106 ?_
            refine wi_ic ct_211_1107 kc_1 ?_
            refine wi_iadd ct_211_1108 rfl ?_
            refine wi_ialdT (j := I + 1) (x := a1) ct_211_1109 (sL_SC hS) (i_in (i_add hi ki_1 (by omega)) (by omega)) (i_cl (i_add hi ki_1 (by omega)) (by omega)) (((hsc _).trans e1)) ?_
            refine wi_aloadT_0 ct_211_1110 ?_
            refine wi_iload_3 ct_211_1111 ?_
            refine wi_ic ct_211_1112 kc_2 ?_
            refine wi_iadd ct_211_1113 rfl ?_
            refine wi_ialdT (j := I + 2) (x := a2) ct_211_1114 (sL_SC hS) (i_in (i_add hi ki_2 (by omega)) (by omega)) (i_cl (i_add hi ki_2 (by omega)) (by omega)) (((hsc _).trans e2)) ?_
            refine wi_cv2 (ls' := [some _, some _, some _, none]) ct_211_1115 (Nat.le_of_ble_eq_true rfl) (by decide) (sT_31 hS) rfl (by decide) rfl rfl (Nat.le_of_ble_eq_true rfl) ?_
            refine wi_aload_0 ct_192_0 ?_
            refine wi_iload_2 ct_192_1 ?_
            refine wi_ic ct_192_2 kc_0 ?_
            refine wi_ic ct_192_3 kc_6 ?_
            refine wi_cv3 (ls' := [some _, some _, some _, some _]) ct_192_5 (Nat.le_of_ble_eq_true rfl) (by decide) (sT_31 hS) rfl (by decide) rfl rfl (Nat.le_of_ble_eq_true rfl) ?_
            refine c_in rfl ki_0 ki_6 (fun _ => wk_i ?_) (fun h => absurd h (by omega))
            refine wi_ifne_t ct_192_8 ki_1 (by decide) ?_
            refine wi_aload_0 ct_192_14 ?_
            refine wi_iload_1 ct_192_15 ?_
            refine wi_cv1 (ls' := [some _, some _]) ct_192_16 (Nat.le_of_ble_eq_true rfl) (by decide) (sT_31 hS) rfl (by decide) rfl rfl (Nat.le_of_ble_eq_true rfl) ?_
            refine wi_aload_0 ct_120_0 ?_
            refine wi_iload_1 ct_120_1 ?_
            refine wi_ic ct_120_2 kc_0 ?_
            refine wi_aload_0 ct_120_3 ?_
            refine wi_gf (x := fi 31 0) ct_120_4 (sT_31 hS) rfl rfl rfl ?_
            refine wi_ic ct_120_7 kc_1 ?_
            refine wi_isub ct_120_8 rfl ?_
            refine wi_cv3 (ls' := [some _, some _, some _, some _]) ct_120_9 (Nat.le_of_ble_eq_true rfl) (by decide) (sT_31 hS) rfl (by decide) rfl rfl (Nat.le_of_ble_eq_true rfl) ?_
            refine c_in hBn ki_0 (i_sub rfl ki_1 (by omega)) (fun _ => wk_i ?_) (fun h => absurd h (by omega))
            refine wi_iret ct_120_12 (by decide) (wk_i ?_)
            refine wi_ifne_t ct_192_19 ki_1 (by decide) ?_
            refine wi_aload_0 ct_192_25 ?_
            refine wi_gfr ct_192_26 (sT_31 hS) rfl (sR_31_2 hS) ?_
            refine wi_iload_1 ct_192_29 ?_
            refine wi_iald (x := fi 32 B) ct_192_30 (sT_32 hS) (sL_32 hS) (i_in hBn (by omega)) (i_cl (k := B) hBn (by omega)) rfl ?_
            refine wi_istore_3 rfl ct_192_31 ?_
            refine wi_iload_2 ct_192_32 ?_
            refine wi_ifeq_f ct_192_33 rfl (by omega) ?_
            refine wi_iload_3 ct_192_36 ?_
            refine wi_iload_2 ct_192_37 ?_
            refine wi_iceq_f ct_192_38 rfl rfl (by omega) ?_
            refine wi_iload_2 ct_192_41 ?_
            refine wi_ic ct_192_42 kc_1 ?_
            refine wi_icne_t ct_192_43 rfl ki_1 (by omega) ?_
            refine wi_iload_2 ct_192_51 ?_
            refine wi_ic ct_192_52 kc_2 ?_
            refine wi_icne_t ct_192_53 rfl ki_2 (by omega) ?_
            refine wi_iload_2 ct_192_61 ?_
            refine wi_ic ct_192_62 kc_3 ?_
            refine wi_icne_t ct_192_63 rfl ki_3 (by omega) ?_
            refine wi_ic ct_192_76 kc_m12 ?_
            refine wi_iret ct_192_78 rfl (wk_i ?_)
            refine wi_iceq_t ct_211_1118 ki_m12 ki_m12 (by decide) ?_
            exact kk own g fi fl hR (by omega) (by omega)
          · skip
            refine wi_iof (z := 0) ct_106_61 (ot.trans (by rw [hk38] <;> rfl)) (by decide) rfl ?_
            refine wi_iret ct_106_64 (by decide) (wk_i ?_)
            refine wi_ifeq_t ct_97_31 ki_0 (by decide) ?_
            refine wi_ic ct_97_41 kc_m12 ?_
            refine wi_iret ct_97_43 rfl (wk_i ?_)
            refine wi_aload_2 ct_211_1104 ?_
            refine wi_aloadT_0 ct_211_1105 ?_
            refine wi_iload_3 ct_211_1106 ?_
            refine wi_ic ct_211_1107 kc_1 ?_
            refine wi_iadd ct_211_1108 rfl ?_
            refine wi_ialdT (j := I + 1) (x := a1) ct_211_1109 (sL_SC hS) (i_in (i_add hi ki_1 (by omega)) (by omega)) (i_cl (i_add hi ki_1 (by omega)) (by omega)) (((hsc _).trans e1)) ?_
            refine wi_aloadT_0 ct_211_1110 ?_
            refine wi_iload_3 ct_211_1111 ?_
            refine wi_ic ct_211_1112 kc_2 ?_
            refine wi_iadd ct_211_1113 rfl ?_
            refine wi_ialdT (j := I + 2) (x := a2) ct_211_1114 (sL_SC hS) (i_in (i_add hi ki_2 (by omega)) (by omega)) (i_cl (i_add hi ki_2 (by omega)) (by omega)) (((hsc _).trans e2)) ?_
            refine wi_cv2 (ls' := [some _, some _, some _, none]) ct_211_1115 (Nat.le_of_ble_eq_true rfl) (by decide) (sT_31 hS) rfl (by decide) rfl rfl (Nat.le_of_ble_eq_true rfl) ?_
            refine wi_aload_0 ct_192_0 ?_
            refine wi_iload_2 ct_192_1 ?_
            refine wi_ic ct_192_2 kc_0 ?_
            refine wi_ic ct_192_3 kc_6 ?_
            refine wi_cv3 (ls' := [some _, some _, some _, some _]) ct_192_5 (Nat.le_of_ble_eq_true rfl) (by decide) (sT_31 hS) rfl (by decide) rfl rfl (Nat.le_of_ble_eq_true rfl) ?_
            refine c_in rfl ki_0 ki_6 (fun _ => wk_i ?_) (fun h => absurd h (by omega))
            refine wi_ifne_t ct_192_8 ki_1 (by decide) ?_
            refine wi_aload_0 ct_192_14 ?_
            refine wi_iload_1 ct_192_15 ?_
            refine wi_cv1 (ls' := [some _, some _]) ct_192_16 (Nat.le_of_ble_eq_true rfl) (by decide) (sT_31 hS) rfl (by decide) rfl rfl (Nat.le_of_ble_eq_true rfl) ?_
            refine wi_aload_0 ct_120_0 ?_
            refine wi_iload_1 ct_120_1 ?_
            refine wi_ic ct_120_2 kc_0 ?_
            refine wi_aload_0 ct_120_3 ?_
            refine wi_gf (x := fi 31 0) ct_120_4 (sT_31 hS) rfl rfl rfl ?_
            refine wi_ic ct_120_7 kc_1 ?_
            refine wi_isub ct_120_8 rfl ?_
            refine wi_cv3 (ls' := [some _, some _, some _, some _]) ct_120_9 (Nat.le_of_ble_eq_true rfl) (by decide) (sT_31 hS) rfl (by decide) rfl rfl (Nat.le_of_ble_eq_true rfl) ?_
            refine c_in hBn ki_0 (i_sub rfl ki_1 (by omega)) (fun _ => wk_i ?_) (fun h => absurd h (by omega))
            refine wi_iret ct_120_12 (by decide) (wk_i ?_)
            refine wi_ifne_t ct_192_19 ki_1 (by decide) ?_
            refine wi_aload_0 ct_192_25 ?_
            refine wi_gfr ct_192_26 (sT_31 hS) rfl (sR_31_2 hS) ?_
            refine wi_iload_1 ct_192_29 ?_
            refine wi_iald (x := fi 32 B) ct_192_30 (sT_32 hS) (sL_32 hS) (i_in hBn (by omega)) (i_cl (k := B) hBn (by omega)) rfl ?_
            refine wi_istore_3 rfl ct_192_31 ?_
            refine wi_iload_2 ct_192_32 ?_
            refine wi_ifeq_f ct_192_33 rfl (by omega) ?_
            refine wi_iload_3 ct_192_36 ?_
            refine wi_iload_2 ct_192_37 ?_
            refine wi_iceq_f ct_192_38 rfl rfl (by omega) ?_
            refine wi_iload_2 ct_192_41 ?_
            refine wi_ic ct_192_42 kc_1 ?_
            refine wi_icne_t ct_192_43 rfl ki_1 (by omega) ?_
            refine wi_iload_2 ct_192_51 ?_
            refine wi_ic ct_192_52 kc_2 ?_
            refine wi_icne_t ct_192_53 rfl ki_2 (by omega) ?_
            refine wi_iload_2 ct_192_61 ?_
            refine wi_ic ct_192_62 kc_3 ?_
            refine wi_icne_t ct_192_63 rfl ki_3 (by omega) ?_
            refine wi_ic ct_192_76 kc_m12 ?_
            refine wi_iret ct_192_78 rfl (wk_i ?_)
            refine wi_iceq_t ct_211_1118 ki_m12 ki_m12 (by decide) ?_
            exact kk own g fi fl hR (by omega) (by omega)
          · skip
            refine wi_iof (z := 0) ct_106_61 (ot.trans (by rw [hk39] <;> rfl)) (by decide) rfl ?_
            refine wi_iret ct_106_64 (by decide) (wk_i ?_)
            refine wi_ifeq_t ct_97_31 ki_0 (by decide) ?_
            refine wi_ic ct_97_41 kc_m12 ?_
            refine wi_iret ct_97_43 rfl (wk_i ?_)
            refine wi_aload_2 ct_211_1104 ?_
            refine wi_aloadT_0 ct_211_1105 ?_
            refine wi_iload_3 ct_211_1106 ?_
            refine wi_ic ct_211_1107 kc_1 ?_
            refine wi_iadd ct_211_1108 rfl ?_
            refine wi_ialdT (j := I + 1) (x := a1) ct_211_1109 (sL_SC hS) (i_in (i_add hi ki_1 (by omega)) (by omega)) (i_cl (i_add hi ki_1 (by omega)) (by omega)) (((hsc _).trans e1)) ?_
            refine wi_aloadT_0 ct_211_1110 ?_
            refine wi_iload_3 ct_211_1111 ?_
            refine wi_ic ct_211_1112 kc_2 ?_
            refine wi_iadd ct_211_1113 rfl ?_
            refine wi_ialdT (j := I + 2) (x := a2) ct_211_1114 (sL_SC hS) (i_in (i_add hi ki_2 (by omega)) (by omega)) (i_cl (i_add hi ki_2 (by omega)) (by omega)) (((hsc _).trans e2)) ?_
            refine wi_cv2 (ls' := [some _, some _, some _, none]) ct_211_1115 (Nat.le_of_ble_eq_true rfl) (by decide) (sT_31 hS) rfl (by decide) rfl rfl (Nat.le_of_ble_eq_true rfl) ?_
            refine wi_aload_0 ct_192_0 ?_
            refine wi_iload_2 ct_192_1 ?_
            refine wi_ic ct_192_2 kc_0 ?_
            refine wi_ic ct_192_3 kc_6 ?_
            refine wi_cv3 (ls' := [some _, some _, some _, some _]) ct_192_5 (Nat.le_of_ble_eq_true rfl) (by decide) (sT_31 hS) rfl (by decide) rfl rfl (Nat.le_of_ble_eq_true rfl) ?_
            refine c_in rfl ki_0 ki_6 (fun _ => wk_i ?_) (fun h => absurd h (by omega))
            refine wi_ifne_t ct_192_8 ki_1 (by decide) ?_
            refine wi_aload_0 ct_192_14 ?_
            refine wi_iload_1 ct_192_15 ?_
            refine wi_cv1 (ls' := [some _, some _]) ct_192_16 (Nat.le_of_ble_eq_true rfl) (by decide) (sT_31 hS) rfl (by decide) rfl rfl (Nat.le_of_ble_eq_true rfl) ?_
            refine wi_aload_0 ct_120_0 ?_
            refine wi_iload_1 ct_120_1 ?_
            refine wi_ic ct_120_2 kc_0 ?_
            refine wi_aload_0 ct_120_3 ?_
            refine wi_gf (x := fi 31 0) ct_120_4 (sT_31 hS) rfl rfl rfl ?_
            refine wi_ic ct_120_7 kc_1 ?_
            refine wi_isub ct_120_8 rfl ?_
            refine wi_cv3 (ls' := [some _, some _, some _, some _]) ct_120_9 (Nat.le_of_ble_eq_true rfl) (by decide) (sT_31 hS) rfl (by decide) rfl rfl (Nat.le_of_ble_eq_true rfl) ?_
            refine c_in hBn ki_0 (i_sub rfl ki_1 (by omega)) (fun _ => wk_i ?_) (fun h => absurd h (by omega))
            refine wi_iret ct_120_12 (by decide) (wk_i ?_)
            refine wi_ifne_t ct_192_19 ki_1 (by decide) ?_
            refine wi_aload_0 ct_192_25 ?_
            refine wi_gfr ct_192_26 (sT_31 hS) rfl (sR_31_2 hS) ?_
            refine wi_iload_1 ct_192_29 ?_
            refine wi_iald (x := fi 32 B) ct_192_30 (sT_32 hS) (sL_32 hS) (i_in hBn (by omega)) (i_cl (k := B) hBn (by omega)) rfl ?_
            refine wi_istore_3 rfl ct_192_31 ?_
            refine wi_iload_2 ct_192_32 ?_
            refine wi_ifeq_f ct_192_33 rfl (by omega) ?_
            refine wi_iload_3 ct_192_36 ?_
            refine wi_iload_2 ct_192_37 ?_
            refine wi_iceq_f ct_192_38 rfl rfl (by omega) ?_
            refine wi_iload_2 ct_192_41 ?_
            refine wi_ic ct_192_42 kc_1 ?_
            refine wi_icne_t ct_192_43 rfl ki_1 (by omega) ?_
            refine wi_iload_2 ct_192_51 ?_
            refine wi_ic ct_192_52 kc_2 ?_
            refine wi_icne_t ct_192_53 rfl ki_2 (by omega) ?_
            refine wi_iload_2 ct_192_61 ?_
            refine wi_ic ct_192_62 kc_3 ?_
            refine wi_icne_t ct_192_63 rfl ki_3 (by omega) ?_
            refine wi_ic ct_192_76 kc_m12 ?_
            refine wi_iret ct_192_78 rfl (wk_i ?_)
            refine wi_iceq_t ct_211_1118 ki_m12 ki_m12 (by decide) ?_
            exact kk own g fi fl hR (by omega) (by omega)
          · skip
            refine wi_iof (z := 0) ct_106_61 (ot.trans (by rw [hk40] <;> rfl)) (by decide) rfl ?_
            refine wi_iret ct_106_64 (by decide) (wk_i ?_)
            refine wi_ifeq_t ct_97_31 ki_0 (by decide) ?_
            refine wi_ic ct_97_41 kc_m12 ?_
            refine wi_iret ct_97_43 rfl (wk_i ?_)
            refine wi_aload_2 ct_211_1104 ?_
            refine wi_aloadT_0 ct_211_1105 ?_
            refine wi_iload_3 ct_211_1106 ?_
            refine wi_ic ct_211_1107 kc_1 ?_
            refine wi_iadd ct_211_1108 rfl ?_
            refine wi_ialdT (j := I + 1) (x := a1) ct_211_1109 (sL_SC hS) (i_in (i_add hi ki_1 (by omega)) (by omega)) (i_cl (i_add hi ki_1 (by omega)) (by omega)) (((hsc _).trans e1)) ?_
            refine wi_aloadT_0 ct_211_1110 ?_
            refine wi_iload_3 ct_211_1111 ?_
            refine wi_ic ct_211_1112 kc_2 ?_
            refine wi_iadd ct_211_1113 rfl ?_
            refine wi_ialdT (j := I + 2) (x := a2) ct_211_1114 (sL_SC hS) (i_in (i_add hi ki_2 (by omega)) (by omega)) (i_cl (i_add hi ki_2 (by omega)) (by omega)) (((hsc _).trans e2)) ?_
            refine wi_cv2 (ls' := [some _, some _, some _, none]) ct_211_1115 (Nat.le_of_ble_eq_true rfl) (by decide) (sT_31 hS) rfl (by decide) rfl rfl (Nat.le_of_ble_eq_true rfl) ?_
            refine wi_aload_0 ct_192_0 ?_
            refine wi_iload_2 ct_192_1 ?_
            refine wi_ic ct_192_2 kc_0 ?_
            refine wi_ic ct_192_3 kc_6 ?_
            refine wi_cv3 (ls' := [some _, some _, some _, some _]) ct_192_5 (Nat.le_of_ble_eq_true rfl) (by decide) (sT_31 hS) rfl (by decide) rfl rfl (Nat.le_of_ble_eq_true rfl) ?_
            refine c_in rfl ki_0 ki_6 (fun _ => wk_i ?_) (fun h => absurd h (by omega))
            refine wi_ifne_t ct_192_8 ki_1 (by decide) ?_
            refine wi_aload_0 ct_192_14 ?_
            refine wi_iload_1 ct_192_15 ?_
            refine wi_cv1 (ls' := [some _, some _]) ct_192_16 (Nat.le_of_ble_eq_true rfl) (by decide) (sT_31 hS) rfl (by decide) rfl rfl (Nat.le_of_ble_eq_true rfl) ?_
            refine wi_aload_0 ct_120_0 ?_
            refine wi_iload_1 ct_120_1 ?_
            refine wi_ic ct_120_2 kc_0 ?_
            refine wi_aload_0 ct_120_3 ?_
            refine wi_gf (x := fi 31 0) ct_120_4 (sT_31 hS) rfl rfl rfl ?_
            refine wi_ic ct_120_7 kc_1 ?_
            refine wi_isub ct_120_8 rfl ?_
            refine wi_cv3 (ls' := [some _, some _, some _, some _]) ct_120_9 (Nat.le_of_ble_eq_true rfl) (by decide) (sT_31 hS) rfl (by decide) rfl rfl (Nat.le_of_ble_eq_true rfl) ?_
            refine c_in hBn ki_0 (i_sub rfl ki_1 (by omega)) (fun _ => wk_i ?_) (fun h => absurd h (by omega))
            refine wi_iret ct_120_12 (by decide) (wk_i ?_)
            refine wi_ifne_t ct_192_19 ki_1 (by decide) ?_
            refine wi_aload_0 ct_192_25 ?_
            refine wi_gfr ct_192_26 (sT_31 hS) rfl (sR_31_2 hS) ?_
            refine wi_iload_1 ct_192_29 ?_
            refine wi_iald (x := fi 32 B) ct_192_30 (sT_32 hS) (sL_32 hS) (i_in hBn (by omega)) (i_cl (k := B) hBn (by omega)) rfl ?_
            refine wi_istore_3 rfl ct_192_31 ?_
            refine wi_iload_2 ct_192_32 ?_
            refine wi_ifeq_f ct_192_33 rfl (by omega) ?_
            refine wi_iload_3 ct_192_36 ?_
            refine wi_iload_2 ct_192_37 ?_
            refine wi_iceq_f ct_192_38 rfl rfl (by omega) ?_
            refine wi_iload_2 ct_192_41 ?_
            refine wi_ic ct_192_42 kc_1 ?_
            refine wi_icne_t ct_192_43 rfl ki_1 (by omega) ?_
            refine wi_iload_2 ct_192_51 ?_
            refine wi_ic ct_192_52 kc_2 ?_
            refine wi_icne_t ct_192_53 rfl ki_2 (by omega) ?_
            refine wi_iload_2 ct_192_61 ?_
            refine wi_ic ct_192_62 kc_3 ?_
            refine wi_icne_t ct_192_63 rfl ki_3 (by omega) ?_
            refine wi_ic ct_192_76 kc_m12 ?_
            refine wi_iret ct_192_78 rfl (wk_i ?_)
            refine wi_iceq_t ct_211_1118 ki_m12 ki_m12 (by decide) ?_
            exact kk own g fi fl hR (by omega) (by omega)
          · skip
            refine wi_iof (z := 1) ct_106_61 (ot.trans (by rw [hk41] <;> rfl)) (by decide) rfl ?_
            refine wi_iret ct_106_64 (by decide) (wk_i ?_)
            refine wi_ifeq_f ct_97_31 ki_1 (by decide) ?_
            refine wi_aload_3 ct_97_34 ?_
            refine wi_gf (x := fi 32 B) ct_97_35 (ot.trans (by rw [hk41] <;> rfl)) rfl rfl ok ?_
            refine wi_goto ct_97_38 ?_
            refine wi_iret ct_97_43 rfl (wk_i ?_)
            refine wi_aload_2 ct_211_1104 ?_
            refine wi_aloadT_0 ct_211_1105 ?_
            refine wi_iload_3 ct_211_1106 ?_
            refine wi_ic ct_211_1107 kc_1 ?_
            refine wi_iadd ct_211_1108 rfl ?_
            refine wi_ialdT (j := I + 1) (x := a1) ct_211_1109 (sL_SC hS) (i_in (i_add hi ki_1 (by omega)) (by omega)) (i_cl (i_add hi ki_1 (by omega)) (by omega)) (((hsc _).trans e1)) ?_
            refine wi_aloadT_0 ct_211_1110 ?_
            refine wi_iload_3 ct_211_1111 ?_
            refine wi_ic ct_211_1112 kc_2 ?_
            refine wi_iadd ct_211_1113 rfl ?_
            refine wi_ialdT (j := I + 2) (x := a2) ct_211_1114 (sL_SC hS) (i_in (i_add hi ki_2 (by omega)) (by omega)) (i_cl (i_add hi ki_2 (by omega)) (by omega)) (((hsc _).trans e2)) ?_
            refine wi_cv2 (ls' := [some _, some _, some _, none]) ct_211_1115 (Nat.le_of_ble_eq_true rfl) (by decide) (sT_31 hS) rfl (by decide) rfl rfl (Nat.le_of_ble_eq_true rfl) ?_
            refine wi_aload_0 ct_192_0 ?_
            refine wi_iload_2 ct_192_1 ?_
            refine wi_ic ct_192_2 kc_0 ?_
            refine wi_ic ct_192_3 kc_6 ?_
            refine wi_cv3 (ls' := [some _, some _, some _, some _]) ct_192_5 (Nat.le_of_ble_eq_true rfl) (by decide) (sT_31 hS) rfl (by decide) rfl rfl (Nat.le_of_ble_eq_true rfl) ?_
            refine c_in rfl ki_0 ki_6 (fun _ => wk_i ?_) (fun h => absurd h (by omega))
            refine wi_ifne_t ct_192_8 ki_1 (by decide) ?_
            refine wi_aload_0 ct_192_14 ?_
            refine wi_iload_1 ct_192_15 ?_
            refine wi_cv1 (ls' := [some _, some _]) ct_192_16 (Nat.le_of_ble_eq_true rfl) (by decide) (sT_31 hS) rfl (by decide) rfl rfl (Nat.le_of_ble_eq_true rfl) ?_
            refine wi_aload_0 ct_120_0 ?_
            refine wi_iload_1 ct_120_1 ?_
            refine wi_ic ct_120_2 kc_0 ?_
            refine wi_aload_0 ct_120_3 ?_
            refine wi_gf (x := fi 31 0) ct_120_4 (sT_31 hS) rfl rfl rfl ?_
            refine wi_ic ct_120_7 kc_1 ?_
            refine wi_isub ct_120_8 rfl ?_
            refine wi_cv3 (ls' := [some _, some _, some _, some _]) ct_120_9 (Nat.le_of_ble_eq_true rfl) (by decide) (sT_31 hS) rfl (by decide) rfl rfl (Nat.le_of_ble_eq_true rfl) ?_
            refine c_in hBn ki_0 (i_sub rfl ki_1 (by omega)) (fun _ => wk_i ?_) (fun h => absurd h (by omega))
            refine wi_iret ct_120_12 (by decide) (wk_i ?_)
            refine wi_ifne_t ct_192_19 ki_1 (by decide) ?_
            refine wi_aload_0 ct_192_25 ?_
            refine wi_gfr ct_192_26 (sT_31 hS) rfl (sR_31_2 hS) ?_
            refine wi_iload_1 ct_192_29 ?_
            refine wi_iald (x := fi 32 B) ct_192_30 (sT_32 hS) (sL_32 hS) (i_in hBn (by omega)) (i_cl (k := B) hBn (by omega)) rfl ?_
            refine wi_istore_3 rfl ct_192_31 ?_
            refine wi_iload_2 ct_192_32 ?_
            refine wi_ifeq_f ct_192_33 rfl (by omega) ?_
            refine wi_iload_3 ct_192_36 ?_
            refine wi_iload_2 ct_192_37 ?_
            refine wi_iceq_t ct_192_38 rfl rfl (by omega) ?_
            refine wi_iload_3 ct_192_72 ?_
            refine wi_goto ct_192_73 ?_
            refine wi_iret ct_192_78 rfl (wk_i ?_)
            refine wi_iceq_t ct_211_1118 rfl rfl (by omega) ?_
            exact kk own g fi fl hR (by omega) (by omega)
          · skip
            refine wi_iof (z := 0) ct_106_61 (ot.trans (by rw [hk42] <;> rfl)) (by decide) rfl ?_
            refine wi_iret ct_106_64 (by decide) (wk_i ?_)
            refine wi_ifeq_t ct_97_31 ki_0 (by decide) ?_
            refine wi_ic ct_97_41 kc_m12 ?_
            refine wi_iret ct_97_43 rfl (wk_i ?_)
            refine wi_aload_2 ct_211_1104 ?_
            refine wi_aloadT_0 ct_211_1105 ?_
            refine wi_iload_3 ct_211_1106 ?_
            refine wi_ic ct_211_1107 kc_1 ?_
            refine wi_iadd ct_211_1108 rfl ?_
            refine wi_ialdT (j := I + 1) (x := a1) ct_211_1109 (sL_SC hS) (i_in (i_add hi ki_1 (by omega)) (by omega)) (i_cl (i_add hi ki_1 (by omega)) (by omega)) (((hsc _).trans e1)) ?_
            refine wi_aloadT_0 ct_211_1110 ?_
            refine wi_iload_3 ct_211_1111 ?_
            refine wi_ic ct_211_1112 kc_2 ?_
            refine wi_iadd ct_211_1113 rfl ?_
            refine wi_ialdT (j := I + 2) (x := a2) ct_211_1114 (sL_SC hS) (i_in (i_add hi ki_2 (by omega)) (by omega)) (i_cl (i_add hi ki_2 (by omega)) (by omega)) (((hsc _).trans e2)) ?_
            refine wi_cv2 (ls' := [some _, some _, some _, none]) ct_211_1115 (Nat.le_of_ble_eq_true rfl) (by decide) (sT_31 hS) rfl (by decide) rfl rfl (Nat.le_of_ble_eq_true rfl) ?_
            refine wi_aload_0 ct_192_0 ?_
            refine wi_iload_2 ct_192_1 ?_
            refine wi_ic ct_192_2 kc_0 ?_
            refine wi_ic ct_192_3 kc_6 ?_
            refine wi_cv3 (ls' := [some _, some _, some _, some _]) ct_192_5 (Nat.le_of_ble_eq_true rfl) (by decide) (sT_31 hS) rfl (by decide) rfl rfl (Nat.le_of_ble_eq_true rfl) ?_
            refine c_in rfl ki_0 ki_6 (fun _ => wk_i ?_) (fun h => absurd h (by omega))
            refine wi_ifne_t ct_192_8 ki_1 (by decide) ?_
            refine wi_aload_0 ct_192_14 ?_
            refine wi_iload_1 ct_192_15 ?_
            refine wi_cv1 (ls' := [some _, some _]) ct_192_16 (Nat.le_of_ble_eq_true rfl) (by decide) (sT_31 hS) rfl (by decide) rfl rfl (Nat.le_of_ble_eq_true rfl) ?_
            refine wi_aload_0 ct_120_0 ?_
            refine wi_iload_1 ct_120_1 ?_
            refine wi_ic ct_120_2 kc_0 ?_
            refine wi_aload_0 ct_120_3 ?_
            refine wi_gf (x := fi 31 0) ct_120_4 (sT_31 hS) rfl rfl rfl ?_
            refine wi_ic ct_120_7 kc_1 ?_
            refine wi_isub ct_120_8 rfl ?_
            refine wi_cv3 (ls' := [some _, some _, some _, some _]) ct_120_9 (Nat.le_of_ble_eq_true rfl) (by decide) (sT_31 hS) rfl (by decide) rfl rfl (Nat.le_of_ble_eq_true rfl) ?_
            refine c_in hBn ki_0 (i_sub rfl ki_1 (by omega)) (fun _ => wk_i ?_) (fun h => absurd h (by omega))
            refine wi_iret ct_120_12 (by decide) (wk_i ?_)
            refine wi_ifne_t ct_192_19 ki_1 (by decide) ?_
            refine wi_aload_0 ct_192_25 ?_
            refine wi_gfr ct_192_26 (sT_31 hS) rfl (sR_31_2 hS) ?_
            refine wi_iload_1 ct_192_29 ?_
            refine wi_iald (x := fi 32 B) ct_192_30 (sT_32 hS) (sL_32 hS) (i_in hBn (by omega)) (i_cl (k := B) hBn (by omega)) rfl ?_
            refine wi_istore_3 rfl ct_192_31 ?_
            refine wi_iload_2 ct_192_32 ?_
            refine wi_ifeq_f ct_192_33 rfl (by omega) ?_
            refine wi_iload_3 ct_192_36 ?_
            refine wi_iload_2 ct_192_37 ?_
            refine wi_iceq_f ct_192_38 rfl rfl (by omega) ?_
            refine wi_iload_2 ct_192_41 ?_
            refine wi_ic ct_192_42 kc_1 ?_
            refine wi_icne_t ct_192_43 rfl ki_1 (by omega) ?_
            refine wi_iload_2 ct_192_51 ?_
            refine wi_ic ct_192_52 kc_2 ?_
            refine wi_icne_t ct_192_53 rfl ki_2 (by omega) ?_
            refine wi_iload_2 ct_192_61 ?_
            refine wi_ic ct_192_62 kc_3 ?_
            refine wi_icne_t ct_192_63 rfl ki_3 (by omega) ?_
            refine wi_ic ct_192_76 kc_m12 ?_
            refine wi_iret ct_192_78 rfl (wk_i ?_)
            refine wi_iceq_t ct_211_1118 ki_m12 ki_m12 (by decide) ?_
            exact kk own g fi fl hR (by omega) (by omega)
        rcases Decidable.em ((a2).toInt = 6) with h43 | h43
        · refine wi_tsw (X := 6) (t := 65) ct_106_1 (by omega) rfl ?_
          refine wi_aload_0 ct_106_65 ?_
          rcases am_k7 (k := (fi 32 B).toInt) (by omega) with hk44 | hk45 | hk46 | hk47 | hk48 | hk49 | hk50
          · skip
            refine wi_iof (z := 0) ct_106_66 (ot.trans (by rw [hk44] <;> rfl)) (by decide) rfl ?_
            refine wi_iret ct_106_69 (by decide) (wk_i ?_)
            refine wi_ifeq_t ct_97_31 ki_0 (by decide) ?_
            refine wi_ic ct_97_41 kc_m12 ?_
            refine wi_iret ct_97_43 rfl (wk_i ?_)
            refine wi_aload_2 ct_211_1104 ?_
            refine wi_aloadT_0 ct_211_1105 ?_
            refine wi_iload_3 ct_211_1106 ?_
            refine wi_ic ct_211_1107 kc_1 ?_
            refine wi_iadd ct_211_1108 rfl ?_
            refine wi_ialdT (j := I + 1) (x := a1) ct_211_1109 (sL_SC hS) (i_in (i_add hi ki_1 (by omega)) (by omega)) (i_cl (i_add hi ki_1 (by omega)) (by omega)) (((hsc _).trans e1)) ?_
            refine wi_aloadT_0 ct_211_1110 ?_
            refine wi_iload_3 ct_211_1111 ?_
            refine wi_ic ct_211_1112 kc_2 ?_
            refine wi_iadd ct_211_1113 rfl ?_
            refine wi_ialdT (j := I + 2) (x := a2) ct_211_1114 (sL_SC hS) (i_in (i_add hi ki_2 (by omega)) (by omega)) (i_cl (i_add hi ki_2 (by omega)) (by omega)) (((hsc _).trans e2)) ?_
            refine wi_cv2 (ls' := [some _, some _, some _, none]) ct_211_1115 (Nat.le_of_ble_eq_true rfl) (by decide) (sT_31 hS) rfl (by decide) rfl rfl (Nat.le_of_ble_eq_true rfl) ?_
            refine wi_aload_0 ct_192_0 ?_
            refine wi_iload_2 ct_192_1 ?_
            refine wi_ic ct_192_2 kc_0 ?_
            refine wi_ic ct_192_3 kc_6 ?_
            refine wi_cv3 (ls' := [some _, some _, some _, some _]) ct_192_5 (Nat.le_of_ble_eq_true rfl) (by decide) (sT_31 hS) rfl (by decide) rfl rfl (Nat.le_of_ble_eq_true rfl) ?_
            refine c_in rfl ki_0 ki_6 (fun _ => wk_i ?_) (fun h => absurd h (by omega))
            refine wi_ifne_t ct_192_8 ki_1 (by decide) ?_
            refine wi_aload_0 ct_192_14 ?_
            refine wi_iload_1 ct_192_15 ?_
            refine wi_cv1 (ls' := [some _, some _]) ct_192_16 (Nat.le_of_ble_eq_true rfl) (by decide) (sT_31 hS) rfl (by decide) rfl rfl (Nat.le_of_ble_eq_true rfl) ?_
            refine wi_aload_0 ct_120_0 ?_
            refine wi_iload_1 ct_120_1 ?_
            refine wi_ic ct_120_2 kc_0 ?_
            refine wi_aload_0 ct_120_3 ?_
            refine wi_gf (x := fi 31 0) ct_120_4 (sT_31 hS) rfl rfl rfl ?_
            refine wi_ic ct_120_7 kc_1 ?_
            refine wi_isub ct_120_8 rfl ?_
            refine wi_cv3 (ls' := [some _, some _, some _, some _]) ct_120_9 (Nat.le_of_ble_eq_true rfl) (by decide) (sT_31 hS) rfl (by decide) rfl rfl (Nat.le_of_ble_eq_true rfl) ?_
            refine c_in hBn ki_0 (i_sub rfl ki_1 (by omega)) (fun _ => wk_i ?_) (fun h => absurd h (by omega))
            refine wi_iret ct_120_12 (by decide) (wk_i ?_)
            refine wi_ifne_t ct_192_19 ki_1 (by decide) ?_
            refine wi_aload_0 ct_192_25 ?_
            refine wi_gfr ct_192_26 (sT_31 hS) rfl (sR_31_2 hS) ?_
            refine wi_iload_1 ct_192_29 ?_
            refine wi_iald (x := fi 32 B) ct_192_30 (sT_32 hS) (sL_32 hS) (i_in hBn (by omega)) (i_cl (k := B) hBn (by omega)) rfl ?_
            refine wi_istore_3 rfl ct_192_31 ?_
            refine wi_iload_2 ct_192_32 ?_
            refine wi_ifeq_f ct_192_33 rfl (by omega) ?_
            refine wi_iload_3 ct_192_36 ?_
            refine wi_iload_2 ct_192_37 ?_
            refine wi_iceq_f ct_192_38 rfl rfl (by omega) ?_
            refine wi_iload_2 ct_192_41 ?_
            refine wi_ic ct_192_42 kc_1 ?_
            refine wi_icne_t ct_192_43 rfl ki_1 (by omega) ?_
            refine wi_iload_2 ct_192_51 ?_
            refine wi_ic ct_192_52 kc_2 ?_
            refine wi_icne_t ct_192_53 rfl ki_2 (by omega) ?_
            refine wi_iload_2 ct_192_61 ?_
            refine wi_ic ct_192_62 kc_3 ?_
            refine wi_icne_t ct_192_63 rfl ki_3 (by omega) ?_
            refine wi_ic ct_192_76 kc_m12 ?_
            refine wi_iret ct_192_78 rfl (wk_i ?_)
            refine wi_iceq_t ct_211_1118 ki_m12 ki_m12 (by decide) ?_
            exact kk own g fi fl hR (by omega) (by omega)
          · skip
            refine wi_iof (z := 0) ct_106_66 (ot.trans (by rw [hk45] <;> rfl)) (by decide) rfl ?_
            refine wi_iret ct_106_69 (by decide) (wk_i ?_)
            refine wi_ifeq_t ct_97_31 ki_0 (by decide) ?_
            refine wi_ic ct_97_41 kc_m12 ?_
            refine wi_iret ct_97_43 rfl (wk_i ?_)
            refine wi_aload_2 ct_211_1104 ?_
            refine wi_aloadT_0 ct_211_1105 ?_
            refine wi_iload_3 ct_211_1106 ?_
            refine wi_ic ct_211_1107 kc_1 ?_
            refine wi_iadd ct_211_1108 rfl ?_
            refine wi_ialdT (j := I + 1) (x := a1) ct_211_1109 (sL_SC hS) (i_in (i_add hi ki_1 (by omega)) (by omega)) (i_cl (i_add hi ki_1 (by omega)) (by omega)) (((hsc _).trans e1)) ?_
            refine wi_aloadT_0 ct_211_1110 ?_
            refine wi_iload_3 ct_211_1111 ?_
            refine wi_ic ct_211_1112 kc_2 ?_
            refine wi_iadd ct_211_1113 rfl ?_
            refine wi_ialdT (j := I + 2) (x := a2) ct_211_1114 (sL_SC hS) (i_in (i_add hi ki_2 (by omega)) (by omega)) (i_cl (i_add hi ki_2 (by omega)) (by omega)) (((hsc _).trans e2)) ?_
            refine wi_cv2 (ls' := [some _, some _, some _, none]) ct_211_1115 (Nat.le_of_ble_eq_true rfl) (by decide) (sT_31 hS) rfl (by decide) rfl rfl (Nat.le_of_ble_eq_true rfl) ?_
            refine wi_aload_0 ct_192_0 ?_
            refine wi_iload_2 ct_192_1 ?_
            refine wi_ic ct_192_2 kc_0 ?_
            refine wi_ic ct_192_3 kc_6 ?_
            refine wi_cv3 (ls' := [some _, some _, some _, some _]) ct_192_5 (Nat.le_of_ble_eq_true rfl) (by decide) (sT_31 hS) rfl (by decide) rfl rfl (Nat.le_of_ble_eq_true rfl) ?_
            refine c_in rfl ki_0 ki_6 (fun _ => wk_i ?_) (fun h => absurd h (by omega))
            refine wi_ifne_t ct_192_8 ki_1 (by decide) ?_
            refine wi_aload_0 ct_192_14 ?_
            refine wi_iload_1 ct_192_15 ?_
            refine wi_cv1 (ls' := [some _, some _]) ct_192_16 (Nat.le_of_ble_eq_true rfl) (by decide) (sT_31 hS) rfl (by decide) rfl rfl (Nat.le_of_ble_eq_true rfl) ?_
            refine wi_aload_0 ct_120_0 ?_
            refine wi_iload_1 ct_120_1 ?_
            refine wi_ic ct_120_2 kc_0 ?_
            refine wi_aload_0 ct_120_3 ?_
            refine wi_gf (x := fi 31 0) ct_120_4 (sT_31 hS) rfl rfl rfl ?_
            refine wi_ic ct_120_7 kc_1 ?_
            refine wi_isub ct_120_8 rfl ?_
            refine wi_cv3 (ls' := [some _, some _, some _, some _]) ct_120_9 (Nat.le_of_ble_eq_true rfl) (by decide) (sT_31 hS) rfl (by decide) rfl rfl (Nat.le_of_ble_eq_true rfl) ?_
            refine c_in hBn ki_0 (i_sub rfl ki_1 (by omega)) (fun _ => wk_i ?_) (fun h => absurd h (by omega))
            refine wi_iret ct_120_12 (by decide) (wk_i ?_)
            refine wi_ifne_t ct_192_19 ki_1 (by decide) ?_
            refine wi_aload_0 ct_192_25 ?_
            refine wi_gfr ct_192_26 (sT_31 hS) rfl (sR_31_2 hS) ?_
            refine wi_iload_1 ct_192_29 ?_
            refine wi_iald (x := fi 32 B) ct_192_30 (sT_32 hS) (sL_32 hS) (i_in hBn (by omega)) (i_cl (k := B) hBn (by omega)) rfl ?_
            refine wi_istore_3 rfl ct_192_31 ?_
            refine wi_iload_2 ct_192_32 ?_
            refine wi_ifeq_f ct_192_33 rfl (by omega) ?_
            refine wi_iload_3 ct_192_36 ?_
            refine wi_iload_2 ct_192_37 ?_
            refine wi_iceq_f ct_192_38 rfl rfl (by omega) ?_
            refine wi_iload_2 ct_192_41 ?_
            refine wi_ic ct_192_42 kc_1 ?_
            refine wi_icne_t ct_192_43 rfl ki_1 (by omega) ?_
            refine wi_iload_2 ct_192_51 ?_
            refine wi_ic ct_192_52 kc_2 ?_
            refine wi_icne_t ct_192_53 rfl ki_2 (by omega) ?_
            refine wi_iload_2 ct_192_61 ?_
            refine wi_ic ct_192_62 kc_3 ?_
            refine wi_icne_t ct_192_63 rfl ki_3 (by omega) ?_
            refine wi_ic ct_192_76 kc_m12 ?_
            refine wi_iret ct_192_78 rfl (wk_i ?_)
            refine wi_iceq_t ct_211_1118 ki_m12 ki_m12 (by decide) ?_
            exact kk own g fi fl hR (by omega) (by omega)
          · skip
            refine wi_iof (z := 0) ct_106_66 (ot.trans (by rw [hk46] <;> rfl)) (by decide) rfl ?_
            refine wi_iret ct_106_69 (by decide) (wk_i ?_)
            refine wi_ifeq_t ct_97_31 ki_0 (by decide) ?_
            refine wi_ic ct_97_41 kc_m12 ?_
            refine wi_iret ct_97_43 rfl (wk_i ?_)
            refine wi_aload_2 ct_211_1104 ?_
            refine wi_aloadT_0 ct_211_1105 ?_
            refine wi_iload_3 ct_211_1106 ?_
            refine wi_ic ct_211_1107 kc_1 ?_
            refine wi_iadd ct_211_1108 rfl ?_
            refine wi_ialdT (j := I + 1) (x := a1) ct_211_1109 (sL_SC hS) (i_in (i_add hi ki_1 (by omega)) (by omega)) (i_cl (i_add hi ki_1 (by omega)) (by omega)) (((hsc _).trans e1)) ?_
            refine wi_aloadT_0 ct_211_1110 ?_
            refine wi_iload_3 ct_211_1111 ?_
            refine wi_ic ct_211_1112 kc_2 ?_
            refine wi_iadd ct_211_1113 rfl ?_
            refine wi_ialdT (j := I + 2) (x := a2) ct_211_1114 (sL_SC hS) (i_in (i_add hi ki_2 (by omega)) (by omega)) (i_cl (i_add hi ki_2 (by omega)) (by omega)) (((hsc _).trans e2)) ?_
            refine wi_cv2 (ls' := [some _, some _, some _, none]) ct_211_1115 (Nat.le_of_ble_eq_true rfl) (by decide) (sT_31 hS) rfl (by decide) rfl rfl (Nat.le_of_ble_eq_true rfl) ?_
            refine wi_aload_0 ct_192_0 ?_
            refine wi_iload_2 ct_192_1 ?_
            refine wi_ic ct_192_2 kc_0 ?_
            refine wi_ic ct_192_3 kc_6 ?_
            refine wi_cv3 (ls' := [some _, some _, some _, some _]) ct_192_5 (Nat.le_of_ble_eq_true rfl) (by decide) (sT_31 hS) rfl (by decide) rfl rfl (Nat.le_of_ble_eq_true rfl) ?_
            refine c_in rfl ki_0 ki_6 (fun _ => wk_i ?_) (fun h => absurd h (by omega))
            refine wi_ifne_t ct_192_8 ki_1 (by decide) ?_
            refine wi_aload_0 ct_192_14 ?_
            refine wi_iload_1 ct_192_15 ?_
            refine wi_cv1 (ls' := [some _, some _]) ct_192_16 (Nat.le_of_ble_eq_true rfl) (by decide) (sT_31 hS) rfl (by decide) rfl rfl (Nat.le_of_ble_eq_true rfl) ?_
            refine wi_aload_0 ct_120_0 ?_
            refine wi_iload_1 ct_120_1 ?_
            refine wi_ic ct_120_2 kc_0 ?_
            refine wi_aload_0 ct_120_3 ?_
            refine wi_gf (x := fi 31 0) ct_120_4 (sT_31 hS) rfl rfl rfl ?_
            refine wi_ic ct_120_7 kc_1 ?_
            refine wi_isub ct_120_8 rfl ?_
            refine wi_cv3 (ls' := [some _, some _, some _, some _]) ct_120_9 (Nat.le_of_ble_eq_true rfl) (by decide) (sT_31 hS) rfl (by decide) rfl rfl (Nat.le_of_ble_eq_true rfl) ?_
            refine c_in hBn ki_0 (i_sub rfl ki_1 (by omega)) (fun _ => wk_i ?_) (fun h => absurd h (by omega))
            refine wi_iret ct_120_12 (by decide) (wk_i ?_)
            refine wi_ifne_t ct_192_19 ki_1 (by decide) ?_
            refine wi_aload_0 ct_192_25 ?_
            refine wi_gfr ct_192_26 (sT_31 hS) rfl (sR_31_2 hS) ?_
            refine wi_iload_1 ct_192_29 ?_
            refine wi_iald (x := fi 32 B) ct_192_30 (sT_32 hS) (sL_32 hS) (i_in hBn (by omega)) (i_cl (k := B) hBn (by omega)) rfl ?_
            refine wi_istore_3 rfl ct_192_31 ?_
            refine wi_iload_2 ct_192_32 ?_
            refine wi_ifeq_f ct_192_33 rfl (by omega) ?_
            refine wi_iload_3 ct_192_36 ?_
            refine wi_iload_2 ct_192_37 ?_
            refine wi_iceq_f ct_192_38 rfl rfl (by omega) ?_
            refine wi_iload_2 ct_192_41 ?_
            refine wi_ic ct_192_42 kc_1 ?_
            refine wi_icne_t ct_192_43 rfl ki_1 (by omega) ?_
            refine wi_iload_2 ct_192_51 ?_
            refine wi_ic ct_192_52 kc_2 ?_
            refine wi_icne_t ct_192_53 rfl ki_2 (by omega) ?_
            refine wi_iload_2 ct_192_61 ?_
            refine wi_ic ct_192_62 kc_3 ?_
            refine wi_icne_t ct_192_63 rfl ki_3 (by omega) ?_
            refine wi_ic ct_192_76 kc_m12 ?_
            refine wi_iret ct_192_78 rfl (wk_i ?_)
            refine wi_iceq_t ct_211_1118 ki_m12 ki_m12 (by decide) ?_
            exact kk own g fi fl hR (by omega) (by omega)
          · skip
            refine wi_iof (z := 0) ct_106_66 (ot.trans (by rw [hk47] <;> rfl)) (by decide) rfl ?_
            refine wi_iret ct_106_69 (by decide) (wk_i ?_)
            refine wi_ifeq_t ct_97_31 ki_0 (by decide) ?_
            refine wi_ic ct_97_41 kc_m12 ?_
            refine wi_iret ct_97_43 rfl (wk_i ?_)
            refine wi_aload_2 ct_211_1104 ?_
            refine wi_aloadT_0 ct_211_1105 ?_
            refine wi_iload_3 ct_211_1106 ?_
            refine wi_ic ct_211_1107 kc_1 ?_
            refine wi_iadd ct_211_1108 rfl ?_
            refine wi_ialdT (j := I + 1) (x := a1) ct_211_1109 (sL_SC hS) (i_in (i_add hi ki_1 (by omega)) (by omega)) (i_cl (i_add hi ki_1 (by omega)) (by omega)) (((hsc _).trans e1)) ?_
            refine wi_aloadT_0 ct_211_1110 ?_
            refine wi_iload_3 ct_211_1111 ?_
            refine wi_ic ct_211_1112 kc_2 ?_
            refine wi_iadd ct_211_1113 rfl ?_
            refine wi_ialdT (j := I + 2) (x := a2) ct_211_1114 (sL_SC hS) (i_in (i_add hi ki_2 (by omega)) (by omega)) (i_cl (i_add hi ki_2 (by omega)) (by omega)) (((hsc _).trans e2)) ?_
            refine wi_cv2 (ls' := [some _, some _, some _, none]) ct_211_1115 (Nat.le_of_ble_eq_true rfl) (by decide) (sT_31 hS) rfl (by decide) rfl rfl (Nat.le_of_ble_eq_true rfl) ?_
            refine wi_aload_0 ct_192_0 ?_
            refine wi_iload_2 ct_192_1 ?_
            refine wi_ic ct_192_2 kc_0 ?_
            refine wi_ic ct_192_3 kc_6 ?_
            refine wi_cv3 (ls' := [some _, some _, some _, some _]) ct_192_5 (Nat.le_of_ble_eq_true rfl) (by decide) (sT_31 hS) rfl (by decide) rfl rfl (Nat.le_of_ble_eq_true rfl) ?_
            refine c_in rfl ki_0 ki_6 (fun _ => wk_i ?_) (fun h => absurd h (by omega))
            refine wi_ifne_t ct_192_8 ki_1 (by decide) ?_
            refine wi_aload_0 ct_192_14 ?_
            refine wi_iload_1 ct_192_15 ?_
            refine wi_cv1 (ls' := [some _, some _]) ct_192_16 (Nat.le_of_ble_eq_true rfl) (by decide) (sT_31 hS) rfl (by decide) rfl rfl (Nat.le_of_ble_eq_true rfl) ?_
            refine wi_aload_0 ct_120_0 ?_
            refine wi_iload_1 ct_120_1 ?_
            refine wi_ic ct_120_2 kc_0 ?_
            refine wi_aload_0 ct_120_3 ?_
            refine wi_gf (x := fi 31 0) ct_120_4 (sT_31 hS) rfl rfl rfl ?_
            refine wi_ic ct_120_7 kc_1 ?_
            refine wi_isub ct_120_8 rfl ?_
            refine wi_cv3 (ls' := [some _, some _, some _, some _]) ct_120_9 (Nat.le_of_ble_eq_true rfl) (by decide) (sT_31 hS) rfl (by decide) rfl rfl (Nat.le_of_ble_eq_true rfl) ?_
            refine c_in hBn ki_0 (i_sub rfl ki_1 (by omega)) (fun _ => wk_i ?_) (fun h => absurd h (by omega))
            refine wi_iret ct_120_12 (by decide) (wk_i ?_)
            refine wi_ifne_t ct_192_19 ki_1 (by decide) ?_
            refine wi_aload_0 ct_192_25 ?_
            refine wi_gfr ct_192_26 (sT_31 hS) rfl (sR_31_2 hS) ?_
            refine wi_iload_1 ct_192_29 ?_
            refine wi_iald (x := fi 32 B) ct_192_30 (sT_32 hS) (sL_32 hS) (i_in hBn (by omega)) (i_cl (k := B) hBn (by omega)) rfl ?_
            refine wi_istore_3 rfl ct_192_31 ?_
            refine wi_iload_2 ct_192_32 ?_
            refine wi_ifeq_f ct_192_33 rfl (by omega) ?_
            refine wi_iload_3 ct_192_36 ?_
            refine wi_iload_2 ct_192_37 ?_
            refine wi_iceq_f ct_192_38 rfl rfl (by omega) ?_
            refine wi_iload_2 ct_192_41 ?_
            refine wi_ic ct_192_42 kc_1 ?_
            refine wi_icne_t ct_192_43 rfl ki_1 (by omega) ?_
            refine wi_iload_2 ct_192_51 ?_
            refine wi_ic ct_192_52 kc_2 ?_
            refine wi_icne_t ct_192_53 rfl ki_2 (by omega) ?_
            refine wi_iload_2 ct_192_61 ?_
            refine wi_ic ct_192_62 kc_3 ?_
            refine wi_icne_t ct_192_63 rfl ki_3 (by omega) ?_
            refine wi_ic ct_192_76 kc_m12 ?_
            refine wi_iret ct_192_78 rfl (wk_i ?_)
            refine wi_iceq_t ct_211_1118 ki_m12 ki_m12 (by decide) ?_
            exact kk own g fi fl hR (by omega) (by omega)
          · skip
            refine wi_iof (z := 0) ct_106_66 (ot.trans (by rw [hk48] <;> rfl)) (by decide) rfl ?_
            refine wi_iret ct_106_69 (by decide) (wk_i ?_)
            refine wi_ifeq_t ct_97_31 ki_0 (by decide) ?_
            refine wi_ic ct_97_41 kc_m12 ?_
            refine wi_iret ct_97_43 rfl (wk_i ?_)
            refine wi_aload_2 ct_211_1104 ?_
            refine wi_aloadT_0 ct_211_1105 ?_
            refine wi_iload_3 ct_211_1106 ?_
            refine wi_ic ct_211_1107 kc_1 ?_
            refine wi_iadd ct_211_1108 rfl ?_
            refine wi_ialdT (j := I + 1) (x := a1) ct_211_1109 (sL_SC hS) (i_in (i_add hi ki_1 (by omega)) (by omega)) (i_cl (i_add hi ki_1 (by omega)) (by omega)) (((hsc _).trans e1)) ?_
            refine wi_aloadT_0 ct_211_1110 ?_
            refine wi_iload_3 ct_211_1111 ?_
            refine wi_ic ct_211_1112 kc_2 ?_
            refine wi_iadd ct_211_1113 rfl ?_
            refine wi_ialdT (j := I + 2) (x := a2) ct_211_1114 (sL_SC hS) (i_in (i_add hi ki_2 (by omega)) (by omega)) (i_cl (i_add hi ki_2 (by omega)) (by omega)) (((hsc _).trans e2)) ?_
            refine wi_cv2 (ls' := [some _, some _, some _, none]) ct_211_1115 (Nat.le_of_ble_eq_true rfl) (by decide) (sT_31 hS) rfl (by decide) rfl rfl (Nat.le_of_ble_eq_true rfl) ?_
            refine wi_aload_0 ct_192_0 ?_
            refine wi_iload_2 ct_192_1 ?_
            refine wi_ic ct_192_2 kc_0 ?_
            refine wi_ic ct_192_3 kc_6 ?_
            refine wi_cv3 (ls' := [some _, some _, some _, some _]) ct_192_5 (Nat.le_of_ble_eq_true rfl) (by decide) (sT_31 hS) rfl (by decide) rfl rfl (Nat.le_of_ble_eq_true rfl) ?_
            refine c_in rfl ki_0 ki_6 (fun _ => wk_i ?_) (fun h => absurd h (by omega))
            refine wi_ifne_t ct_192_8 ki_1 (by decide) ?_
            refine wi_aload_0 ct_192_14 ?_
            refine wi_iload_1 ct_192_15 ?_
            refine wi_cv1 (ls' := [some _, some _]) ct_192_16 (Nat.le_of_ble_eq_true rfl) (by decide) (sT_31 hS) rfl (by decide) rfl rfl (Nat.le_of_ble_eq_true rfl) ?_
            refine wi_aload_0 ct_120_0 ?_
            refine wi_iload_1 ct_120_1 ?_
            refine wi_ic ct_120_2 kc_0 ?_
            refine wi_aload_0 ct_120_3 ?_
            refine wi_gf (x := fi 31 0) ct_120_4 (sT_31 hS) rfl rfl rfl ?_
            refine wi_ic ct_120_7 kc_1 ?_
            refine wi_isub ct_120_8 rfl ?_
            refine wi_cv3 (ls' := [some _, some _, some _, some _]) ct_120_9 (Nat.le_of_ble_eq_true rfl) (by decide) (sT_31 hS) rfl (by decide) rfl rfl (Nat.le_of_ble_eq_true rfl) ?_
            refine c_in hBn ki_0 (i_sub rfl ki_1 (by omega)) (fun _ => wk_i ?_) (fun h => absurd h (by omega))
            refine wi_iret ct_120_12 (by decide) (wk_i ?_)
            refine wi_ifne_t ct_192_19 ki_1 (by decide) ?_
            refine wi_aload_0 ct_192_25 ?_
            refine wi_gfr ct_192_26 (sT_31 hS) rfl (sR_31_2 hS) ?_
            refine wi_iload_1 ct_192_29 ?_
            refine wi_iald (x := fi 32 B) ct_192_30 (sT_32 hS) (sL_32 hS) (i_in hBn (by omega)) (i_cl (k := B) hBn (by omega)) rfl ?_
            refine wi_istore_3 rfl ct_192_31 ?_
            refine wi_iload_2 ct_192_32 ?_
            refine wi_ifeq_f ct_192_33 rfl (by omega) ?_
            refine wi_iload_3 ct_192_36 ?_
            refine wi_iload_2 ct_192_37 ?_
            refine wi_iceq_f ct_192_38 rfl rfl (by omega) ?_
            refine wi_iload_2 ct_192_41 ?_
            refine wi_ic ct_192_42 kc_1 ?_
            refine wi_icne_t ct_192_43 rfl ki_1 (by omega) ?_
            refine wi_iload_2 ct_192_51 ?_
            refine wi_ic ct_192_52 kc_2 ?_
            refine wi_icne_t ct_192_53 rfl ki_2 (by omega) ?_
            refine wi_iload_2 ct_192_61 ?_
            refine wi_ic ct_192_62 kc_3 ?_
            refine wi_icne_t ct_192_63 rfl ki_3 (by omega) ?_
            refine wi_ic ct_192_76 kc_m12 ?_
            refine wi_iret ct_192_78 rfl (wk_i ?_)
            refine wi_iceq_t ct_211_1118 ki_m12 ki_m12 (by decide) ?_
            exact kk own g fi fl hR (by omega) (by omega)
          · skip
            refine wi_iof (z := 0) ct_106_66 (ot.trans (by rw [hk49] <;> rfl)) (by decide) rfl ?_
            refine wi_iret ct_106_69 (by decide) (wk_i ?_)
            refine wi_ifeq_t ct_97_31 ki_0 (by decide) ?_
            refine wi_ic ct_97_41 kc_m12 ?_
            refine wi_iret ct_97_43 rfl (wk_i ?_)
            refine wi_aload_2 ct_211_1104 ?_
            refine wi_aloadT_0 ct_211_1105 ?_
            refine wi_iload_3 ct_211_1106 ?_
            refine wi_ic ct_211_1107 kc_1 ?_
            refine wi_iadd ct_211_1108 rfl ?_
            refine wi_ialdT (j := I + 1) (x := a1) ct_211_1109 (sL_SC hS) (i_in (i_add hi ki_1 (by omega)) (by omega)) (i_cl (i_add hi ki_1 (by omega)) (by omega)) (((hsc _).trans e1)) ?_
            refine wi_aloadT_0 ct_211_1110 ?_
            refine wi_iload_3 ct_211_1111 ?_
            refine wi_ic ct_211_1112 kc_2 ?_
            refine wi_iadd ct_211_1113 rfl ?_
            refine wi_ialdT (j := I + 2) (x := a2) ct_211_1114 (sL_SC hS) (i_in (i_add hi ki_2 (by omega)) (by omega)) (i_cl (i_add hi ki_2 (by omega)) (by omega)) (((hsc _).trans e2)) ?_
            refine wi_cv2 (ls' := [some _, some _, some _, none]) ct_211_1115 (Nat.le_of_ble_eq_true rfl) (by decide) (sT_31 hS) rfl (by decide) rfl rfl (Nat.le_of_ble_eq_true rfl) ?_
            refine wi_aload_0 ct_192_0 ?_
            refine wi_iload_2 ct_192_1 ?_
            refine wi_ic ct_192_2 kc_0 ?_
            refine wi_ic ct_192_3 kc_6 ?_
            refine wi_cv3 (ls' := [some _, some _, some _, some _]) ct_192_5 (Nat.le_of_ble_eq_true rfl) (by decide) (sT_31 hS) rfl (by decide) rfl rfl (Nat.le_of_ble_eq_true rfl) ?_
            refine c_in rfl ki_0 ki_6 (fun _ => wk_i ?_) (fun h => absurd h (by omega))
            refine wi_ifne_t ct_192_8 ki_1 (by decide) ?_
            refine wi_aload_0 ct_192_14 ?_
            refine wi_iload_1 ct_192_15 ?_
            refine wi_cv1 (ls' := [some _, some _]) ct_192_16 (Nat.le_of_ble_eq_true rfl) (by decide) (sT_31 hS) rfl (by decide) rfl rfl (Nat.le_of_ble_eq_true rfl) ?_
            refine wi_aload_0 ct_120_0 ?_
            refine wi_iload_1 ct_120_1 ?_
            refine wi_ic ct_120_2 kc_0 ?_
            refine wi_aload_0 ct_120_3 ?_
            refine wi_gf (x := fi 31 0) ct_120_4 (sT_31 hS) rfl rfl rfl ?_
            refine wi_ic ct_120_7 kc_1 ?_
            refine wi_isub ct_120_8 rfl ?_
            refine wi_cv3 (ls' := [some _, some _, some _, some _]) ct_120_9 (Nat.le_of_ble_eq_true rfl) (by decide) (sT_31 hS) rfl (by decide) rfl rfl (Nat.le_of_ble_eq_true rfl) ?_
            refine c_in hBn ki_0 (i_sub rfl ki_1 (by omega)) (fun _ => wk_i ?_) (fun h => absurd h (by omega))
            refine wi_iret ct_120_12 (by decide) (wk_i ?_)
            refine wi_ifne_t ct_192_19 ki_1 (by decide) ?_
            refine wi_aload_0 ct_192_25 ?_
            refine wi_gfr ct_192_26 (sT_31 hS) rfl (sR_31_2 hS) ?_
            refine wi_iload_1 ct_192_29 ?_
            refine wi_iald (x := fi 32 B) ct_192_30 (sT_32 hS) (sL_32 hS) (i_in hBn (by omega)) (i_cl (k := B) hBn (by omega)) rfl ?_
            refine wi_istore_3 rfl ct_192_31 ?_
            refine wi_iload_2 ct_192_32 ?_
            refine wi_ifeq_f ct_192_33 rfl (by omega) ?_
            refine wi_iload_3 ct_192_36 ?_
            refine wi_iload_2 ct_192_37 ?_
            refine wi_iceq_f ct_192_38 rfl rfl (by omega) ?_
            refine wi_iload_2 ct_192_41 ?_
            refine wi_ic ct_192_42 kc_1 ?_
            refine wi_icne_t ct_192_43 rfl ki_1 (by omega) ?_
            refine wi_iload_2 ct_192_51 ?_
            refine wi_ic ct_192_52 kc_2 ?_
            refine wi_icne_t ct_192_53 rfl ki_2 (by omega) ?_
            refine wi_iload_2 ct_192_61 ?_
            refine wi_ic ct_192_62 kc_3 ?_
            refine wi_icne_t ct_192_63 rfl ki_3 (by omega) ?_
            refine wi_ic ct_192_76 kc_m12 ?_
            refine wi_iret ct_192_78 rfl (wk_i ?_)
            refine wi_iceq_t ct_211_1118 ki_m12 ki_m12 (by decide) ?_
            exact kk own g fi fl hR (by omega) (by omega)
          · skip
            refine wi_iof (z := 1) ct_106_66 (ot.trans (by rw [hk50] <;> rfl)) (by decide) rfl ?_
            refine wi_iret ct_106_69 (by decide) (wk_i ?_)
            refine wi_ifeq_f ct_97_31 ki_1 (by decide) ?_
            refine wi_aload_3 ct_97_34 ?_
            refine wi_gf (x := fi 32 B) ct_97_35 (ot.trans (by rw [hk50] <;> rfl)) rfl rfl ok ?_
            refine wi_goto ct_97_38 ?_
            refine wi_iret ct_97_43 rfl (wk_i ?_)
            refine wi_aload_2 ct_211_1104 ?_
            refine wi_aloadT_0 ct_211_1105 ?_
            refine wi_iload_3 ct_211_1106 ?_
            refine wi_ic ct_211_1107 kc_1 ?_
            refine wi_iadd ct_211_1108 rfl ?_
            refine wi_ialdT (j := I + 1) (x := a1) ct_211_1109 (sL_SC hS) (i_in (i_add hi ki_1 (by omega)) (by omega)) (i_cl (i_add hi ki_1 (by omega)) (by omega)) (((hsc _).trans e1)) ?_
            refine wi_aloadT_0 ct_211_1110 ?_
            refine wi_iload_3 ct_211_1111 ?_
            refine wi_ic ct_211_1112 kc_2 ?_
            refine wi_iadd ct_211_1113 rfl ?_
            refine wi_ialdT (j := I + 2) (x := a2) ct_211_1114 (sL_SC hS) (i_in (i_add hi ki_2 (by omega)) (by omega)) (i_cl (i_add hi ki_2 (by omega)) (by omega)) (((hsc _).trans e2)) ?_
            refine wi_cv2 (ls' := [some _, some _, some _, none]) ct_211_1115 (Nat.le_of_ble_eq_true rfl) (by decide) (sT_31 hS) rfl (by decide) rfl rfl (Nat.le_of_ble_eq_true rfl) ?_
            refine wi_aload_0 ct_192_0 ?_
            refine wi_iload_2 ct_192_1 ?_
            refine wi_ic ct_192_2 kc_0 ?_
            refine wi_ic ct_192_3 kc_6 ?_
            refine wi_cv3 (ls' := [some _, some _, some _, some _]) ct_192_5 (Nat.le_of_ble_eq_true rfl) (by decide) (sT_31 hS) rfl (by decide) rfl rfl (Nat.le_of_ble_eq_true rfl) ?_
            refine c_in rfl ki_0 ki_6 (fun _ => wk_i ?_) (fun h => absurd h (by omega))
            refine wi_ifne_t ct_192_8 ki_1 (by decide) ?_
            refine wi_aload_0 ct_192_14 ?_
            refine wi_iload_1 ct_192_15 ?_
            refine wi_cv1 (ls' := [some _, some _]) ct_192_16 (Nat.le_of_ble_eq_true rfl) (by decide) (sT_31 hS) rfl (by decide) rfl rfl (Nat.le_of_ble_eq_true rfl) ?_
            refine wi_aload_0 ct_120_0 ?_
            refine wi_iload_1 ct_120_1 ?_
            refine wi_ic ct_120_2 kc_0 ?_
            refine wi_aload_0 ct_120_3 ?_
            refine wi_gf (x := fi 31 0) ct_120_4 (sT_31 hS) rfl rfl rfl ?_
            refine wi_ic ct_120_7 kc_1 ?_
            refine wi_isub ct_120_8 rfl ?_
            refine wi_cv3 (ls' := [some _, some _, some _, some _]) ct_120_9 (Nat.le_of_ble_eq_true rfl) (by decide) (sT_31 hS) rfl (by decide) rfl rfl (Nat.le_of_ble_eq_true rfl) ?_
            refine c_in hBn ki_0 (i_sub rfl ki_1 (by omega)) (fun _ => wk_i ?_) (fun h => absurd h (by omega))
            refine wi_iret ct_120_12 (by decide) (wk_i ?_)
            refine wi_ifne_t ct_192_19 ki_1 (by decide) ?_
            refine wi_aload_0 ct_192_25 ?_
            refine wi_gfr ct_192_26 (sT_31 hS) rfl (sR_31_2 hS) ?_
            refine wi_iload_1 ct_192_29 ?_
            refine wi_iald (x := fi 32 B) ct_192_30 (sT_32 hS) (sL_32 hS) (i_in hBn (by omega)) (i_cl (k := B) hBn (by omega)) rfl ?_
            refine wi_istore_3 rfl ct_192_31 ?_
            refine wi_iload_2 ct_192_32 ?_
            refine wi_ifeq_f ct_192_33 rfl (by omega) ?_
            refine wi_iload_3 ct_192_36 ?_
            refine wi_iload_2 ct_192_37 ?_
            refine wi_iceq_t ct_192_38 rfl rfl (by omega) ?_
            refine wi_iload_3 ct_192_72 ?_
            refine wi_goto ct_192_73 ?_
            refine wi_iret ct_192_78 rfl (wk_i ?_)
            refine wi_iceq_t ct_211_1118 rfl rfl (by omega) ?_
            exact kk own g fi fl hR (by omega) (by omega)
        refine wi_tsw (t := 70) ct_106_1 rfl ((am_tswD (by omega)).trans rfl) ?_
        refine wi_ic ct_106_70 kc_1 ?_
        refine wi_iret ct_106_71 (by decide) (wk_i ?_)
        refine wi_ifeq_f ct_97_31 ki_1 (by decide) ?_
        refine wi_aload_3 ct_97_34 ?_
        refine wi_gf (x := fi 32 B) ct_97_35 ot (am_ktb _) rfl ok ?_
        refine wi_goto ct_97_38 ?_
        refine wi_iret ct_97_43 rfl (wk_i ?_)
        refine wi_aload_2 ct_211_1104 ?_
        refine wi_aloadT_0 ct_211_1105 ?_
        refine wi_iload_3 ct_211_1106 ?_
        refine wi_ic ct_211_1107 kc_1 ?_
        refine wi_iadd ct_211_1108 rfl ?_
        refine wi_ialdT (j := I + 1) (x := a1) ct_211_1109 (sL_SC hS) (i_in (i_add hi ki_1 (by omega)) (by omega)) (i_cl (i_add hi ki_1 (by omega)) (by omega)) (((hsc _).trans e1)) ?_
        refine wi_aloadT_0 ct_211_1110 ?_
        refine wi_iload_3 ct_211_1111 ?_
        refine wi_ic ct_211_1112 kc_2 ?_
        refine wi_iadd ct_211_1113 rfl ?_
        refine wi_ialdT (j := I + 2) (x := a2) ct_211_1114 (sL_SC hS) (i_in (i_add hi ki_2 (by omega)) (by omega)) (i_cl (i_add hi ki_2 (by omega)) (by omega)) (((hsc _).trans e2)) ?_
        refine wi_cv2 (ls' := [some _, some _, some _, none]) ct_211_1115 (Nat.le_of_ble_eq_true rfl) (by decide) (sT_31 hS) rfl (by decide) rfl rfl (Nat.le_of_ble_eq_true rfl) ?_
        refine wi_aload_0 ct_192_0 ?_
        refine wi_iload_2 ct_192_1 ?_
        refine wi_ic ct_192_2 kc_0 ?_
        refine wi_ic ct_192_3 kc_6 ?_
        refine wi_cv3 (ls' := [some _, some _, some _, some _]) ct_192_5 (Nat.le_of_ble_eq_true rfl) (by decide) (sT_31 hS) rfl (by decide) rfl rfl (Nat.le_of_ble_eq_true rfl) ?_
        refine c_in rfl ki_0 ki_6 (fun _ => wk_i ?_) (fun h => absurd h (by omega))
        refine wi_ifne_t ct_192_8 ki_1 (by decide) ?_
        refine wi_aload_0 ct_192_14 ?_
        refine wi_iload_1 ct_192_15 ?_
        refine wi_cv1 (ls' := [some _, some _]) ct_192_16 (Nat.le_of_ble_eq_true rfl) (by decide) (sT_31 hS) rfl (by decide) rfl rfl (Nat.le_of_ble_eq_true rfl) ?_
        refine wi_aload_0 ct_120_0 ?_
        refine wi_iload_1 ct_120_1 ?_
        refine wi_ic ct_120_2 kc_0 ?_
        refine wi_aload_0 ct_120_3 ?_
        refine wi_gf (x := fi 31 0) ct_120_4 (sT_31 hS) rfl rfl rfl ?_
        refine wi_ic ct_120_7 kc_1 ?_
        refine wi_isub ct_120_8 rfl ?_
        refine wi_cv3 (ls' := [some _, some _, some _, some _]) ct_120_9 (Nat.le_of_ble_eq_true rfl) (by decide) (sT_31 hS) rfl (by decide) rfl rfl (Nat.le_of_ble_eq_true rfl) ?_
        refine c_in hBn ki_0 (i_sub rfl ki_1 (by omega)) (fun _ => wk_i ?_) (fun h => absurd h (by omega))
        refine wi_iret ct_120_12 (by decide) (wk_i ?_)
        refine wi_ifne_t ct_192_19 ki_1 (by decide) ?_
        refine wi_aload_0 ct_192_25 ?_
        refine wi_gfr ct_192_26 (sT_31 hS) rfl (sR_31_2 hS) ?_
        refine wi_iload_1 ct_192_29 ?_
        refine wi_iald (x := fi 32 B) ct_192_30 (sT_32 hS) (sL_32 hS) (i_in hBn (by omega)) (i_cl (k := B) hBn (by omega)) rfl ?_
        refine wi_istore_3 rfl ct_192_31 ?_
        refine wi_iload_2 ct_192_32 ?_
        refine wi_ifeq_t ct_192_33 rfl (by omega) ?_
        refine wi_iload_3 ct_192_72 ?_
        refine wi_goto ct_192_73 ?_
        refine wi_iret ct_192_78 rfl (wk_i ?_)
        refine wi_iceq_t ct_211_1118 rfl rfl (by omega) ?_
        exact kk own g fi fl hR (by omega) (by omega)
      · skip
        refine wi_ic ct_97_10 kc_m2 ?_
        refine wi_iret ct_97_12 rfl (wk_i ?_)
        refine wi_aload_2 ct_211_1104 ?_
        refine wi_aloadT_0 ct_211_1105 ?_
        refine wi_iload_3 ct_211_1106 ?_
        refine wi_ic ct_211_1107 kc_1 ?_
        refine wi_iadd ct_211_1108 rfl ?_
        refine wi_ialdT (j := I + 1) (x := a1) ct_211_1109 (sL_SC hS) (i_in (i_add hi ki_1 (by omega)) (by omega)) (i_cl (i_add hi ki_1 (by omega)) (by omega)) (((hsc _).trans e1)) ?_
        refine wi_aloadT_0 ct_211_1110 ?_
        refine wi_iload_3 ct_211_1111 ?_
        refine wi_ic ct_211_1112 kc_2 ?_
        refine wi_iadd ct_211_1113 rfl ?_
        refine wi_ialdT (j := I + 2) (x := a2) ct_211_1114 (sL_SC hS) (i_in (i_add hi ki_2 (by omega)) (by omega)) (i_cl (i_add hi ki_2 (by omega)) (by omega)) (((hsc _).trans e2)) ?_
        refine wi_cv2 (ls' := [some _, some _, some _, none]) ct_211_1115 (Nat.le_of_ble_eq_true rfl) (by decide) (sT_31 hS) rfl (by decide) rfl rfl (Nat.le_of_ble_eq_true rfl) ?_
        refine wi_aload_0 ct_192_0 ?_
        refine wi_iload_2 ct_192_1 ?_
        refine wi_ic ct_192_2 kc_0 ?_
        refine wi_ic ct_192_3 kc_6 ?_
        refine wi_cv3 (ls' := [some _, some _, some _, some _]) ct_192_5 (Nat.le_of_ble_eq_true rfl) (by decide) (sT_31 hS) rfl (by decide) rfl rfl (Nat.le_of_ble_eq_true rfl) ?_
        refine c_in rfl ki_0 ki_6 (fun h => absurd h (by omega)) (fun _ => wk_i ?_)
        refine wi_ifne_f ct_192_8 ki_0 (by decide) ?_
        refine wi_ic ct_192_11 kc_m2 ?_
        refine wi_iret ct_192_13 rfl (wk_i ?_)
        refine wi_iceq_t ct_211_1118 ki_m2 ki_m2 (by decide) ?_
        exact kk own g fi fl hR (by omega) (by omega)
  · skip
    refine wi_aload_1 ct_211_1090 ?_
    refine wi_aloadT_0 ct_211_1091 ?_
    refine wi_iload_3 ct_211_1092 ?_
    refine wi_ic ct_211_1093 kc_1 ?_
    refine wi_iadd ct_211_1094 rfl ?_
    refine wi_ialdT (j := I + 1) (x := a1) ct_211_1095 (sL_SC hS) (i_in (i_add hi ki_1 (by omega)) (by omega)) (i_cl (i_add hi ki_1 (by omega)) (by omega)) (((hsc _).trans e1)) ?_
    refine wi_aloadT_0 ct_211_1096 ?_
    refine wi_iload_3 ct_211_1097 ?_
    refine wi_ic ct_211_1098 kc_2 ?_
    refine wi_iadd ct_211_1099 rfl ?_
    refine wi_ialdT (j := I + 2) (x := a2) ct_211_1100 (sL_SC hS) (i_in (i_add hi ki_2 (by omega)) (by omega)) (i_cl (i_add hi ki_2 (by omega)) (by omega)) (((hsc _).trans e2)) ?_
    refine wi_cv2 (ls' := [some _, some _, some _, none]) ct_211_1101 (Nat.le_of_ble_eq_true rfl) (by decide) (sT_0 hS) rfl (by decide) rfl rfl (Nat.le_of_ble_eq_true rfl) ?_
    refine wi_iload_2 ct_97_0 ?_
    refine wi_iflt ct_97_1 rfl (fun h51 => ?_) (fun h51 => ?_)
    · skip
      refine wi_ic ct_97_10 kc_m2 ?_
      refine wi_iret ct_97_12 rfl (wk_i ?_)
      refine wi_aload_2 ct_211_1104 ?_
      refine wi_aloadT_0 ct_211_1105 ?_
      refine wi_iload_3 ct_211_1106 ?_
      refine wi_ic ct_211_1107 kc_1 ?_
      refine wi_iadd ct_211_1108 rfl ?_
      refine wi_ialdT (j := I + 1) (x := a1) ct_211_1109 (sL_SC hS) (i_in (i_add hi ki_1 (by omega)) (by omega)) (i_cl (i_add hi ki_1 (by omega)) (by omega)) (((hsc _).trans e1)) ?_
      refine wi_aloadT_0 ct_211_1110 ?_
      refine wi_iload_3 ct_211_1111 ?_
      refine wi_ic ct_211_1112 kc_2 ?_
      refine wi_iadd ct_211_1113 rfl ?_
      refine wi_ialdT (j := I + 2) (x := a2) ct_211_1114 (sL_SC hS) (i_in (i_add hi ki_2 (by omega)) (by omega)) (i_cl (i_add hi ki_2 (by omega)) (by omega)) (((hsc _).trans e2)) ?_
      refine wi_cv2 (ls' := [some _, some _, some _, none]) ct_211_1115 (Nat.le_of_ble_eq_true rfl) (by decide) (sT_31 hS) rfl (by decide) rfl rfl (Nat.le_of_ble_eq_true rfl) ?_
      refine wi_aload_0 ct_192_0 ?_
      refine wi_iload_2 ct_192_1 ?_
      refine wi_ic ct_192_2 kc_0 ?_
      refine wi_ic ct_192_3 kc_6 ?_
      refine wi_cv3 (ls' := [some _, some _, some _, some _]) ct_192_5 (Nat.le_of_ble_eq_true rfl) (by decide) (sT_31 hS) rfl (by decide) rfl rfl (Nat.le_of_ble_eq_true rfl) ?_
      refine c_in rfl ki_0 ki_6 (fun h => absurd h (by omega)) (fun _ => wk_i ?_)
      refine wi_ifne_f ct_192_8 ki_0 (by decide) ?_
      refine wi_ic ct_192_11 kc_m2 ?_
      refine wi_iret ct_192_13 rfl (wk_i ?_)
      refine wi_iceq_t ct_211_1118 ki_m2 ki_m2 (by decide) ?_
      exact kk own g fi fl hR (by omega) (by omega)
    · skip
      refine wi_iload_2 ct_97_4 ?_
      refine wi_ic ct_97_5 kc_6 ?_
      refine wi_icle ct_97_7 rfl ki_6 (fun h52 => ?_) (fun h52 => ?_)
      · skip
        refine wi_aload_0 ct_97_13 ?_
        refine wi_iload_1 ct_97_14 ?_
        refine wi_cv1 (ls' := [some _, some _]) ct_97_15 (Nat.le_of_ble_eq_true rfl) (by decide) (sT_0 hS) rfl (by decide) rfl rfl (Nat.le_of_ble_eq_true rfl) ?_
        refine wi_iload_1 ct_104_0 ?_
        refine wi_ic ct_104_1 kc_0 ?_
        refine wi_aload_0 ct_104_2 ?_
        refine wi_gfr ct_104_3 (sT_0 hS) rfl (sR_0_0 hS) ?_
        refine wi_gf (x := fi 31 0) ct_104_6 (sT_1 hS) rfl rfl c0 ?_
        refine wi_ic ct_104_9 kc_1 ?_
        refine wi_isub ct_104_10 rfl ?_
        refine wi_cs3 (ls' := [some _, some _, some _]) ct_104_11 (Nat.le_of_ble_eq_true rfl) rfl (Nat.le_of_ble_eq_true rfl) ?_
        refine c_within rfl ki_0 (i_sub rfl ki_1 (by omega)) (fun h => absurd h (by omega)) (fun _ => wk_i ?_)
        refine wi_ifeq_t ct_104_14 ki_0 (by decide) ?_
        refine wi_null ct_104_29 ?_
        refine wi_aretn ct_104_30 (wk_n ?_)
        refine wi_astoreN_3 rfl ct_97_18 ?_
        refine wi_aloadN_3 ct_97_19 ?_
        refine wi_ifnonnull_n ct_97_20 ?_
        refine wi_ic ct_97_23 kc_m11 ?_
        refine wi_iret ct_97_25 rfl (wk_i ?_)
        refine wi_aload_2 ct_211_1104 ?_
        refine wi_aloadT_0 ct_211_1105 ?_
        refine wi_iload_3 ct_211_1106 ?_
        refine wi_ic ct_211_1107 kc_1 ?_
        refine wi_iadd ct_211_1108 rfl ?_
        refine wi_ialdT (j := I + 1) (x := a1) ct_211_1109 (sL_SC hS) (i_in (i_add hi ki_1 (by omega)) (by omega)) (i_cl (i_add hi ki_1 (by omega)) (by omega)) (((hsc _).trans e1)) ?_
        refine wi_aloadT_0 ct_211_1110 ?_
        refine wi_iload_3 ct_211_1111 ?_
        refine wi_ic ct_211_1112 kc_2 ?_
        refine wi_iadd ct_211_1113 rfl ?_
        refine wi_ialdT (j := I + 2) (x := a2) ct_211_1114 (sL_SC hS) (i_in (i_add hi ki_2 (by omega)) (by omega)) (i_cl (i_add hi ki_2 (by omega)) (by omega)) (((hsc _).trans e2)) ?_
        refine wi_cv2 (ls' := [some _, some _, some _, none]) ct_211_1115 (Nat.le_of_ble_eq_true rfl) (by decide) (sT_31 hS) rfl (by decide) rfl rfl (Nat.le_of_ble_eq_true rfl) ?_
        refine wi_aload_0 ct_192_0 ?_
        refine wi_iload_2 ct_192_1 ?_
        refine wi_ic ct_192_2 kc_0 ?_
        refine wi_ic ct_192_3 kc_6 ?_
        refine wi_cv3 (ls' := [some _, some _, some _, some _]) ct_192_5 (Nat.le_of_ble_eq_true rfl) (by decide) (sT_31 hS) rfl (by decide) rfl rfl (Nat.le_of_ble_eq_true rfl) ?_
        refine c_in rfl ki_0 ki_6 (fun _ => wk_i ?_) (fun h => absurd h (by omega))
        refine wi_ifne_t ct_192_8 ki_1 (by decide) ?_
        refine wi_aload_0 ct_192_14 ?_
        refine wi_iload_1 ct_192_15 ?_
        refine wi_cv1 (ls' := [some _, some _]) ct_192_16 (Nat.le_of_ble_eq_true rfl) (by decide) (sT_31 hS) rfl (by decide) rfl rfl (Nat.le_of_ble_eq_true rfl) ?_
        refine wi_aload_0 ct_120_0 ?_
        refine wi_iload_1 ct_120_1 ?_
        refine wi_ic ct_120_2 kc_0 ?_
        refine wi_aload_0 ct_120_3 ?_
        refine wi_gf (x := fi 31 0) ct_120_4 (sT_31 hS) rfl rfl rfl ?_
        refine wi_ic ct_120_7 kc_1 ?_
        refine wi_isub ct_120_8 rfl ?_
        refine wi_cv3 (ls' := [some _, some _, some _, some _]) ct_120_9 (Nat.le_of_ble_eq_true rfl) (by decide) (sT_31 hS) rfl (by decide) rfl rfl (Nat.le_of_ble_eq_true rfl) ?_
        refine c_in rfl ki_0 (i_sub rfl ki_1 (by omega)) (fun h => absurd h (by omega)) (fun _ => wk_i ?_)
        refine wi_iret ct_120_12 (by decide) (wk_i ?_)
        refine wi_ifne_f ct_192_19 ki_0 (by decide) ?_
        refine wi_ic ct_192_22 kc_m11 ?_
        refine wi_iret ct_192_24 rfl (wk_i ?_)
        refine wi_iceq_t ct_211_1118 ki_m11 ki_m11 (by decide) ?_
        exact kk own g fi fl hR (by omega) (by omega)
      · skip
        refine wi_ic ct_97_10 kc_m2 ?_
        refine wi_iret ct_97_12 rfl (wk_i ?_)
        refine wi_aload_2 ct_211_1104 ?_
        refine wi_aloadT_0 ct_211_1105 ?_
        refine wi_iload_3 ct_211_1106 ?_
        refine wi_ic ct_211_1107 kc_1 ?_
        refine wi_iadd ct_211_1108 rfl ?_
        refine wi_ialdT (j := I + 1) (x := a1) ct_211_1109 (sL_SC hS) (i_in (i_add hi ki_1 (by omega)) (by omega)) (i_cl (i_add hi ki_1 (by omega)) (by omega)) (((hsc _).trans e1)) ?_
        refine wi_aloadT_0 ct_211_1110 ?_
        refine wi_iload_3 ct_211_1111 ?_
        refine wi_ic ct_211_1112 kc_2 ?_
        refine wi_iadd ct_211_1113 rfl ?_
        refine wi_ialdT (j := I + 2) (x := a2) ct_211_1114 (sL_SC hS) (i_in (i_add hi ki_2 (by omega)) (by omega)) (i_cl (i_add hi ki_2 (by omega)) (by omega)) (((hsc _).trans e2)) ?_
        refine wi_cv2 (ls' := [some _, some _, some _, none]) ct_211_1115 (Nat.le_of_ble_eq_true rfl) (by decide) (sT_31 hS) rfl (by decide) rfl rfl (Nat.le_of_ble_eq_true rfl) ?_
        refine wi_aload_0 ct_192_0 ?_
        refine wi_iload_2 ct_192_1 ?_
        refine wi_ic ct_192_2 kc_0 ?_
        refine wi_ic ct_192_3 kc_6 ?_
        refine wi_cv3 (ls' := [some _, some _, some _, some _]) ct_192_5 (Nat.le_of_ble_eq_true rfl) (by decide) (sT_31 hS) rfl (by decide) rfl rfl (Nat.le_of_ble_eq_true rfl) ?_
        refine c_in rfl ki_0 ki_6 (fun h => absurd h (by omega)) (fun _ => wk_i ?_)
        refine wi_ifne_f ct_192_8 ki_0 (by decide) ?_
        refine wi_ic ct_192_11 kc_m2 ?_
        refine wi_iret ct_192_13 rfl (wk_i ?_)
        refine wi_iceq_t ct_211_1118 ki_m2 ki_m2 (by decide) ?_
        exact kk own g fi fl hR (by omega) (by omega)
set_option maxHeartbeats 2000000 in
theorem op_set {L I : Nat} {xs : Nat → Int32} {own : Nat → Nat} {d : Nat} {g : am_G} {fi : am_I} {fl : am_L} {P : Option Value → am_G → am_I → am_L → Prop} {i : Int32} (hi : i.toInt = (I : Int)) (hI6 : I + 6 ≤ L) (hL : L ≤ 3072) (hR : Rel L xs own g fi fl) (hnx : am_nx g ≤ 800000) (kk : ∀ own' g' fi' fl', Rel L xs own' g' fi' fl' → am_nx g' ≤ am_nx g + 30 → am_sl g' ≤ am_sl g + 1000 → WP (d + 60) 211 1359 [some (.retAddr 0), some (.ref 0), some (.ref 31), some (.int i)] [] g' fi' fl' P) : WP (d + 60) 211 278 [some (.retAddr 0), some (.ref 0), some (.ref 31), some (.int i)] [] g fi fl P := by
  obtain ⟨hS, hsc, hC, hK, hX, hV, hT, hP, hB, hN, hQ, hZ, hI⟩ := id hR
  obtain ⟨⟨c0, c0a, c0b⟩, ⟨c1, c1a, c1b⟩, ⟨c2, c2a, c2b⟩, ⟨c3, c3a, c3b⟩, ⟨c4, c4a, c4b⟩, ⟨c5, c5a, c5b⟩, ⟨c6, c6a, c6b⟩, ⟨c7, c7a, c7b⟩, c8, c9⟩ := id hC
  obtain ⟨a1, e1⟩ : ∃ a, xs (I + 1) = a := ⟨_, rfl⟩
  obtain ⟨a2, e2⟩ : ∃ a, xs (I + 2) = a := ⟨_, rfl⟩
  obtain ⟨a3, e3⟩ : ∃ a, xs (I + 3) = a := ⟨_, rfl⟩
  by_cases hA : 0 ≤ (a1).toInt ∧ (a1).toInt < (fi 31 0).toInt
  · skip
    obtain ⟨B, hBa⟩ : ∃ B : Nat, (a1).toInt = (B : Int) := ⟨(a1).toInt.toNat, by omega⟩
    have hBn := hBa
    obtain ⟨p, r, kd, v, cd, aim, co, row, hW⟩ := BLW.of hB c0b (B := B) (by omega)
    obtain ⟨sq, hsq, hsx⟩ := sq_of hR
    obtain ⟨hB5, hO, w32, w33, w34, w35, w36, w37, k6, v9, d9, a60, co9, r9⟩ := id hW
    obtain ⟨o0, ⟨o72, onx, oow⟩, ot, ok, on, ov, oc, oa, om, orw⟩ := id hO
    have kq := fun j (h : j < 3) => (hK j (by omega)).2
    have hk0 := kq 0 (by decide)
    have hk1 := kq 1 (by decide)
    have hk2 := kq 2 (by decide)
    replace hk0 := And.intro hk0.1 (hk0.2.2 (by decide))
    replace hk1 := And.intro hk1.1 (hk1.2.2 (by decide))
    replace hk2 := And.intro hk2.1 (hk2.2.2 (by decide))
    have hGb := goodV_bd hk0 hk1 hk2
    refine wi_aload_1 ct_211_278 ?_
    refine wi_aloadT_0 ct_211_279 ?_
    refine wi_iload_3 ct_211_280 ?_
    refine wi_ic ct_211_281 kc_1 ?_
    refine wi_iadd ct_211_282 rfl ?_
    refine wi_ialdT (j := I + 1) (x := a1) ct_211_283 (sL_SC hS) (i_in (i_add hi ki_1 (by omega)) (by omega)) (i_cl (i_add hi ki_1 (by omega)) (by omega)) (((hsc _).trans e1)) ?_
    refine wi_aloadT_0 ct_211_284 ?_
    refine wi_iload_3 ct_211_285 ?_
    refine wi_ic ct_211_286 kc_2 ?_
    refine wi_iadd ct_211_287 rfl ?_
    refine wi_ialdT (j := I + 2) (x := a2) ct_211_288 (sL_SC hS) (i_in (i_add hi ki_2 (by omega)) (by omega)) (i_cl (i_add hi ki_2 (by omega)) (by omega)) (((hsc _).trans e2)) ?_
    refine wi_aloadT_0 ct_211_289 ?_
    refine wi_iload_3 ct_211_290 ?_
    refine wi_ic ct_211_291 kc_3 ?_
    refine wi_iadd ct_211_292 rfl ?_
    refine wi_ialdT (j := I + 3) (x := a3) ct_211_293 (sL_SC hS) (i_in (i_add hi ki_3 (by omega)) (by omega)) (i_cl (i_add hi ki_3 (by omega)) (by omega)) (((hsc _).trans e3)) ?_
    refine wi_cv3 (ls' := [some _, some _, some _, some _, none, none]) ct_211_294 (Nat.le_of_ble_eq_true rfl) (by decide) (sT_0 hS) rfl (by decide) rfl rfl (Nat.le_of_ble_eq_true rfl) ?_
    refine wi_aload_0 ct_69_0 ?_
    refine wi_iload_1 ct_69_1 ?_
    refine wi_cv1 (ls' := [some _, some _]) ct_69_2 (Nat.le_of_ble_eq_true rfl) (by decide) (sT_0 hS) rfl (by decide) rfl rfl (Nat.le_of_ble_eq_true rfl) ?_
    refine wi_iload_1 ct_104_0 ?_
    refine wi_ic ct_104_1 kc_0 ?_
    refine wi_aload_0 ct_104_2 ?_
    refine wi_gfr ct_104_3 (sT_0 hS) rfl (sR_0_0 hS) ?_
    refine wi_gf (x := fi 31 0) ct_104_6 (sT_1 hS) rfl rfl c0 ?_
    refine wi_ic ct_104_9 kc_1 ?_
    refine wi_isub ct_104_10 rfl ?_
    refine wi_cs3 (ls' := [some _, some _, some _]) ct_104_11 (Nat.le_of_ble_eq_true rfl) rfl (Nat.le_of_ble_eq_true rfl) ?_
    refine c_within hBn ki_0 (i_sub rfl ki_1 (by omega)) (fun _ => wk_i ?_) (fun h => absurd h (by omega))
    refine wi_ifeq_f ct_104_14 ki_1 (by decide) ?_
    refine wi_aload_0 ct_104_17 ?_
    refine wi_gfr ct_104_18 (sT_0 hS) rfl (sR_0_0 hS) ?_
    refine wi_gfr ct_104_21 (sT_1 hS) rfl (sR_1_0 hS) ?_
    refine wi_iload_1 ct_104_24 ?_
    refine wi_aald ct_104_25 (sT_2 hS) (by decide) (sL_2 hS) (i_in hBn (by omega)) (i_cl (k := B) hBn (by omega)) o0 ?_
    refine wi_goto ct_104_26 ?_
    refine wi_aret ct_104_30 (wk_r ?_)
    refine wi_astore_4 rfl ct_69_5 ?_
    refine wi_aload_4 ct_69_7 ?_
    refine wi_ifnull_r ct_69_9 ?_
    refine wi_iload_2 ct_69_12 ?_
    refine wi_ic ct_69_13 kc_0 ?_
    refine wi_ic ct_69_14 kc_1 ?_
    refine wi_cs3 (ls' := [some _, some _, some _]) ct_69_15 (Nat.le_of_ble_eq_true rfl) rfl (Nat.le_of_ble_eq_true rfl) ?_
    refine c_within rfl ki_0 ki_1 (fun h1 => wk_i ?_) (fun h1 => wk_i ?_)
    · skip
      refine wi_ifne_t ct_69_18 ki_1 (by decide) ?_
      refine wi_iload_3 ct_69_23 ?_
      refine wi_ic ct_69_24 kc_1 ?_
      refine wi_iload_2 ct_69_25 ?_
      refine wi_ifne ct_69_26 rfl (fun h2 => ?_) (fun h2 => ?_)
      · skip
        refine wi_ic ct_69_34 kc_60 ?_
        refine wi_cs3 (ls' := [some _, some _, some _]) ct_69_36 (Nat.le_of_ble_eq_true rfl) rfl (Nat.le_of_ble_eq_true rfl) ?_
        refine c_within rfl ki_1 ki_60 (fun h3 => wk_i ?_) (fun h3 => wk_i ?_)
        · skip
          refine wi_ifne_t ct_69_39 ki_1 (by decide) ?_
          refine wi_iload_2 ct_69_45 ?_
          refine wi_ifne_t ct_69_46 rfl (by omega) ?_
          refine wi_aload_4 ct_69_57 ?_
          refine wi_gf (x := fi 35 B) ct_69_59 ot (am_ktb _) rfl oa ?_
          refine wi_istore_5 rfl ct_69_62 ?_
          refine wi_iload_2 ct_69_64 ?_
          refine wi_ifne_t ct_69_65 rfl (by omega) ?_
          refine wi_aload_4 ct_69_77 ?_
          refine wi_iload_3 ct_69_79 ?_
          refine wi_pf ct_69_80 ot (am_ktb _) ?_
          refine wi_iload_5 ct_69_83 ?_
          refine wi_iret ct_69_85 rfl (wk_i ?_)
          refine wi_aload_2 ct_211_297 ?_
          refine wi_aloadT_0 ct_211_298 ?_
          refine wi_iload_3 ct_211_299 ?_
          refine wi_ic ct_211_300 kc_1 ?_
          refine wi_iadd ct_211_301 rfl ?_
          refine wi_ialdT (j := I + 1) (x := a1) ct_211_302 (sL_SC hS) (i_in (i_add hi ki_1 (by omega)) (by omega)) (i_cl (i_add hi ki_1 (by omega)) (by omega)) ((Eq.trans (up2_nq (sc_nd (by omega))) ((hsc _).trans e1))) ?_
          refine wi_aloadT_0 ct_211_303 ?_
          refine wi_iload_3 ct_211_304 ?_
          refine wi_ic ct_211_305 kc_2 ?_
          refine wi_iadd ct_211_306 rfl ?_
          refine wi_ialdT (j := I + 2) (x := a2) ct_211_307 (sL_SC hS) (i_in (i_add hi ki_2 (by omega)) (by omega)) (i_cl (i_add hi ki_2 (by omega)) (by omega)) ((Eq.trans (up2_nq (sc_nd (by omega))) ((hsc _).trans e2))) ?_
          refine wi_aloadT_0 ct_211_308 ?_
          refine wi_iload_3 ct_211_309 ?_
          refine wi_ic ct_211_310 kc_3 ?_
          refine wi_iadd ct_211_311 rfl ?_
          refine wi_ialdT (j := I + 3) (x := a3) ct_211_312 (sL_SC hS) (i_in (i_add hi ki_3 (by omega)) (by omega)) (i_cl (i_add hi ki_3 (by omega)) (by omega)) ((Eq.trans (up2_nq (sc_nd (by omega))) ((hsc _).trans e3))) ?_
          refine wi_cv3 (ls' := [some _, some _, some _, some _, none]) ct_211_313 (Nat.le_of_ble_eq_true rfl) (by decide) (sT_31 hS) rfl (by decide) rfl rfl (Nat.le_of_ble_eq_true rfl) ?_
          refine wi_aload_0 ct_123_0 ?_
          refine wi_iload_1 ct_123_1 ?_
          refine wi_cv1 (ls' := [some _, some _]) ct_123_2 (Nat.le_of_ble_eq_true rfl) (by decide) (sT_31 hS) rfl (by decide) rfl rfl (Nat.le_of_ble_eq_true rfl) ?_
          refine wi_aload_0 ct_120_0 ?_
          refine wi_iload_1 ct_120_1 ?_
          refine wi_ic ct_120_2 kc_0 ?_
          refine wi_aload_0 ct_120_3 ?_
          refine wi_gf (x := fi 31 0) ct_120_4 (sT_31 hS) rfl rfl (up2_nq (nd o72 (by decide))) ?_
          refine wi_ic ct_120_7 kc_1 ?_
          refine wi_isub ct_120_8 rfl ?_
          refine wi_cv3 (ls' := [some _, some _, some _, some _]) ct_120_9 (Nat.le_of_ble_eq_true rfl) (by decide) (sT_31 hS) rfl (by decide) rfl rfl (Nat.le_of_ble_eq_true rfl) ?_
          refine c_in hBn ki_0 (i_sub rfl ki_1 (by omega)) (fun _ => wk_i ?_) (fun h => absurd h (by omega))
          refine wi_iret ct_120_12 (by decide) (wk_i ?_)
          refine wi_ifeq_f ct_123_5 ki_1 (by decide) ?_
          refine wi_aload_0 ct_123_8 ?_
          refine wi_iload_2 ct_123_9 ?_
          refine wi_ic ct_123_10 kc_0 ?_
          refine wi_ic ct_123_11 kc_1 ?_
          refine wi_cv3 (ls' := [some _, some _, some _, some _]) ct_123_12 (Nat.le_of_ble_eq_true rfl) (by decide) (sT_31 hS) rfl (by decide) rfl rfl (Nat.le_of_ble_eq_true rfl) ?_
          refine c_in rfl ki_0 ki_1 (fun _ => wk_i ?_) (fun h => absurd h (by omega))
          refine wi_ifne_t ct_123_15 ki_1 (by decide) ?_
          refine wi_aload_0 ct_123_20 ?_
          refine wi_iload_3 ct_123_21 ?_
          refine wi_ic ct_123_22 kc_1 ?_
          refine wi_iload_2 ct_123_23 ?_
          refine wi_ifne_t ct_123_24 rfl (by omega) ?_
          refine wi_ic ct_123_32 kc_60 ?_
          refine wi_cv3 (ls' := [some _, some _, some _, some _]) ct_123_34 (Nat.le_of_ble_eq_true rfl) (by decide) (sT_31 hS) rfl (by decide) rfl rfl (Nat.le_of_ble_eq_true rfl) ?_
          refine c_in rfl ki_1 ki_60 (fun _ => wk_i ?_) (fun h => absurd h (by omega))
          refine wi_ifne_t ct_123_37 ki_1 (by decide) ?_
          refine wi_iload_2 ct_123_43 ?_
          refine wi_ifne_t ct_123_44 rfl (by omega) ?_
          refine wi_aload_0 ct_123_56 ?_
          refine wi_gfr ct_123_57 (sT_31 hS) rfl (sR_31_5 hS) ?_
          refine wi_iload_1 ct_123_60 ?_
          refine wi_iald (x := fi 35 B) ct_123_61 (sT_35 hS) (sL_35 hS) (i_in hBn (by omega)) (i_cl (k := B) hBn (by omega)) (up2_nq (nd o72 (by decide))) ?_
          refine wi_istore_4 rfl ct_123_62 ?_
          refine wi_iload_2 ct_123_64 ?_
          refine wi_ifne_t ct_123_65 rfl (by omega) ?_
          refine wi_aload_0 ct_123_78 ?_
          refine wi_gfr ct_123_79 (sT_31 hS) rfl (sR_31_5 hS) ?_
          refine wi_iload_1 ct_123_82 ?_
          refine wi_iload_3 ct_123_83 ?_
          refine wi_iast ct_123_84 (sT_35 hS) (sL_35 hS) (i_in hBn (by omega)) (i_cl (k := B) hBn (by omega)) ?_
          refine wi_iload_4 ct_123_85 ?_
          refine wi_iret ct_123_87 rfl (wk_i ?_)
          refine wi_iceq_t ct_211_316 rfl rfl (by omega) ?_
          have hRp : Rel L xs own g (up2 (up2 fi p 4 (a3)) 35 B (a3)) fl := by
            refine hR.put (B := B) hB5 (fun q h1 h2 h3 h4 => (Eq.trans (funext fun _ => up2_nq (by omega)) (funext fun _ => up2_nq (fun e => by rw [e, oow] at h3 h4; omega)))) ((Eq.trans (funext fun _ => up2_nq (by have : am_SC = 1000000 := rfl; omega)) (funext fun _ => up2_nq (by have : am_SC = 1000000 := rfl; omega)))) (fun q h1 h2 => (Eq.trans (funext fun _ => up2_nq (by omega)) (funext fun _ => up2_nq (by omega)))) (fun j hj => (Eq.trans (up2_nq (by omega)) (up2_nq (by omega)))) (fun j hj => (Eq.trans (up2_nq (by omega)) (up2_nq (by omega)))) ?_ ?_ (fun b hb => (Eq.trans (up2_nq (by omega)) (up2_nq (by omega)))) (fun b hb => (Eq.trans (up2_nj hb) (up2_nq (by omega)))) (fun b hb => (Eq.trans (up2_nq (by omega)) (up2_nq (by omega)))) (fun b j hb hj => (Eq.trans (up2_nq (by omega)) (up2_nq (by omega)))) ⟨?_, p, r, ?_⟩
            · have A1 : (up2 (up2 fi p 4 (a3)) 35 B (a3)) 1 3 = fi 1 3 := (Eq.trans (up2_nq (by omega)) (up2_nq (by omega)))
              have A2 : (up2 (up2 fi p 4 (a3)) 35 B (a3)) 31 1 = fi 31 1 := (Eq.trans (up2_nq (by omega)) (up2_nq (by omega)))
              rw [A1, A2]
              exact hC.2.1
            · have h3 : (up2 (up2 fi p 4 (a3)) 35 B (a3)) 3 = fi 3 := (Eq.trans (funext fun _ => up2_nq (by omega)) (funext fun _ => up2_nq (by omega)))
              have h38 : (up2 (up2 fi p 4 (a3)) 35 B (a3)) 38 = fi 38 := (Eq.trans (funext fun _ => up2_nq (by omega)) (funext fun _ => up2_nq (by omega)))
              unfold RK
              rw [h3, h38]
              exact hK
            · unfold RM
              rw [show (up2 (up2 fi p 4 (a3)) 35 B (a3)) 32 B = fi 32 B from (Eq.trans (up2_nq (by decide)) (up2_nq (nd o72 (by decide))))]
              rw [show (up2 (up2 fi p 4 (a3)) 35 B (a3)) 33 B = fi 33 B from (Eq.trans (up2_nq (by decide)) (up2_nq (nd o72 (by decide))))]
              rw [show (up2 (up2 fi p 4 (a3)) 35 B (a3)) 34 B = fi 34 B from (Eq.trans (up2_nq (by decide)) (up2_nq (nd o72 (by decide))))]
              rw [show (up2 (up2 fi p 4 (a3)) 35 B (a3)) 35 B = a3 from up2_eq]
              rw [show (up2 (up2 fi p 4 (a3)) 35 B (a3)) 36 B = fi 36 B from (Eq.trans (up2_nq (by decide)) (up2_nq (nd o72 (by decide))))]
              refine ⟨by omega, by omega, by omega, by omega, by omega, fun j hj => ?_⟩
              rw [show (up2 (up2 fi p 4 (a3)) 35 B (a3)) 37 (4 * B + j) = fi 37 (4 * B + j) from (Eq.trans (up2_nq (by omega)) (up2_nq (by omega))), w37 j hj]
              exact r9 j hj
            · unfold RO
              rw [show (up2 (up2 fi p 4 (a3)) 35 B (a3)) 32 B = fi 32 B from (Eq.trans (up2_nq (by decide)) (up2_nq (nd o72 (by decide))))]
              rw [show (up2 (up2 fi p 4 (a3)) 35 B (a3)) 33 B = fi 33 B from (Eq.trans (up2_nq (by decide)) (up2_nq (nd o72 (by decide))))]
              rw [show (up2 (up2 fi p 4 (a3)) 35 B (a3)) 34 B = fi 34 B from (Eq.trans (up2_nq (by decide)) (up2_nq (nd o72 (by decide))))]
              rw [show (up2 (up2 fi p 4 (a3)) 35 B (a3)) 35 B = a3 from up2_eq]
              rw [show (up2 (up2 fi p 4 (a3)) 35 B (a3)) 36 B = fi 36 B from (Eq.trans (up2_nq (by decide)) (up2_nq (nd o72 (by decide))))]
              refine ⟨o0, ⟨o72, onx, oow⟩, ot, (Eq.trans (up2_nq (by omega)) (Eq.trans (up2_nj (by decide)) ok)), ((congrArg Int32.toInt ((Eq.trans (up2_nq (by omega)) (up2_nj (by decide))))).trans on), (Eq.trans (up2_nq (by omega)) (Eq.trans (up2_nj (by decide)) ov)), (Eq.trans (up2_nq (by omega)) (Eq.trans (up2_nj (by decide)) oc)), (Eq.trans (up2_nq (by omega)) up2_eq), (Eq.trans (up2_nq (by omega)) (Eq.trans (up2_nj (by decide)) om)), fun hk6 => ?_⟩
              obtain ⟨x1, x2, x3, x4, x5⟩ := orw hk6
              have hrp : r ≠ p := fun e => by have := x2.2.2; rw [e, oow] at this; omega
              have hr72 := x2.1
              refine ⟨x1, x2, x3, x4, fun j hj => ?_⟩
              exact ((Eq.trans (up2_nq (by omega)) (up2_nq hrp))).trans ((x5 j hj).trans ((Eq.trans (up2_nq (by omega)) (up2_nq (by omega)))).symm)
          exact kk own _ _ fl hRp (by omega) (by omega)
        · skip
          refine wi_ifne_f ct_69_39 ki_0 (by decide) ?_
          refine wi_ic ct_69_42 kc_m2 ?_
          refine wi_iret ct_69_44 rfl (wk_i ?_)
          refine wi_aload_2 ct_211_297 ?_
          refine wi_aloadT_0 ct_211_298 ?_
          refine wi_iload_3 ct_211_299 ?_
          refine wi_ic ct_211_300 kc_1 ?_
          refine wi_iadd ct_211_301 rfl ?_
          refine wi_ialdT (j := I + 1) (x := a1) ct_211_302 (sL_SC hS) (i_in (i_add hi ki_1 (by omega)) (by omega)) (i_cl (i_add hi ki_1 (by omega)) (by omega)) (((hsc _).trans e1)) ?_
          refine wi_aloadT_0 ct_211_303 ?_
          refine wi_iload_3 ct_211_304 ?_
          refine wi_ic ct_211_305 kc_2 ?_
          refine wi_iadd ct_211_306 rfl ?_
          refine wi_ialdT (j := I + 2) (x := a2) ct_211_307 (sL_SC hS) (i_in (i_add hi ki_2 (by omega)) (by omega)) (i_cl (i_add hi ki_2 (by omega)) (by omega)) (((hsc _).trans e2)) ?_
          refine wi_aloadT_0 ct_211_308 ?_
          refine wi_iload_3 ct_211_309 ?_
          refine wi_ic ct_211_310 kc_3 ?_
          refine wi_iadd ct_211_311 rfl ?_
          refine wi_ialdT (j := I + 3) (x := a3) ct_211_312 (sL_SC hS) (i_in (i_add hi ki_3 (by omega)) (by omega)) (i_cl (i_add hi ki_3 (by omega)) (by omega)) (((hsc _).trans e3)) ?_
          refine wi_cv3 (ls' := [some _, some _, some _, some _, none]) ct_211_313 (Nat.le_of_ble_eq_true rfl) (by decide) (sT_31 hS) rfl (by decide) rfl rfl (Nat.le_of_ble_eq_true rfl) ?_
          refine wi_aload_0 ct_123_0 ?_
          refine wi_iload_1 ct_123_1 ?_
          refine wi_cv1 (ls' := [some _, some _]) ct_123_2 (Nat.le_of_ble_eq_true rfl) (by decide) (sT_31 hS) rfl (by decide) rfl rfl (Nat.le_of_ble_eq_true rfl) ?_
          refine wi_aload_0 ct_120_0 ?_
          refine wi_iload_1 ct_120_1 ?_
          refine wi_ic ct_120_2 kc_0 ?_
          refine wi_aload_0 ct_120_3 ?_
          refine wi_gf (x := fi 31 0) ct_120_4 (sT_31 hS) rfl rfl rfl ?_
          refine wi_ic ct_120_7 kc_1 ?_
          refine wi_isub ct_120_8 rfl ?_
          refine wi_cv3 (ls' := [some _, some _, some _, some _]) ct_120_9 (Nat.le_of_ble_eq_true rfl) (by decide) (sT_31 hS) rfl (by decide) rfl rfl (Nat.le_of_ble_eq_true rfl) ?_
          refine c_in hBn ki_0 (i_sub rfl ki_1 (by omega)) (fun _ => wk_i ?_) (fun h => absurd h (by omega))
          refine wi_iret ct_120_12 (by decide) (wk_i ?_)
          refine wi_ifeq_f ct_123_5 ki_1 (by decide) ?_
          refine wi_aload_0 ct_123_8 ?_
          refine wi_iload_2 ct_123_9 ?_
          refine wi_ic ct_123_10 kc_0 ?_
          refine wi_ic ct_123_11 kc_1 ?_
          refine wi_cv3 (ls' := [some _, some _, some _, some _]) ct_123_12 (Nat.le_of_ble_eq_true rfl) (by decide) (sT_31 hS) rfl (by decide) rfl rfl (Nat.le_of_ble_eq_true rfl) ?_
          refine c_in rfl ki_0 ki_1 (fun _ => wk_i ?_) (fun h => absurd h (by omega))
          refine wi_ifne_t ct_123_15 ki_1 (by decide) ?_
          refine wi_aload_0 ct_123_20 ?_
          refine wi_iload_3 ct_123_21 ?_
          refine wi_ic ct_123_22 kc_1 ?_
          refine wi_iload_2 ct_123_23 ?_
          refine wi_ifne_t ct_123_24 rfl (by omega) ?_
          refine wi_ic ct_123_32 kc_60 ?_
          refine wi_cv3 (ls' := [some _, some _, some _, some _]) ct_123_34 (Nat.le_of_ble_eq_true rfl) (by decide) (sT_31 hS) rfl (by decide) rfl rfl (Nat.le_of_ble_eq_true rfl) ?_
          refine c_in rfl ki_1 ki_60 (fun h => absurd h (by omega)) (fun _ => wk_i ?_)
          refine wi_ifne_f ct_123_37 ki_0 (by decide) ?_
          refine wi_ic ct_123_40 kc_m2 ?_
          refine wi_iret ct_123_42 rfl (wk_i ?_)
          refine wi_iceq_t ct_211_316 ki_m2 ki_m2 (by decide) ?_
          exact kk own g fi fl hR (by omega) (by omega)
      · skip
        refine wi_ic ct_69_29 kc_9 ?_
        refine wi_goto ct_69_31 ?_
        refine wi_cs3 (ls' := [some _, some _, some _]) ct_69_36 (Nat.le_of_ble_eq_true rfl) rfl (Nat.le_of_ble_eq_true rfl) ?_
        refine c_within rfl ki_1 ki_9 (fun h4 => wk_i ?_) (fun h4 => wk_i ?_)
        · skip
          refine wi_ifne_t ct_69_39 ki_1 (by decide) ?_
          refine wi_iload_2 ct_69_45 ?_
          refine wi_ifne_f ct_69_46 rfl (by omega) ?_
          refine wi_aload_4 ct_69_49 ?_
          refine wi_gf (x := fi 34 B) ct_69_51 ot (am_ktb _) rfl oc ?_
          refine wi_goto ct_69_54 ?_
          refine wi_istore_5 rfl ct_69_62 ?_
          refine wi_iload_2 ct_69_64 ?_
          refine wi_ifne_f ct_69_65 rfl (by omega) ?_
          refine wi_aload_4 ct_69_68 ?_
          refine wi_iload_3 ct_69_70 ?_
          refine wi_pf ct_69_71 ot (am_ktb _) ?_
          refine wi_goto ct_69_74 ?_
          refine wi_iload_5 ct_69_83 ?_
          refine wi_iret ct_69_85 rfl (wk_i ?_)
          refine wi_aload_2 ct_211_297 ?_
          refine wi_aloadT_0 ct_211_298 ?_
          refine wi_iload_3 ct_211_299 ?_
          refine wi_ic ct_211_300 kc_1 ?_
          refine wi_iadd ct_211_301 rfl ?_
          refine wi_ialdT (j := I + 1) (x := a1) ct_211_302 (sL_SC hS) (i_in (i_add hi ki_1 (by omega)) (by omega)) (i_cl (i_add hi ki_1 (by omega)) (by omega)) ((Eq.trans (up2_nq (sc_nd (by omega))) ((hsc _).trans e1))) ?_
          refine wi_aloadT_0 ct_211_303 ?_
          refine wi_iload_3 ct_211_304 ?_
          refine wi_ic ct_211_305 kc_2 ?_
          refine wi_iadd ct_211_306 rfl ?_
          refine wi_ialdT (j := I + 2) (x := a2) ct_211_307 (sL_SC hS) (i_in (i_add hi ki_2 (by omega)) (by omega)) (i_cl (i_add hi ki_2 (by omega)) (by omega)) ((Eq.trans (up2_nq (sc_nd (by omega))) ((hsc _).trans e2))) ?_
          refine wi_aloadT_0 ct_211_308 ?_
          refine wi_iload_3 ct_211_309 ?_
          refine wi_ic ct_211_310 kc_3 ?_
          refine wi_iadd ct_211_311 rfl ?_
          refine wi_ialdT (j := I + 3) (x := a3) ct_211_312 (sL_SC hS) (i_in (i_add hi ki_3 (by omega)) (by omega)) (i_cl (i_add hi ki_3 (by omega)) (by omega)) ((Eq.trans (up2_nq (sc_nd (by omega))) ((hsc _).trans e3))) ?_
          refine wi_cv3 (ls' := [some _, some _, some _, some _, none]) ct_211_313 (Nat.le_of_ble_eq_true rfl) (by decide) (sT_31 hS) rfl (by decide) rfl rfl (Nat.le_of_ble_eq_true rfl) ?_
          refine wi_aload_0 ct_123_0 ?_
          refine wi_iload_1 ct_123_1 ?_
          refine wi_cv1 (ls' := [some _, some _]) ct_123_2 (Nat.le_of_ble_eq_true rfl) (by decide) (sT_31 hS) rfl (by decide) rfl rfl (Nat.le_of_ble_eq_true rfl) ?_
          refine wi_aload_0 ct_120_0 ?_
          refine wi_iload_1 ct_120_1 ?_
          refine wi_ic ct_120_2 kc_0 ?_
          refine wi_aload_0 ct_120_3 ?_
          refine wi_gf (x := fi 31 0) ct_120_4 (sT_31 hS) rfl rfl (up2_nq (nd o72 (by decide))) ?_
          refine wi_ic ct_120_7 kc_1 ?_
          refine wi_isub ct_120_8 rfl ?_
          refine wi_cv3 (ls' := [some _, some _, some _, some _]) ct_120_9 (Nat.le_of_ble_eq_true rfl) (by decide) (sT_31 hS) rfl (by decide) rfl rfl (Nat.le_of_ble_eq_true rfl) ?_
          refine c_in hBn ki_0 (i_sub rfl ki_1 (by omega)) (fun _ => wk_i ?_) (fun h => absurd h (by omega))
          refine wi_iret ct_120_12 (by decide) (wk_i ?_)
          refine wi_ifeq_f ct_123_5 ki_1 (by decide) ?_
          refine wi_aload_0 ct_123_8 ?_
          refine wi_iload_2 ct_123_9 ?_
          refine wi_ic ct_123_10 kc_0 ?_
          refine wi_ic ct_123_11 kc_1 ?_
          refine wi_cv3 (ls' := [some _, some _, some _, some _]) ct_123_12 (Nat.le_of_ble_eq_true rfl) (by decide) (sT_31 hS) rfl (by decide) rfl rfl (Nat.le_of_ble_eq_true rfl) ?_
          refine c_in rfl ki_0 ki_1 (fun _ => wk_i ?_) (fun h => absurd h (by omega))
          refine wi_ifne_t ct_123_15 ki_1 (by decide) ?_
          refine wi_aload_0 ct_123_20 ?_
          refine wi_iload_3 ct_123_21 ?_
          refine wi_ic ct_123_22 kc_1 ?_
          refine wi_iload_2 ct_123_23 ?_
          refine wi_ifne_f ct_123_24 rfl (by omega) ?_
          refine wi_ic ct_123_27 kc_9 ?_
          refine wi_goto ct_123_29 ?_
          refine wi_cv3 (ls' := [some _, some _, some _, some _]) ct_123_34 (Nat.le_of_ble_eq_true rfl) (by decide) (sT_31 hS) rfl (by decide) rfl rfl (Nat.le_of_ble_eq_true rfl) ?_
          refine c_in rfl ki_1 ki_9 (fun _ => wk_i ?_) (fun h => absurd h (by omega))
          refine wi_ifne_t ct_123_37 ki_1 (by decide) ?_
          refine wi_iload_2 ct_123_43 ?_
          refine wi_ifne_f ct_123_44 rfl (by omega) ?_
          refine wi_aload_0 ct_123_47 ?_
          refine wi_gfr ct_123_48 (sT_31 hS) rfl (sR_31_4 hS) ?_
          refine wi_iload_1 ct_123_51 ?_
          refine wi_iald (x := fi 34 B) ct_123_52 (sT_34 hS) (sL_34 hS) (i_in hBn (by omega)) (i_cl (k := B) hBn (by omega)) (up2_nq (nd o72 (by decide))) ?_
          refine wi_goto ct_123_53 ?_
          refine wi_istore_4 rfl ct_123_62 ?_
          refine wi_iload_2 ct_123_64 ?_
          refine wi_ifne_f ct_123_65 rfl (by omega) ?_
          refine wi_aload_0 ct_123_68 ?_
          refine wi_gfr ct_123_69 (sT_31 hS) rfl (sR_31_4 hS) ?_
          refine wi_iload_1 ct_123_72 ?_
          refine wi_iload_3 ct_123_73 ?_
          refine wi_iast ct_123_74 (sT_34 hS) (sL_34 hS) (i_in hBn (by omega)) (i_cl (k := B) hBn (by omega)) ?_
          refine wi_goto ct_123_75 ?_
          refine wi_iload_4 ct_123_85 ?_
          refine wi_iret ct_123_87 rfl (wk_i ?_)
          refine wi_iceq_t ct_211_316 rfl rfl (by omega) ?_
          have hRp : Rel L xs own g (up2 (up2 fi p 3 (a3)) 34 B (a3)) fl := by
            refine hR.put (B := B) hB5 (fun q h1 h2 h3 h4 => (Eq.trans (funext fun _ => up2_nq (by omega)) (funext fun _ => up2_nq (fun e => by rw [e, oow] at h3 h4; omega)))) ((Eq.trans (funext fun _ => up2_nq (by have : am_SC = 1000000 := rfl; omega)) (funext fun _ => up2_nq (by have : am_SC = 1000000 := rfl; omega)))) (fun q h1 h2 => (Eq.trans (funext fun _ => up2_nq (by omega)) (funext fun _ => up2_nq (by omega)))) (fun j hj => (Eq.trans (up2_nq (by omega)) (up2_nq (by omega)))) (fun j hj => (Eq.trans (up2_nq (by omega)) (up2_nq (by omega)))) ?_ ?_ (fun b hb => (Eq.trans (up2_nj hb) (up2_nq (by omega)))) (fun b hb => (Eq.trans (up2_nq (by omega)) (up2_nq (by omega)))) (fun b hb => (Eq.trans (up2_nq (by omega)) (up2_nq (by omega)))) (fun b j hb hj => (Eq.trans (up2_nq (by omega)) (up2_nq (by omega)))) ⟨?_, p, r, ?_⟩
            · have A1 : (up2 (up2 fi p 3 (a3)) 34 B (a3)) 1 3 = fi 1 3 := (Eq.trans (up2_nq (by omega)) (up2_nq (by omega)))
              have A2 : (up2 (up2 fi p 3 (a3)) 34 B (a3)) 31 1 = fi 31 1 := (Eq.trans (up2_nq (by omega)) (up2_nq (by omega)))
              rw [A1, A2]
              exact hC.2.1
            · have h3 : (up2 (up2 fi p 3 (a3)) 34 B (a3)) 3 = fi 3 := (Eq.trans (funext fun _ => up2_nq (by omega)) (funext fun _ => up2_nq (by omega)))
              have h38 : (up2 (up2 fi p 3 (a3)) 34 B (a3)) 38 = fi 38 := (Eq.trans (funext fun _ => up2_nq (by omega)) (funext fun _ => up2_nq (by omega)))
              unfold RK
              rw [h3, h38]
              exact hK
            · unfold RM
              rw [show (up2 (up2 fi p 3 (a3)) 34 B (a3)) 32 B = fi 32 B from (Eq.trans (up2_nq (by decide)) (up2_nq (nd o72 (by decide))))]
              rw [show (up2 (up2 fi p 3 (a3)) 34 B (a3)) 33 B = fi 33 B from (Eq.trans (up2_nq (by decide)) (up2_nq (nd o72 (by decide))))]
              rw [show (up2 (up2 fi p 3 (a3)) 34 B (a3)) 34 B = a3 from up2_eq]
              rw [show (up2 (up2 fi p 3 (a3)) 34 B (a3)) 35 B = fi 35 B from (Eq.trans (up2_nq (by decide)) (up2_nq (nd o72 (by decide))))]
              rw [show (up2 (up2 fi p 3 (a3)) 34 B (a3)) 36 B = fi 36 B from (Eq.trans (up2_nq (by decide)) (up2_nq (nd o72 (by decide))))]
              refine ⟨by omega, by omega, by omega, by omega, by omega, fun j hj => ?_⟩
              rw [show (up2 (up2 fi p 3 (a3)) 34 B (a3)) 37 (4 * B + j) = fi 37 (4 * B + j) from (Eq.trans (up2_nq (by omega)) (up2_nq (by omega))), w37 j hj]
              exact r9 j hj
            · unfold RO
              rw [show (up2 (up2 fi p 3 (a3)) 34 B (a3)) 32 B = fi 32 B from (Eq.trans (up2_nq (by decide)) (up2_nq (nd o72 (by decide))))]
              rw [show (up2 (up2 fi p 3 (a3)) 34 B (a3)) 33 B = fi 33 B from (Eq.trans (up2_nq (by decide)) (up2_nq (nd o72 (by decide))))]
              rw [show (up2 (up2 fi p 3 (a3)) 34 B (a3)) 34 B = a3 from up2_eq]
              rw [show (up2 (up2 fi p 3 (a3)) 34 B (a3)) 35 B = fi 35 B from (Eq.trans (up2_nq (by decide)) (up2_nq (nd o72 (by decide))))]
              rw [show (up2 (up2 fi p 3 (a3)) 34 B (a3)) 36 B = fi 36 B from (Eq.trans (up2_nq (by decide)) (up2_nq (nd o72 (by decide))))]
              refine ⟨o0, ⟨o72, onx, oow⟩, ot, (Eq.trans (up2_nq (by omega)) (Eq.trans (up2_nj (by decide)) ok)), ((congrArg Int32.toInt ((Eq.trans (up2_nq (by omega)) (up2_nj (by decide))))).trans on), (Eq.trans (up2_nq (by omega)) (Eq.trans (up2_nj (by decide)) ov)), (Eq.trans (up2_nq (by omega)) up2_eq), (Eq.trans (up2_nq (by omega)) (Eq.trans (up2_nj (by decide)) oa)), (Eq.trans (up2_nq (by omega)) (Eq.trans (up2_nj (by decide)) om)), fun hk6 => ?_⟩
              obtain ⟨x1, x2, x3, x4, x5⟩ := orw hk6
              have hrp : r ≠ p := fun e => by have := x2.2.2; rw [e, oow] at this; omega
              have hr72 := x2.1
              refine ⟨x1, x2, x3, x4, fun j hj => ?_⟩
              exact ((Eq.trans (up2_nq (by omega)) (up2_nq hrp))).trans ((x5 j hj).trans ((Eq.trans (up2_nq (by omega)) (up2_nq (by omega)))).symm)
          exact kk own _ _ fl hRp (by omega) (by omega)
        · skip
          refine wi_ifne_f ct_69_39 ki_0 (by decide) ?_
          refine wi_ic ct_69_42 kc_m2 ?_
          refine wi_iret ct_69_44 rfl (wk_i ?_)
          refine wi_aload_2 ct_211_297 ?_
          refine wi_aloadT_0 ct_211_298 ?_
          refine wi_iload_3 ct_211_299 ?_
          refine wi_ic ct_211_300 kc_1 ?_
          refine wi_iadd ct_211_301 rfl ?_
          refine wi_ialdT (j := I + 1) (x := a1) ct_211_302 (sL_SC hS) (i_in (i_add hi ki_1 (by omega)) (by omega)) (i_cl (i_add hi ki_1 (by omega)) (by omega)) (((hsc _).trans e1)) ?_
          refine wi_aloadT_0 ct_211_303 ?_
          refine wi_iload_3 ct_211_304 ?_
          refine wi_ic ct_211_305 kc_2 ?_
          refine wi_iadd ct_211_306 rfl ?_
          refine wi_ialdT (j := I + 2) (x := a2) ct_211_307 (sL_SC hS) (i_in (i_add hi ki_2 (by omega)) (by omega)) (i_cl (i_add hi ki_2 (by omega)) (by omega)) (((hsc _).trans e2)) ?_
          refine wi_aloadT_0 ct_211_308 ?_
          refine wi_iload_3 ct_211_309 ?_
          refine wi_ic ct_211_310 kc_3 ?_
          refine wi_iadd ct_211_311 rfl ?_
          refine wi_ialdT (j := I + 3) (x := a3) ct_211_312 (sL_SC hS) (i_in (i_add hi ki_3 (by omega)) (by omega)) (i_cl (i_add hi ki_3 (by omega)) (by omega)) (((hsc _).trans e3)) ?_
          refine wi_cv3 (ls' := [some _, some _, some _, some _, none]) ct_211_313 (Nat.le_of_ble_eq_true rfl) (by decide) (sT_31 hS) rfl (by decide) rfl rfl (Nat.le_of_ble_eq_true rfl) ?_
          refine wi_aload_0 ct_123_0 ?_
          refine wi_iload_1 ct_123_1 ?_
          refine wi_cv1 (ls' := [some _, some _]) ct_123_2 (Nat.le_of_ble_eq_true rfl) (by decide) (sT_31 hS) rfl (by decide) rfl rfl (Nat.le_of_ble_eq_true rfl) ?_
          refine wi_aload_0 ct_120_0 ?_
          refine wi_iload_1 ct_120_1 ?_
          refine wi_ic ct_120_2 kc_0 ?_
          refine wi_aload_0 ct_120_3 ?_
          refine wi_gf (x := fi 31 0) ct_120_4 (sT_31 hS) rfl rfl rfl ?_
          refine wi_ic ct_120_7 kc_1 ?_
          refine wi_isub ct_120_8 rfl ?_
          refine wi_cv3 (ls' := [some _, some _, some _, some _]) ct_120_9 (Nat.le_of_ble_eq_true rfl) (by decide) (sT_31 hS) rfl (by decide) rfl rfl (Nat.le_of_ble_eq_true rfl) ?_
          refine c_in hBn ki_0 (i_sub rfl ki_1 (by omega)) (fun _ => wk_i ?_) (fun h => absurd h (by omega))
          refine wi_iret ct_120_12 (by decide) (wk_i ?_)
          refine wi_ifeq_f ct_123_5 ki_1 (by decide) ?_
          refine wi_aload_0 ct_123_8 ?_
          refine wi_iload_2 ct_123_9 ?_
          refine wi_ic ct_123_10 kc_0 ?_
          refine wi_ic ct_123_11 kc_1 ?_
          refine wi_cv3 (ls' := [some _, some _, some _, some _]) ct_123_12 (Nat.le_of_ble_eq_true rfl) (by decide) (sT_31 hS) rfl (by decide) rfl rfl (Nat.le_of_ble_eq_true rfl) ?_
          refine c_in rfl ki_0 ki_1 (fun _ => wk_i ?_) (fun h => absurd h (by omega))
          refine wi_ifne_t ct_123_15 ki_1 (by decide) ?_
          refine wi_aload_0 ct_123_20 ?_
          refine wi_iload_3 ct_123_21 ?_
          refine wi_ic ct_123_22 kc_1 ?_
          refine wi_iload_2 ct_123_23 ?_
          refine wi_ifne_f ct_123_24 rfl (by omega) ?_
          refine wi_ic ct_123_27 kc_9 ?_
          refine wi_goto ct_123_29 ?_
          refine wi_cv3 (ls' := [some _, some _, some _, some _]) ct_123_34 (Nat.le_of_ble_eq_true rfl) (by decide) (sT_31 hS) rfl (by decide) rfl rfl (Nat.le_of_ble_eq_true rfl) ?_
          refine c_in rfl ki_1 ki_9 (fun h => absurd h (by omega)) (fun _ => wk_i ?_)
          refine wi_ifne_f ct_123_37 ki_0 (by decide) ?_
          refine wi_ic ct_123_40 kc_m2 ?_
          refine wi_iret ct_123_42 rfl (wk_i ?_)
          refine wi_iceq_t ct_211_316 ki_m2 ki_m2 (by decide) ?_
          exact kk own g fi fl hR (by omega) (by omega)
    · skip
      refine wi_ifne_f ct_69_18 ki_0 (by decide) ?_
      refine wi_ic ct_69_21 kc_m1 ?_
      refine wi_iret ct_69_22 rfl (wk_i ?_)
      refine wi_aload_2 ct_211_297 ?_
      refine wi_aloadT_0 ct_211_298 ?_
      refine wi_iload_3 ct_211_299 ?_
      refine wi_ic ct_211_300 kc_1 ?_
      refine wi_iadd ct_211_301 rfl ?_
      refine wi_ialdT (j := I + 1) (x := a1) ct_211_302 (sL_SC hS) (i_in (i_add hi ki_1 (by omega)) (by omega)) (i_cl (i_add hi ki_1 (by omega)) (by omega)) (((hsc _).trans e1)) ?_
      refine wi_aloadT_0 ct_211_303 ?_
      refine wi_iload_3 ct_211_304 ?_
      refine wi_ic ct_211_305 kc_2 ?_
      refine wi_iadd ct_211_306 rfl ?_
      refine wi_ialdT (j := I + 2) (x := a2) ct_211_307 (sL_SC hS) (i_in (i_add hi ki_2 (by omega)) (by omega)) (i_cl (i_add hi ki_2 (by omega)) (by omega)) (((hsc _).trans e2)) ?_
      refine wi_aloadT_0 ct_211_308 ?_
      refine wi_iload_3 ct_211_309 ?_
      refine wi_ic ct_211_310 kc_3 ?_
      refine wi_iadd ct_211_311 rfl ?_
      refine wi_ialdT (j := I + 3) (x := a3) ct_211_312 (sL_SC hS) (i_in (i_add hi ki_3 (by omega)) (by omega)) (i_cl (i_add hi ki_3 (by omega)) (by omega)) (((hsc _).trans e3)) ?_
      refine wi_cv3 (ls' := [some _, some _, some _, some _, none]) ct_211_313 (Nat.le_of_ble_eq_true rfl) (by decide) (sT_31 hS) rfl (by decide) rfl rfl (Nat.le_of_ble_eq_true rfl) ?_
      refine wi_aload_0 ct_123_0 ?_
      refine wi_iload_1 ct_123_1 ?_
      refine wi_cv1 (ls' := [some _, some _]) ct_123_2 (Nat.le_of_ble_eq_true rfl) (by decide) (sT_31 hS) rfl (by decide) rfl rfl (Nat.le_of_ble_eq_true rfl) ?_
      refine wi_aload_0 ct_120_0 ?_
      refine wi_iload_1 ct_120_1 ?_
      refine wi_ic ct_120_2 kc_0 ?_
      refine wi_aload_0 ct_120_3 ?_
      refine wi_gf (x := fi 31 0) ct_120_4 (sT_31 hS) rfl rfl rfl ?_
      refine wi_ic ct_120_7 kc_1 ?_
      refine wi_isub ct_120_8 rfl ?_
      refine wi_cv3 (ls' := [some _, some _, some _, some _]) ct_120_9 (Nat.le_of_ble_eq_true rfl) (by decide) (sT_31 hS) rfl (by decide) rfl rfl (Nat.le_of_ble_eq_true rfl) ?_
      refine c_in hBn ki_0 (i_sub rfl ki_1 (by omega)) (fun _ => wk_i ?_) (fun h => absurd h (by omega))
      refine wi_iret ct_120_12 (by decide) (wk_i ?_)
      refine wi_ifeq_f ct_123_5 ki_1 (by decide) ?_
      refine wi_aload_0 ct_123_8 ?_
      refine wi_iload_2 ct_123_9 ?_
      refine wi_ic ct_123_10 kc_0 ?_
      refine wi_ic ct_123_11 kc_1 ?_
      refine wi_cv3 (ls' := [some _, some _, some _, some _]) ct_123_12 (Nat.le_of_ble_eq_true rfl) (by decide) (sT_31 hS) rfl (by decide) rfl rfl (Nat.le_of_ble_eq_true rfl) ?_
      refine c_in rfl ki_0 ki_1 (fun h => absurd h (by omega)) (fun _ => wk_i ?_)
      refine wi_ifne_f ct_123_15 ki_0 (by decide) ?_
      refine wi_ic ct_123_18 kc_m1 ?_
      refine wi_iret ct_123_19 rfl (wk_i ?_)
      refine wi_iceq_t ct_211_316 ki_m1 ki_m1 (by decide) ?_
      exact kk own g fi fl hR (by omega) (by omega)
  · skip
    refine wi_aload_1 ct_211_278 ?_
    refine wi_aloadT_0 ct_211_279 ?_
    refine wi_iload_3 ct_211_280 ?_
    refine wi_ic ct_211_281 kc_1 ?_
    refine wi_iadd ct_211_282 rfl ?_
    refine wi_ialdT (j := I + 1) (x := a1) ct_211_283 (sL_SC hS) (i_in (i_add hi ki_1 (by omega)) (by omega)) (i_cl (i_add hi ki_1 (by omega)) (by omega)) (((hsc _).trans e1)) ?_
    refine wi_aloadT_0 ct_211_284 ?_
    refine wi_iload_3 ct_211_285 ?_
    refine wi_ic ct_211_286 kc_2 ?_
    refine wi_iadd ct_211_287 rfl ?_
    refine wi_ialdT (j := I + 2) (x := a2) ct_211_288 (sL_SC hS) (i_in (i_add hi ki_2 (by omega)) (by omega)) (i_cl (i_add hi ki_2 (by omega)) (by omega)) (((hsc _).trans e2)) ?_
    refine wi_aloadT_0 ct_211_289 ?_
    refine wi_iload_3 ct_211_290 ?_
    refine wi_ic ct_211_291 kc_3 ?_
    refine wi_iadd ct_211_292 rfl ?_
    refine wi_ialdT (j := I + 3) (x := a3) ct_211_293 (sL_SC hS) (i_in (i_add hi ki_3 (by omega)) (by omega)) (i_cl (i_add hi ki_3 (by omega)) (by omega)) (((hsc _).trans e3)) ?_
    refine wi_cv3 (ls' := [some _, some _, some _, some _, none, none]) ct_211_294 (Nat.le_of_ble_eq_true rfl) (by decide) (sT_0 hS) rfl (by decide) rfl rfl (Nat.le_of_ble_eq_true rfl) ?_
    refine wi_aload_0 ct_69_0 ?_
    refine wi_iload_1 ct_69_1 ?_
    refine wi_cv1 (ls' := [some _, some _]) ct_69_2 (Nat.le_of_ble_eq_true rfl) (by decide) (sT_0 hS) rfl (by decide) rfl rfl (Nat.le_of_ble_eq_true rfl) ?_
    refine wi_iload_1 ct_104_0 ?_
    refine wi_ic ct_104_1 kc_0 ?_
    refine wi_aload_0 ct_104_2 ?_
    refine wi_gfr ct_104_3 (sT_0 hS) rfl (sR_0_0 hS) ?_
    refine wi_gf (x := fi 31 0) ct_104_6 (sT_1 hS) rfl rfl c0 ?_
    refine wi_ic ct_104_9 kc_1 ?_
    refine wi_isub ct_104_10 rfl ?_
    refine wi_cs3 (ls' := [some _, some _, some _]) ct_104_11 (Nat.le_of_ble_eq_true rfl) rfl (Nat.le_of_ble_eq_true rfl) ?_
    refine c_within rfl ki_0 (i_sub rfl ki_1 (by omega)) (fun h => absurd h (by omega)) (fun _ => wk_i ?_)
    refine wi_ifeq_t ct_104_14 ki_0 (by decide) ?_
    refine wi_null ct_104_29 ?_
    refine wi_aretn ct_104_30 (wk_n ?_)
    refine wi_astoreN_4 rfl ct_69_5 ?_
    refine wi_aloadN_4 ct_69_7 ?_
    refine wi_ifnull_n ct_69_9 ?_
    refine wi_ic ct_69_21 kc_m1 ?_
    refine wi_iret ct_69_22 rfl (wk_i ?_)
    refine wi_aload_2 ct_211_297 ?_
    refine wi_aloadT_0 ct_211_298 ?_
    refine wi_iload_3 ct_211_299 ?_
    refine wi_ic ct_211_300 kc_1 ?_
    refine wi_iadd ct_211_301 rfl ?_
    refine wi_ialdT (j := I + 1) (x := a1) ct_211_302 (sL_SC hS) (i_in (i_add hi ki_1 (by omega)) (by omega)) (i_cl (i_add hi ki_1 (by omega)) (by omega)) (((hsc _).trans e1)) ?_
    refine wi_aloadT_0 ct_211_303 ?_
    refine wi_iload_3 ct_211_304 ?_
    refine wi_ic ct_211_305 kc_2 ?_
    refine wi_iadd ct_211_306 rfl ?_
    refine wi_ialdT (j := I + 2) (x := a2) ct_211_307 (sL_SC hS) (i_in (i_add hi ki_2 (by omega)) (by omega)) (i_cl (i_add hi ki_2 (by omega)) (by omega)) (((hsc _).trans e2)) ?_
    refine wi_aloadT_0 ct_211_308 ?_
    refine wi_iload_3 ct_211_309 ?_
    refine wi_ic ct_211_310 kc_3 ?_
    refine wi_iadd ct_211_311 rfl ?_
    refine wi_ialdT (j := I + 3) (x := a3) ct_211_312 (sL_SC hS) (i_in (i_add hi ki_3 (by omega)) (by omega)) (i_cl (i_add hi ki_3 (by omega)) (by omega)) (((hsc _).trans e3)) ?_
    refine wi_cv3 (ls' := [some _, some _, some _, some _, none]) ct_211_313 (Nat.le_of_ble_eq_true rfl) (by decide) (sT_31 hS) rfl (by decide) rfl rfl (Nat.le_of_ble_eq_true rfl) ?_
    refine wi_aload_0 ct_123_0 ?_
    refine wi_iload_1 ct_123_1 ?_
    refine wi_cv1 (ls' := [some _, some _]) ct_123_2 (Nat.le_of_ble_eq_true rfl) (by decide) (sT_31 hS) rfl (by decide) rfl rfl (Nat.le_of_ble_eq_true rfl) ?_
    refine wi_aload_0 ct_120_0 ?_
    refine wi_iload_1 ct_120_1 ?_
    refine wi_ic ct_120_2 kc_0 ?_
    refine wi_aload_0 ct_120_3 ?_
    refine wi_gf (x := fi 31 0) ct_120_4 (sT_31 hS) rfl rfl rfl ?_
    refine wi_ic ct_120_7 kc_1 ?_
    refine wi_isub ct_120_8 rfl ?_
    refine wi_cv3 (ls' := [some _, some _, some _, some _]) ct_120_9 (Nat.le_of_ble_eq_true rfl) (by decide) (sT_31 hS) rfl (by decide) rfl rfl (Nat.le_of_ble_eq_true rfl) ?_
    refine c_in rfl ki_0 (i_sub rfl ki_1 (by omega)) (fun h => absurd h (by omega)) (fun _ => wk_i ?_)
    refine wi_iret ct_120_12 (by decide) (wk_i ?_)
    refine wi_ifeq_t ct_123_5 ki_0 (by decide) ?_
    refine wi_ic ct_123_18 kc_m1 ?_
    refine wi_iret ct_123_19 rfl (wk_i ?_)
    refine wi_iceq_t ct_211_316 ki_m1 ki_m1 (by decide) ?_
    exact kk own g fi fl hR (by omega) (by omega)
set_option maxHeartbeats 2000000 in
theorem op_row {L I : Nat} {xs : Nat → Int32} {own : Nat → Nat} {d : Nat} {g : am_G} {fi : am_I} {fl : am_L} {P : Option Value → am_G → am_I → am_L → Prop} {i : Int32} (hi : i.toInt = (I : Int)) (hI6 : I + 6 ≤ L) (hL : L ≤ 3072) (hR : Rel L xs own g fi fl) (hnx : am_nx g ≤ 800000) (kk : ∀ own' g' fi' fl', Rel L xs own' g' fi' fl' → am_nx g' ≤ am_nx g + 30 → am_sl g' ≤ am_sl g + 1000 → WP (d + 60) 211 1359 [some (.retAddr 0), some (.ref 0), some (.ref 31), some (.int i)] [] g' fi' fl' P) : WP (d + 60) 211 354 [some (.retAddr 0), some (.ref 0), some (.ref 31), some (.int i)] [] g fi fl P := by
  obtain ⟨hS, hsc, hC, hK, hX, hV, hT, hP, hB, hN, hQ, hZ, hI⟩ := id hR
  obtain ⟨⟨c0, c0a, c0b⟩, ⟨c1, c1a, c1b⟩, ⟨c2, c2a, c2b⟩, ⟨c3, c3a, c3b⟩, ⟨c4, c4a, c4b⟩, ⟨c5, c5a, c5b⟩, ⟨c6, c6a, c6b⟩, ⟨c7, c7a, c7b⟩, c8, c9⟩ := id hC
  obtain ⟨a1, e1⟩ : ∃ a, xs (I + 1) = a := ⟨_, rfl⟩
  obtain ⟨a2, e2⟩ : ∃ a, xs (I + 2) = a := ⟨_, rfl⟩
  obtain ⟨a3, e3⟩ : ∃ a, xs (I + 3) = a := ⟨_, rfl⟩
  by_cases hA : 0 ≤ (a1).toInt ∧ (a1).toInt < (fi 31 0).toInt
  · skip
    obtain ⟨B, hBa⟩ : ∃ B : Nat, (a1).toInt = (B : Int) := ⟨(a1).toInt.toNat, by omega⟩
    have hBn := hBa
    obtain ⟨p, r, kd, v, cd, aim, co, row, hW⟩ := BLW.of hB c0b (B := B) (by omega)
    obtain ⟨sq, hsq, hsx⟩ := sq_of hR
    obtain ⟨hB5, hO, w32, w33, w34, w35, w36, w37, k6, v9, d9, a60, co9, r9⟩ := id hW
    obtain ⟨o0, ⟨o72, onx, oow⟩, ot, ok, on, ov, oc, oa, om, orw⟩ := id hO
    have kq := fun j (h : j < 3) => (hK j (by omega)).2
    have hk0 := kq 0 (by decide)
    have hk1 := kq 1 (by decide)
    have hk2 := kq 2 (by decide)
    replace hk0 := And.intro hk0.1 (hk0.2.2 (by decide))
    replace hk1 := And.intro hk1.1 (hk1.2.2 (by decide))
    replace hk2 := And.intro hk2.1 (hk2.2.2 (by decide))
    have hGb := goodV_bd hk0 hk1 hk2
    refine wi_aload_1 ct_211_354 ?_
    refine wi_aloadT_0 ct_211_355 ?_
    refine wi_iload_3 ct_211_356 ?_
    refine wi_ic ct_211_357 kc_1 ?_
    refine wi_iadd ct_211_358 rfl ?_
    refine wi_ialdT (j := I + 1) (x := a1) ct_211_359 (sL_SC hS) (i_in (i_add hi ki_1 (by omega)) (by omega)) (i_cl (i_add hi ki_1 (by omega)) (by omega)) (((hsc _).trans e1)) ?_
    refine wi_aloadT_0 ct_211_360 ?_
    refine wi_iload_3 ct_211_361 ?_
    refine wi_ic ct_211_362 kc_2 ?_
    refine wi_iadd ct_211_363 rfl ?_
    refine wi_ialdT (j := I + 2) (x := a2) ct_211_364 (sL_SC hS) (i_in (i_add hi ki_2 (by omega)) (by omega)) (i_cl (i_add hi ki_2 (by omega)) (by omega)) (((hsc _).trans e2)) ?_
    refine wi_aloadT_0 ct_211_365 ?_
    refine wi_iload_3 ct_211_366 ?_
    refine wi_ic ct_211_367 kc_3 ?_
    refine wi_iadd ct_211_368 rfl ?_
    refine wi_ialdT (j := I + 3) (x := a3) ct_211_369 (sL_SC hS) (i_in (i_add hi ki_3 (by omega)) (by omega)) (i_cl (i_add hi ki_3 (by omega)) (by omega)) (((hsc _).trans e3)) ?_
    refine wi_cv3 (ls' := [some _, some _, some _, some _, none, none, none]) ct_211_370 (Nat.le_of_ble_eq_true rfl) (by decide) (sT_0 hS) rfl (by decide) rfl rfl (Nat.le_of_ble_eq_true rfl) ?_
    refine wi_aload_0 ct_71_0 ?_
    refine wi_iload_1 ct_71_1 ?_
    refine wi_cv1 (ls' := [some _, some _]) ct_71_2 (Nat.le_of_ble_eq_true rfl) (by decide) (sT_0 hS) rfl (by decide) rfl rfl (Nat.le_of_ble_eq_true rfl) ?_
    refine wi_iload_1 ct_104_0 ?_
    refine wi_ic ct_104_1 kc_0 ?_
    refine wi_aload_0 ct_104_2 ?_
    refine wi_gfr ct_104_3 (sT_0 hS) rfl (sR_0_0 hS) ?_
    refine wi_gf (x := fi 31 0) ct_104_6 (sT_1 hS) rfl rfl c0 ?_
    refine wi_ic ct_104_9 kc_1 ?_
    refine wi_isub ct_104_10 rfl ?_
    refine wi_cs3 (ls' := [some _, some _, some _]) ct_104_11 (Nat.le_of_ble_eq_true rfl) rfl (Nat.le_of_ble_eq_true rfl) ?_
    refine c_within hBn ki_0 (i_sub rfl ki_1 (by omega)) (fun _ => wk_i ?_) (fun h => absurd h (by omega))
    refine wi_ifeq_f ct_104_14 ki_1 (by decide) ?_
    refine wi_aload_0 ct_104_17 ?_
    refine wi_gfr ct_104_18 (sT_0 hS) rfl (sR_0_0 hS) ?_
    refine wi_gfr ct_104_21 (sT_1 hS) rfl (sR_1_0 hS) ?_
    refine wi_iload_1 ct_104_24 ?_
    refine wi_aald ct_104_25 (sT_2 hS) (by decide) (sL_2 hS) (i_in hBn (by omega)) (i_cl (k := B) hBn (by omega)) o0 ?_
    refine wi_goto ct_104_26 ?_
    refine wi_aret ct_104_30 (wk_r ?_)
    refine wi_astore_4 rfl ct_71_5 ?_
    refine wi_aload_4 ct_71_7 ?_
    refine wi_ifnull_r ct_71_9 ?_
    refine wi_iload_2 ct_71_12 ?_
    refine wi_ic ct_71_13 kc_0 ?_
    refine wi_ic ct_71_14 kc_3 ?_
    refine wi_cs3 (ls' := [some _, some _, some _]) ct_71_15 (Nat.le_of_ble_eq_true rfl) rfl (Nat.le_of_ble_eq_true rfl) ?_
    refine c_within rfl ki_0 ki_3 (fun h1 => wk_i ?_) (fun h1 => wk_i ?_)
    · skip
      refine wi_ifne_t ct_71_18 ki_1 (by decide) ?_
      refine wi_iload_3 ct_71_23 ?_
      refine wi_ic ct_71_24 kc_0 ?_
      refine wi_ic ct_71_25 kc_9 ?_
      refine wi_cs3 (ls' := [some _, some _, some _]) ct_71_27 (Nat.le_of_ble_eq_true rfl) rfl (Nat.le_of_ble_eq_true rfl) ?_
      refine c_within rfl ki_0 ki_9 (fun h2 => wk_i ?_) (fun h2 => wk_i ?_)
      · skip
        refine wi_ifne_t ct_71_30 ki_1 (by decide) ?_
        refine wi_aload_4 ct_71_36 ?_
        rcases am_k7 (k := (fi 32 B).toInt) (by omega) with hk3 | hk4 | hk5 | hk6 | hk7 | hk8 | hk9
        · skip
          refine wi_iof (z := 0) ct_71_38 (ot.trans (by rw [hk3] <;> rfl)) (by decide) rfl ?_
          refine wi_ifne_f ct_71_41 ki_0 (by decide) ?_
          refine wi_ic ct_71_44 kc_m3 ?_
          refine wi_iret ct_71_46 rfl (wk_i ?_)
          refine wi_aload_2 ct_211_373 ?_
          refine wi_aloadT_0 ct_211_374 ?_
          refine wi_iload_3 ct_211_375 ?_
          refine wi_ic ct_211_376 kc_1 ?_
          refine wi_iadd ct_211_377 rfl ?_
          refine wi_ialdT (j := I + 1) (x := a1) ct_211_378 (sL_SC hS) (i_in (i_add hi ki_1 (by omega)) (by omega)) (i_cl (i_add hi ki_1 (by omega)) (by omega)) (((hsc _).trans e1)) ?_
          refine wi_aloadT_0 ct_211_379 ?_
          refine wi_iload_3 ct_211_380 ?_
          refine wi_ic ct_211_381 kc_2 ?_
          refine wi_iadd ct_211_382 rfl ?_
          refine wi_ialdT (j := I + 2) (x := a2) ct_211_383 (sL_SC hS) (i_in (i_add hi ki_2 (by omega)) (by omega)) (i_cl (i_add hi ki_2 (by omega)) (by omega)) (((hsc _).trans e2)) ?_
          refine wi_aloadT_0 ct_211_384 ?_
          refine wi_iload_3 ct_211_385 ?_
          refine wi_ic ct_211_386 kc_3 ?_
          refine wi_iadd ct_211_387 rfl ?_
          refine wi_ialdT (j := I + 3) (x := a3) ct_211_388 (sL_SC hS) (i_in (i_add hi ki_3 (by omega)) (by omega)) (i_cl (i_add hi ki_3 (by omega)) (by omega)) (((hsc _).trans e3)) ?_
          refine wi_cv3 (ls' := [some _, some _, some _, some _, none]) ct_211_389 (Nat.le_of_ble_eq_true rfl) (by decide) (sT_31 hS) rfl (by decide) rfl rfl (Nat.le_of_ble_eq_true rfl) ?_
          refine wi_aload_0 ct_125_0 ?_
          refine wi_iload_1 ct_125_1 ?_
          refine wi_cv1 (ls' := [some _, some _]) ct_125_2 (Nat.le_of_ble_eq_true rfl) (by decide) (sT_31 hS) rfl (by decide) rfl rfl (Nat.le_of_ble_eq_true rfl) ?_
          refine wi_aload_0 ct_120_0 ?_
          refine wi_iload_1 ct_120_1 ?_
          refine wi_ic ct_120_2 kc_0 ?_
          refine wi_aload_0 ct_120_3 ?_
          refine wi_gf (x := fi 31 0) ct_120_4 (sT_31 hS) rfl rfl rfl ?_
          refine wi_ic ct_120_7 kc_1 ?_
          refine wi_isub ct_120_8 rfl ?_
          refine wi_cv3 (ls' := [some _, some _, some _, some _]) ct_120_9 (Nat.le_of_ble_eq_true rfl) (by decide) (sT_31 hS) rfl (by decide) rfl rfl (Nat.le_of_ble_eq_true rfl) ?_
          refine c_in hBn ki_0 (i_sub rfl ki_1 (by omega)) (fun _ => wk_i ?_) (fun h => absurd h (by omega))
          refine wi_iret ct_120_12 (by decide) (wk_i ?_)
          refine wi_ifeq_f ct_125_5 ki_1 (by decide) ?_
          refine wi_aload_0 ct_125_8 ?_
          refine wi_iload_2 ct_125_9 ?_
          refine wi_ic ct_125_10 kc_0 ?_
          refine wi_ic ct_125_11 kc_3 ?_
          refine wi_cv3 (ls' := [some _, some _, some _, some _]) ct_125_12 (Nat.le_of_ble_eq_true rfl) (by decide) (sT_31 hS) rfl (by decide) rfl rfl (Nat.le_of_ble_eq_true rfl) ?_
          refine c_in rfl ki_0 ki_3 (fun _ => wk_i ?_) (fun h => absurd h (by omega))
          refine wi_ifne_t ct_125_15 ki_1 (by decide) ?_
          refine wi_aload_0 ct_125_20 ?_
          refine wi_iload_3 ct_125_21 ?_
          refine wi_ic ct_125_22 kc_0 ?_
          refine wi_ic ct_125_23 kc_9 ?_
          refine wi_cv3 (ls' := [some _, some _, some _, some _]) ct_125_25 (Nat.le_of_ble_eq_true rfl) (by decide) (sT_31 hS) rfl (by decide) rfl rfl (Nat.le_of_ble_eq_true rfl) ?_
          refine c_in rfl ki_0 ki_9 (fun _ => wk_i ?_) (fun h => absurd h (by omega))
          refine wi_ifne_t ct_125_28 ki_1 (by decide) ?_
          refine wi_aload_0 ct_125_34 ?_
          refine wi_gfr ct_125_35 (sT_31 hS) rfl (sR_31_2 hS) ?_
          refine wi_iload_1 ct_125_38 ?_
          refine wi_iald (x := fi 32 B) ct_125_39 (sT_32 hS) (sL_32 hS) (i_in hBn (by omega)) (i_cl (k := B) hBn (by omega)) rfl ?_
          refine wi_ic ct_125_40 kc_6 ?_
          refine wi_iceq_f ct_125_42 rfl ki_6 (by omega) ?_
          refine wi_ic ct_125_45 kc_m3 ?_
          refine wi_iret ct_125_47 rfl (wk_i ?_)
          refine wi_iceq_t ct_211_392 ki_m3 ki_m3 (by decide) ?_
          exact kk own g fi fl hR (by omega) (by omega)
        · skip
          refine wi_iof (z := 0) ct_71_38 (ot.trans (by rw [hk4] <;> rfl)) (by decide) rfl ?_
          refine wi_ifne_f ct_71_41 ki_0 (by decide) ?_
          refine wi_ic ct_71_44 kc_m3 ?_
          refine wi_iret ct_71_46 rfl (wk_i ?_)
          refine wi_aload_2 ct_211_373 ?_
          refine wi_aloadT_0 ct_211_374 ?_
          refine wi_iload_3 ct_211_375 ?_
          refine wi_ic ct_211_376 kc_1 ?_
          refine wi_iadd ct_211_377 rfl ?_
          refine wi_ialdT (j := I + 1) (x := a1) ct_211_378 (sL_SC hS) (i_in (i_add hi ki_1 (by omega)) (by omega)) (i_cl (i_add hi ki_1 (by omega)) (by omega)) (((hsc _).trans e1)) ?_
          refine wi_aloadT_0 ct_211_379 ?_
          refine wi_iload_3 ct_211_380 ?_
          refine wi_ic ct_211_381 kc_2 ?_
          refine wi_iadd ct_211_382 rfl ?_
          refine wi_ialdT (j := I + 2) (x := a2) ct_211_383 (sL_SC hS) (i_in (i_add hi ki_2 (by omega)) (by omega)) (i_cl (i_add hi ki_2 (by omega)) (by omega)) (((hsc _).trans e2)) ?_
          refine wi_aloadT_0 ct_211_384 ?_
          refine wi_iload_3 ct_211_385 ?_
          refine wi_ic ct_211_386 kc_3 ?_
          refine wi_iadd ct_211_387 rfl ?_
          refine wi_ialdT (j := I + 3) (x := a3) ct_211_388 (sL_SC hS) (i_in (i_add hi ki_3 (by omega)) (by omega)) (i_cl (i_add hi ki_3 (by omega)) (by omega)) (((hsc _).trans e3)) ?_
          refine wi_cv3 (ls' := [some _, some _, some _, some _, none]) ct_211_389 (Nat.le_of_ble_eq_true rfl) (by decide) (sT_31 hS) rfl (by decide) rfl rfl (Nat.le_of_ble_eq_true rfl) ?_
          refine wi_aload_0 ct_125_0 ?_
          refine wi_iload_1 ct_125_1 ?_
          refine wi_cv1 (ls' := [some _, some _]) ct_125_2 (Nat.le_of_ble_eq_true rfl) (by decide) (sT_31 hS) rfl (by decide) rfl rfl (Nat.le_of_ble_eq_true rfl) ?_
          refine wi_aload_0 ct_120_0 ?_
          refine wi_iload_1 ct_120_1 ?_
          refine wi_ic ct_120_2 kc_0 ?_
          refine wi_aload_0 ct_120_3 ?_
          refine wi_gf (x := fi 31 0) ct_120_4 (sT_31 hS) rfl rfl rfl ?_
          refine wi_ic ct_120_7 kc_1 ?_
          refine wi_isub ct_120_8 rfl ?_
          refine wi_cv3 (ls' := [some _, some _, some _, some _]) ct_120_9 (Nat.le_of_ble_eq_true rfl) (by decide) (sT_31 hS) rfl (by decide) rfl rfl (Nat.le_of_ble_eq_true rfl) ?_
          refine c_in hBn ki_0 (i_sub rfl ki_1 (by omega)) (fun _ => wk_i ?_) (fun h => absurd h (by omega))
          refine wi_iret ct_120_12 (by decide) (wk_i ?_)
          refine wi_ifeq_f ct_125_5 ki_1 (by decide) ?_
          refine wi_aload_0 ct_125_8 ?_
          refine wi_iload_2 ct_125_9 ?_
          refine wi_ic ct_125_10 kc_0 ?_
          refine wi_ic ct_125_11 kc_3 ?_
          refine wi_cv3 (ls' := [some _, some _, some _, some _]) ct_125_12 (Nat.le_of_ble_eq_true rfl) (by decide) (sT_31 hS) rfl (by decide) rfl rfl (Nat.le_of_ble_eq_true rfl) ?_
          refine c_in rfl ki_0 ki_3 (fun _ => wk_i ?_) (fun h => absurd h (by omega))
          refine wi_ifne_t ct_125_15 ki_1 (by decide) ?_
          refine wi_aload_0 ct_125_20 ?_
          refine wi_iload_3 ct_125_21 ?_
          refine wi_ic ct_125_22 kc_0 ?_
          refine wi_ic ct_125_23 kc_9 ?_
          refine wi_cv3 (ls' := [some _, some _, some _, some _]) ct_125_25 (Nat.le_of_ble_eq_true rfl) (by decide) (sT_31 hS) rfl (by decide) rfl rfl (Nat.le_of_ble_eq_true rfl) ?_
          refine c_in rfl ki_0 ki_9 (fun _ => wk_i ?_) (fun h => absurd h (by omega))
          refine wi_ifne_t ct_125_28 ki_1 (by decide) ?_
          refine wi_aload_0 ct_125_34 ?_
          refine wi_gfr ct_125_35 (sT_31 hS) rfl (sR_31_2 hS) ?_
          refine wi_iload_1 ct_125_38 ?_
          refine wi_iald (x := fi 32 B) ct_125_39 (sT_32 hS) (sL_32 hS) (i_in hBn (by omega)) (i_cl (k := B) hBn (by omega)) rfl ?_
          refine wi_ic ct_125_40 kc_6 ?_
          refine wi_iceq_f ct_125_42 rfl ki_6 (by omega) ?_
          refine wi_ic ct_125_45 kc_m3 ?_
          refine wi_iret ct_125_47 rfl (wk_i ?_)
          refine wi_iceq_t ct_211_392 ki_m3 ki_m3 (by decide) ?_
          exact kk own g fi fl hR (by omega) (by omega)
        · skip
          refine wi_iof (z := 0) ct_71_38 (ot.trans (by rw [hk5] <;> rfl)) (by decide) rfl ?_
          refine wi_ifne_f ct_71_41 ki_0 (by decide) ?_
          refine wi_ic ct_71_44 kc_m3 ?_
          refine wi_iret ct_71_46 rfl (wk_i ?_)
          refine wi_aload_2 ct_211_373 ?_
          refine wi_aloadT_0 ct_211_374 ?_
          refine wi_iload_3 ct_211_375 ?_
          refine wi_ic ct_211_376 kc_1 ?_
          refine wi_iadd ct_211_377 rfl ?_
          refine wi_ialdT (j := I + 1) (x := a1) ct_211_378 (sL_SC hS) (i_in (i_add hi ki_1 (by omega)) (by omega)) (i_cl (i_add hi ki_1 (by omega)) (by omega)) (((hsc _).trans e1)) ?_
          refine wi_aloadT_0 ct_211_379 ?_
          refine wi_iload_3 ct_211_380 ?_
          refine wi_ic ct_211_381 kc_2 ?_
          refine wi_iadd ct_211_382 rfl ?_
          refine wi_ialdT (j := I + 2) (x := a2) ct_211_383 (sL_SC hS) (i_in (i_add hi ki_2 (by omega)) (by omega)) (i_cl (i_add hi ki_2 (by omega)) (by omega)) (((hsc _).trans e2)) ?_
          refine wi_aloadT_0 ct_211_384 ?_
          refine wi_iload_3 ct_211_385 ?_
          refine wi_ic ct_211_386 kc_3 ?_
          refine wi_iadd ct_211_387 rfl ?_
          refine wi_ialdT (j := I + 3) (x := a3) ct_211_388 (sL_SC hS) (i_in (i_add hi ki_3 (by omega)) (by omega)) (i_cl (i_add hi ki_3 (by omega)) (by omega)) (((hsc _).trans e3)) ?_
          refine wi_cv3 (ls' := [some _, some _, some _, some _, none]) ct_211_389 (Nat.le_of_ble_eq_true rfl) (by decide) (sT_31 hS) rfl (by decide) rfl rfl (Nat.le_of_ble_eq_true rfl) ?_
          refine wi_aload_0 ct_125_0 ?_
          refine wi_iload_1 ct_125_1 ?_
          refine wi_cv1 (ls' := [some _, some _]) ct_125_2 (Nat.le_of_ble_eq_true rfl) (by decide) (sT_31 hS) rfl (by decide) rfl rfl (Nat.le_of_ble_eq_true rfl) ?_
          refine wi_aload_0 ct_120_0 ?_
          refine wi_iload_1 ct_120_1 ?_
          refine wi_ic ct_120_2 kc_0 ?_
          refine wi_aload_0 ct_120_3 ?_
          refine wi_gf (x := fi 31 0) ct_120_4 (sT_31 hS) rfl rfl rfl ?_
          refine wi_ic ct_120_7 kc_1 ?_
          refine wi_isub ct_120_8 rfl ?_
          refine wi_cv3 (ls' := [some _, some _, some _, some _]) ct_120_9 (Nat.le_of_ble_eq_true rfl) (by decide) (sT_31 hS) rfl (by decide) rfl rfl (Nat.le_of_ble_eq_true rfl) ?_
          refine c_in hBn ki_0 (i_sub rfl ki_1 (by omega)) (fun _ => wk_i ?_) (fun h => absurd h (by omega))
          refine wi_iret ct_120_12 (by decide) (wk_i ?_)
          refine wi_ifeq_f ct_125_5 ki_1 (by decide) ?_
          refine wi_aload_0 ct_125_8 ?_
          refine wi_iload_2 ct_125_9 ?_
          refine wi_ic ct_125_10 kc_0 ?_
          refine wi_ic ct_125_11 kc_3 ?_
          refine wi_cv3 (ls' := [some _, some _, some _, some _]) ct_125_12 (Nat.le_of_ble_eq_true rfl) (by decide) (sT_31 hS) rfl (by decide) rfl rfl (Nat.le_of_ble_eq_true rfl) ?_
          refine c_in rfl ki_0 ki_3 (fun _ => wk_i ?_) (fun h => absurd h (by omega))
          refine wi_ifne_t ct_125_15 ki_1 (by decide) ?_
          refine wi_aload_0 ct_125_20 ?_
          refine wi_iload_3 ct_125_21 ?_
          refine wi_ic ct_125_22 kc_0 ?_
          refine wi_ic ct_125_23 kc_9 ?_
          refine wi_cv3 (ls' := [some _, some _, some _, some _]) ct_125_25 (Nat.le_of_ble_eq_true rfl) (by decide) (sT_31 hS) rfl (by decide) rfl rfl (Nat.le_of_ble_eq_true rfl) ?_
          refine c_in rfl ki_0 ki_9 (fun _ => wk_i ?_) (fun h => absurd h (by omega))
          refine wi_ifne_t ct_125_28 ki_1 (by decide) ?_
          refine wi_aload_0 ct_125_34 ?_
          refine wi_gfr ct_125_35 (sT_31 hS) rfl (sR_31_2 hS) ?_
          refine wi_iload_1 ct_125_38 ?_
          refine wi_iald (x := fi 32 B) ct_125_39 (sT_32 hS) (sL_32 hS) (i_in hBn (by omega)) (i_cl (k := B) hBn (by omega)) rfl ?_
          refine wi_ic ct_125_40 kc_6 ?_
          refine wi_iceq_f ct_125_42 rfl ki_6 (by omega) ?_
          refine wi_ic ct_125_45 kc_m3 ?_
          refine wi_iret ct_125_47 rfl (wk_i ?_)
          refine wi_iceq_t ct_211_392 ki_m3 ki_m3 (by decide) ?_
          exact kk own g fi fl hR (by omega) (by omega)
        · skip
          refine wi_iof (z := 0) ct_71_38 (ot.trans (by rw [hk6] <;> rfl)) (by decide) rfl ?_
          refine wi_ifne_f ct_71_41 ki_0 (by decide) ?_
          refine wi_ic ct_71_44 kc_m3 ?_
          refine wi_iret ct_71_46 rfl (wk_i ?_)
          refine wi_aload_2 ct_211_373 ?_
          refine wi_aloadT_0 ct_211_374 ?_
          refine wi_iload_3 ct_211_375 ?_
          refine wi_ic ct_211_376 kc_1 ?_
          refine wi_iadd ct_211_377 rfl ?_
          refine wi_ialdT (j := I + 1) (x := a1) ct_211_378 (sL_SC hS) (i_in (i_add hi ki_1 (by omega)) (by omega)) (i_cl (i_add hi ki_1 (by omega)) (by omega)) (((hsc _).trans e1)) ?_
          refine wi_aloadT_0 ct_211_379 ?_
          refine wi_iload_3 ct_211_380 ?_
          refine wi_ic ct_211_381 kc_2 ?_
          refine wi_iadd ct_211_382 rfl ?_
          refine wi_ialdT (j := I + 2) (x := a2) ct_211_383 (sL_SC hS) (i_in (i_add hi ki_2 (by omega)) (by omega)) (i_cl (i_add hi ki_2 (by omega)) (by omega)) (((hsc _).trans e2)) ?_
          refine wi_aloadT_0 ct_211_384 ?_
          refine wi_iload_3 ct_211_385 ?_
          refine wi_ic ct_211_386 kc_3 ?_
          refine wi_iadd ct_211_387 rfl ?_
          refine wi_ialdT (j := I + 3) (x := a3) ct_211_388 (sL_SC hS) (i_in (i_add hi ki_3 (by omega)) (by omega)) (i_cl (i_add hi ki_3 (by omega)) (by omega)) (((hsc _).trans e3)) ?_
          refine wi_cv3 (ls' := [some _, some _, some _, some _, none]) ct_211_389 (Nat.le_of_ble_eq_true rfl) (by decide) (sT_31 hS) rfl (by decide) rfl rfl (Nat.le_of_ble_eq_true rfl) ?_
          refine wi_aload_0 ct_125_0 ?_
          refine wi_iload_1 ct_125_1 ?_
          refine wi_cv1 (ls' := [some _, some _]) ct_125_2 (Nat.le_of_ble_eq_true rfl) (by decide) (sT_31 hS) rfl (by decide) rfl rfl (Nat.le_of_ble_eq_true rfl) ?_
          refine wi_aload_0 ct_120_0 ?_
          refine wi_iload_1 ct_120_1 ?_
          refine wi_ic ct_120_2 kc_0 ?_
          refine wi_aload_0 ct_120_3 ?_
          refine wi_gf (x := fi 31 0) ct_120_4 (sT_31 hS) rfl rfl rfl ?_
          refine wi_ic ct_120_7 kc_1 ?_
          refine wi_isub ct_120_8 rfl ?_
          refine wi_cv3 (ls' := [some _, some _, some _, some _]) ct_120_9 (Nat.le_of_ble_eq_true rfl) (by decide) (sT_31 hS) rfl (by decide) rfl rfl (Nat.le_of_ble_eq_true rfl) ?_
          refine c_in hBn ki_0 (i_sub rfl ki_1 (by omega)) (fun _ => wk_i ?_) (fun h => absurd h (by omega))
          refine wi_iret ct_120_12 (by decide) (wk_i ?_)
          refine wi_ifeq_f ct_125_5 ki_1 (by decide) ?_
          refine wi_aload_0 ct_125_8 ?_
          refine wi_iload_2 ct_125_9 ?_
          refine wi_ic ct_125_10 kc_0 ?_
          refine wi_ic ct_125_11 kc_3 ?_
          refine wi_cv3 (ls' := [some _, some _, some _, some _]) ct_125_12 (Nat.le_of_ble_eq_true rfl) (by decide) (sT_31 hS) rfl (by decide) rfl rfl (Nat.le_of_ble_eq_true rfl) ?_
          refine c_in rfl ki_0 ki_3 (fun _ => wk_i ?_) (fun h => absurd h (by omega))
          refine wi_ifne_t ct_125_15 ki_1 (by decide) ?_
          refine wi_aload_0 ct_125_20 ?_
          refine wi_iload_3 ct_125_21 ?_
          refine wi_ic ct_125_22 kc_0 ?_
          refine wi_ic ct_125_23 kc_9 ?_
          refine wi_cv3 (ls' := [some _, some _, some _, some _]) ct_125_25 (Nat.le_of_ble_eq_true rfl) (by decide) (sT_31 hS) rfl (by decide) rfl rfl (Nat.le_of_ble_eq_true rfl) ?_
          refine c_in rfl ki_0 ki_9 (fun _ => wk_i ?_) (fun h => absurd h (by omega))
          refine wi_ifne_t ct_125_28 ki_1 (by decide) ?_
          refine wi_aload_0 ct_125_34 ?_
          refine wi_gfr ct_125_35 (sT_31 hS) rfl (sR_31_2 hS) ?_
          refine wi_iload_1 ct_125_38 ?_
          refine wi_iald (x := fi 32 B) ct_125_39 (sT_32 hS) (sL_32 hS) (i_in hBn (by omega)) (i_cl (k := B) hBn (by omega)) rfl ?_
          refine wi_ic ct_125_40 kc_6 ?_
          refine wi_iceq_f ct_125_42 rfl ki_6 (by omega) ?_
          refine wi_ic ct_125_45 kc_m3 ?_
          refine wi_iret ct_125_47 rfl (wk_i ?_)
          refine wi_iceq_t ct_211_392 ki_m3 ki_m3 (by decide) ?_
          exact kk own g fi fl hR (by omega) (by omega)
        · skip
          refine wi_iof (z := 0) ct_71_38 (ot.trans (by rw [hk7] <;> rfl)) (by decide) rfl ?_
          refine wi_ifne_f ct_71_41 ki_0 (by decide) ?_
          refine wi_ic ct_71_44 kc_m3 ?_
          refine wi_iret ct_71_46 rfl (wk_i ?_)
          refine wi_aload_2 ct_211_373 ?_
          refine wi_aloadT_0 ct_211_374 ?_
          refine wi_iload_3 ct_211_375 ?_
          refine wi_ic ct_211_376 kc_1 ?_
          refine wi_iadd ct_211_377 rfl ?_
          refine wi_ialdT (j := I + 1) (x := a1) ct_211_378 (sL_SC hS) (i_in (i_add hi ki_1 (by omega)) (by omega)) (i_cl (i_add hi ki_1 (by omega)) (by omega)) (((hsc _).trans e1)) ?_
          refine wi_aloadT_0 ct_211_379 ?_
          refine wi_iload_3 ct_211_380 ?_
          refine wi_ic ct_211_381 kc_2 ?_
          refine wi_iadd ct_211_382 rfl ?_
          refine wi_ialdT (j := I + 2) (x := a2) ct_211_383 (sL_SC hS) (i_in (i_add hi ki_2 (by omega)) (by omega)) (i_cl (i_add hi ki_2 (by omega)) (by omega)) (((hsc _).trans e2)) ?_
          refine wi_aloadT_0 ct_211_384 ?_
          refine wi_iload_3 ct_211_385 ?_
          refine wi_ic ct_211_386 kc_3 ?_
          refine wi_iadd ct_211_387 rfl ?_
          refine wi_ialdT (j := I + 3) (x := a3) ct_211_388 (sL_SC hS) (i_in (i_add hi ki_3 (by omega)) (by omega)) (i_cl (i_add hi ki_3 (by omega)) (by omega)) (((hsc _).trans e3)) ?_
          refine wi_cv3 (ls' := [some _, some _, some _, some _, none]) ct_211_389 (Nat.le_of_ble_eq_true rfl) (by decide) (sT_31 hS) rfl (by decide) rfl rfl (Nat.le_of_ble_eq_true rfl) ?_
          refine wi_aload_0 ct_125_0 ?_
          refine wi_iload_1 ct_125_1 ?_
          refine wi_cv1 (ls' := [some _, some _]) ct_125_2 (Nat.le_of_ble_eq_true rfl) (by decide) (sT_31 hS) rfl (by decide) rfl rfl (Nat.le_of_ble_eq_true rfl) ?_
          refine wi_aload_0 ct_120_0 ?_
          refine wi_iload_1 ct_120_1 ?_
          refine wi_ic ct_120_2 kc_0 ?_
          refine wi_aload_0 ct_120_3 ?_
          refine wi_gf (x := fi 31 0) ct_120_4 (sT_31 hS) rfl rfl rfl ?_
          refine wi_ic ct_120_7 kc_1 ?_
          refine wi_isub ct_120_8 rfl ?_
          refine wi_cv3 (ls' := [some _, some _, some _, some _]) ct_120_9 (Nat.le_of_ble_eq_true rfl) (by decide) (sT_31 hS) rfl (by decide) rfl rfl (Nat.le_of_ble_eq_true rfl) ?_
          refine c_in hBn ki_0 (i_sub rfl ki_1 (by omega)) (fun _ => wk_i ?_) (fun h => absurd h (by omega))
          refine wi_iret ct_120_12 (by decide) (wk_i ?_)
          refine wi_ifeq_f ct_125_5 ki_1 (by decide) ?_
          refine wi_aload_0 ct_125_8 ?_
          refine wi_iload_2 ct_125_9 ?_
          refine wi_ic ct_125_10 kc_0 ?_
          refine wi_ic ct_125_11 kc_3 ?_
          refine wi_cv3 (ls' := [some _, some _, some _, some _]) ct_125_12 (Nat.le_of_ble_eq_true rfl) (by decide) (sT_31 hS) rfl (by decide) rfl rfl (Nat.le_of_ble_eq_true rfl) ?_
          refine c_in rfl ki_0 ki_3 (fun _ => wk_i ?_) (fun h => absurd h (by omega))
          refine wi_ifne_t ct_125_15 ki_1 (by decide) ?_
          refine wi_aload_0 ct_125_20 ?_
          refine wi_iload_3 ct_125_21 ?_
          refine wi_ic ct_125_22 kc_0 ?_
          refine wi_ic ct_125_23 kc_9 ?_
          refine wi_cv3 (ls' := [some _, some _, some _, some _]) ct_125_25 (Nat.le_of_ble_eq_true rfl) (by decide) (sT_31 hS) rfl (by decide) rfl rfl (Nat.le_of_ble_eq_true rfl) ?_
          refine c_in rfl ki_0 ki_9 (fun _ => wk_i ?_) (fun h => absurd h (by omega))
          refine wi_ifne_t ct_125_28 ki_1 (by decide) ?_
          refine wi_aload_0 ct_125_34 ?_
          refine wi_gfr ct_125_35 (sT_31 hS) rfl (sR_31_2 hS) ?_
          refine wi_iload_1 ct_125_38 ?_
          refine wi_iald (x := fi 32 B) ct_125_39 (sT_32 hS) (sL_32 hS) (i_in hBn (by omega)) (i_cl (k := B) hBn (by omega)) rfl ?_
          refine wi_ic ct_125_40 kc_6 ?_
          refine wi_iceq_f ct_125_42 rfl ki_6 (by omega) ?_
          refine wi_ic ct_125_45 kc_m3 ?_
          refine wi_iret ct_125_47 rfl (wk_i ?_)
          refine wi_iceq_t ct_211_392 ki_m3 ki_m3 (by decide) ?_
          exact kk own g fi fl hR (by omega) (by omega)
        · skip
          refine wi_iof (z := 0) ct_71_38 (ot.trans (by rw [hk8] <;> rfl)) (by decide) rfl ?_
          refine wi_ifne_f ct_71_41 ki_0 (by decide) ?_
          refine wi_ic ct_71_44 kc_m3 ?_
          refine wi_iret ct_71_46 rfl (wk_i ?_)
          refine wi_aload_2 ct_211_373 ?_
          refine wi_aloadT_0 ct_211_374 ?_
          refine wi_iload_3 ct_211_375 ?_
          refine wi_ic ct_211_376 kc_1 ?_
          refine wi_iadd ct_211_377 rfl ?_
          refine wi_ialdT (j := I + 1) (x := a1) ct_211_378 (sL_SC hS) (i_in (i_add hi ki_1 (by omega)) (by omega)) (i_cl (i_add hi ki_1 (by omega)) (by omega)) (((hsc _).trans e1)) ?_
          refine wi_aloadT_0 ct_211_379 ?_
          refine wi_iload_3 ct_211_380 ?_
          refine wi_ic ct_211_381 kc_2 ?_
          refine wi_iadd ct_211_382 rfl ?_
          refine wi_ialdT (j := I + 2) (x := a2) ct_211_383 (sL_SC hS) (i_in (i_add hi ki_2 (by omega)) (by omega)) (i_cl (i_add hi ki_2 (by omega)) (by omega)) (((hsc _).trans e2)) ?_
          refine wi_aloadT_0 ct_211_384 ?_
          refine wi_iload_3 ct_211_385 ?_
          refine wi_ic ct_211_386 kc_3 ?_
          refine wi_iadd ct_211_387 rfl ?_
          refine wi_ialdT (j := I + 3) (x := a3) ct_211_388 (sL_SC hS) (i_in (i_add hi ki_3 (by omega)) (by omega)) (i_cl (i_add hi ki_3 (by omega)) (by omega)) (((hsc _).trans e3)) ?_
          refine wi_cv3 (ls' := [some _, some _, some _, some _, none]) ct_211_389 (Nat.le_of_ble_eq_true rfl) (by decide) (sT_31 hS) rfl (by decide) rfl rfl (Nat.le_of_ble_eq_true rfl) ?_
          refine wi_aload_0 ct_125_0 ?_
          refine wi_iload_1 ct_125_1 ?_
          refine wi_cv1 (ls' := [some _, some _]) ct_125_2 (Nat.le_of_ble_eq_true rfl) (by decide) (sT_31 hS) rfl (by decide) rfl rfl (Nat.le_of_ble_eq_true rfl) ?_
          refine wi_aload_0 ct_120_0 ?_
          refine wi_iload_1 ct_120_1 ?_
          refine wi_ic ct_120_2 kc_0 ?_
          refine wi_aload_0 ct_120_3 ?_
          refine wi_gf (x := fi 31 0) ct_120_4 (sT_31 hS) rfl rfl rfl ?_
          refine wi_ic ct_120_7 kc_1 ?_
          refine wi_isub ct_120_8 rfl ?_
          refine wi_cv3 (ls' := [some _, some _, some _, some _]) ct_120_9 (Nat.le_of_ble_eq_true rfl) (by decide) (sT_31 hS) rfl (by decide) rfl rfl (Nat.le_of_ble_eq_true rfl) ?_
          refine c_in hBn ki_0 (i_sub rfl ki_1 (by omega)) (fun _ => wk_i ?_) (fun h => absurd h (by omega))
          refine wi_iret ct_120_12 (by decide) (wk_i ?_)
          refine wi_ifeq_f ct_125_5 ki_1 (by decide) ?_
          refine wi_aload_0 ct_125_8 ?_
          refine wi_iload_2 ct_125_9 ?_
          refine wi_ic ct_125_10 kc_0 ?_
          refine wi_ic ct_125_11 kc_3 ?_
          refine wi_cv3 (ls' := [some _, some _, some _, some _]) ct_125_12 (Nat.le_of_ble_eq_true rfl) (by decide) (sT_31 hS) rfl (by decide) rfl rfl (Nat.le_of_ble_eq_true rfl) ?_
          refine c_in rfl ki_0 ki_3 (fun _ => wk_i ?_) (fun h => absurd h (by omega))
          refine wi_ifne_t ct_125_15 ki_1 (by decide) ?_
          refine wi_aload_0 ct_125_20 ?_
          refine wi_iload_3 ct_125_21 ?_
          refine wi_ic ct_125_22 kc_0 ?_
          refine wi_ic ct_125_23 kc_9 ?_
          refine wi_cv3 (ls' := [some _, some _, some _, some _]) ct_125_25 (Nat.le_of_ble_eq_true rfl) (by decide) (sT_31 hS) rfl (by decide) rfl rfl (Nat.le_of_ble_eq_true rfl) ?_
          refine c_in rfl ki_0 ki_9 (fun _ => wk_i ?_) (fun h => absurd h (by omega))
          refine wi_ifne_t ct_125_28 ki_1 (by decide) ?_
          refine wi_aload_0 ct_125_34 ?_
          refine wi_gfr ct_125_35 (sT_31 hS) rfl (sR_31_2 hS) ?_
          refine wi_iload_1 ct_125_38 ?_
          refine wi_iald (x := fi 32 B) ct_125_39 (sT_32 hS) (sL_32 hS) (i_in hBn (by omega)) (i_cl (k := B) hBn (by omega)) rfl ?_
          refine wi_ic ct_125_40 kc_6 ?_
          refine wi_iceq_f ct_125_42 rfl ki_6 (by omega) ?_
          refine wi_ic ct_125_45 kc_m3 ?_
          refine wi_iret ct_125_47 rfl (wk_i ?_)
          refine wi_iceq_t ct_211_392 ki_m3 ki_m3 (by decide) ?_
          exact kk own g fi fl hR (by omega) (by omega)
        · skip
          refine wi_iof (z := 1) ct_71_38 (ot.trans (by rw [hk9] <;> rfl)) (by decide) rfl ?_
          refine wi_ifne_t ct_71_41 ki_1 (by decide) ?_
          refine wi_aload_4 ct_71_47 ?_
          refine wi_cast ct_71_49 (ot.trans (by rw [hk9] <;> rfl)) rfl ?_
          obtain ⟨r0, ⟨r72, rnx, rown⟩, rt, rl, rv⟩ := orw hk9
          refine wi_gfr ct_71_52 (ot.trans (by rw [hk9] <;> rfl)) rfl r0 ?_
          refine wi_astore_5 rfl ct_71_55 ?_
          refine wi_aload_5 ct_71_57 ?_
          refine wi_iload_2 ct_71_59 ?_
          obtain ⟨N10, hN10⟩ : ∃ k : Nat, (a2).toInt = (k : Int) := ⟨_, (i_cln (by omega)).symm⟩
          refine wi_iald (x := fi 37 (4 * B + N10)) ct_71_60 rt rl (i_in hN10 (by omega)) (i_cl (k := N10) hN10 (by omega)) (rv N10 (by omega)) ?_
          refine wi_istore_6 rfl ct_71_61 ?_
          refine wi_aload_5 ct_71_63 ?_
          refine wi_iload_2 ct_71_65 ?_
          refine wi_iload_3 ct_71_66 ?_
          refine wi_iast ct_71_67 rt rl (i_in hN10 (by omega)) (i_cl (k := N10) hN10 (by omega)) ?_
          refine wi_iload_6 ct_71_68 ?_
          refine wi_iret ct_71_70 rfl (wk_i ?_)
          refine wi_aload_2 ct_211_373 ?_
          refine wi_aloadT_0 ct_211_374 ?_
          refine wi_iload_3 ct_211_375 ?_
          refine wi_ic ct_211_376 kc_1 ?_
          refine wi_iadd ct_211_377 rfl ?_
          refine wi_ialdT (j := I + 1) (x := a1) ct_211_378 (sL_SC hS) (i_in (i_add hi ki_1 (by omega)) (by omega)) (i_cl (i_add hi ki_1 (by omega)) (by omega)) ((Eq.trans (up2_nq (sc_nd (by omega))) ((hsc _).trans e1))) ?_
          refine wi_aloadT_0 ct_211_379 ?_
          refine wi_iload_3 ct_211_380 ?_
          refine wi_ic ct_211_381 kc_2 ?_
          refine wi_iadd ct_211_382 rfl ?_
          refine wi_ialdT (j := I + 2) (x := a2) ct_211_383 (sL_SC hS) (i_in (i_add hi ki_2 (by omega)) (by omega)) (i_cl (i_add hi ki_2 (by omega)) (by omega)) ((Eq.trans (up2_nq (sc_nd (by omega))) ((hsc _).trans e2))) ?_
          refine wi_aloadT_0 ct_211_384 ?_
          refine wi_iload_3 ct_211_385 ?_
          refine wi_ic ct_211_386 kc_3 ?_
          refine wi_iadd ct_211_387 rfl ?_
          refine wi_ialdT (j := I + 3) (x := a3) ct_211_388 (sL_SC hS) (i_in (i_add hi ki_3 (by omega)) (by omega)) (i_cl (i_add hi ki_3 (by omega)) (by omega)) ((Eq.trans (up2_nq (sc_nd (by omega))) ((hsc _).trans e3))) ?_
          refine wi_cv3 (ls' := [some _, some _, some _, some _, none]) ct_211_389 (Nat.le_of_ble_eq_true rfl) (by decide) (sT_31 hS) rfl (by decide) rfl rfl (Nat.le_of_ble_eq_true rfl) ?_
          refine wi_aload_0 ct_125_0 ?_
          refine wi_iload_1 ct_125_1 ?_
          refine wi_cv1 (ls' := [some _, some _]) ct_125_2 (Nat.le_of_ble_eq_true rfl) (by decide) (sT_31 hS) rfl (by decide) rfl rfl (Nat.le_of_ble_eq_true rfl) ?_
          refine wi_aload_0 ct_120_0 ?_
          refine wi_iload_1 ct_120_1 ?_
          refine wi_ic ct_120_2 kc_0 ?_
          refine wi_aload_0 ct_120_3 ?_
          refine wi_gf (x := fi 31 0) ct_120_4 (sT_31 hS) rfl rfl (up2_nq (nd r72 (by decide))) ?_
          refine wi_ic ct_120_7 kc_1 ?_
          refine wi_isub ct_120_8 rfl ?_
          refine wi_cv3 (ls' := [some _, some _, some _, some _]) ct_120_9 (Nat.le_of_ble_eq_true rfl) (by decide) (sT_31 hS) rfl (by decide) rfl rfl (Nat.le_of_ble_eq_true rfl) ?_
          refine c_in hBn ki_0 (i_sub rfl ki_1 (by omega)) (fun _ => wk_i ?_) (fun h => absurd h (by omega))
          refine wi_iret ct_120_12 (by decide) (wk_i ?_)
          refine wi_ifeq_f ct_125_5 ki_1 (by decide) ?_
          refine wi_aload_0 ct_125_8 ?_
          refine wi_iload_2 ct_125_9 ?_
          refine wi_ic ct_125_10 kc_0 ?_
          refine wi_ic ct_125_11 kc_3 ?_
          refine wi_cv3 (ls' := [some _, some _, some _, some _]) ct_125_12 (Nat.le_of_ble_eq_true rfl) (by decide) (sT_31 hS) rfl (by decide) rfl rfl (Nat.le_of_ble_eq_true rfl) ?_
          refine c_in hN10 ki_0 ki_3 (fun _ => wk_i ?_) (fun h => absurd h (by omega))
          refine wi_ifne_t ct_125_15 ki_1 (by decide) ?_
          refine wi_aload_0 ct_125_20 ?_
          refine wi_iload_3 ct_125_21 ?_
          refine wi_ic ct_125_22 kc_0 ?_
          refine wi_ic ct_125_23 kc_9 ?_
          refine wi_cv3 (ls' := [some _, some _, some _, some _]) ct_125_25 (Nat.le_of_ble_eq_true rfl) (by decide) (sT_31 hS) rfl (by decide) rfl rfl (Nat.le_of_ble_eq_true rfl) ?_
          refine c_in rfl ki_0 ki_9 (fun _ => wk_i ?_) (fun h => absurd h (by omega))
          refine wi_ifne_t ct_125_28 ki_1 (by decide) ?_
          refine wi_aload_0 ct_125_34 ?_
          refine wi_gfr ct_125_35 (sT_31 hS) rfl (sR_31_2 hS) ?_
          refine wi_iload_1 ct_125_38 ?_
          refine wi_iald (x := fi 32 B) ct_125_39 (sT_32 hS) (sL_32 hS) (i_in hBn (by omega)) (i_cl (k := B) hBn (by omega)) (up2_nq (nd r72 (by decide))) ?_
          refine wi_ic ct_125_40 kc_6 ?_
          refine wi_iceq_t ct_125_42 rfl ki_6 (by omega) ?_
          refine wi_aload_0 ct_125_48 ?_
          refine wi_gfr ct_125_49 (sT_31 hS) rfl (sR_31_7 hS) ?_
          refine wi_ic ct_125_52 kc_4 ?_
          refine wi_iload_1 ct_125_53 ?_
          refine wi_imul ct_125_54 rfl ?_
          refine wi_iload_2 ct_125_55 ?_
          refine wi_iadd ct_125_56 rfl ?_
          refine wi_iald (x := fi 37 (4 * B + N10)) ct_125_57 (sT_37 hS) (sL_37 hS) (i_in (i_add (i_mul ki_4 hBn (by omega)) hN10 (by omega)) (by omega)) (i_cl (k := (4 * B + N10)) (i_add (i_mul ki_4 hBn (by omega)) hN10 (by omega)) (by omega)) (up2_nq (nd r72 (by decide))) ?_
          refine wi_istore_4 rfl ct_125_58 ?_
          refine wi_aload_0 ct_125_60 ?_
          refine wi_gfr ct_125_61 (sT_31 hS) rfl (sR_31_7 hS) ?_
          refine wi_ic ct_125_64 kc_4 ?_
          refine wi_iload_1 ct_125_65 ?_
          refine wi_imul ct_125_66 rfl ?_
          refine wi_iload_2 ct_125_67 ?_
          refine wi_iadd ct_125_68 rfl ?_
          refine wi_iload_3 ct_125_69 ?_
          refine wi_iast ct_125_70 (sT_37 hS) (sL_37 hS) (i_in (i_add (i_mul ki_4 hBn (by omega)) hN10 (by omega)) (by omega)) (i_cl (k := (4 * B + N10)) (i_add (i_mul ki_4 hBn (by omega)) hN10 (by omega)) (by omega)) ?_
          refine wi_iload_4 ct_125_71 ?_
          refine wi_iret ct_125_73 rfl (wk_i ?_)
          refine wi_iceq_t ct_211_392 rfl rfl (by omega) ?_
          have hpr : p ≠ r := fun e => by rw [e, rown] at oow; omega
          have hRp : Rel L xs own g (up2 (up2 fi r N10 (a3)) 37 (4 * B + N10) (a3)) fl := by
            refine hR.put (B := B) hB5 (fun q h1 h2 h3 h4 => (Eq.trans (funext fun _ => up2_nq (by omega)) (funext fun _ => up2_nq (fun e => by rw [e, rown] at h3 h4; omega)))) ((Eq.trans (funext fun _ => up2_nq (by have : am_SC = 1000000 := rfl; omega)) (funext fun _ => up2_nq (by have : am_SC = 1000000 := rfl; omega)))) (fun q h1 h2 => (Eq.trans (funext fun _ => up2_nq (by omega)) (funext fun _ => up2_nq (by omega)))) (fun j hj => (Eq.trans (up2_nq (by omega)) (up2_nq (by omega)))) (fun j hj => (Eq.trans (up2_nq (by omega)) (up2_nq (by omega)))) ?_ ?_ (fun b hb => (Eq.trans (up2_nq (by omega)) (up2_nq (by omega)))) (fun b hb => (Eq.trans (up2_nq (by omega)) (up2_nq (by omega)))) (fun b hb => (Eq.trans (up2_nq (by omega)) (up2_nq (by omega)))) (fun b j hb hj => (Eq.trans (up2_nj (by omega)) (up2_nq (by omega)))) ⟨?_, p, r, ?_⟩
            · have A1 : (up2 (up2 fi r N10 (a3)) 37 (4 * B + N10) (a3)) 1 3 = fi 1 3 := (Eq.trans (up2_nq (by omega)) (up2_nq (by omega)))
              have A2 : (up2 (up2 fi r N10 (a3)) 37 (4 * B + N10) (a3)) 31 1 = fi 31 1 := (Eq.trans (up2_nq (by omega)) (up2_nq (by omega)))
              rw [A1, A2]
              exact hC.2.1
            · have h3 : (up2 (up2 fi r N10 (a3)) 37 (4 * B + N10) (a3)) 3 = fi 3 := (Eq.trans (funext fun _ => up2_nq (by omega)) (funext fun _ => up2_nq (by omega)))
              have h38 : (up2 (up2 fi r N10 (a3)) 37 (4 * B + N10) (a3)) 38 = fi 38 := (Eq.trans (funext fun _ => up2_nq (by omega)) (funext fun _ => up2_nq (by omega)))
              unfold RK
              rw [h3, h38]
              exact hK
            · unfold RM
              rw [show (up2 (up2 fi r N10 (a3)) 37 (4 * B + N10) (a3)) 32 B = fi 32 B from (Eq.trans (up2_nq (by decide)) (up2_nq (nd r72 (by decide))))]
              rw [show (up2 (up2 fi r N10 (a3)) 37 (4 * B + N10) (a3)) 33 B = fi 33 B from (Eq.trans (up2_nq (by decide)) (up2_nq (nd r72 (by decide))))]
              rw [show (up2 (up2 fi r N10 (a3)) 37 (4 * B + N10) (a3)) 34 B = fi 34 B from (Eq.trans (up2_nq (by decide)) (up2_nq (nd r72 (by decide))))]
              rw [show (up2 (up2 fi r N10 (a3)) 37 (4 * B + N10) (a3)) 35 B = fi 35 B from (Eq.trans (up2_nq (by decide)) (up2_nq (nd r72 (by decide))))]
              rw [show (up2 (up2 fi r N10 (a3)) 37 (4 * B + N10) (a3)) 36 B = fi 36 B from (Eq.trans (up2_nq (by decide)) (up2_nq (nd r72 (by decide))))]
              refine ⟨by omega, by omega, by omega, by omega, by omega, fun j hj => ?_⟩
              rcases Decidable.em (j = N10) with ej | ej
              · rw [ej, show (up2 (up2 fi r N10 (a3)) 37 (4 * B + N10) (a3)) 37 (4 * B + N10) = a3 from up2_eq]
                omega
              · rw [show (up2 (up2 fi r N10 (a3)) 37 (4 * B + N10) (a3)) 37 (4 * B + j) = fi 37 (4 * B + j) from (Eq.trans (up2_nj (by omega)) (up2_nq (by omega)))]
                rw [w37 j hj]
                exact r9 j hj
            · unfold RO
              rw [show (up2 (up2 fi r N10 (a3)) 37 (4 * B + N10) (a3)) 32 B = fi 32 B from (Eq.trans (up2_nq (by decide)) (up2_nq (nd r72 (by decide))))]
              rw [show (up2 (up2 fi r N10 (a3)) 37 (4 * B + N10) (a3)) 33 B = fi 33 B from (Eq.trans (up2_nq (by decide)) (up2_nq (nd r72 (by decide))))]
              rw [show (up2 (up2 fi r N10 (a3)) 37 (4 * B + N10) (a3)) 34 B = fi 34 B from (Eq.trans (up2_nq (by decide)) (up2_nq (nd r72 (by decide))))]
              rw [show (up2 (up2 fi r N10 (a3)) 37 (4 * B + N10) (a3)) 35 B = fi 35 B from (Eq.trans (up2_nq (by decide)) (up2_nq (nd r72 (by decide))))]
              rw [show (up2 (up2 fi r N10 (a3)) 37 (4 * B + N10) (a3)) 36 B = fi 36 B from (Eq.trans (up2_nq (by decide)) (up2_nq (nd r72 (by decide))))]
              refine ⟨o0, ⟨o72, onx, oow⟩, ot, (Eq.trans (up2_nq (by omega)) (Eq.trans (up2_nq hpr) ok)), ((congrArg Int32.toInt ((Eq.trans (up2_nq (by omega)) (up2_nq hpr)))).trans on), (Eq.trans (up2_nq (by omega)) (Eq.trans (up2_nq hpr) ov)), (Eq.trans (up2_nq (by omega)) (Eq.trans (up2_nq hpr) oc)), (Eq.trans (up2_nq (by omega)) (Eq.trans (up2_nq hpr) oa)), (Eq.trans (up2_nq (by omega)) (Eq.trans (up2_nq hpr) om)), fun hk6 => ?_⟩
              obtain ⟨x1, x2, x3, x4, x5⟩ := orw hk6
              have hrp : r ≠ p := fun e => by have := x2.2.2; rw [e, oow] at this; omega
              have hr72 := x2.1
              refine ⟨x1, x2, x3, x4, fun j hj => ?_⟩
              rcases Decidable.em (j = N10) with ej | ej
              · rw [ej]
                exact ((Eq.trans (up2_nq (by omega)) up2_eq)).trans (up2_eq).symm
              · exact ((Eq.trans (up2_nq (by omega)) (up2_nj ej))).trans ((x5 j hj).trans ((Eq.trans (up2_nj (by omega)) (up2_nq (by omega)))).symm)
          exact kk own _ _ fl hRp (by omega) (by omega)
      · skip
        refine wi_ifne_f ct_71_30 ki_0 (by decide) ?_
        refine wi_ic ct_71_33 kc_m2 ?_
        refine wi_iret ct_71_35 rfl (wk_i ?_)
        refine wi_aload_2 ct_211_373 ?_
        refine wi_aloadT_0 ct_211_374 ?_
        refine wi_iload_3 ct_211_375 ?_
        refine wi_ic ct_211_376 kc_1 ?_
        refine wi_iadd ct_211_377 rfl ?_
        refine wi_ialdT (j := I + 1) (x := a1) ct_211_378 (sL_SC hS) (i_in (i_add hi ki_1 (by omega)) (by omega)) (i_cl (i_add hi ki_1 (by omega)) (by omega)) (((hsc _).trans e1)) ?_
        refine wi_aloadT_0 ct_211_379 ?_
        refine wi_iload_3 ct_211_380 ?_
        refine wi_ic ct_211_381 kc_2 ?_
        refine wi_iadd ct_211_382 rfl ?_
        refine wi_ialdT (j := I + 2) (x := a2) ct_211_383 (sL_SC hS) (i_in (i_add hi ki_2 (by omega)) (by omega)) (i_cl (i_add hi ki_2 (by omega)) (by omega)) (((hsc _).trans e2)) ?_
        refine wi_aloadT_0 ct_211_384 ?_
        refine wi_iload_3 ct_211_385 ?_
        refine wi_ic ct_211_386 kc_3 ?_
        refine wi_iadd ct_211_387 rfl ?_
        refine wi_ialdT (j := I + 3) (x := a3) ct_211_388 (sL_SC hS) (i_in (i_add hi ki_3 (by omega)) (by omega)) (i_cl (i_add hi ki_3 (by omega)) (by omega)) (((hsc _).trans e3)) ?_
        refine wi_cv3 (ls' := [some _, some _, some _, some _, none]) ct_211_389 (Nat.le_of_ble_eq_true rfl) (by decide) (sT_31 hS) rfl (by decide) rfl rfl (Nat.le_of_ble_eq_true rfl) ?_
        refine wi_aload_0 ct_125_0 ?_
        refine wi_iload_1 ct_125_1 ?_
        refine wi_cv1 (ls' := [some _, some _]) ct_125_2 (Nat.le_of_ble_eq_true rfl) (by decide) (sT_31 hS) rfl (by decide) rfl rfl (Nat.le_of_ble_eq_true rfl) ?_
        refine wi_aload_0 ct_120_0 ?_
        refine wi_iload_1 ct_120_1 ?_
        refine wi_ic ct_120_2 kc_0 ?_
        refine wi_aload_0 ct_120_3 ?_
        refine wi_gf (x := fi 31 0) ct_120_4 (sT_31 hS) rfl rfl rfl ?_
        refine wi_ic ct_120_7 kc_1 ?_
        refine wi_isub ct_120_8 rfl ?_
        refine wi_cv3 (ls' := [some _, some _, some _, some _]) ct_120_9 (Nat.le_of_ble_eq_true rfl) (by decide) (sT_31 hS) rfl (by decide) rfl rfl (Nat.le_of_ble_eq_true rfl) ?_
        refine c_in hBn ki_0 (i_sub rfl ki_1 (by omega)) (fun _ => wk_i ?_) (fun h => absurd h (by omega))
        refine wi_iret ct_120_12 (by decide) (wk_i ?_)
        refine wi_ifeq_f ct_125_5 ki_1 (by decide) ?_
        refine wi_aload_0 ct_125_8 ?_
        refine wi_iload_2 ct_125_9 ?_
        refine wi_ic ct_125_10 kc_0 ?_
        refine wi_ic ct_125_11 kc_3 ?_
        refine wi_cv3 (ls' := [some _, some _, some _, some _]) ct_125_12 (Nat.le_of_ble_eq_true rfl) (by decide) (sT_31 hS) rfl (by decide) rfl rfl (Nat.le_of_ble_eq_true rfl) ?_
        refine c_in rfl ki_0 ki_3 (fun _ => wk_i ?_) (fun h => absurd h (by omega))
        refine wi_ifne_t ct_125_15 ki_1 (by decide) ?_
        refine wi_aload_0 ct_125_20 ?_
        refine wi_iload_3 ct_125_21 ?_
        refine wi_ic ct_125_22 kc_0 ?_
        refine wi_ic ct_125_23 kc_9 ?_
        refine wi_cv3 (ls' := [some _, some _, some _, some _]) ct_125_25 (Nat.le_of_ble_eq_true rfl) (by decide) (sT_31 hS) rfl (by decide) rfl rfl (Nat.le_of_ble_eq_true rfl) ?_
        refine c_in rfl ki_0 ki_9 (fun h => absurd h (by omega)) (fun _ => wk_i ?_)
        refine wi_ifne_f ct_125_28 ki_0 (by decide) ?_
        refine wi_ic ct_125_31 kc_m2 ?_
        refine wi_iret ct_125_33 rfl (wk_i ?_)
        refine wi_iceq_t ct_211_392 ki_m2 ki_m2 (by decide) ?_
        exact kk own g fi fl hR (by omega) (by omega)
    · skip
      refine wi_ifne_f ct_71_18 ki_0 (by decide) ?_
      refine wi_ic ct_71_21 kc_m1 ?_
      refine wi_iret ct_71_22 rfl (wk_i ?_)
      refine wi_aload_2 ct_211_373 ?_
      refine wi_aloadT_0 ct_211_374 ?_
      refine wi_iload_3 ct_211_375 ?_
      refine wi_ic ct_211_376 kc_1 ?_
      refine wi_iadd ct_211_377 rfl ?_
      refine wi_ialdT (j := I + 1) (x := a1) ct_211_378 (sL_SC hS) (i_in (i_add hi ki_1 (by omega)) (by omega)) (i_cl (i_add hi ki_1 (by omega)) (by omega)) (((hsc _).trans e1)) ?_
      refine wi_aloadT_0 ct_211_379 ?_
      refine wi_iload_3 ct_211_380 ?_
      refine wi_ic ct_211_381 kc_2 ?_
      refine wi_iadd ct_211_382 rfl ?_
      refine wi_ialdT (j := I + 2) (x := a2) ct_211_383 (sL_SC hS) (i_in (i_add hi ki_2 (by omega)) (by omega)) (i_cl (i_add hi ki_2 (by omega)) (by omega)) (((hsc _).trans e2)) ?_
      refine wi_aloadT_0 ct_211_384 ?_
      refine wi_iload_3 ct_211_385 ?_
      refine wi_ic ct_211_386 kc_3 ?_
      refine wi_iadd ct_211_387 rfl ?_
      refine wi_ialdT (j := I + 3) (x := a3) ct_211_388 (sL_SC hS) (i_in (i_add hi ki_3 (by omega)) (by omega)) (i_cl (i_add hi ki_3 (by omega)) (by omega)) (((hsc _).trans e3)) ?_
      refine wi_cv3 (ls' := [some _, some _, some _, some _, none]) ct_211_389 (Nat.le_of_ble_eq_true rfl) (by decide) (sT_31 hS) rfl (by decide) rfl rfl (Nat.le_of_ble_eq_true rfl) ?_
      refine wi_aload_0 ct_125_0 ?_
      refine wi_iload_1 ct_125_1 ?_
      refine wi_cv1 (ls' := [some _, some _]) ct_125_2 (Nat.le_of_ble_eq_true rfl) (by decide) (sT_31 hS) rfl (by decide) rfl rfl (Nat.le_of_ble_eq_true rfl) ?_
      refine wi_aload_0 ct_120_0 ?_
      refine wi_iload_1 ct_120_1 ?_
      refine wi_ic ct_120_2 kc_0 ?_
      refine wi_aload_0 ct_120_3 ?_
      refine wi_gf (x := fi 31 0) ct_120_4 (sT_31 hS) rfl rfl rfl ?_
      refine wi_ic ct_120_7 kc_1 ?_
      refine wi_isub ct_120_8 rfl ?_
      refine wi_cv3 (ls' := [some _, some _, some _, some _]) ct_120_9 (Nat.le_of_ble_eq_true rfl) (by decide) (sT_31 hS) rfl (by decide) rfl rfl (Nat.le_of_ble_eq_true rfl) ?_
      refine c_in hBn ki_0 (i_sub rfl ki_1 (by omega)) (fun _ => wk_i ?_) (fun h => absurd h (by omega))
      refine wi_iret ct_120_12 (by decide) (wk_i ?_)
      refine wi_ifeq_f ct_125_5 ki_1 (by decide) ?_
      refine wi_aload_0 ct_125_8 ?_
      refine wi_iload_2 ct_125_9 ?_
      refine wi_ic ct_125_10 kc_0 ?_
      refine wi_ic ct_125_11 kc_3 ?_
      refine wi_cv3 (ls' := [some _, some _, some _, some _]) ct_125_12 (Nat.le_of_ble_eq_true rfl) (by decide) (sT_31 hS) rfl (by decide) rfl rfl (Nat.le_of_ble_eq_true rfl) ?_
      refine c_in rfl ki_0 ki_3 (fun h => absurd h (by omega)) (fun _ => wk_i ?_)
      refine wi_ifne_f ct_125_15 ki_0 (by decide) ?_
      refine wi_ic ct_125_18 kc_m1 ?_
      refine wi_iret ct_125_19 rfl (wk_i ?_)
      refine wi_iceq_t ct_211_392 ki_m1 ki_m1 (by decide) ?_
      exact kk own g fi fl hR (by omega) (by omega)
  · skip
    refine wi_aload_1 ct_211_354 ?_
    refine wi_aloadT_0 ct_211_355 ?_
    refine wi_iload_3 ct_211_356 ?_
    refine wi_ic ct_211_357 kc_1 ?_
    refine wi_iadd ct_211_358 rfl ?_
    refine wi_ialdT (j := I + 1) (x := a1) ct_211_359 (sL_SC hS) (i_in (i_add hi ki_1 (by omega)) (by omega)) (i_cl (i_add hi ki_1 (by omega)) (by omega)) (((hsc _).trans e1)) ?_
    refine wi_aloadT_0 ct_211_360 ?_
    refine wi_iload_3 ct_211_361 ?_
    refine wi_ic ct_211_362 kc_2 ?_
    refine wi_iadd ct_211_363 rfl ?_
    refine wi_ialdT (j := I + 2) (x := a2) ct_211_364 (sL_SC hS) (i_in (i_add hi ki_2 (by omega)) (by omega)) (i_cl (i_add hi ki_2 (by omega)) (by omega)) (((hsc _).trans e2)) ?_
    refine wi_aloadT_0 ct_211_365 ?_
    refine wi_iload_3 ct_211_366 ?_
    refine wi_ic ct_211_367 kc_3 ?_
    refine wi_iadd ct_211_368 rfl ?_
    refine wi_ialdT (j := I + 3) (x := a3) ct_211_369 (sL_SC hS) (i_in (i_add hi ki_3 (by omega)) (by omega)) (i_cl (i_add hi ki_3 (by omega)) (by omega)) (((hsc _).trans e3)) ?_
    refine wi_cv3 (ls' := [some _, some _, some _, some _, none, none, none]) ct_211_370 (Nat.le_of_ble_eq_true rfl) (by decide) (sT_0 hS) rfl (by decide) rfl rfl (Nat.le_of_ble_eq_true rfl) ?_
    refine wi_aload_0 ct_71_0 ?_
    refine wi_iload_1 ct_71_1 ?_
    refine wi_cv1 (ls' := [some _, some _]) ct_71_2 (Nat.le_of_ble_eq_true rfl) (by decide) (sT_0 hS) rfl (by decide) rfl rfl (Nat.le_of_ble_eq_true rfl) ?_
    refine wi_iload_1 ct_104_0 ?_
    refine wi_ic ct_104_1 kc_0 ?_
    refine wi_aload_0 ct_104_2 ?_
    refine wi_gfr ct_104_3 (sT_0 hS) rfl (sR_0_0 hS) ?_
    refine wi_gf (x := fi 31 0) ct_104_6 (sT_1 hS) rfl rfl c0 ?_
    refine wi_ic ct_104_9 kc_1 ?_
    refine wi_isub ct_104_10 rfl ?_
    refine wi_cs3 (ls' := [some _, some _, some _]) ct_104_11 (Nat.le_of_ble_eq_true rfl) rfl (Nat.le_of_ble_eq_true rfl) ?_
    refine c_within rfl ki_0 (i_sub rfl ki_1 (by omega)) (fun h => absurd h (by omega)) (fun _ => wk_i ?_)
    refine wi_ifeq_t ct_104_14 ki_0 (by decide) ?_
    refine wi_null ct_104_29 ?_
    refine wi_aretn ct_104_30 (wk_n ?_)
    refine wi_astoreN_4 rfl ct_71_5 ?_
    refine wi_aloadN_4 ct_71_7 ?_
    refine wi_ifnull_n ct_71_9 ?_
    refine wi_ic ct_71_21 kc_m1 ?_
    refine wi_iret ct_71_22 rfl (wk_i ?_)
    refine wi_aload_2 ct_211_373 ?_
    refine wi_aloadT_0 ct_211_374 ?_
    refine wi_iload_3 ct_211_375 ?_
    refine wi_ic ct_211_376 kc_1 ?_
    refine wi_iadd ct_211_377 rfl ?_
    refine wi_ialdT (j := I + 1) (x := a1) ct_211_378 (sL_SC hS) (i_in (i_add hi ki_1 (by omega)) (by omega)) (i_cl (i_add hi ki_1 (by omega)) (by omega)) (((hsc _).trans e1)) ?_
    refine wi_aloadT_0 ct_211_379 ?_
    refine wi_iload_3 ct_211_380 ?_
    refine wi_ic ct_211_381 kc_2 ?_
    refine wi_iadd ct_211_382 rfl ?_
    refine wi_ialdT (j := I + 2) (x := a2) ct_211_383 (sL_SC hS) (i_in (i_add hi ki_2 (by omega)) (by omega)) (i_cl (i_add hi ki_2 (by omega)) (by omega)) (((hsc _).trans e2)) ?_
    refine wi_aloadT_0 ct_211_384 ?_
    refine wi_iload_3 ct_211_385 ?_
    refine wi_ic ct_211_386 kc_3 ?_
    refine wi_iadd ct_211_387 rfl ?_
    refine wi_ialdT (j := I + 3) (x := a3) ct_211_388 (sL_SC hS) (i_in (i_add hi ki_3 (by omega)) (by omega)) (i_cl (i_add hi ki_3 (by omega)) (by omega)) (((hsc _).trans e3)) ?_
    refine wi_cv3 (ls' := [some _, some _, some _, some _, none]) ct_211_389 (Nat.le_of_ble_eq_true rfl) (by decide) (sT_31 hS) rfl (by decide) rfl rfl (Nat.le_of_ble_eq_true rfl) ?_
    refine wi_aload_0 ct_125_0 ?_
    refine wi_iload_1 ct_125_1 ?_
    refine wi_cv1 (ls' := [some _, some _]) ct_125_2 (Nat.le_of_ble_eq_true rfl) (by decide) (sT_31 hS) rfl (by decide) rfl rfl (Nat.le_of_ble_eq_true rfl) ?_
    refine wi_aload_0 ct_120_0 ?_
    refine wi_iload_1 ct_120_1 ?_
    refine wi_ic ct_120_2 kc_0 ?_
    refine wi_aload_0 ct_120_3 ?_
    refine wi_gf (x := fi 31 0) ct_120_4 (sT_31 hS) rfl rfl rfl ?_
    refine wi_ic ct_120_7 kc_1 ?_
    refine wi_isub ct_120_8 rfl ?_
    refine wi_cv3 (ls' := [some _, some _, some _, some _]) ct_120_9 (Nat.le_of_ble_eq_true rfl) (by decide) (sT_31 hS) rfl (by decide) rfl rfl (Nat.le_of_ble_eq_true rfl) ?_
    refine c_in rfl ki_0 (i_sub rfl ki_1 (by omega)) (fun h => absurd h (by omega)) (fun _ => wk_i ?_)
    refine wi_iret ct_120_12 (by decide) (wk_i ?_)
    refine wi_ifeq_t ct_125_5 ki_0 (by decide) ?_
    refine wi_ic ct_125_18 kc_m1 ?_
    refine wi_iret ct_125_19 rfl (wk_i ?_)
    refine wi_iceq_t ct_211_392 ki_m1 ki_m1 (by decide) ?_
    exact kk own g fi fl hR (by omega) (by omega)
