/-! Tapes. -/
section ATP
variable {L : Nat} {xs : Nat → Int32} {own : Nat → Nat} {g : am_G} {fi fi2 : am_I} {fl fl2 : am_L} {T : Nat}
theorem tp_t : ∀ T, T < 6 → am_tT (25 + T) = 21 := by decide
theorem tp_l : ∀ T, T < 6 → am_tL (25 + T) = 60 := by decide
theorem tp_m : ∀ T, T < 6 → (24, T, 25 + T) ∈ am_tR := by decide
theorem tp_T (h : SF L g) (hT : T < 6) : g.1 (25 + T) = 21 := (h.1 (25 + T) (by omega)).trans (tp_t T hT)
theorem tp_L (h : SF L g) (hT : T < 6) : g.2.1 (25 + T) = 60 := (h.2.1 (25 + T) (by omega)).trans (tp_l T hT)
theorem tp_R (h : SF L g) (hT : T < 6) : g.2.2.1 24 T = some (25 + T) := h.2.2.1 (24, T, 25 + T) (tp_m T hT)
theorem Rel.tp (hR : Rel L xs own g fi fl) (hw : ∀ q, q ≠ 22 → q ≠ 23 → q ≠ 68 → q ≠ 69 → fi2 q = fi q) (hp : RP fi2 fl2) : Rel L xs own g fi2 fl2 := by
  obtain ⟨hS, hsc, hC, hK, hX, hV, hT, hP, hB, hN, hQ, hZ, hI⟩ := hR
  have h5 := hC.1.2.2
  have w := fun q (e : ¬ (q = 22 ∨ q = 23 ∨ q = 68 ∨ q = 69)) => hw q (by omega) (by omega) (by omega) (by omega)
  have hf : rl_fr (fun _ => True) own own g g fi fi2 := am_frL (fun q hq => ?_)
  · refine ⟨hS, fun j => (congrFun (w am_SC (by unfold am_SC; decide)) j).trans (hsc j), ?_, ?_, ?_, ?_, ?_, hp, ?_, hN, ?_, hZ, ?_⟩
    · unfold RC
      rw [w 1 (by decide), w 0 (by decide), w 17 (by decide), w 21 (by decide), w 31 (by decide)]
      exact hC
    · unfold RK
      rw [w 3 (by decide), w 38 (by decide)]
      exact hK
    · unfold RX RL
      rw [w 18 (by decide), w 39 (by decide), w 47 (by decide), w 31 (by decide)]
      exact hX
    · unfold RV
      rw [w 4 (by decide), w 5 (by decide), w 6 (by decide), w 7 (by decide), w 8 (by decide), w 50 (by decide), w 51 (by decide), w 52 (by decide), w 53 (by decide), w 54 (by decide), w 31 (by decide)]
      exact hV
    · unfold RT
      rw [w 21 (by decide), w 67 (by decide), w 31 (by decide)]
      exact hT
    · exact hB.fr h5 hf (fun _ _ => trivial) (by rw [w 31 (by decide)]) rfl (w 32 (by decide)) (w 33 (by decide)) (w 34 (by decide)) (w 35 (by decide)) (w 36 (by decide)) (w 37 (by decide))
    · exact hQ.fr hf trivial (by rw [w 31 (by decide)]) rfl (w 40 (by decide)) (w 41 (by decide)) (w 42 (by decide)) (w 43 (by decide)) (w 44 (by decide)) (w 45 (by decide))
    · exact hI.fr h5 hf (fun _ _ _ => trivial) (fun _ _ => rfl) rfl (fun _ _ => rfl) (Int.le_of_eq (by rw [w 31 (by decide)])) (Int.le_of_eq (by rw [w 31 (by decide)])) (by rw [w 31 (by decide)]) (by rw [w 31 (by decide)]) (by rw [w 31 (by decide)]) (by rw [w 31 (by decide)]) (by rw [w 31 (by decide)]) (by rw [w 31 (by decide)]) (fun b _ => congrFun (w 32 (by decide)) b) (fun b _ => congrFun (w 33 (by decide)) b) (w 55 (by decide)) (w 56 (by decide)) (w 57 (by decide)) (w 58 (by decide)) (w 59 (by decide)) (w 60 (by decide)) (w 61 (by decide)) (w 62 (by decide)) (w 63 (by decide)) (w 64 (by decide)) (w 65 (by decide)) (w 66 (by decide))
  · exact w q (by omega)
/-- one tape anew -/
theorem RP.put (h : RP fi fl) (hT : T < 6) (e : ∀ t, t ≠ T → fi2 22 t = fi 22 t ∧ fi2 23 t = fi 23 t ∧ fi2 68 t = fi 68 t ∧ fi2 69 t = fi 69 t) (el : ∀ t j : Nat, t < 6 → j < 60 → t ≠ T → fl2 (25 + t) j = fl (25 + t) j ∧ fl2 70 (60 * t + j) = fl 70 (60 * t + j)) (hn : fi2 22 T = fi2 68 T ∧ fi2 23 T = fi2 69 T ∧ (-1 ≤ (fi2 68 T).toInt ∧ (fi2 68 T).toInt ≤ 4) ∧ (0 ≤ (fi2 69 T).toInt ∧ (fi2 69 T).toInt ≤ 60) ∧ ((fi2 68 T).toInt = -1 → (fi2 69 T).toInt = 0) ∧ ∀ k : Nat, (k : Int) < (fi2 69 T).toInt → fl2 (25 + T) k = fl2 70 (60 * T + k)) : RP fi2 fl2 := by
  intro t ht
  rcases Decidable.em (t = T) with k | k
  · rw [k]
    exact hn
  · obtain ⟨e1, e2, e3, e4⟩ := e t k
    obtain ⟨h1, h2, h3, h4, h5, h6⟩ := h t ht
    rw [e1, e2, e3, e4]
    refine ⟨h1, h2, h3, h4, h5, fun j hj => ?_⟩
    obtain ⟨a, b⟩ := el t j ht (by omega) k
    rw [a, b]
    exact h6 j hj
end ATP
theorem lcmp_ne {x y : Int64} (h : x ≠ y) : (lg_cmp x y).toInt ≠ 0 := by
  intro e
  rcases Int.lt_or_le x.toInt y.toInt with k | k
  · have : lg_cmp x y = -1 := by
      unfold lg_cmp
      simp [Int64.lt_iff_toInt_lt, h, show ¬ y.toInt < x.toInt by omega]
    rw [this] at e
    exact absurd e (by decide)
  · have hn : x.toInt ≠ y.toInt := fun q => h (Int64.toInt.inj q)
    rw [lcmp_1 rfl rfl (show y.toInt < x.toInt by omega)] at e
    exact absurd e (by decide)
/-- coins told and judged: eq k that the k-th is so, from place I on, of N, the row's length M -/
def jgV (eq : Nat → Bool) (I M : Int) : Nat → Nat → Int
  | 0, _ => -5
  | n + 1, k => if I < 0 ∨ M ≤ I + k then 100 + k else if eq k = true then jgV eq I M n (k + 1) else k
theorem jgV_1 {eq : Nat → Bool} {I M : Int} {n k : Nat} (h : I < 0 ∨ M ≤ I + k) : jgV eq I M (n + 1) k = 100 + k := if_pos h
theorem jgV_2 {eq : Nat → Bool} {I M : Int} {n k : Nat} (h : 0 ≤ I ∧ I + k < M) (h2 : eq k = false) : jgV eq I M (n + 1) k = k := (if_neg (by omega)).trans (if_neg (by rw [h2]; decide))
theorem jgV_3 {eq : Nat → Bool} {I M : Int} {n k : Nat} (h : 0 ≤ I ∧ I + k < M) (h2 : eq k = true) : jgV eq I M (n + 1) k = jgV eq I M n (k + 1) := (if_neg (by omega)).trans (if_pos h2)
theorem lcmp_m1 {x y : Int64} {X Y : Int} (hx : x.toInt = X) (hy : y.toInt = Y) (h : X < Y) : lg_cmp x y = -1 := by
  subst hx; subst hy
  unfold lg_cmp
  have hn : ¬ x = y := fun e => by
    rw [e] at h
    omega
  simp [Int64.lt_iff_toInt_lt, hn, show ¬ y.toInt < x.toInt by omega]
theorem cp2_in {α : Type} {f : Nat → Nat → α} {a0 a1 sp dp n j : Nat} (h : dp ≤ j ∧ j < dp + n) : cp2 f a0 a1 sp dp n a1 j = f a0 (sp + (j - dp)) := if_pos ⟨rfl, h⟩
theorem cp2_nj {α : Type} {f : Nat → Nat → α} {a0 a1 sp dp n q j : Nat} (h : ¬ (dp ≤ j ∧ j < dp + n)) : cp2 f a0 a1 sp dp n q j = f q j := if_neg (fun k => h k.2)
set_option maxHeartbeats 2000000 in
theorem op_read {L I : Nat} {xs : Nat → Int32} {own : Nat → Nat} {d : Nat} {g : am_G} {fi : am_I} {fl : am_L} {P : Option Value → am_G → am_I → am_L → Prop} {i : Int32} (hi : i.toInt = (I : Int)) (hI6 : I + 6 ≤ L) (hL : L ≤ 3072) (hR : Rel L xs own g fi fl) (hnx : am_nx g ≤ 800000) (kk : ∀ own' g' fi' fl', Rel L xs own' g' fi' fl' → am_nx g' ≤ am_nx g + 30 → am_sl g' ≤ am_sl g + 1000 → WP (d + 60) 211 1359 [some (.retAddr 0), some (.ref 0), some (.ref 31), some (.int i)] [] g' fi' fl' P) : WP (d + 60) 211 1262 [some (.retAddr 0), some (.ref 0), some (.ref 31), some (.int i)] [] g fi fl P := by
  obtain ⟨hS, hsc, hC, hK, hX, hV, hT, hP, hB, hN, hQ, hZ, hI⟩ := id hR
  obtain ⟨⟨c0, c0a, c0b⟩, ⟨c1, c1a, c1b⟩, ⟨c2, c2a, c2b⟩, ⟨c3, c3a, c3b⟩, ⟨c4, c4a, c4b⟩, ⟨c5, c5a, c5b⟩, ⟨c6, c6a, c6b⟩, ⟨c7, c7a, c7b⟩, c8, c9⟩ := id hC
  obtain ⟨a1, e1⟩ : ∃ a, xs (I + 1) = a := ⟨_, rfl⟩
  obtain ⟨a2, e2⟩ : ∃ a, xs (I + 2) = a := ⟨_, rfl⟩
  by_cases hAT : 0 ≤ (a1).toInt ∧ (a1).toInt ≤ 5
  · skip
    obtain ⟨T, hTa⟩ : ∃ T : Nat, (a1).toInt = (T : Int) := ⟨(a1).toInt.toNat, by omega⟩
    have hTn := hTa
    have hT6 : T < 6 := by omega
    obtain ⟨p22T, p23T, ⟨paT, pbT⟩, ⟨pcT, pdT⟩, pzT, tvT⟩ := id (hP T (by omega))
    refine wi_aload_1 ct_211_1262 ?_
    refine wi_aloadT_0 ct_211_1263 ?_
    refine wi_iload_3 ct_211_1264 ?_
    refine wi_ic ct_211_1265 kc_1 ?_
    refine wi_iadd ct_211_1266 rfl ?_
    refine wi_ialdT (j := I + 1) (x := a1) ct_211_1267 (sL_SC hS) (i_in (i_add hi ki_1 (by omega)) (by omega)) (i_cl (i_add hi ki_1 (by omega)) (by omega)) (((hsc _).trans e1)) ?_
    refine wi_aloadT_0 ct_211_1268 ?_
    refine wi_iload_3 ct_211_1269 ?_
    refine wi_ic ct_211_1270 kc_2 ?_
    refine wi_iadd ct_211_1271 rfl ?_
    refine wi_ialdT (j := I + 2) (x := a2) ct_211_1272 (sL_SC hS) (i_in (i_add hi ki_2 (by omega)) (by omega)) (i_cl (i_add hi ki_2 (by omega)) (by omega)) (((hsc _).trans e2)) ?_
    refine wi_cv2 (ls' := [some _, some _, some _]) ct_211_1273 (Nat.le_of_ble_eq_true rfl) (by decide) (sT_0 hS) rfl (by decide) rfl rfl (Nat.le_of_ble_eq_true rfl) ?_
    refine wi_iload_1 ct_101_0 ?_
    refine wi_cs1 (ls' := [some _]) ct_101_1 (Nat.le_of_ble_eq_true rfl) rfl (Nat.le_of_ble_eq_true rfl) ?_
    refine wi_iload_0 ct_114_0 ?_
    refine wi_ic ct_114_1 kc_0 ?_
    refine wi_ic ct_114_2 kc_5 ?_
    refine wi_cs3 (ls' := [some _, some _, some _]) ct_114_3 (Nat.le_of_ble_eq_true rfl) rfl (Nat.le_of_ble_eq_true rfl) ?_
    refine c_within hTn ki_0 ki_5 (fun _ => wk_i ?_) (fun h => absurd h (by omega))
    refine wi_iret ct_114_6 (by decide) (wk_i ?_)
    refine wi_ifeq_f ct_101_4 ki_1 (by decide) ?_
    refine wi_iload_2 ct_101_7 ?_
    refine wi_iflt ct_101_8 rfl (fun h1 => ?_) (fun h1 => ?_)
    · skip
      refine wi_lc ct_101_21 kl_m9223372036854775808 ?_
      refine wi_lret ct_101_24 (wk_j ?_)
      refine wi_aload_2 ct_211_1276 ?_
      refine wi_aloadT_0 ct_211_1277 ?_
      refine wi_iload_3 ct_211_1278 ?_
      refine wi_ic ct_211_1279 kc_1 ?_
      refine wi_iadd ct_211_1280 rfl ?_
      refine wi_ialdT (j := I + 1) (x := a1) ct_211_1281 (sL_SC hS) (i_in (i_add hi ki_1 (by omega)) (by omega)) (i_cl (i_add hi ki_1 (by omega)) (by omega)) (((hsc _).trans e1)) ?_
      refine wi_aloadT_0 ct_211_1282 ?_
      refine wi_iload_3 ct_211_1283 ?_
      refine wi_ic ct_211_1284 kc_2 ?_
      refine wi_iadd ct_211_1285 rfl ?_
      refine wi_ialdT (j := I + 2) (x := a2) ct_211_1286 (sL_SC hS) (i_in (i_add hi ki_2 (by omega)) (by omega)) (i_cl (i_add hi ki_2 (by omega)) (by omega)) (((hsc _).trans e2)) ?_
      refine wi_cv2 (ls' := [some _, some _, some _]) ct_211_1287 (Nat.le_of_ble_eq_true rfl) (by decide) (sT_31 hS) rfl (by decide) rfl rfl (Nat.le_of_ble_eq_true rfl) ?_
      refine wi_aload_0 ct_198_0 ?_
      refine wi_iload_1 ct_198_1 ?_
      refine wi_cv1 (ls' := [some _, some _]) ct_198_2 (Nat.le_of_ble_eq_true rfl) (by decide) (sT_31 hS) rfl (by decide) rfl rfl (Nat.le_of_ble_eq_true rfl) ?_
      refine wi_aload_0 ct_194_0 ?_
      refine wi_iload_1 ct_194_1 ?_
      refine wi_ic ct_194_2 kc_0 ?_
      refine wi_ic ct_194_3 kc_5 ?_
      refine wi_cv3 (ls' := [some _, some _, some _, some _]) ct_194_4 (Nat.le_of_ble_eq_true rfl) (by decide) (sT_31 hS) rfl (by decide) rfl rfl (Nat.le_of_ble_eq_true rfl) ?_
      refine c_in hTn ki_0 ki_5 (fun _ => wk_i ?_) (fun h => absurd h (by omega))
      refine wi_iret ct_194_7 (by decide) (wk_i ?_)
      refine wi_ifeq_f ct_198_5 ki_1 (by decide) ?_
      refine wi_aload_0 ct_198_8 ?_
      refine wi_gfr ct_198_9 (sT_31 hS) rfl (sR_31_67 hS) ?_
      refine wi_iload_1 ct_198_12 ?_
      refine wi_iald (x := fi 68 T) ct_198_13 (sT_68 hS) (sL_68 hS) (i_in hTn (by omega)) (i_cl (k := T) hTn (by omega)) rfl ?_
      refine wi_iflt ct_198_14 rfl (fun h2 => ?_) (fun h2 => ?_)
      · skip
        refine wi_lc ct_198_34 kl_m9223372036854775808 ?_
        refine wi_goto ct_198_37 ?_
        refine wi_lret ct_198_51 (wk_j ?_)
        refine wi_lcmp ct_211_1290 (lcmp_eq rfl) ?_
        refine wi_ifeq_t ct_211_1291 ki_0 (by decide) ?_
        exact kk own g fi fl hR (by omega) (by omega)
      · skip
        refine wi_aload_0 ct_198_17 ?_
        refine wi_iload_2 ct_198_18 ?_
        refine wi_ic ct_198_19 kc_0 ?_
        refine wi_aload_0 ct_198_20 ?_
        refine wi_gfr ct_198_21 (sT_31 hS) rfl (sR_31_68 hS) ?_
        refine wi_iload_1 ct_198_24 ?_
        refine wi_iald (x := fi 69 T) ct_198_25 (sT_69 hS) (sL_69 hS) (i_in hTn (by omega)) (i_cl (k := T) hTn (by omega)) rfl ?_
        refine wi_ic ct_198_26 kc_1 ?_
        refine wi_isub ct_198_27 rfl ?_
        refine wi_cv3 (ls' := [some _, some _, some _, some _]) ct_198_28 (Nat.le_of_ble_eq_true rfl) (by decide) (sT_31 hS) rfl (by decide) rfl rfl (Nat.le_of_ble_eq_true rfl) ?_
        refine c_in rfl ki_0 (i_sub rfl ki_1 (by omega)) (fun h => absurd h (by omega)) (fun _ => wk_i ?_)
        refine wi_ifne_f ct_198_31 ki_0 (by decide) ?_
        refine wi_lc ct_198_34 kl_m9223372036854775808 ?_
        refine wi_goto ct_198_37 ?_
        refine wi_lret ct_198_51 (wk_j ?_)
        refine wi_lcmp ct_211_1290 (lcmp_eq rfl) ?_
        refine wi_ifeq_t ct_211_1291 ki_0 (by decide) ?_
        exact kk own g fi fl hR (by omega) (by omega)
    · skip
      refine wi_iload_2 ct_101_11 ?_
      refine wi_aload_0 ct_101_12 ?_
      refine wi_gfr ct_101_13 (sT_0 hS) rfl (sR_0_12 hS) ?_
      refine wi_iload_1 ct_101_16 ?_
      refine wi_iald (x := fi 69 T) ct_101_17 (sT_23 hS) (sL_23 hS) (i_in hTn (by omega)) (i_cl (k := T) hTn (by omega)) p23T ?_
      refine wi_iclt ct_101_18 rfl rfl (fun h3 => ?_) (fun h3 => ?_)
      · skip
        refine wi_aload_0 ct_101_25 ?_
        refine wi_gfr ct_101_26 (sT_0 hS) rfl (sR_0_13 hS) ?_
        refine wi_iload_1 ct_101_29 ?_
        refine wi_aald ct_101_30 (sT_24 hS) (by decide) (sL_24 hS) (i_in hTn (by omega)) (i_cl (k := T) hTn (by omega)) (tp_R hS hT6) ?_
        refine wi_iload_2 ct_101_31 ?_
        obtain ⟨N4, hN4⟩ : ∃ k : Nat, (a2).toInt = (k : Int) := ⟨_, (i_cln (by omega)).symm⟩
        refine wi_lald (x := fl 70 (60 * T + N4)) ct_101_32 (tp_T hS hT6) (tp_L hS hT6) (i_in hN4 (by omega)) (i_cl (k := N4) hN4 (by omega)) (tvT N4 (by omega)) ?_
        refine wi_lret ct_101_33 (wk_j ?_)
        refine wi_aload_2 ct_211_1276 ?_
        refine wi_aloadT_0 ct_211_1277 ?_
        refine wi_iload_3 ct_211_1278 ?_
        refine wi_ic ct_211_1279 kc_1 ?_
        refine wi_iadd ct_211_1280 rfl ?_
        refine wi_ialdT (j := I + 1) (x := a1) ct_211_1281 (sL_SC hS) (i_in (i_add hi ki_1 (by omega)) (by omega)) (i_cl (i_add hi ki_1 (by omega)) (by omega)) (((hsc _).trans e1)) ?_
        refine wi_aloadT_0 ct_211_1282 ?_
        refine wi_iload_3 ct_211_1283 ?_
        refine wi_ic ct_211_1284 kc_2 ?_
        refine wi_iadd ct_211_1285 rfl ?_
        refine wi_ialdT (j := I + 2) (x := a2) ct_211_1286 (sL_SC hS) (i_in (i_add hi ki_2 (by omega)) (by omega)) (i_cl (i_add hi ki_2 (by omega)) (by omega)) (((hsc _).trans e2)) ?_
        refine wi_cv2 (ls' := [some _, some _, some _]) ct_211_1287 (Nat.le_of_ble_eq_true rfl) (by decide) (sT_31 hS) rfl (by decide) rfl rfl (Nat.le_of_ble_eq_true rfl) ?_
        refine wi_aload_0 ct_198_0 ?_
        refine wi_iload_1 ct_198_1 ?_
        refine wi_cv1 (ls' := [some _, some _]) ct_198_2 (Nat.le_of_ble_eq_true rfl) (by decide) (sT_31 hS) rfl (by decide) rfl rfl (Nat.le_of_ble_eq_true rfl) ?_
        refine wi_aload_0 ct_194_0 ?_
        refine wi_iload_1 ct_194_1 ?_
        refine wi_ic ct_194_2 kc_0 ?_
        refine wi_ic ct_194_3 kc_5 ?_
        refine wi_cv3 (ls' := [some _, some _, some _, some _]) ct_194_4 (Nat.le_of_ble_eq_true rfl) (by decide) (sT_31 hS) rfl (by decide) rfl rfl (Nat.le_of_ble_eq_true rfl) ?_
        refine c_in hTn ki_0 ki_5 (fun _ => wk_i ?_) (fun h => absurd h (by omega))
        refine wi_iret ct_194_7 (by decide) (wk_i ?_)
        refine wi_ifeq_f ct_198_5 ki_1 (by decide) ?_
        refine wi_aload_0 ct_198_8 ?_
        refine wi_gfr ct_198_9 (sT_31 hS) rfl (sR_31_67 hS) ?_
        refine wi_iload_1 ct_198_12 ?_
        refine wi_iald (x := fi 68 T) ct_198_13 (sT_68 hS) (sL_68 hS) (i_in hTn (by omega)) (i_cl (k := T) hTn (by omega)) rfl ?_
        refine wi_iflt_f ct_198_14 rfl (by omega) ?_
        refine wi_aload_0 ct_198_17 ?_
        refine wi_iload_2 ct_198_18 ?_
        refine wi_ic ct_198_19 kc_0 ?_
        refine wi_aload_0 ct_198_20 ?_
        refine wi_gfr ct_198_21 (sT_31 hS) rfl (sR_31_68 hS) ?_
        refine wi_iload_1 ct_198_24 ?_
        refine wi_iald (x := fi 69 T) ct_198_25 (sT_69 hS) (sL_69 hS) (i_in hTn (by omega)) (i_cl (k := T) hTn (by omega)) rfl ?_
        refine wi_ic ct_198_26 kc_1 ?_
        refine wi_isub ct_198_27 rfl ?_
        refine wi_cv3 (ls' := [some _, some _, some _, some _]) ct_198_28 (Nat.le_of_ble_eq_true rfl) (by decide) (sT_31 hS) rfl (by decide) rfl rfl (Nat.le_of_ble_eq_true rfl) ?_
        refine c_in hN4 ki_0 (i_sub rfl ki_1 (by omega)) (fun _ => wk_i ?_) (fun h => absurd h (by omega))
        refine wi_ifne_t ct_198_31 ki_1 (by decide) ?_
        refine wi_aload_0 ct_198_40 ?_
        refine wi_gfr ct_198_41 (sT_31 hS) rfl (sR_31_69 hS) ?_
        refine wi_ic ct_198_44 kc_60 ?_
        refine wi_iload_1 ct_198_46 ?_
        refine wi_imul ct_198_47 rfl ?_
        refine wi_iload_2 ct_198_48 ?_
        refine wi_iadd ct_198_49 rfl ?_
        refine wi_lald (x := fl 70 (60 * T + N4)) ct_198_50 (sT_70 hS) (sL_70 hS) (i_in (i_add (i_mul ki_60 hTn (by omega)) hN4 (by omega)) (by omega)) (i_cl (k := (60 * T + N4)) (i_add (i_mul ki_60 hTn (by omega)) hN4 (by omega)) (by omega)) rfl ?_
        refine wi_lret ct_198_51 (wk_j ?_)
        refine wi_lcmp ct_211_1290 (lcmp_eq rfl) ?_
        refine wi_ifeq_t ct_211_1291 ki_0 (by decide) ?_
        exact kk own g fi fl hR (by omega) (by omega)
      · skip
        refine wi_lc ct_101_21 kl_m9223372036854775808 ?_
        refine wi_lret ct_101_24 (wk_j ?_)
        refine wi_aload_2 ct_211_1276 ?_
        refine wi_aloadT_0 ct_211_1277 ?_
        refine wi_iload_3 ct_211_1278 ?_
        refine wi_ic ct_211_1279 kc_1 ?_
        refine wi_iadd ct_211_1280 rfl ?_
        refine wi_ialdT (j := I + 1) (x := a1) ct_211_1281 (sL_SC hS) (i_in (i_add hi ki_1 (by omega)) (by omega)) (i_cl (i_add hi ki_1 (by omega)) (by omega)) (((hsc _).trans e1)) ?_
        refine wi_aloadT_0 ct_211_1282 ?_
        refine wi_iload_3 ct_211_1283 ?_
        refine wi_ic ct_211_1284 kc_2 ?_
        refine wi_iadd ct_211_1285 rfl ?_
        refine wi_ialdT (j := I + 2) (x := a2) ct_211_1286 (sL_SC hS) (i_in (i_add hi ki_2 (by omega)) (by omega)) (i_cl (i_add hi ki_2 (by omega)) (by omega)) (((hsc _).trans e2)) ?_
        refine wi_cv2 (ls' := [some _, some _, some _]) ct_211_1287 (Nat.le_of_ble_eq_true rfl) (by decide) (sT_31 hS) rfl (by decide) rfl rfl (Nat.le_of_ble_eq_true rfl) ?_
        refine wi_aload_0 ct_198_0 ?_
        refine wi_iload_1 ct_198_1 ?_
        refine wi_cv1 (ls' := [some _, some _]) ct_198_2 (Nat.le_of_ble_eq_true rfl) (by decide) (sT_31 hS) rfl (by decide) rfl rfl (Nat.le_of_ble_eq_true rfl) ?_
        refine wi_aload_0 ct_194_0 ?_
        refine wi_iload_1 ct_194_1 ?_
        refine wi_ic ct_194_2 kc_0 ?_
        refine wi_ic ct_194_3 kc_5 ?_
        refine wi_cv3 (ls' := [some _, some _, some _, some _]) ct_194_4 (Nat.le_of_ble_eq_true rfl) (by decide) (sT_31 hS) rfl (by decide) rfl rfl (Nat.le_of_ble_eq_true rfl) ?_
        refine c_in hTn ki_0 ki_5 (fun _ => wk_i ?_) (fun h => absurd h (by omega))
        refine wi_iret ct_194_7 (by decide) (wk_i ?_)
        refine wi_ifeq_f ct_198_5 ki_1 (by decide) ?_
        refine wi_aload_0 ct_198_8 ?_
        refine wi_gfr ct_198_9 (sT_31 hS) rfl (sR_31_67 hS) ?_
        refine wi_iload_1 ct_198_12 ?_
        refine wi_iald (x := fi 68 T) ct_198_13 (sT_68 hS) (sL_68 hS) (i_in hTn (by omega)) (i_cl (k := T) hTn (by omega)) rfl ?_
        refine wi_iflt ct_198_14 rfl (fun h5 => ?_) (fun h5 => ?_)
        · skip
          refine wi_lc ct_198_34 kl_m9223372036854775808 ?_
          refine wi_goto ct_198_37 ?_
          refine wi_lret ct_198_51 (wk_j ?_)
          refine wi_lcmp ct_211_1290 (lcmp_eq rfl) ?_
          refine wi_ifeq_t ct_211_1291 ki_0 (by decide) ?_
          exact kk own g fi fl hR (by omega) (by omega)
        · skip
          refine wi_aload_0 ct_198_17 ?_
          refine wi_iload_2 ct_198_18 ?_
          refine wi_ic ct_198_19 kc_0 ?_
          refine wi_aload_0 ct_198_20 ?_
          refine wi_gfr ct_198_21 (sT_31 hS) rfl (sR_31_68 hS) ?_
          refine wi_iload_1 ct_198_24 ?_
          refine wi_iald (x := fi 69 T) ct_198_25 (sT_69 hS) (sL_69 hS) (i_in hTn (by omega)) (i_cl (k := T) hTn (by omega)) rfl ?_
          refine wi_ic ct_198_26 kc_1 ?_
          refine wi_isub ct_198_27 rfl ?_
          refine wi_cv3 (ls' := [some _, some _, some _, some _]) ct_198_28 (Nat.le_of_ble_eq_true rfl) (by decide) (sT_31 hS) rfl (by decide) rfl rfl (Nat.le_of_ble_eq_true rfl) ?_
          refine c_in rfl ki_0 (i_sub rfl ki_1 (by omega)) (fun h => absurd h (by omega)) (fun _ => wk_i ?_)
          refine wi_ifne_f ct_198_31 ki_0 (by decide) ?_
          refine wi_lc ct_198_34 kl_m9223372036854775808 ?_
          refine wi_goto ct_198_37 ?_
          refine wi_lret ct_198_51 (wk_j ?_)
          refine wi_lcmp ct_211_1290 (lcmp_eq rfl) ?_
          refine wi_ifeq_t ct_211_1291 ki_0 (by decide) ?_
          exact kk own g fi fl hR (by omega) (by omega)
  · skip
    refine wi_aload_1 ct_211_1262 ?_
    refine wi_aloadT_0 ct_211_1263 ?_
    refine wi_iload_3 ct_211_1264 ?_
    refine wi_ic ct_211_1265 kc_1 ?_
    refine wi_iadd ct_211_1266 rfl ?_
    refine wi_ialdT (j := I + 1) (x := a1) ct_211_1267 (sL_SC hS) (i_in (i_add hi ki_1 (by omega)) (by omega)) (i_cl (i_add hi ki_1 (by omega)) (by omega)) (((hsc _).trans e1)) ?_
    refine wi_aloadT_0 ct_211_1268 ?_
    refine wi_iload_3 ct_211_1269 ?_
    refine wi_ic ct_211_1270 kc_2 ?_
    refine wi_iadd ct_211_1271 rfl ?_
    refine wi_ialdT (j := I + 2) (x := a2) ct_211_1272 (sL_SC hS) (i_in (i_add hi ki_2 (by omega)) (by omega)) (i_cl (i_add hi ki_2 (by omega)) (by omega)) (((hsc _).trans e2)) ?_
    refine wi_cv2 (ls' := [some _, some _, some _]) ct_211_1273 (Nat.le_of_ble_eq_true rfl) (by decide) (sT_0 hS) rfl (by decide) rfl rfl (Nat.le_of_ble_eq_true rfl) ?_
    refine wi_iload_1 ct_101_0 ?_
    refine wi_cs1 (ls' := [some _]) ct_101_1 (Nat.le_of_ble_eq_true rfl) rfl (Nat.le_of_ble_eq_true rfl) ?_
    refine wi_iload_0 ct_114_0 ?_
    refine wi_ic ct_114_1 kc_0 ?_
    refine wi_ic ct_114_2 kc_5 ?_
    refine wi_cs3 (ls' := [some _, some _, some _]) ct_114_3 (Nat.le_of_ble_eq_true rfl) rfl (Nat.le_of_ble_eq_true rfl) ?_
    refine c_within rfl ki_0 ki_5 (fun h => absurd h (by omega)) (fun _ => wk_i ?_)
    refine wi_iret ct_114_6 (by decide) (wk_i ?_)
    refine wi_ifeq_t ct_101_4 ki_0 (by decide) ?_
    refine wi_lc ct_101_21 kl_m9223372036854775808 ?_
    refine wi_lret ct_101_24 (wk_j ?_)
    refine wi_aload_2 ct_211_1276 ?_
    refine wi_aloadT_0 ct_211_1277 ?_
    refine wi_iload_3 ct_211_1278 ?_
    refine wi_ic ct_211_1279 kc_1 ?_
    refine wi_iadd ct_211_1280 rfl ?_
    refine wi_ialdT (j := I + 1) (x := a1) ct_211_1281 (sL_SC hS) (i_in (i_add hi ki_1 (by omega)) (by omega)) (i_cl (i_add hi ki_1 (by omega)) (by omega)) (((hsc _).trans e1)) ?_
    refine wi_aloadT_0 ct_211_1282 ?_
    refine wi_iload_3 ct_211_1283 ?_
    refine wi_ic ct_211_1284 kc_2 ?_
    refine wi_iadd ct_211_1285 rfl ?_
    refine wi_ialdT (j := I + 2) (x := a2) ct_211_1286 (sL_SC hS) (i_in (i_add hi ki_2 (by omega)) (by omega)) (i_cl (i_add hi ki_2 (by omega)) (by omega)) (((hsc _).trans e2)) ?_
    refine wi_cv2 (ls' := [some _, some _, some _]) ct_211_1287 (Nat.le_of_ble_eq_true rfl) (by decide) (sT_31 hS) rfl (by decide) rfl rfl (Nat.le_of_ble_eq_true rfl) ?_
    refine wi_aload_0 ct_198_0 ?_
    refine wi_iload_1 ct_198_1 ?_
    refine wi_cv1 (ls' := [some _, some _]) ct_198_2 (Nat.le_of_ble_eq_true rfl) (by decide) (sT_31 hS) rfl (by decide) rfl rfl (Nat.le_of_ble_eq_true rfl) ?_
    refine wi_aload_0 ct_194_0 ?_
    refine wi_iload_1 ct_194_1 ?_
    refine wi_ic ct_194_2 kc_0 ?_
    refine wi_ic ct_194_3 kc_5 ?_
    refine wi_cv3 (ls' := [some _, some _, some _, some _]) ct_194_4 (Nat.le_of_ble_eq_true rfl) (by decide) (sT_31 hS) rfl (by decide) rfl rfl (Nat.le_of_ble_eq_true rfl) ?_
    refine c_in rfl ki_0 ki_5 (fun h => absurd h (by omega)) (fun _ => wk_i ?_)
    refine wi_iret ct_194_7 (by decide) (wk_i ?_)
    refine wi_ifeq_t ct_198_5 ki_0 (by decide) ?_
    refine wi_lc ct_198_34 kl_m9223372036854775808 ?_
    refine wi_goto ct_198_37 ?_
    refine wi_lret ct_198_51 (wk_j ?_)
    refine wi_lcmp ct_211_1290 (lcmp_eq rfl) ?_
    refine wi_ifeq_t ct_211_1291 ki_0 (by decide) ?_
    exact kk own g fi fl hR (by omega) (by omega)
set_option maxHeartbeats 2000000 in
theorem op_item {L I : Nat} {xs : Nat → Int32} {own : Nat → Nat} {d : Nat} {g : am_G} {fi : am_I} {fl : am_L} {P : Option Value → am_G → am_I → am_L → Prop} {i : Int32} (hi : i.toInt = (I : Int)) (hI6 : I + 6 ≤ L) (hL : L ≤ 3072) (hR : Rel L xs own g fi fl) (hnx : am_nx g ≤ 800000) (kk : ∀ own' g' fi' fl', Rel L xs own' g' fi' fl' → am_nx g' ≤ am_nx g + 30 → am_sl g' ≤ am_sl g + 1000 → WP (d + 60) 211 1359 [some (.retAddr 0), some (.ref 0), some (.ref 31), some (.int i)] [] g' fi' fl' P) : WP (d + 60) 211 1189 [some (.retAddr 0), some (.ref 0), some (.ref 31), some (.int i)] [] g fi fl P := by
  obtain ⟨hS, hsc, hC, hK, hX, hV, hT, hP, hB, hN, hQ, hZ, hI⟩ := id hR
  obtain ⟨⟨c0, c0a, c0b⟩, ⟨c1, c1a, c1b⟩, ⟨c2, c2a, c2b⟩, ⟨c3, c3a, c3b⟩, ⟨c4, c4a, c4b⟩, ⟨c5, c5a, c5b⟩, ⟨c6, c6a, c6b⟩, ⟨c7, c7a, c7b⟩, c8, c9⟩ := id hC
  obtain ⟨a1, e1⟩ : ∃ a, xs (I + 1) = a := ⟨_, rfl⟩
  obtain ⟨a2, e2⟩ : ∃ a, xs (I + 2) = a := ⟨_, rfl⟩
  obtain ⟨a3, e3⟩ : ∃ a, xs (I + 3) = a := ⟨_, rfl⟩
  obtain ⟨a4, e4⟩ : ∃ a, xs (I + 4) = a := ⟨_, rfl⟩
  by_cases hAT : 0 ≤ (a1).toInt ∧ (a1).toInt ≤ 5
  · skip
    obtain ⟨T, hTa⟩ : ∃ T : Nat, (a1).toInt = (T : Int) := ⟨(a1).toInt.toNat, by omega⟩
    have hTn := hTa
    have hT6 : T < 6 := by omega
    obtain ⟨p22T, p23T, ⟨paT, pbT⟩, ⟨pcT, pdT⟩, pzT, tvT⟩ := id (hP T (by omega))
    refine wi_aload_1 ct_211_1189 ?_
    refine wi_aloadT_0 ct_211_1190 ?_
    refine wi_iload_3 ct_211_1191 ?_
    refine wi_ic ct_211_1192 kc_1 ?_
    refine wi_iadd ct_211_1193 rfl ?_
    refine wi_ialdT (j := I + 1) (x := a1) ct_211_1194 (sL_SC hS) (i_in (i_add hi ki_1 (by omega)) (by omega)) (i_cl (i_add hi ki_1 (by omega)) (by omega)) (((hsc _).trans e1)) ?_
    refine wi_aloadT_0 ct_211_1195 ?_
    refine wi_iload_3 ct_211_1196 ?_
    refine wi_ic ct_211_1197 kc_2 ?_
    refine wi_iadd ct_211_1198 rfl ?_
    refine wi_ialdT (j := I + 2) (x := a2) ct_211_1199 (sL_SC hS) (i_in (i_add hi ki_2 (by omega)) (by omega)) (i_cl (i_add hi ki_2 (by omega)) (by omega)) (((hsc _).trans e2)) ?_
    refine wi_aloadT_0 ct_211_1200 ?_
    refine wi_iload_3 ct_211_1201 ?_
    refine wi_ic ct_211_1202 kc_3 ?_
    refine wi_iadd ct_211_1203 rfl ?_
    refine wi_ialdT (j := I + 3) (x := a3) ct_211_1204 (sL_SC hS) (i_in (i_add hi ki_3 (by omega)) (by omega)) (i_cl (i_add hi ki_3 (by omega)) (by omega)) (((hsc _).trans e3)) ?_
    refine wi_i2l ct_211_1205 rfl ?_
    refine wi_ic ct_211_1206 kc_32 ?_
    refine wi_lshl ct_211_1208 rfl ?_
    refine wi_aloadT_0 ct_211_1209 ?_
    refine wi_iload_3 ct_211_1210 ?_
    refine wi_ic ct_211_1211 kc_4 ?_
    refine wi_iadd ct_211_1212 rfl ?_
    refine wi_ialdT (j := I + 4) (x := a4) ct_211_1213 (sL_SC hS) (i_in (i_add hi ki_4 (by omega)) (by omega)) (i_cl (i_add hi ki_4 (by omega)) (by omega)) (((hsc _).trans e4)) ?_
    refine wi_i2l ct_211_1214 rfl ?_
    refine wi_lc ct_211_1215 kl_4294967295 ?_
    refine wi_land ct_211_1218 rfl ?_
    refine wi_lor ct_211_1219 rfl ?_
    refine wi_cv3 (ls' := [some _, some _, some _, some _, none]) ct_211_1220 (Nat.le_of_ble_eq_true rfl) (by decide) (sT_0 hS) rfl (by decide) rfl rfl (Nat.le_of_ble_eq_true rfl) ?_
    refine wi_iload_1 ct_100_0 ?_
    refine wi_cs1 (ls' := [some _]) ct_100_1 (Nat.le_of_ble_eq_true rfl) rfl (Nat.le_of_ble_eq_true rfl) ?_
    refine wi_iload_0 ct_114_0 ?_
    refine wi_ic ct_114_1 kc_0 ?_
    refine wi_ic ct_114_2 kc_5 ?_
    refine wi_cs3 (ls' := [some _, some _, some _]) ct_114_3 (Nat.le_of_ble_eq_true rfl) rfl (Nat.le_of_ble_eq_true rfl) ?_
    refine c_within hTn ki_0 ki_5 (fun _ => wk_i ?_) (fun h => absurd h (by omega))
    refine wi_iret ct_114_6 (by decide) (wk_i ?_)
    refine wi_ifne_t ct_100_4 ki_1 (by decide) ?_
    refine wi_aload_0 ct_100_9 ?_
    refine wi_iload_1 ct_100_10 ?_
    refine wi_cv1 (ls' := [some _, some _]) ct_100_11 (Nat.le_of_ble_eq_true rfl) (by decide) (sT_0 hS) rfl (by decide) rfl rfl (Nat.le_of_ble_eq_true rfl) ?_
    refine wi_aload_0 ct_115_0 ?_
    refine wi_gfr ct_115_1 (sT_0 hS) rfl (sR_0_11 hS) ?_
    refine wi_iload_1 ct_115_4 ?_
    refine wi_iald (x := fi 68 T) ct_115_5 (sT_22 hS) (sL_22 hS) (i_in hTn (by omega)) (i_cl (k := T) hTn (by omega)) p22T ?_
    refine wi_ic ct_115_6 kc_m1 ?_
    refine wi_iceq ct_115_7 rfl ki_m1 (fun h1 => ?_) (fun h1 => ?_)
    · skip
      refine wi_ic ct_115_14 kc_0 ?_
      refine wi_iret ct_115_15 (by decide) (wk_i ?_)
      refine wi_ifne_f ct_100_14 ki_0 (by decide) ?_
      refine wi_ic ct_100_17 kc_m11 ?_
      refine wi_iret ct_100_19 rfl (wk_i ?_)
      refine wi_aload_2 ct_211_1223 ?_
      refine wi_aloadT_0 ct_211_1224 ?_
      refine wi_iload_3 ct_211_1225 ?_
      refine wi_ic ct_211_1226 kc_1 ?_
      refine wi_iadd ct_211_1227 rfl ?_
      refine wi_ialdT (j := I + 1) (x := a1) ct_211_1228 (sL_SC hS) (i_in (i_add hi ki_1 (by omega)) (by omega)) (i_cl (i_add hi ki_1 (by omega)) (by omega)) (((hsc _).trans e1)) ?_
      refine wi_aloadT_0 ct_211_1229 ?_
      refine wi_iload_3 ct_211_1230 ?_
      refine wi_ic ct_211_1231 kc_2 ?_
      refine wi_iadd ct_211_1232 rfl ?_
      refine wi_ialdT (j := I + 2) (x := a2) ct_211_1233 (sL_SC hS) (i_in (i_add hi ki_2 (by omega)) (by omega)) (i_cl (i_add hi ki_2 (by omega)) (by omega)) (((hsc _).trans e2)) ?_
      refine wi_aloadT_0 ct_211_1234 ?_
      refine wi_iload_3 ct_211_1235 ?_
      refine wi_ic ct_211_1236 kc_3 ?_
      refine wi_iadd ct_211_1237 rfl ?_
      refine wi_ialdT (j := I + 3) (x := a3) ct_211_1238 (sL_SC hS) (i_in (i_add hi ki_3 (by omega)) (by omega)) (i_cl (i_add hi ki_3 (by omega)) (by omega)) (((hsc _).trans e3)) ?_
      refine wi_i2l ct_211_1239 rfl ?_
      refine wi_ic ct_211_1240 kc_32 ?_
      refine wi_lshl ct_211_1242 rfl ?_
      refine wi_aloadT_0 ct_211_1243 ?_
      refine wi_iload_3 ct_211_1244 ?_
      refine wi_ic ct_211_1245 kc_4 ?_
      refine wi_iadd ct_211_1246 rfl ?_
      refine wi_ialdT (j := I + 4) (x := a4) ct_211_1247 (sL_SC hS) (i_in (i_add hi ki_4 (by omega)) (by omega)) (i_cl (i_add hi ki_4 (by omega)) (by omega)) (((hsc _).trans e4)) ?_
      refine wi_i2l ct_211_1248 rfl ?_
      refine wi_lc ct_211_1249 kl_4294967295 ?_
      refine wi_land ct_211_1252 rfl ?_
      refine wi_lor ct_211_1253 rfl ?_
      refine wi_cv3 (ls' := [some _, some _, some _, some _, none]) ct_211_1254 (Nat.le_of_ble_eq_true rfl) (by decide) (sT_31 hS) rfl (by decide) rfl rfl (Nat.le_of_ble_eq_true rfl) ?_
      refine wi_aload_0 ct_197_0 ?_
      refine wi_iload_1 ct_197_1 ?_
      refine wi_cv1 (ls' := [some _, some _]) ct_197_2 (Nat.le_of_ble_eq_true rfl) (by decide) (sT_31 hS) rfl (by decide) rfl rfl (Nat.le_of_ble_eq_true rfl) ?_
      refine wi_aload_0 ct_194_0 ?_
      refine wi_iload_1 ct_194_1 ?_
      refine wi_ic ct_194_2 kc_0 ?_
      refine wi_ic ct_194_3 kc_5 ?_
      refine wi_cv3 (ls' := [some _, some _, some _, some _]) ct_194_4 (Nat.le_of_ble_eq_true rfl) (by decide) (sT_31 hS) rfl (by decide) rfl rfl (Nat.le_of_ble_eq_true rfl) ?_
      refine c_in hTn ki_0 ki_5 (fun _ => wk_i ?_) (fun h => absurd h (by omega))
      refine wi_iret ct_194_7 (by decide) (wk_i ?_)
      refine wi_ifne_t ct_197_5 ki_1 (by decide) ?_
      refine wi_aload_0 ct_197_10 ?_
      refine wi_gfr ct_197_11 (sT_31 hS) rfl (sR_31_67 hS) ?_
      refine wi_iload_1 ct_197_14 ?_
      refine wi_iald (x := fi 68 T) ct_197_15 (sT_68 hS) (sL_68 hS) (i_in hTn (by omega)) (i_cl (k := T) hTn (by omega)) rfl ?_
      refine wi_ifge_f ct_197_16 rfl (by omega) ?_
      refine wi_ic ct_197_19 kc_m11 ?_
      refine wi_iret ct_197_21 rfl (wk_i ?_)
      refine wi_iceq_t ct_211_1257 ki_m11 ki_m11 (by decide) ?_
      exact kk own g fi fl hR (by omega) (by omega)
    · skip
      refine wi_ic ct_115_10 kc_1 ?_
      refine wi_goto ct_115_11 ?_
      refine wi_iret ct_115_15 (by decide) (wk_i ?_)
      refine wi_ifne_t ct_100_14 ki_1 (by decide) ?_
      refine wi_iload_2 ct_100_20 ?_
      refine wi_iflt ct_100_21 rfl (fun h2 => ?_) (fun h2 => ?_)
      · skip
        refine wi_ic ct_100_34 kc_m13 ?_
        refine wi_iret ct_100_36 rfl (wk_i ?_)
        refine wi_aload_2 ct_211_1223 ?_
        refine wi_aloadT_0 ct_211_1224 ?_
        refine wi_iload_3 ct_211_1225 ?_
        refine wi_ic ct_211_1226 kc_1 ?_
        refine wi_iadd ct_211_1227 rfl ?_
        refine wi_ialdT (j := I + 1) (x := a1) ct_211_1228 (sL_SC hS) (i_in (i_add hi ki_1 (by omega)) (by omega)) (i_cl (i_add hi ki_1 (by omega)) (by omega)) (((hsc _).trans e1)) ?_
        refine wi_aloadT_0 ct_211_1229 ?_
        refine wi_iload_3 ct_211_1230 ?_
        refine wi_ic ct_211_1231 kc_2 ?_
        refine wi_iadd ct_211_1232 rfl ?_
        refine wi_ialdT (j := I + 2) (x := a2) ct_211_1233 (sL_SC hS) (i_in (i_add hi ki_2 (by omega)) (by omega)) (i_cl (i_add hi ki_2 (by omega)) (by omega)) (((hsc _).trans e2)) ?_
        refine wi_aloadT_0 ct_211_1234 ?_
        refine wi_iload_3 ct_211_1235 ?_
        refine wi_ic ct_211_1236 kc_3 ?_
        refine wi_iadd ct_211_1237 rfl ?_
        refine wi_ialdT (j := I + 3) (x := a3) ct_211_1238 (sL_SC hS) (i_in (i_add hi ki_3 (by omega)) (by omega)) (i_cl (i_add hi ki_3 (by omega)) (by omega)) (((hsc _).trans e3)) ?_
        refine wi_i2l ct_211_1239 rfl ?_
        refine wi_ic ct_211_1240 kc_32 ?_
        refine wi_lshl ct_211_1242 rfl ?_
        refine wi_aloadT_0 ct_211_1243 ?_
        refine wi_iload_3 ct_211_1244 ?_
        refine wi_ic ct_211_1245 kc_4 ?_
        refine wi_iadd ct_211_1246 rfl ?_
        refine wi_ialdT (j := I + 4) (x := a4) ct_211_1247 (sL_SC hS) (i_in (i_add hi ki_4 (by omega)) (by omega)) (i_cl (i_add hi ki_4 (by omega)) (by omega)) (((hsc _).trans e4)) ?_
        refine wi_i2l ct_211_1248 rfl ?_
        refine wi_lc ct_211_1249 kl_4294967295 ?_
        refine wi_land ct_211_1252 rfl ?_
        refine wi_lor ct_211_1253 rfl ?_
        refine wi_cv3 (ls' := [some _, some _, some _, some _, none]) ct_211_1254 (Nat.le_of_ble_eq_true rfl) (by decide) (sT_31 hS) rfl (by decide) rfl rfl (Nat.le_of_ble_eq_true rfl) ?_
        refine wi_aload_0 ct_197_0 ?_
        refine wi_iload_1 ct_197_1 ?_
        refine wi_cv1 (ls' := [some _, some _]) ct_197_2 (Nat.le_of_ble_eq_true rfl) (by decide) (sT_31 hS) rfl (by decide) rfl rfl (Nat.le_of_ble_eq_true rfl) ?_
        refine wi_aload_0 ct_194_0 ?_
        refine wi_iload_1 ct_194_1 ?_
        refine wi_ic ct_194_2 kc_0 ?_
        refine wi_ic ct_194_3 kc_5 ?_
        refine wi_cv3 (ls' := [some _, some _, some _, some _]) ct_194_4 (Nat.le_of_ble_eq_true rfl) (by decide) (sT_31 hS) rfl (by decide) rfl rfl (Nat.le_of_ble_eq_true rfl) ?_
        refine c_in hTn ki_0 ki_5 (fun _ => wk_i ?_) (fun h => absurd h (by omega))
        refine wi_iret ct_194_7 (by decide) (wk_i ?_)
        refine wi_ifne_t ct_197_5 ki_1 (by decide) ?_
        refine wi_aload_0 ct_197_10 ?_
        refine wi_gfr ct_197_11 (sT_31 hS) rfl (sR_31_67 hS) ?_
        refine wi_iload_1 ct_197_14 ?_
        refine wi_iald (x := fi 68 T) ct_197_15 (sT_68 hS) (sL_68 hS) (i_in hTn (by omega)) (i_cl (k := T) hTn (by omega)) rfl ?_
        refine wi_ifge_t ct_197_16 rfl (by omega) ?_
        refine wi_aload_0 ct_197_22 ?_
        refine wi_iload_2 ct_197_23 ?_
        refine wi_ic ct_197_24 kc_0 ?_
        refine wi_aload_0 ct_197_25 ?_
        refine wi_gfr ct_197_26 (sT_31 hS) rfl (sR_31_68 hS) ?_
        refine wi_iload_1 ct_197_29 ?_
        refine wi_iald (x := fi 69 T) ct_197_30 (sT_69 hS) (sL_69 hS) (i_in hTn (by omega)) (i_cl (k := T) hTn (by omega)) rfl ?_
        refine wi_ic ct_197_31 kc_1 ?_
        refine wi_isub ct_197_32 rfl ?_
        refine wi_cv3 (ls' := [some _, some _, some _, some _]) ct_197_33 (Nat.le_of_ble_eq_true rfl) (by decide) (sT_31 hS) rfl (by decide) rfl rfl (Nat.le_of_ble_eq_true rfl) ?_
        refine c_in rfl ki_0 (i_sub rfl ki_1 (by omega)) (fun h => absurd h (by omega)) (fun _ => wk_i ?_)
        refine wi_ifne_f ct_197_36 ki_0 (by decide) ?_
        refine wi_ic ct_197_39 kc_m13 ?_
        refine wi_iret ct_197_41 rfl (wk_i ?_)
        refine wi_iceq_t ct_211_1257 ki_m13 ki_m13 (by decide) ?_
        exact kk own g fi fl hR (by omega) (by omega)
      · skip
        refine wi_iload_2 ct_100_24 ?_
        refine wi_aload_0 ct_100_25 ?_
        refine wi_gfr ct_100_26 (sT_0 hS) rfl (sR_0_12 hS) ?_
        refine wi_iload_1 ct_100_29 ?_
        refine wi_iald (x := fi 69 T) ct_100_30 (sT_23 hS) (sL_23 hS) (i_in hTn (by omega)) (i_cl (k := T) hTn (by omega)) p23T ?_
        refine wi_iclt ct_100_31 rfl rfl (fun h3 => ?_) (fun h3 => ?_)
        · skip
          refine wi_aload_0 ct_100_37 ?_
          refine wi_gfr ct_100_38 (sT_0 hS) rfl (sR_0_13 hS) ?_
          refine wi_iload_1 ct_100_41 ?_
          refine wi_aald ct_100_42 (sT_24 hS) (by decide) (sL_24 hS) (i_in hTn (by omega)) (i_cl (k := T) hTn (by omega)) (tp_R hS hT6) ?_
          refine wi_iload_2 ct_100_43 ?_
          refine wi_aload_0 ct_100_44 ?_
          refine wi_gfr ct_100_45 (sT_0 hS) rfl (sR_0_11 hS) ?_
          refine wi_iload_1 ct_100_48 ?_
          refine wi_iald (x := fi 68 T) ct_100_49 (sT_22 hS) (sL_22 hS) (i_in hTn (by omega)) (i_cl (k := T) hTn (by omega)) p22T ?_
          refine wi_lload_3 ct_100_50 ?_
          refine wi_cs2 (ls' := [some _, some _, none]) ct_100_51 (Nat.le_of_ble_eq_true rfl) rfl (Nat.le_of_ble_eq_true rfl) ?_
          refine wi_iload_0 ct_117_0 ?_
          rcases Decidable.em ((fi 68 T).toInt = 0) with h4 | h4
          · refine wi_tsw (X := 0) (t := 36) ct_117_1 (by omega) rfl ?_
            refine wi_lload_1 ct_117_36 ?_
            refine wi_l2i ct_117_37 rfl ?_
            refine wi_i2b ct_117_38 rfl ?_
            refine wi_i2l ct_117_39 rfl ?_
            refine wi_lret ct_117_40 (wk_j ?_)
            obtain ⟨N5, hN5⟩ : ∃ k : Nat, (a2).toInt = (k : Int) := ⟨_, (i_cln (by omega)).symm⟩
            refine wi_last ct_100_54 (tp_T hS hT6) (tp_L hS hT6) (i_in hN5 (by omega)) (i_cl (k := N5) hN5 (by omega)) ?_
            refine wi_ic ct_100_55 kc_1 ?_
            refine wi_iret ct_100_56 rfl (wk_i ?_)
            refine wi_aload_2 ct_211_1223 ?_
            refine wi_aloadT_0 ct_211_1224 ?_
            refine wi_iload_3 ct_211_1225 ?_
            refine wi_ic ct_211_1226 kc_1 ?_
            refine wi_iadd ct_211_1227 rfl ?_
            refine wi_ialdT (j := I + 1) (x := a1) ct_211_1228 (sL_SC hS) (i_in (i_add hi ki_1 (by omega)) (by omega)) (i_cl (i_add hi ki_1 (by omega)) (by omega)) (((hsc _).trans e1)) ?_
            refine wi_aloadT_0 ct_211_1229 ?_
            refine wi_iload_3 ct_211_1230 ?_
            refine wi_ic ct_211_1231 kc_2 ?_
            refine wi_iadd ct_211_1232 rfl ?_
            refine wi_ialdT (j := I + 2) (x := a2) ct_211_1233 (sL_SC hS) (i_in (i_add hi ki_2 (by omega)) (by omega)) (i_cl (i_add hi ki_2 (by omega)) (by omega)) (((hsc _).trans e2)) ?_
            refine wi_aloadT_0 ct_211_1234 ?_
            refine wi_iload_3 ct_211_1235 ?_
            refine wi_ic ct_211_1236 kc_3 ?_
            refine wi_iadd ct_211_1237 rfl ?_
            refine wi_ialdT (j := I + 3) (x := a3) ct_211_1238 (sL_SC hS) (i_in (i_add hi ki_3 (by omega)) (by omega)) (i_cl (i_add hi ki_3 (by omega)) (by omega)) (((hsc _).trans e3)) ?_
            refine wi_i2l ct_211_1239 rfl ?_
            refine wi_ic ct_211_1240 kc_32 ?_
            refine wi_lshl ct_211_1242 rfl ?_
            refine wi_aloadT_0 ct_211_1243 ?_
            refine wi_iload_3 ct_211_1244 ?_
            refine wi_ic ct_211_1245 kc_4 ?_
            refine wi_iadd ct_211_1246 rfl ?_
            refine wi_ialdT (j := I + 4) (x := a4) ct_211_1247 (sL_SC hS) (i_in (i_add hi ki_4 (by omega)) (by omega)) (i_cl (i_add hi ki_4 (by omega)) (by omega)) (((hsc _).trans e4)) ?_
            refine wi_i2l ct_211_1248 rfl ?_
            refine wi_lc ct_211_1249 kl_4294967295 ?_
            refine wi_land ct_211_1252 rfl ?_
            refine wi_lor ct_211_1253 rfl ?_
            refine wi_cv3 (ls' := [some _, some _, some _, some _, none]) ct_211_1254 (Nat.le_of_ble_eq_true rfl) (by decide) (sT_31 hS) rfl (by decide) rfl rfl (Nat.le_of_ble_eq_true rfl) ?_
            refine wi_aload_0 ct_197_0 ?_
            refine wi_iload_1 ct_197_1 ?_
            refine wi_cv1 (ls' := [some _, some _]) ct_197_2 (Nat.le_of_ble_eq_true rfl) (by decide) (sT_31 hS) rfl (by decide) rfl rfl (Nat.le_of_ble_eq_true rfl) ?_
            refine wi_aload_0 ct_194_0 ?_
            refine wi_iload_1 ct_194_1 ?_
            refine wi_ic ct_194_2 kc_0 ?_
            refine wi_ic ct_194_3 kc_5 ?_
            refine wi_cv3 (ls' := [some _, some _, some _, some _]) ct_194_4 (Nat.le_of_ble_eq_true rfl) (by decide) (sT_31 hS) rfl (by decide) rfl rfl (Nat.le_of_ble_eq_true rfl) ?_
            refine c_in hTn ki_0 ki_5 (fun _ => wk_i ?_) (fun h => absurd h (by omega))
            refine wi_iret ct_194_7 (by decide) (wk_i ?_)
            refine wi_ifne_t ct_197_5 ki_1 (by decide) ?_
            refine wi_aload_0 ct_197_10 ?_
            refine wi_gfr ct_197_11 (sT_31 hS) rfl (sR_31_67 hS) ?_
            refine wi_iload_1 ct_197_14 ?_
            refine wi_iald (x := fi 68 T) ct_197_15 (sT_68 hS) (sL_68 hS) (i_in hTn (by omega)) (i_cl (k := T) hTn (by omega)) rfl ?_
            refine wi_ifge_t ct_197_16 rfl (by omega) ?_
            refine wi_aload_0 ct_197_22 ?_
            refine wi_iload_2 ct_197_23 ?_
            refine wi_ic ct_197_24 kc_0 ?_
            refine wi_aload_0 ct_197_25 ?_
            refine wi_gfr ct_197_26 (sT_31 hS) rfl (sR_31_68 hS) ?_
            refine wi_iload_1 ct_197_29 ?_
            refine wi_iald (x := fi 69 T) ct_197_30 (sT_69 hS) (sL_69 hS) (i_in hTn (by omega)) (i_cl (k := T) hTn (by omega)) rfl ?_
            refine wi_ic ct_197_31 kc_1 ?_
            refine wi_isub ct_197_32 rfl ?_
            refine wi_cv3 (ls' := [some _, some _, some _, some _]) ct_197_33 (Nat.le_of_ble_eq_true rfl) (by decide) (sT_31 hS) rfl (by decide) rfl rfl (Nat.le_of_ble_eq_true rfl) ?_
            refine c_in hN5 ki_0 (i_sub rfl ki_1 (by omega)) (fun _ => wk_i ?_) (fun h => absurd h (by omega))
            refine wi_ifne_t ct_197_36 ki_1 (by decide) ?_
            refine wi_aload_0 ct_197_42 ?_
            refine wi_gfr ct_197_43 (sT_31 hS) rfl (sR_31_69 hS) ?_
            refine wi_ic ct_197_46 kc_60 ?_
            refine wi_iload_1 ct_197_48 ?_
            refine wi_imul ct_197_49 rfl ?_
            refine wi_iload_2 ct_197_50 ?_
            refine wi_iadd ct_197_51 rfl ?_
            refine wi_aload_0 ct_197_52 ?_
            refine wi_aload_0 ct_197_53 ?_
            refine wi_gfr ct_197_54 (sT_31 hS) rfl (sR_31_67 hS) ?_
            refine wi_iload_1 ct_197_57 ?_
            refine wi_iald (x := fi 68 T) ct_197_58 (sT_68 hS) (sL_68 hS) (i_in hTn (by omega)) (i_cl (k := T) hTn (by omega)) rfl ?_
            refine wi_lload_3 ct_197_59 ?_
            refine wi_cv2 (ls' := [some _, some _, some _, none]) ct_197_60 (Nat.le_of_ble_eq_true rfl) (by decide) (sT_31 hS) rfl (by decide) rfl rfl (Nat.le_of_ble_eq_true rfl) ?_
            refine wi_iload_1 ct_196_0 ?_
            refine wi_ifne_f ct_196_1 rfl (by omega) ?_
            refine wi_lload_2 ct_196_4 ?_
            refine wi_l2i ct_196_5 rfl ?_
            refine wi_i2b ct_196_6 rfl ?_
            refine wi_i2l ct_196_7 rfl ?_
            refine wi_goto ct_196_8 ?_
            refine wi_lret ct_196_54 (wk_j ?_)
            refine wi_last ct_197_63 (sT_70 hS) (sL_70 hS) (i_in (i_add (i_mul ki_60 hTn (by omega)) hN5 (by omega)) (by omega)) (i_cl (k := (60 * T + N5)) (i_add (i_mul ki_60 hTn (by omega)) hN5 (by omega)) (by omega)) ?_
            refine wi_ic ct_197_64 kc_1 ?_
            refine wi_iret ct_197_65 rfl (wk_i ?_)
            refine wi_iceq_t ct_211_1257 ki_1 ki_1 (by decide) ?_
            refine kk own g fi _ (hR.tp (fun q h1 h2 h3 h4 => rfl) (hP.put hT6 (fun t ht => ⟨rfl, rfl, rfl, rfl⟩) (fun t j ht hj hne => ⟨Eq.trans (up2_nq (by omega)) (up2_nq (by omega)), Eq.trans (up2_nj (by omega)) (up2_nq (by omega))⟩) ⟨p22T, p23T, ⟨paT, pbT⟩, ⟨pcT, pdT⟩, pzT, fun k hk => ?_⟩)) (by omega) (by omega)
            rcases Decidable.em (k = N5) with ek | ek
            · rw [ek]
              exact (Eq.trans (up2_nq (by omega)) up2_eq).trans up2_eq.symm
            · exact (Eq.trans (up2_nq (by omega)) (up2_nj ek)).trans ((tvT k hk).trans (Eq.trans (up2_nj (by omega)) (up2_nq (by omega))).symm)
          rcases Decidable.em ((fi 68 T).toInt = 1) with h6 | h6
          · refine wi_tsw (X := 1) (t := 41) ct_117_1 (by omega) rfl ?_
            refine wi_lload_1 ct_117_41 ?_
            refine wi_l2i ct_117_42 rfl ?_
            refine wi_i2s ct_117_43 rfl ?_
            refine wi_i2l ct_117_44 rfl ?_
            refine wi_lret ct_117_45 (wk_j ?_)
            obtain ⟨N7, hN7⟩ : ∃ k : Nat, (a2).toInt = (k : Int) := ⟨_, (i_cln (by omega)).symm⟩
            refine wi_last ct_100_54 (tp_T hS hT6) (tp_L hS hT6) (i_in hN7 (by omega)) (i_cl (k := N7) hN7 (by omega)) ?_
            refine wi_ic ct_100_55 kc_1 ?_
            refine wi_iret ct_100_56 rfl (wk_i ?_)
            refine wi_aload_2 ct_211_1223 ?_
            refine wi_aloadT_0 ct_211_1224 ?_
            refine wi_iload_3 ct_211_1225 ?_
            refine wi_ic ct_211_1226 kc_1 ?_
            refine wi_iadd ct_211_1227 rfl ?_
            refine wi_ialdT (j := I + 1) (x := a1) ct_211_1228 (sL_SC hS) (i_in (i_add hi ki_1 (by omega)) (by omega)) (i_cl (i_add hi ki_1 (by omega)) (by omega)) (((hsc _).trans e1)) ?_
            refine wi_aloadT_0 ct_211_1229 ?_
            refine wi_iload_3 ct_211_1230 ?_
            refine wi_ic ct_211_1231 kc_2 ?_
            refine wi_iadd ct_211_1232 rfl ?_
            refine wi_ialdT (j := I + 2) (x := a2) ct_211_1233 (sL_SC hS) (i_in (i_add hi ki_2 (by omega)) (by omega)) (i_cl (i_add hi ki_2 (by omega)) (by omega)) (((hsc _).trans e2)) ?_
            refine wi_aloadT_0 ct_211_1234 ?_
            refine wi_iload_3 ct_211_1235 ?_
            refine wi_ic ct_211_1236 kc_3 ?_
            refine wi_iadd ct_211_1237 rfl ?_
            refine wi_ialdT (j := I + 3) (x := a3) ct_211_1238 (sL_SC hS) (i_in (i_add hi ki_3 (by omega)) (by omega)) (i_cl (i_add hi ki_3 (by omega)) (by omega)) (((hsc _).trans e3)) ?_
            refine wi_i2l ct_211_1239 rfl ?_
            refine wi_ic ct_211_1240 kc_32 ?_
            refine wi_lshl ct_211_1242 rfl ?_
            refine wi_aloadT_0 ct_211_1243 ?_
            refine wi_iload_3 ct_211_1244 ?_
            refine wi_ic ct_211_1245 kc_4 ?_
            refine wi_iadd ct_211_1246 rfl ?_
            refine wi_ialdT (j := I + 4) (x := a4) ct_211_1247 (sL_SC hS) (i_in (i_add hi ki_4 (by omega)) (by omega)) (i_cl (i_add hi ki_4 (by omega)) (by omega)) (((hsc _).trans e4)) ?_
            refine wi_i2l ct_211_1248 rfl ?_
            refine wi_lc ct_211_1249 kl_4294967295 ?_
            refine wi_land ct_211_1252 rfl ?_
            refine wi_lor ct_211_1253 rfl ?_
            refine wi_cv3 (ls' := [some _, some _, some _, some _, none]) ct_211_1254 (Nat.le_of_ble_eq_true rfl) (by decide) (sT_31 hS) rfl (by decide) rfl rfl (Nat.le_of_ble_eq_true rfl) ?_
            refine wi_aload_0 ct_197_0 ?_
            refine wi_iload_1 ct_197_1 ?_
            refine wi_cv1 (ls' := [some _, some _]) ct_197_2 (Nat.le_of_ble_eq_true rfl) (by decide) (sT_31 hS) rfl (by decide) rfl rfl (Nat.le_of_ble_eq_true rfl) ?_
            refine wi_aload_0 ct_194_0 ?_
            refine wi_iload_1 ct_194_1 ?_
            refine wi_ic ct_194_2 kc_0 ?_
            refine wi_ic ct_194_3 kc_5 ?_
            refine wi_cv3 (ls' := [some _, some _, some _, some _]) ct_194_4 (Nat.le_of_ble_eq_true rfl) (by decide) (sT_31 hS) rfl (by decide) rfl rfl (Nat.le_of_ble_eq_true rfl) ?_
            refine c_in hTn ki_0 ki_5 (fun _ => wk_i ?_) (fun h => absurd h (by omega))
            refine wi_iret ct_194_7 (by decide) (wk_i ?_)
            refine wi_ifne_t ct_197_5 ki_1 (by decide) ?_
            refine wi_aload_0 ct_197_10 ?_
            refine wi_gfr ct_197_11 (sT_31 hS) rfl (sR_31_67 hS) ?_
            refine wi_iload_1 ct_197_14 ?_
            refine wi_iald (x := fi 68 T) ct_197_15 (sT_68 hS) (sL_68 hS) (i_in hTn (by omega)) (i_cl (k := T) hTn (by omega)) rfl ?_
            refine wi_ifge_t ct_197_16 rfl (by omega) ?_
            refine wi_aload_0 ct_197_22 ?_
            refine wi_iload_2 ct_197_23 ?_
            refine wi_ic ct_197_24 kc_0 ?_
            refine wi_aload_0 ct_197_25 ?_
            refine wi_gfr ct_197_26 (sT_31 hS) rfl (sR_31_68 hS) ?_
            refine wi_iload_1 ct_197_29 ?_
            refine wi_iald (x := fi 69 T) ct_197_30 (sT_69 hS) (sL_69 hS) (i_in hTn (by omega)) (i_cl (k := T) hTn (by omega)) rfl ?_
            refine wi_ic ct_197_31 kc_1 ?_
            refine wi_isub ct_197_32 rfl ?_
            refine wi_cv3 (ls' := [some _, some _, some _, some _]) ct_197_33 (Nat.le_of_ble_eq_true rfl) (by decide) (sT_31 hS) rfl (by decide) rfl rfl (Nat.le_of_ble_eq_true rfl) ?_
            refine c_in hN7 ki_0 (i_sub rfl ki_1 (by omega)) (fun _ => wk_i ?_) (fun h => absurd h (by omega))
            refine wi_ifne_t ct_197_36 ki_1 (by decide) ?_
            refine wi_aload_0 ct_197_42 ?_
            refine wi_gfr ct_197_43 (sT_31 hS) rfl (sR_31_69 hS) ?_
            refine wi_ic ct_197_46 kc_60 ?_
            refine wi_iload_1 ct_197_48 ?_
            refine wi_imul ct_197_49 rfl ?_
            refine wi_iload_2 ct_197_50 ?_
            refine wi_iadd ct_197_51 rfl ?_
            refine wi_aload_0 ct_197_52 ?_
            refine wi_aload_0 ct_197_53 ?_
            refine wi_gfr ct_197_54 (sT_31 hS) rfl (sR_31_67 hS) ?_
            refine wi_iload_1 ct_197_57 ?_
            refine wi_iald (x := fi 68 T) ct_197_58 (sT_68 hS) (sL_68 hS) (i_in hTn (by omega)) (i_cl (k := T) hTn (by omega)) rfl ?_
            refine wi_lload_3 ct_197_59 ?_
            refine wi_cv2 (ls' := [some _, some _, some _, none]) ct_197_60 (Nat.le_of_ble_eq_true rfl) (by decide) (sT_31 hS) rfl (by decide) rfl rfl (Nat.le_of_ble_eq_true rfl) ?_
            refine wi_iload_1 ct_196_0 ?_
            refine wi_ifne_t ct_196_1 rfl (by omega) ?_
            refine wi_iload_1 ct_196_11 ?_
            refine wi_ic ct_196_12 kc_1 ?_
            refine wi_icne_f ct_196_13 rfl ki_1 (by omega) ?_
            refine wi_lload_2 ct_196_16 ?_
            refine wi_l2i ct_196_17 rfl ?_
            refine wi_i2s ct_196_18 rfl ?_
            refine wi_i2l ct_196_19 rfl ?_
            refine wi_goto ct_196_20 ?_
            refine wi_lret ct_196_54 (wk_j ?_)
            refine wi_last ct_197_63 (sT_70 hS) (sL_70 hS) (i_in (i_add (i_mul ki_60 hTn (by omega)) hN7 (by omega)) (by omega)) (i_cl (k := (60 * T + N7)) (i_add (i_mul ki_60 hTn (by omega)) hN7 (by omega)) (by omega)) ?_
            refine wi_ic ct_197_64 kc_1 ?_
            refine wi_iret ct_197_65 rfl (wk_i ?_)
            refine wi_iceq_t ct_211_1257 ki_1 ki_1 (by decide) ?_
            refine kk own g fi _ (hR.tp (fun q h1 h2 h3 h4 => rfl) (hP.put hT6 (fun t ht => ⟨rfl, rfl, rfl, rfl⟩) (fun t j ht hj hne => ⟨Eq.trans (up2_nq (by omega)) (up2_nq (by omega)), Eq.trans (up2_nj (by omega)) (up2_nq (by omega))⟩) ⟨p22T, p23T, ⟨paT, pbT⟩, ⟨pcT, pdT⟩, pzT, fun k hk => ?_⟩)) (by omega) (by omega)
            rcases Decidable.em (k = N7) with ek | ek
            · rw [ek]
              exact (Eq.trans (up2_nq (by omega)) up2_eq).trans up2_eq.symm
            · exact (Eq.trans (up2_nq (by omega)) (up2_nj ek)).trans ((tvT k hk).trans (Eq.trans (up2_nj (by omega)) (up2_nq (by omega))).symm)
          rcases Decidable.em ((fi 68 T).toInt = 2) with h8 | h8
          · refine wi_tsw (X := 2) (t := 46) ct_117_1 (by omega) rfl ?_
            refine wi_lload_1 ct_117_46 ?_
            refine wi_l2i ct_117_47 rfl ?_
            refine wi_i2l ct_117_48 rfl ?_
            refine wi_lret ct_117_49 (wk_j ?_)
            obtain ⟨N9, hN9⟩ : ∃ k : Nat, (a2).toInt = (k : Int) := ⟨_, (i_cln (by omega)).symm⟩
            refine wi_last ct_100_54 (tp_T hS hT6) (tp_L hS hT6) (i_in hN9 (by omega)) (i_cl (k := N9) hN9 (by omega)) ?_
            refine wi_ic ct_100_55 kc_1 ?_
            refine wi_iret ct_100_56 rfl (wk_i ?_)
            refine wi_aload_2 ct_211_1223 ?_
            refine wi_aloadT_0 ct_211_1224 ?_
            refine wi_iload_3 ct_211_1225 ?_
            refine wi_ic ct_211_1226 kc_1 ?_
            refine wi_iadd ct_211_1227 rfl ?_
            refine wi_ialdT (j := I + 1) (x := a1) ct_211_1228 (sL_SC hS) (i_in (i_add hi ki_1 (by omega)) (by omega)) (i_cl (i_add hi ki_1 (by omega)) (by omega)) (((hsc _).trans e1)) ?_
            refine wi_aloadT_0 ct_211_1229 ?_
            refine wi_iload_3 ct_211_1230 ?_
            refine wi_ic ct_211_1231 kc_2 ?_
            refine wi_iadd ct_211_1232 rfl ?_
            refine wi_ialdT (j := I + 2) (x := a2) ct_211_1233 (sL_SC hS) (i_in (i_add hi ki_2 (by omega)) (by omega)) (i_cl (i_add hi ki_2 (by omega)) (by omega)) (((hsc _).trans e2)) ?_
            refine wi_aloadT_0 ct_211_1234 ?_
            refine wi_iload_3 ct_211_1235 ?_
            refine wi_ic ct_211_1236 kc_3 ?_
            refine wi_iadd ct_211_1237 rfl ?_
            refine wi_ialdT (j := I + 3) (x := a3) ct_211_1238 (sL_SC hS) (i_in (i_add hi ki_3 (by omega)) (by omega)) (i_cl (i_add hi ki_3 (by omega)) (by omega)) (((hsc _).trans e3)) ?_
            refine wi_i2l ct_211_1239 rfl ?_
            refine wi_ic ct_211_1240 kc_32 ?_
            refine wi_lshl ct_211_1242 rfl ?_
            refine wi_aloadT_0 ct_211_1243 ?_
            refine wi_iload_3 ct_211_1244 ?_
            refine wi_ic ct_211_1245 kc_4 ?_
            refine wi_iadd ct_211_1246 rfl ?_
            refine wi_ialdT (j := I + 4) (x := a4) ct_211_1247 (sL_SC hS) (i_in (i_add hi ki_4 (by omega)) (by omega)) (i_cl (i_add hi ki_4 (by omega)) (by omega)) (((hsc _).trans e4)) ?_
            refine wi_i2l ct_211_1248 rfl ?_
            refine wi_lc ct_211_1249 kl_4294967295 ?_
            refine wi_land ct_211_1252 rfl ?_
            refine wi_lor ct_211_1253 rfl ?_
            refine wi_cv3 (ls' := [some _, some _, some _, some _, none]) ct_211_1254 (Nat.le_of_ble_eq_true rfl) (by decide) (sT_31 hS) rfl (by decide) rfl rfl (Nat.le_of_ble_eq_true rfl) ?_
            refine wi_aload_0 ct_197_0 ?_
            refine wi_iload_1 ct_197_1 ?_
            refine wi_cv1 (ls' := [some _, some _]) ct_197_2 (Nat.le_of_ble_eq_true rfl) (by decide) (sT_31 hS) rfl (by decide) rfl rfl (Nat.le_of_ble_eq_true rfl) ?_
            refine wi_aload_0 ct_194_0 ?_
            refine wi_iload_1 ct_194_1 ?_
            refine wi_ic ct_194_2 kc_0 ?_
            refine wi_ic ct_194_3 kc_5 ?_
            refine wi_cv3 (ls' := [some _, some _, some _, some _]) ct_194_4 (Nat.le_of_ble_eq_true rfl) (by decide) (sT_31 hS) rfl (by decide) rfl rfl (Nat.le_of_ble_eq_true rfl) ?_
            refine c_in hTn ki_0 ki_5 (fun _ => wk_i ?_) (fun h => absurd h (by omega))
            refine wi_iret ct_194_7 (by decide) (wk_i ?_)
            refine wi_ifne_t ct_197_5 ki_1 (by decide) ?_
            refine wi_aload_0 ct_197_10 ?_
            refine wi_gfr ct_197_11 (sT_31 hS) rfl (sR_31_67 hS) ?_
            refine wi_iload_1 ct_197_14 ?_
            refine wi_iald (x := fi 68 T) ct_197_15 (sT_68 hS) (sL_68 hS) (i_in hTn (by omega)) (i_cl (k := T) hTn (by omega)) rfl ?_
            refine wi_ifge_t ct_197_16 rfl (by omega) ?_
            refine wi_aload_0 ct_197_22 ?_
            refine wi_iload_2 ct_197_23 ?_
            refine wi_ic ct_197_24 kc_0 ?_
            refine wi_aload_0 ct_197_25 ?_
            refine wi_gfr ct_197_26 (sT_31 hS) rfl (sR_31_68 hS) ?_
            refine wi_iload_1 ct_197_29 ?_
            refine wi_iald (x := fi 69 T) ct_197_30 (sT_69 hS) (sL_69 hS) (i_in hTn (by omega)) (i_cl (k := T) hTn (by omega)) rfl ?_
            refine wi_ic ct_197_31 kc_1 ?_
            refine wi_isub ct_197_32 rfl ?_
            refine wi_cv3 (ls' := [some _, some _, some _, some _]) ct_197_33 (Nat.le_of_ble_eq_true rfl) (by decide) (sT_31 hS) rfl (by decide) rfl rfl (Nat.le_of_ble_eq_true rfl) ?_
            refine c_in hN9 ki_0 (i_sub rfl ki_1 (by omega)) (fun _ => wk_i ?_) (fun h => absurd h (by omega))
            refine wi_ifne_t ct_197_36 ki_1 (by decide) ?_
            refine wi_aload_0 ct_197_42 ?_
            refine wi_gfr ct_197_43 (sT_31 hS) rfl (sR_31_69 hS) ?_
            refine wi_ic ct_197_46 kc_60 ?_
            refine wi_iload_1 ct_197_48 ?_
            refine wi_imul ct_197_49 rfl ?_
            refine wi_iload_2 ct_197_50 ?_
            refine wi_iadd ct_197_51 rfl ?_
            refine wi_aload_0 ct_197_52 ?_
            refine wi_aload_0 ct_197_53 ?_
            refine wi_gfr ct_197_54 (sT_31 hS) rfl (sR_31_67 hS) ?_
            refine wi_iload_1 ct_197_57 ?_
            refine wi_iald (x := fi 68 T) ct_197_58 (sT_68 hS) (sL_68 hS) (i_in hTn (by omega)) (i_cl (k := T) hTn (by omega)) rfl ?_
            refine wi_lload_3 ct_197_59 ?_
            refine wi_cv2 (ls' := [some _, some _, some _, none]) ct_197_60 (Nat.le_of_ble_eq_true rfl) (by decide) (sT_31 hS) rfl (by decide) rfl rfl (Nat.le_of_ble_eq_true rfl) ?_
            refine wi_iload_1 ct_196_0 ?_
            refine wi_ifne_t ct_196_1 rfl (by omega) ?_
            refine wi_iload_1 ct_196_11 ?_
            refine wi_ic ct_196_12 kc_1 ?_
            refine wi_icne_t ct_196_13 rfl ki_1 (by omega) ?_
            refine wi_iload_1 ct_196_23 ?_
            refine wi_ic ct_196_24 kc_2 ?_
            refine wi_icne_f ct_196_25 rfl ki_2 (by omega) ?_
            refine wi_lload_2 ct_196_28 ?_
            refine wi_l2i ct_196_29 rfl ?_
            refine wi_i2l ct_196_30 rfl ?_
            refine wi_goto ct_196_31 ?_
            refine wi_lret ct_196_54 (wk_j ?_)
            refine wi_last ct_197_63 (sT_70 hS) (sL_70 hS) (i_in (i_add (i_mul ki_60 hTn (by omega)) hN9 (by omega)) (by omega)) (i_cl (k := (60 * T + N9)) (i_add (i_mul ki_60 hTn (by omega)) hN9 (by omega)) (by omega)) ?_
            refine wi_ic ct_197_64 kc_1 ?_
            refine wi_iret ct_197_65 rfl (wk_i ?_)
            refine wi_iceq_t ct_211_1257 ki_1 ki_1 (by decide) ?_
            refine kk own g fi _ (hR.tp (fun q h1 h2 h3 h4 => rfl) (hP.put hT6 (fun t ht => ⟨rfl, rfl, rfl, rfl⟩) (fun t j ht hj hne => ⟨Eq.trans (up2_nq (by omega)) (up2_nq (by omega)), Eq.trans (up2_nj (by omega)) (up2_nq (by omega))⟩) ⟨p22T, p23T, ⟨paT, pbT⟩, ⟨pcT, pdT⟩, pzT, fun k hk => ?_⟩)) (by omega) (by omega)
            rcases Decidable.em (k = N9) with ek | ek
            · rw [ek]
              exact (Eq.trans (up2_nq (by omega)) up2_eq).trans up2_eq.symm
            · exact (Eq.trans (up2_nq (by omega)) (up2_nj ek)).trans ((tvT k hk).trans (Eq.trans (up2_nj (by omega)) (up2_nq (by omega))).symm)
          rcases Decidable.em ((fi 68 T).toInt = 3) with h10 | h10
          · refine wi_tsw (X := 3) (t := 62) ct_117_1 (by omega) rfl ?_
            refine wi_lload_1 ct_117_62 ?_
            refine wi_lret ct_117_63 (wk_j ?_)
            obtain ⟨N11, hN11⟩ : ∃ k : Nat, (a2).toInt = (k : Int) := ⟨_, (i_cln (by omega)).symm⟩
            refine wi_last ct_100_54 (tp_T hS hT6) (tp_L hS hT6) (i_in hN11 (by omega)) (i_cl (k := N11) hN11 (by omega)) ?_
            refine wi_ic ct_100_55 kc_1 ?_
            refine wi_iret ct_100_56 rfl (wk_i ?_)
            refine wi_aload_2 ct_211_1223 ?_
            refine wi_aloadT_0 ct_211_1224 ?_
            refine wi_iload_3 ct_211_1225 ?_
            refine wi_ic ct_211_1226 kc_1 ?_
            refine wi_iadd ct_211_1227 rfl ?_
            refine wi_ialdT (j := I + 1) (x := a1) ct_211_1228 (sL_SC hS) (i_in (i_add hi ki_1 (by omega)) (by omega)) (i_cl (i_add hi ki_1 (by omega)) (by omega)) (((hsc _).trans e1)) ?_
            refine wi_aloadT_0 ct_211_1229 ?_
            refine wi_iload_3 ct_211_1230 ?_
            refine wi_ic ct_211_1231 kc_2 ?_
            refine wi_iadd ct_211_1232 rfl ?_
            refine wi_ialdT (j := I + 2) (x := a2) ct_211_1233 (sL_SC hS) (i_in (i_add hi ki_2 (by omega)) (by omega)) (i_cl (i_add hi ki_2 (by omega)) (by omega)) (((hsc _).trans e2)) ?_
            refine wi_aloadT_0 ct_211_1234 ?_
            refine wi_iload_3 ct_211_1235 ?_
            refine wi_ic ct_211_1236 kc_3 ?_
            refine wi_iadd ct_211_1237 rfl ?_
            refine wi_ialdT (j := I + 3) (x := a3) ct_211_1238 (sL_SC hS) (i_in (i_add hi ki_3 (by omega)) (by omega)) (i_cl (i_add hi ki_3 (by omega)) (by omega)) (((hsc _).trans e3)) ?_
            refine wi_i2l ct_211_1239 rfl ?_
            refine wi_ic ct_211_1240 kc_32 ?_
            refine wi_lshl ct_211_1242 rfl ?_
            refine wi_aloadT_0 ct_211_1243 ?_
            refine wi_iload_3 ct_211_1244 ?_
            refine wi_ic ct_211_1245 kc_4 ?_
            refine wi_iadd ct_211_1246 rfl ?_
            refine wi_ialdT (j := I + 4) (x := a4) ct_211_1247 (sL_SC hS) (i_in (i_add hi ki_4 (by omega)) (by omega)) (i_cl (i_add hi ki_4 (by omega)) (by omega)) (((hsc _).trans e4)) ?_
            refine wi_i2l ct_211_1248 rfl ?_
            refine wi_lc ct_211_1249 kl_4294967295 ?_
            refine wi_land ct_211_1252 rfl ?_
            refine wi_lor ct_211_1253 rfl ?_
            refine wi_cv3 (ls' := [some _, some _, some _, some _, none]) ct_211_1254 (Nat.le_of_ble_eq_true rfl) (by decide) (sT_31 hS) rfl (by decide) rfl rfl (Nat.le_of_ble_eq_true rfl) ?_
            refine wi_aload_0 ct_197_0 ?_
            refine wi_iload_1 ct_197_1 ?_
            refine wi_cv1 (ls' := [some _, some _]) ct_197_2 (Nat.le_of_ble_eq_true rfl) (by decide) (sT_31 hS) rfl (by decide) rfl rfl (Nat.le_of_ble_eq_true rfl) ?_
            refine wi_aload_0 ct_194_0 ?_
            refine wi_iload_1 ct_194_1 ?_
            refine wi_ic ct_194_2 kc_0 ?_
            refine wi_ic ct_194_3 kc_5 ?_
            refine wi_cv3 (ls' := [some _, some _, some _, some _]) ct_194_4 (Nat.le_of_ble_eq_true rfl) (by decide) (sT_31 hS) rfl (by decide) rfl rfl (Nat.le_of_ble_eq_true rfl) ?_
            refine c_in hTn ki_0 ki_5 (fun _ => wk_i ?_) (fun h => absurd h (by omega))
            refine wi_iret ct_194_7 (by decide) (wk_i ?_)
            refine wi_ifne_t ct_197_5 ki_1 (by decide) ?_
            refine wi_aload_0 ct_197_10 ?_
            refine wi_gfr ct_197_11 (sT_31 hS) rfl (sR_31_67 hS) ?_
            refine wi_iload_1 ct_197_14 ?_
            refine wi_iald (x := fi 68 T) ct_197_15 (sT_68 hS) (sL_68 hS) (i_in hTn (by omega)) (i_cl (k := T) hTn (by omega)) rfl ?_
            refine wi_ifge_t ct_197_16 rfl (by omega) ?_
            refine wi_aload_0 ct_197_22 ?_
            refine wi_iload_2 ct_197_23 ?_
            refine wi_ic ct_197_24 kc_0 ?_
            refine wi_aload_0 ct_197_25 ?_
            refine wi_gfr ct_197_26 (sT_31 hS) rfl (sR_31_68 hS) ?_
            refine wi_iload_1 ct_197_29 ?_
            refine wi_iald (x := fi 69 T) ct_197_30 (sT_69 hS) (sL_69 hS) (i_in hTn (by omega)) (i_cl (k := T) hTn (by omega)) rfl ?_
            refine wi_ic ct_197_31 kc_1 ?_
            refine wi_isub ct_197_32 rfl ?_
            refine wi_cv3 (ls' := [some _, some _, some _, some _]) ct_197_33 (Nat.le_of_ble_eq_true rfl) (by decide) (sT_31 hS) rfl (by decide) rfl rfl (Nat.le_of_ble_eq_true rfl) ?_
            refine c_in hN11 ki_0 (i_sub rfl ki_1 (by omega)) (fun _ => wk_i ?_) (fun h => absurd h (by omega))
            refine wi_ifne_t ct_197_36 ki_1 (by decide) ?_
            refine wi_aload_0 ct_197_42 ?_
            refine wi_gfr ct_197_43 (sT_31 hS) rfl (sR_31_69 hS) ?_
            refine wi_ic ct_197_46 kc_60 ?_
            refine wi_iload_1 ct_197_48 ?_
            refine wi_imul ct_197_49 rfl ?_
            refine wi_iload_2 ct_197_50 ?_
            refine wi_iadd ct_197_51 rfl ?_
            refine wi_aload_0 ct_197_52 ?_
            refine wi_aload_0 ct_197_53 ?_
            refine wi_gfr ct_197_54 (sT_31 hS) rfl (sR_31_67 hS) ?_
            refine wi_iload_1 ct_197_57 ?_
            refine wi_iald (x := fi 68 T) ct_197_58 (sT_68 hS) (sL_68 hS) (i_in hTn (by omega)) (i_cl (k := T) hTn (by omega)) rfl ?_
            refine wi_lload_3 ct_197_59 ?_
            refine wi_cv2 (ls' := [some _, some _, some _, none]) ct_197_60 (Nat.le_of_ble_eq_true rfl) (by decide) (sT_31 hS) rfl (by decide) rfl rfl (Nat.le_of_ble_eq_true rfl) ?_
            refine wi_iload_1 ct_196_0 ?_
            refine wi_ifne_t ct_196_1 rfl (by omega) ?_
            refine wi_iload_1 ct_196_11 ?_
            refine wi_ic ct_196_12 kc_1 ?_
            refine wi_icne_t ct_196_13 rfl ki_1 (by omega) ?_
            refine wi_iload_1 ct_196_23 ?_
            refine wi_ic ct_196_24 kc_2 ?_
            refine wi_icne_t ct_196_25 rfl ki_2 (by omega) ?_
            refine wi_iload_1 ct_196_34 ?_
            refine wi_ic ct_196_35 kc_4 ?_
            refine wi_icne_t ct_196_36 rfl ki_4 (by omega) ?_
            refine wi_lload_2 ct_196_53 ?_
            refine wi_lret ct_196_54 (wk_j ?_)
            refine wi_last ct_197_63 (sT_70 hS) (sL_70 hS) (i_in (i_add (i_mul ki_60 hTn (by omega)) hN11 (by omega)) (by omega)) (i_cl (k := (60 * T + N11)) (i_add (i_mul ki_60 hTn (by omega)) hN11 (by omega)) (by omega)) ?_
            refine wi_ic ct_197_64 kc_1 ?_
            refine wi_iret ct_197_65 rfl (wk_i ?_)
            refine wi_iceq_t ct_211_1257 ki_1 ki_1 (by decide) ?_
            refine kk own g fi _ (hR.tp (fun q h1 h2 h3 h4 => rfl) (hP.put hT6 (fun t ht => ⟨rfl, rfl, rfl, rfl⟩) (fun t j ht hj hne => ⟨Eq.trans (up2_nq (by omega)) (up2_nq (by omega)), Eq.trans (up2_nj (by omega)) (up2_nq (by omega))⟩) ⟨p22T, p23T, ⟨paT, pbT⟩, ⟨pcT, pdT⟩, pzT, fun k hk => ?_⟩)) (by omega) (by omega)
            rcases Decidable.em (k = N11) with ek | ek
            · rw [ek]
              exact (Eq.trans (up2_nq (by omega)) up2_eq).trans up2_eq.symm
            · exact (Eq.trans (up2_nq (by omega)) (up2_nj ek)).trans ((tvT k hk).trans (Eq.trans (up2_nj (by omega)) (up2_nq (by omega))).symm)
          refine wi_tsw (X := 4) (t := 50) ct_117_1 (by omega) rfl ?_
          refine wi_lload_1 ct_117_50 ?_
          refine wi_lc ct_117_51 kl_0 ?_
          refine wi_lcmp ct_117_52 rfl ?_
          refine wi_ifeq ct_117_53 rfl (fun h13 => ?_) (fun h13 => ?_)
          · skip
            refine wi_lc ct_117_60 kl_0 ?_
            refine wi_lret ct_117_61 (wk_j ?_)
            obtain ⟨N14, hN14⟩ : ∃ k : Nat, (a2).toInt = (k : Int) := ⟨_, (i_cln (by omega)).symm⟩
            refine wi_last ct_100_54 (tp_T hS hT6) (tp_L hS hT6) (i_in hN14 (by omega)) (i_cl (k := N14) hN14 (by omega)) ?_
            refine wi_ic ct_100_55 kc_1 ?_
            refine wi_iret ct_100_56 rfl (wk_i ?_)
            refine wi_aload_2 ct_211_1223 ?_
            refine wi_aloadT_0 ct_211_1224 ?_
            refine wi_iload_3 ct_211_1225 ?_
            refine wi_ic ct_211_1226 kc_1 ?_
            refine wi_iadd ct_211_1227 rfl ?_
            refine wi_ialdT (j := I + 1) (x := a1) ct_211_1228 (sL_SC hS) (i_in (i_add hi ki_1 (by omega)) (by omega)) (i_cl (i_add hi ki_1 (by omega)) (by omega)) (((hsc _).trans e1)) ?_
            refine wi_aloadT_0 ct_211_1229 ?_
            refine wi_iload_3 ct_211_1230 ?_
            refine wi_ic ct_211_1231 kc_2 ?_
            refine wi_iadd ct_211_1232 rfl ?_
            refine wi_ialdT (j := I + 2) (x := a2) ct_211_1233 (sL_SC hS) (i_in (i_add hi ki_2 (by omega)) (by omega)) (i_cl (i_add hi ki_2 (by omega)) (by omega)) (((hsc _).trans e2)) ?_
            refine wi_aloadT_0 ct_211_1234 ?_
            refine wi_iload_3 ct_211_1235 ?_
            refine wi_ic ct_211_1236 kc_3 ?_
            refine wi_iadd ct_211_1237 rfl ?_
            refine wi_ialdT (j := I + 3) (x := a3) ct_211_1238 (sL_SC hS) (i_in (i_add hi ki_3 (by omega)) (by omega)) (i_cl (i_add hi ki_3 (by omega)) (by omega)) (((hsc _).trans e3)) ?_
            refine wi_i2l ct_211_1239 rfl ?_
            refine wi_ic ct_211_1240 kc_32 ?_
            refine wi_lshl ct_211_1242 rfl ?_
            refine wi_aloadT_0 ct_211_1243 ?_
            refine wi_iload_3 ct_211_1244 ?_
            refine wi_ic ct_211_1245 kc_4 ?_
            refine wi_iadd ct_211_1246 rfl ?_
            refine wi_ialdT (j := I + 4) (x := a4) ct_211_1247 (sL_SC hS) (i_in (i_add hi ki_4 (by omega)) (by omega)) (i_cl (i_add hi ki_4 (by omega)) (by omega)) (((hsc _).trans e4)) ?_
            refine wi_i2l ct_211_1248 rfl ?_
            refine wi_lc ct_211_1249 kl_4294967295 ?_
            refine wi_land ct_211_1252 rfl ?_
            refine wi_lor ct_211_1253 rfl ?_
            refine wi_cv3 (ls' := [some _, some _, some _, some _, none]) ct_211_1254 (Nat.le_of_ble_eq_true rfl) (by decide) (sT_31 hS) rfl (by decide) rfl rfl (Nat.le_of_ble_eq_true rfl) ?_
            refine wi_aload_0 ct_197_0 ?_
            refine wi_iload_1 ct_197_1 ?_
            refine wi_cv1 (ls' := [some _, some _]) ct_197_2 (Nat.le_of_ble_eq_true rfl) (by decide) (sT_31 hS) rfl (by decide) rfl rfl (Nat.le_of_ble_eq_true rfl) ?_
            refine wi_aload_0 ct_194_0 ?_
            refine wi_iload_1 ct_194_1 ?_
            refine wi_ic ct_194_2 kc_0 ?_
            refine wi_ic ct_194_3 kc_5 ?_
            refine wi_cv3 (ls' := [some _, some _, some _, some _]) ct_194_4 (Nat.le_of_ble_eq_true rfl) (by decide) (sT_31 hS) rfl (by decide) rfl rfl (Nat.le_of_ble_eq_true rfl) ?_
            refine c_in hTn ki_0 ki_5 (fun _ => wk_i ?_) (fun h => absurd h (by omega))
            refine wi_iret ct_194_7 (by decide) (wk_i ?_)
            refine wi_ifne_t ct_197_5 ki_1 (by decide) ?_
            refine wi_aload_0 ct_197_10 ?_
            refine wi_gfr ct_197_11 (sT_31 hS) rfl (sR_31_67 hS) ?_
            refine wi_iload_1 ct_197_14 ?_
            refine wi_iald (x := fi 68 T) ct_197_15 (sT_68 hS) (sL_68 hS) (i_in hTn (by omega)) (i_cl (k := T) hTn (by omega)) rfl ?_
            refine wi_ifge_t ct_197_16 rfl (by omega) ?_
            refine wi_aload_0 ct_197_22 ?_
            refine wi_iload_2 ct_197_23 ?_
            refine wi_ic ct_197_24 kc_0 ?_
            refine wi_aload_0 ct_197_25 ?_
            refine wi_gfr ct_197_26 (sT_31 hS) rfl (sR_31_68 hS) ?_
            refine wi_iload_1 ct_197_29 ?_
            refine wi_iald (x := fi 69 T) ct_197_30 (sT_69 hS) (sL_69 hS) (i_in hTn (by omega)) (i_cl (k := T) hTn (by omega)) rfl ?_
            refine wi_ic ct_197_31 kc_1 ?_
            refine wi_isub ct_197_32 rfl ?_
            refine wi_cv3 (ls' := [some _, some _, some _, some _]) ct_197_33 (Nat.le_of_ble_eq_true rfl) (by decide) (sT_31 hS) rfl (by decide) rfl rfl (Nat.le_of_ble_eq_true rfl) ?_
            refine c_in hN14 ki_0 (i_sub rfl ki_1 (by omega)) (fun _ => wk_i ?_) (fun h => absurd h (by omega))
            refine wi_ifne_t ct_197_36 ki_1 (by decide) ?_
            refine wi_aload_0 ct_197_42 ?_
            refine wi_gfr ct_197_43 (sT_31 hS) rfl (sR_31_69 hS) ?_
            refine wi_ic ct_197_46 kc_60 ?_
            refine wi_iload_1 ct_197_48 ?_
            refine wi_imul ct_197_49 rfl ?_
            refine wi_iload_2 ct_197_50 ?_
            refine wi_iadd ct_197_51 rfl ?_
            refine wi_aload_0 ct_197_52 ?_
            refine wi_aload_0 ct_197_53 ?_
            refine wi_gfr ct_197_54 (sT_31 hS) rfl (sR_31_67 hS) ?_
            refine wi_iload_1 ct_197_57 ?_
            refine wi_iald (x := fi 68 T) ct_197_58 (sT_68 hS) (sL_68 hS) (i_in hTn (by omega)) (i_cl (k := T) hTn (by omega)) rfl ?_
            refine wi_lload_3 ct_197_59 ?_
            refine wi_cv2 (ls' := [some _, some _, some _, none]) ct_197_60 (Nat.le_of_ble_eq_true rfl) (by decide) (sT_31 hS) rfl (by decide) rfl rfl (Nat.le_of_ble_eq_true rfl) ?_
            refine wi_iload_1 ct_196_0 ?_
            refine wi_ifne_t ct_196_1 rfl (by omega) ?_
            refine wi_iload_1 ct_196_11 ?_
            refine wi_ic ct_196_12 kc_1 ?_
            refine wi_icne_t ct_196_13 rfl ki_1 (by omega) ?_
            refine wi_iload_1 ct_196_23 ?_
            refine wi_ic ct_196_24 kc_2 ?_
            refine wi_icne_t ct_196_25 rfl ki_2 (by omega) ?_
            refine wi_iload_1 ct_196_34 ?_
            refine wi_ic ct_196_35 kc_4 ?_
            refine wi_icne_f ct_196_36 rfl ki_4 (by omega) ?_
            refine wi_lload_2 ct_196_39 ?_
            refine wi_lc ct_196_40 kl_0 ?_
            refine wi_lcmp ct_196_41 rfl ?_
            refine wi_ifeq_t ct_196_42 rfl (by omega) ?_
            refine wi_lc ct_196_49 kl_0 ?_
            refine wi_goto ct_196_50 ?_
            refine wi_lret ct_196_54 (wk_j ?_)
            refine wi_last ct_197_63 (sT_70 hS) (sL_70 hS) (i_in (i_add (i_mul ki_60 hTn (by omega)) hN14 (by omega)) (by omega)) (i_cl (k := (60 * T + N14)) (i_add (i_mul ki_60 hTn (by omega)) hN14 (by omega)) (by omega)) ?_
            refine wi_ic ct_197_64 kc_1 ?_
            refine wi_iret ct_197_65 rfl (wk_i ?_)
            refine wi_iceq_t ct_211_1257 ki_1 ki_1 (by decide) ?_
            refine kk own g fi _ (hR.tp (fun q h1 h2 h3 h4 => rfl) (hP.put hT6 (fun t ht => ⟨rfl, rfl, rfl, rfl⟩) (fun t j ht hj hne => ⟨Eq.trans (up2_nq (by omega)) (up2_nq (by omega)), Eq.trans (up2_nj (by omega)) (up2_nq (by omega))⟩) ⟨p22T, p23T, ⟨paT, pbT⟩, ⟨pcT, pdT⟩, pzT, fun k hk => ?_⟩)) (by omega) (by omega)
            rcases Decidable.em (k = N14) with ek | ek
            · rw [ek]
              exact (Eq.trans (up2_nq (by omega)) up2_eq).trans up2_eq.symm
            · exact (Eq.trans (up2_nq (by omega)) (up2_nj ek)).trans ((tvT k hk).trans (Eq.trans (up2_nj (by omega)) (up2_nq (by omega))).symm)
          · skip
            refine wi_lc ct_117_56 kl_1 ?_
            refine wi_goto ct_117_57 ?_
            refine wi_lret ct_117_61 (wk_j ?_)
            obtain ⟨N15, hN15⟩ : ∃ k : Nat, (a2).toInt = (k : Int) := ⟨_, (i_cln (by omega)).symm⟩
            refine wi_last ct_100_54 (tp_T hS hT6) (tp_L hS hT6) (i_in hN15 (by omega)) (i_cl (k := N15) hN15 (by omega)) ?_
            refine wi_ic ct_100_55 kc_1 ?_
            refine wi_iret ct_100_56 rfl (wk_i ?_)
            refine wi_aload_2 ct_211_1223 ?_
            refine wi_aloadT_0 ct_211_1224 ?_
            refine wi_iload_3 ct_211_1225 ?_
            refine wi_ic ct_211_1226 kc_1 ?_
            refine wi_iadd ct_211_1227 rfl ?_
            refine wi_ialdT (j := I + 1) (x := a1) ct_211_1228 (sL_SC hS) (i_in (i_add hi ki_1 (by omega)) (by omega)) (i_cl (i_add hi ki_1 (by omega)) (by omega)) (((hsc _).trans e1)) ?_
            refine wi_aloadT_0 ct_211_1229 ?_
            refine wi_iload_3 ct_211_1230 ?_
            refine wi_ic ct_211_1231 kc_2 ?_
            refine wi_iadd ct_211_1232 rfl ?_
            refine wi_ialdT (j := I + 2) (x := a2) ct_211_1233 (sL_SC hS) (i_in (i_add hi ki_2 (by omega)) (by omega)) (i_cl (i_add hi ki_2 (by omega)) (by omega)) (((hsc _).trans e2)) ?_
            refine wi_aloadT_0 ct_211_1234 ?_
            refine wi_iload_3 ct_211_1235 ?_
            refine wi_ic ct_211_1236 kc_3 ?_
            refine wi_iadd ct_211_1237 rfl ?_
            refine wi_ialdT (j := I + 3) (x := a3) ct_211_1238 (sL_SC hS) (i_in (i_add hi ki_3 (by omega)) (by omega)) (i_cl (i_add hi ki_3 (by omega)) (by omega)) (((hsc _).trans e3)) ?_
            refine wi_i2l ct_211_1239 rfl ?_
            refine wi_ic ct_211_1240 kc_32 ?_
            refine wi_lshl ct_211_1242 rfl ?_
            refine wi_aloadT_0 ct_211_1243 ?_
            refine wi_iload_3 ct_211_1244 ?_
            refine wi_ic ct_211_1245 kc_4 ?_
            refine wi_iadd ct_211_1246 rfl ?_
            refine wi_ialdT (j := I + 4) (x := a4) ct_211_1247 (sL_SC hS) (i_in (i_add hi ki_4 (by omega)) (by omega)) (i_cl (i_add hi ki_4 (by omega)) (by omega)) (((hsc _).trans e4)) ?_
            refine wi_i2l ct_211_1248 rfl ?_
            refine wi_lc ct_211_1249 kl_4294967295 ?_
            refine wi_land ct_211_1252 rfl ?_
            refine wi_lor ct_211_1253 rfl ?_
            refine wi_cv3 (ls' := [some _, some _, some _, some _, none]) ct_211_1254 (Nat.le_of_ble_eq_true rfl) (by decide) (sT_31 hS) rfl (by decide) rfl rfl (Nat.le_of_ble_eq_true rfl) ?_
            refine wi_aload_0 ct_197_0 ?_
            refine wi_iload_1 ct_197_1 ?_
            refine wi_cv1 (ls' := [some _, some _]) ct_197_2 (Nat.le_of_ble_eq_true rfl) (by decide) (sT_31 hS) rfl (by decide) rfl rfl (Nat.le_of_ble_eq_true rfl) ?_
            refine wi_aload_0 ct_194_0 ?_
            refine wi_iload_1 ct_194_1 ?_
            refine wi_ic ct_194_2 kc_0 ?_
            refine wi_ic ct_194_3 kc_5 ?_
            refine wi_cv3 (ls' := [some _, some _, some _, some _]) ct_194_4 (Nat.le_of_ble_eq_true rfl) (by decide) (sT_31 hS) rfl (by decide) rfl rfl (Nat.le_of_ble_eq_true rfl) ?_
            refine c_in hTn ki_0 ki_5 (fun _ => wk_i ?_) (fun h => absurd h (by omega))
            refine wi_iret ct_194_7 (by decide) (wk_i ?_)
            refine wi_ifne_t ct_197_5 ki_1 (by decide) ?_
            refine wi_aload_0 ct_197_10 ?_
            refine wi_gfr ct_197_11 (sT_31 hS) rfl (sR_31_67 hS) ?_
            refine wi_iload_1 ct_197_14 ?_
            refine wi_iald (x := fi 68 T) ct_197_15 (sT_68 hS) (sL_68 hS) (i_in hTn (by omega)) (i_cl (k := T) hTn (by omega)) rfl ?_
            refine wi_ifge_t ct_197_16 rfl (by omega) ?_
            refine wi_aload_0 ct_197_22 ?_
            refine wi_iload_2 ct_197_23 ?_
            refine wi_ic ct_197_24 kc_0 ?_
            refine wi_aload_0 ct_197_25 ?_
            refine wi_gfr ct_197_26 (sT_31 hS) rfl (sR_31_68 hS) ?_
            refine wi_iload_1 ct_197_29 ?_
            refine wi_iald (x := fi 69 T) ct_197_30 (sT_69 hS) (sL_69 hS) (i_in hTn (by omega)) (i_cl (k := T) hTn (by omega)) rfl ?_
            refine wi_ic ct_197_31 kc_1 ?_
            refine wi_isub ct_197_32 rfl ?_
            refine wi_cv3 (ls' := [some _, some _, some _, some _]) ct_197_33 (Nat.le_of_ble_eq_true rfl) (by decide) (sT_31 hS) rfl (by decide) rfl rfl (Nat.le_of_ble_eq_true rfl) ?_
            refine c_in hN15 ki_0 (i_sub rfl ki_1 (by omega)) (fun _ => wk_i ?_) (fun h => absurd h (by omega))
            refine wi_ifne_t ct_197_36 ki_1 (by decide) ?_
            refine wi_aload_0 ct_197_42 ?_
            refine wi_gfr ct_197_43 (sT_31 hS) rfl (sR_31_69 hS) ?_
            refine wi_ic ct_197_46 kc_60 ?_
            refine wi_iload_1 ct_197_48 ?_
            refine wi_imul ct_197_49 rfl ?_
            refine wi_iload_2 ct_197_50 ?_
            refine wi_iadd ct_197_51 rfl ?_
            refine wi_aload_0 ct_197_52 ?_
            refine wi_aload_0 ct_197_53 ?_
            refine wi_gfr ct_197_54 (sT_31 hS) rfl (sR_31_67 hS) ?_
            refine wi_iload_1 ct_197_57 ?_
            refine wi_iald (x := fi 68 T) ct_197_58 (sT_68 hS) (sL_68 hS) (i_in hTn (by omega)) (i_cl (k := T) hTn (by omega)) rfl ?_
            refine wi_lload_3 ct_197_59 ?_
            refine wi_cv2 (ls' := [some _, some _, some _, none]) ct_197_60 (Nat.le_of_ble_eq_true rfl) (by decide) (sT_31 hS) rfl (by decide) rfl rfl (Nat.le_of_ble_eq_true rfl) ?_
            refine wi_iload_1 ct_196_0 ?_
            refine wi_ifne_t ct_196_1 rfl (by omega) ?_
            refine wi_iload_1 ct_196_11 ?_
            refine wi_ic ct_196_12 kc_1 ?_
            refine wi_icne_t ct_196_13 rfl ki_1 (by omega) ?_
            refine wi_iload_1 ct_196_23 ?_
            refine wi_ic ct_196_24 kc_2 ?_
            refine wi_icne_t ct_196_25 rfl ki_2 (by omega) ?_
            refine wi_iload_1 ct_196_34 ?_
            refine wi_ic ct_196_35 kc_4 ?_
            refine wi_icne_f ct_196_36 rfl ki_4 (by omega) ?_
            refine wi_lload_2 ct_196_39 ?_
            refine wi_lc ct_196_40 kl_0 ?_
            refine wi_lcmp ct_196_41 rfl ?_
            refine wi_ifeq_f ct_196_42 rfl (by omega) ?_
            refine wi_lc ct_196_45 kl_1 ?_
            refine wi_goto ct_196_46 ?_
            refine wi_lret ct_196_54 (wk_j ?_)
            refine wi_last ct_197_63 (sT_70 hS) (sL_70 hS) (i_in (i_add (i_mul ki_60 hTn (by omega)) hN15 (by omega)) (by omega)) (i_cl (k := (60 * T + N15)) (i_add (i_mul ki_60 hTn (by omega)) hN15 (by omega)) (by omega)) ?_
            refine wi_ic ct_197_64 kc_1 ?_
            refine wi_iret ct_197_65 rfl (wk_i ?_)
            refine wi_iceq_t ct_211_1257 ki_1 ki_1 (by decide) ?_
            refine kk own g fi _ (hR.tp (fun q h1 h2 h3 h4 => rfl) (hP.put hT6 (fun t ht => ⟨rfl, rfl, rfl, rfl⟩) (fun t j ht hj hne => ⟨Eq.trans (up2_nq (by omega)) (up2_nq (by omega)), Eq.trans (up2_nj (by omega)) (up2_nq (by omega))⟩) ⟨p22T, p23T, ⟨paT, pbT⟩, ⟨pcT, pdT⟩, pzT, fun k hk => ?_⟩)) (by omega) (by omega)
            rcases Decidable.em (k = N15) with ek | ek
            · rw [ek]
              exact (Eq.trans (up2_nq (by omega)) up2_eq).trans up2_eq.symm
            · exact (Eq.trans (up2_nq (by omega)) (up2_nj ek)).trans ((tvT k hk).trans (Eq.trans (up2_nj (by omega)) (up2_nq (by omega))).symm)
        · skip
          refine wi_ic ct_100_34 kc_m13 ?_
          refine wi_iret ct_100_36 rfl (wk_i ?_)
          refine wi_aload_2 ct_211_1223 ?_
          refine wi_aloadT_0 ct_211_1224 ?_
          refine wi_iload_3 ct_211_1225 ?_
          refine wi_ic ct_211_1226 kc_1 ?_
          refine wi_iadd ct_211_1227 rfl ?_
          refine wi_ialdT (j := I + 1) (x := a1) ct_211_1228 (sL_SC hS) (i_in (i_add hi ki_1 (by omega)) (by omega)) (i_cl (i_add hi ki_1 (by omega)) (by omega)) (((hsc _).trans e1)) ?_
          refine wi_aloadT_0 ct_211_1229 ?_
          refine wi_iload_3 ct_211_1230 ?_
          refine wi_ic ct_211_1231 kc_2 ?_
          refine wi_iadd ct_211_1232 rfl ?_
          refine wi_ialdT (j := I + 2) (x := a2) ct_211_1233 (sL_SC hS) (i_in (i_add hi ki_2 (by omega)) (by omega)) (i_cl (i_add hi ki_2 (by omega)) (by omega)) (((hsc _).trans e2)) ?_
          refine wi_aloadT_0 ct_211_1234 ?_
          refine wi_iload_3 ct_211_1235 ?_
          refine wi_ic ct_211_1236 kc_3 ?_
          refine wi_iadd ct_211_1237 rfl ?_
          refine wi_ialdT (j := I + 3) (x := a3) ct_211_1238 (sL_SC hS) (i_in (i_add hi ki_3 (by omega)) (by omega)) (i_cl (i_add hi ki_3 (by omega)) (by omega)) (((hsc _).trans e3)) ?_
          refine wi_i2l ct_211_1239 rfl ?_
          refine wi_ic ct_211_1240 kc_32 ?_
          refine wi_lshl ct_211_1242 rfl ?_
          refine wi_aloadT_0 ct_211_1243 ?_
          refine wi_iload_3 ct_211_1244 ?_
          refine wi_ic ct_211_1245 kc_4 ?_
          refine wi_iadd ct_211_1246 rfl ?_
          refine wi_ialdT (j := I + 4) (x := a4) ct_211_1247 (sL_SC hS) (i_in (i_add hi ki_4 (by omega)) (by omega)) (i_cl (i_add hi ki_4 (by omega)) (by omega)) (((hsc _).trans e4)) ?_
          refine wi_i2l ct_211_1248 rfl ?_
          refine wi_lc ct_211_1249 kl_4294967295 ?_
          refine wi_land ct_211_1252 rfl ?_
          refine wi_lor ct_211_1253 rfl ?_
          refine wi_cv3 (ls' := [some _, some _, some _, some _, none]) ct_211_1254 (Nat.le_of_ble_eq_true rfl) (by decide) (sT_31 hS) rfl (by decide) rfl rfl (Nat.le_of_ble_eq_true rfl) ?_
          refine wi_aload_0 ct_197_0 ?_
          refine wi_iload_1 ct_197_1 ?_
          refine wi_cv1 (ls' := [some _, some _]) ct_197_2 (Nat.le_of_ble_eq_true rfl) (by decide) (sT_31 hS) rfl (by decide) rfl rfl (Nat.le_of_ble_eq_true rfl) ?_
          refine wi_aload_0 ct_194_0 ?_
          refine wi_iload_1 ct_194_1 ?_
          refine wi_ic ct_194_2 kc_0 ?_
          refine wi_ic ct_194_3 kc_5 ?_
          refine wi_cv3 (ls' := [some _, some _, some _, some _]) ct_194_4 (Nat.le_of_ble_eq_true rfl) (by decide) (sT_31 hS) rfl (by decide) rfl rfl (Nat.le_of_ble_eq_true rfl) ?_
          refine c_in hTn ki_0 ki_5 (fun _ => wk_i ?_) (fun h => absurd h (by omega))
          refine wi_iret ct_194_7 (by decide) (wk_i ?_)
          refine wi_ifne_t ct_197_5 ki_1 (by decide) ?_
          refine wi_aload_0 ct_197_10 ?_
          refine wi_gfr ct_197_11 (sT_31 hS) rfl (sR_31_67 hS) ?_
          refine wi_iload_1 ct_197_14 ?_
          refine wi_iald (x := fi 68 T) ct_197_15 (sT_68 hS) (sL_68 hS) (i_in hTn (by omega)) (i_cl (k := T) hTn (by omega)) rfl ?_
          refine wi_ifge_t ct_197_16 rfl (by omega) ?_
          refine wi_aload_0 ct_197_22 ?_
          refine wi_iload_2 ct_197_23 ?_
          refine wi_ic ct_197_24 kc_0 ?_
          refine wi_aload_0 ct_197_25 ?_
          refine wi_gfr ct_197_26 (sT_31 hS) rfl (sR_31_68 hS) ?_
          refine wi_iload_1 ct_197_29 ?_
          refine wi_iald (x := fi 69 T) ct_197_30 (sT_69 hS) (sL_69 hS) (i_in hTn (by omega)) (i_cl (k := T) hTn (by omega)) rfl ?_
          refine wi_ic ct_197_31 kc_1 ?_
          refine wi_isub ct_197_32 rfl ?_
          refine wi_cv3 (ls' := [some _, some _, some _, some _]) ct_197_33 (Nat.le_of_ble_eq_true rfl) (by decide) (sT_31 hS) rfl (by decide) rfl rfl (Nat.le_of_ble_eq_true rfl) ?_
          refine c_in rfl ki_0 (i_sub rfl ki_1 (by omega)) (fun h => absurd h (by omega)) (fun _ => wk_i ?_)
          refine wi_ifne_f ct_197_36 ki_0 (by decide) ?_
          refine wi_ic ct_197_39 kc_m13 ?_
          refine wi_iret ct_197_41 rfl (wk_i ?_)
          refine wi_iceq_t ct_211_1257 ki_m13 ki_m13 (by decide) ?_
          exact kk own g fi fl hR (by omega) (by omega)
  · skip
    refine wi_aload_1 ct_211_1189 ?_
    refine wi_aloadT_0 ct_211_1190 ?_
    refine wi_iload_3 ct_211_1191 ?_
    refine wi_ic ct_211_1192 kc_1 ?_
    refine wi_iadd ct_211_1193 rfl ?_
    refine wi_ialdT (j := I + 1) (x := a1) ct_211_1194 (sL_SC hS) (i_in (i_add hi ki_1 (by omega)) (by omega)) (i_cl (i_add hi ki_1 (by omega)) (by omega)) (((hsc _).trans e1)) ?_
    refine wi_aloadT_0 ct_211_1195 ?_
    refine wi_iload_3 ct_211_1196 ?_
    refine wi_ic ct_211_1197 kc_2 ?_
    refine wi_iadd ct_211_1198 rfl ?_
    refine wi_ialdT (j := I + 2) (x := a2) ct_211_1199 (sL_SC hS) (i_in (i_add hi ki_2 (by omega)) (by omega)) (i_cl (i_add hi ki_2 (by omega)) (by omega)) (((hsc _).trans e2)) ?_
    refine wi_aloadT_0 ct_211_1200 ?_
    refine wi_iload_3 ct_211_1201 ?_
    refine wi_ic ct_211_1202 kc_3 ?_
    refine wi_iadd ct_211_1203 rfl ?_
    refine wi_ialdT (j := I + 3) (x := a3) ct_211_1204 (sL_SC hS) (i_in (i_add hi ki_3 (by omega)) (by omega)) (i_cl (i_add hi ki_3 (by omega)) (by omega)) (((hsc _).trans e3)) ?_
    refine wi_i2l ct_211_1205 rfl ?_
    refine wi_ic ct_211_1206 kc_32 ?_
    refine wi_lshl ct_211_1208 rfl ?_
    refine wi_aloadT_0 ct_211_1209 ?_
    refine wi_iload_3 ct_211_1210 ?_
    refine wi_ic ct_211_1211 kc_4 ?_
    refine wi_iadd ct_211_1212 rfl ?_
    refine wi_ialdT (j := I + 4) (x := a4) ct_211_1213 (sL_SC hS) (i_in (i_add hi ki_4 (by omega)) (by omega)) (i_cl (i_add hi ki_4 (by omega)) (by omega)) (((hsc _).trans e4)) ?_
    refine wi_i2l ct_211_1214 rfl ?_
    refine wi_lc ct_211_1215 kl_4294967295 ?_
    refine wi_land ct_211_1218 rfl ?_
    refine wi_lor ct_211_1219 rfl ?_
    refine wi_cv3 (ls' := [some _, some _, some _, some _, none]) ct_211_1220 (Nat.le_of_ble_eq_true rfl) (by decide) (sT_0 hS) rfl (by decide) rfl rfl (Nat.le_of_ble_eq_true rfl) ?_
    refine wi_iload_1 ct_100_0 ?_
    refine wi_cs1 (ls' := [some _]) ct_100_1 (Nat.le_of_ble_eq_true rfl) rfl (Nat.le_of_ble_eq_true rfl) ?_
    refine wi_iload_0 ct_114_0 ?_
    refine wi_ic ct_114_1 kc_0 ?_
    refine wi_ic ct_114_2 kc_5 ?_
    refine wi_cs3 (ls' := [some _, some _, some _]) ct_114_3 (Nat.le_of_ble_eq_true rfl) rfl (Nat.le_of_ble_eq_true rfl) ?_
    refine c_within rfl ki_0 ki_5 (fun h => absurd h (by omega)) (fun _ => wk_i ?_)
    refine wi_iret ct_114_6 (by decide) (wk_i ?_)
    refine wi_ifne_f ct_100_4 ki_0 (by decide) ?_
    refine wi_ic ct_100_7 kc_m1 ?_
    refine wi_iret ct_100_8 rfl (wk_i ?_)
    refine wi_aload_2 ct_211_1223 ?_
    refine wi_aloadT_0 ct_211_1224 ?_
    refine wi_iload_3 ct_211_1225 ?_
    refine wi_ic ct_211_1226 kc_1 ?_
    refine wi_iadd ct_211_1227 rfl ?_
    refine wi_ialdT (j := I + 1) (x := a1) ct_211_1228 (sL_SC hS) (i_in (i_add hi ki_1 (by omega)) (by omega)) (i_cl (i_add hi ki_1 (by omega)) (by omega)) (((hsc _).trans e1)) ?_
    refine wi_aloadT_0 ct_211_1229 ?_
    refine wi_iload_3 ct_211_1230 ?_
    refine wi_ic ct_211_1231 kc_2 ?_
    refine wi_iadd ct_211_1232 rfl ?_
    refine wi_ialdT (j := I + 2) (x := a2) ct_211_1233 (sL_SC hS) (i_in (i_add hi ki_2 (by omega)) (by omega)) (i_cl (i_add hi ki_2 (by omega)) (by omega)) (((hsc _).trans e2)) ?_
    refine wi_aloadT_0 ct_211_1234 ?_
    refine wi_iload_3 ct_211_1235 ?_
    refine wi_ic ct_211_1236 kc_3 ?_
    refine wi_iadd ct_211_1237 rfl ?_
    refine wi_ialdT (j := I + 3) (x := a3) ct_211_1238 (sL_SC hS) (i_in (i_add hi ki_3 (by omega)) (by omega)) (i_cl (i_add hi ki_3 (by omega)) (by omega)) (((hsc _).trans e3)) ?_
    refine wi_i2l ct_211_1239 rfl ?_
    refine wi_ic ct_211_1240 kc_32 ?_
    refine wi_lshl ct_211_1242 rfl ?_
    refine wi_aloadT_0 ct_211_1243 ?_
    refine wi_iload_3 ct_211_1244 ?_
    refine wi_ic ct_211_1245 kc_4 ?_
    refine wi_iadd ct_211_1246 rfl ?_
    refine wi_ialdT (j := I + 4) (x := a4) ct_211_1247 (sL_SC hS) (i_in (i_add hi ki_4 (by omega)) (by omega)) (i_cl (i_add hi ki_4 (by omega)) (by omega)) (((hsc _).trans e4)) ?_
    refine wi_i2l ct_211_1248 rfl ?_
    refine wi_lc ct_211_1249 kl_4294967295 ?_
    refine wi_land ct_211_1252 rfl ?_
    refine wi_lor ct_211_1253 rfl ?_
    refine wi_cv3 (ls' := [some _, some _, some _, some _, none]) ct_211_1254 (Nat.le_of_ble_eq_true rfl) (by decide) (sT_31 hS) rfl (by decide) rfl rfl (Nat.le_of_ble_eq_true rfl) ?_
    refine wi_aload_0 ct_197_0 ?_
    refine wi_iload_1 ct_197_1 ?_
    refine wi_cv1 (ls' := [some _, some _]) ct_197_2 (Nat.le_of_ble_eq_true rfl) (by decide) (sT_31 hS) rfl (by decide) rfl rfl (Nat.le_of_ble_eq_true rfl) ?_
    refine wi_aload_0 ct_194_0 ?_
    refine wi_iload_1 ct_194_1 ?_
    refine wi_ic ct_194_2 kc_0 ?_
    refine wi_ic ct_194_3 kc_5 ?_
    refine wi_cv3 (ls' := [some _, some _, some _, some _]) ct_194_4 (Nat.le_of_ble_eq_true rfl) (by decide) (sT_31 hS) rfl (by decide) rfl rfl (Nat.le_of_ble_eq_true rfl) ?_
    refine c_in rfl ki_0 ki_5 (fun h => absurd h (by omega)) (fun _ => wk_i ?_)
    refine wi_iret ct_194_7 (by decide) (wk_i ?_)
    refine wi_ifne_f ct_197_5 ki_0 (by decide) ?_
    refine wi_ic ct_197_8 kc_m1 ?_
    refine wi_iret ct_197_9 rfl (wk_i ?_)
    refine wi_iceq_t ct_211_1257 ki_m1 ki_m1 (by decide) ?_
    exact kk own g fi fl hR (by omega) (by omega)
theorem vl_tapec {L d : Nat} {g : am_G} {fi : am_I} {P : Option Value → am_G → am_I → am_L → Prop} {T : Nat} {fl : am_L} {z1 z2 z3 zn : Int32} {N : Nat} (hS : SF L g) (hT6 : T < 6) (hTn : z1.toInt = (T : Int)) (hn : zn.toInt = (N : Int)) (h60 : N ≤ 60) (kk : ∀ fl3 zi, (∀ j, j < N → fl3 (25 + T) j = 0) → (∀ q, q ≠ 25 + T → fl3 q = fl q) → WP d 99 93 [some (.ref 0), some (.int (z1)), some (.int (z2)), some (.int (z3)), some (.int (zn)), some (.int (zi))] [] g fi fl3 P) : ∀ (n k : Nat) (fl2 : am_L) (zi : Int32), k + n = N → zi.toInt = (k : Int) → (∀ j, j < k → fl2 (25 + T) j = 0) → (∀ q, q ≠ 25 + T → fl2 q = fl q) → WP d 99 70 [some (.ref 0), some (.int (z1)), some (.int (z2)), some (.int (z3)), some (.int (zn)), some (.int (zi))] [] g fi fl2 P := by
  intro n
  induction n with
  | zero =>
    intro k fl2 zi hkn hzi h1 h2
    refine wi_iload_5 ct_99_70 ?_
    refine wi_iload_4 ct_99_72 ?_
    refine wi_icge_t ct_99_74 hzi hn (by omega) ?_
    exact kk _ _ (fun j hj => h1 j (by omega)) h2
  | succ n ih =>
    intro k fl2 zi hkn hzi h1 h2
    refine wi_iload_5 ct_99_70 ?_
    refine wi_iload_4 ct_99_72 ?_
    refine wi_icge_f ct_99_74 hzi hn (by omega) ?_
    refine wi_aload_0 ct_99_77 ?_
    refine wi_gfr ct_99_78 (sT_0 hS) rfl (sR_0_13 hS) ?_
    refine wi_iload_1 ct_99_81 ?_
    refine wi_aald ct_99_82 (sT_24 hS) (by decide) (sL_24 hS) (i_in hTn (by omega)) (i_cl (k := T) hTn (by omega)) (tp_R hS hT6) ?_
    refine wi_iload_5 ct_99_83 ?_
    refine wi_lc ct_99_85 kl_0 ?_
    refine wi_last ct_99_86 (tp_T hS hT6) (tp_L hS hT6) (i_in hzi (by omega)) (i_cl (k := k) hzi (by omega)) ?_
    refine wi_iinc_5 rfl (z := (zi + 1)) ct_99_87 (by rw [kc_1]) ?_
    refine wi_goto ct_99_90 ?_
    exact ih (k + 1) _ _ (by omega) ((i_add hzi ki_1 (by omega)).trans (by omega)) (fun j hj => by
      rcases Decidable.em (j = k) with ej | ej
      · rw [ej]; exact up2_eq
      · exact (up2_nj ej).trans (h1 j (by omega))) (fun q hq => (funext fun j => up2_nq hq).trans (h2 q hq))
theorem vl_tapem {L d : Nat} {g : am_G} {fi : am_I} {P : Option Value → am_G → am_I → am_L → Prop} {T : Nat} {fl : am_L} {z1 z2 z3 : Int32} (hS : SF L g) (hT6 : T < 6) (hTn : z1.toInt = (T : Int)) (kk : ∀ fl3 zi, (∀ j, j < 60 → fl3 70 (60 * T + j) = 0) → (∀ q, q ≠ 70 → fl3 q = fl q) → (∀ j, ¬ (60 * T ≤ j ∧ j < 60 * T + 60) → fl3 70 j = fl 70 j) → WP d 195 95 [some (.ref 31), some (.int (z1)), some (.int (z2)), some (.int (z3)), some (.int (zi))] [] g fi fl3 P) : ∀ (n k : Nat) (fl2 : am_L) (zi : Int32), k + n = 60 → zi.toInt = (k : Int) → (∀ j, j < k → fl2 70 (60 * T + j) = 0) → (∀ q, q ≠ 70 → fl2 q = fl q) → (∀ j, ¬ (60 * T ≤ j ∧ j < 60 * T + 60) → fl2 70 j = fl 70 j) → WP d 195 69 [some (.ref 31), some (.int (z1)), some (.int (z2)), some (.int (z3)), some (.int (zi))] [] g fi fl2 P := by
  intro n
  induction n with
  | zero =>
    intro k fl2 zi hkn hzi h1 h2 h3
    refine wi_iload_4 ct_195_69 ?_
    refine wi_ic ct_195_71 kc_60 ?_
    refine wi_icge_t ct_195_73 hzi ki_60 (by omega) ?_
    exact kk _ _ (fun j hj => h1 j (by omega)) h2 h3
  | succ n ih =>
    intro k fl2 zi hkn hzi h1 h2 h3
    refine wi_iload_4 ct_195_69 ?_
    refine wi_ic ct_195_71 kc_60 ?_
    refine wi_icge_f ct_195_73 hzi ki_60 (by omega) ?_
    refine wi_aload_0 ct_195_76 ?_
    refine wi_gfr ct_195_77 (sT_31 hS) rfl (sR_31_69 hS) ?_
    refine wi_ic ct_195_80 kc_60 ?_
    refine wi_iload_1 ct_195_82 ?_
    refine wi_imul ct_195_83 rfl ?_
    refine wi_iload_4 ct_195_84 ?_
    refine wi_iadd ct_195_86 rfl ?_
    refine wi_lc ct_195_87 kl_0 ?_
    refine wi_last ct_195_88 (sT_70 hS) (sL_70 hS) (i_in (i_add (i_mul ki_60 hTn (by omega)) hzi (by omega)) (by omega)) (i_cl (k := (60 * T + k)) (i_add (i_mul ki_60 hTn (by omega)) hzi (by omega)) (by omega)) ?_
    refine wi_iinc_4 rfl (z := (zi + 1)) ct_195_89 (by rw [kc_1]) ?_
    refine wi_goto ct_195_92 ?_
    exact ih (k + 1) _ _ (by omega) ((i_add hzi ki_1 (by omega)).trans (by omega)) (fun j hj => by
      rcases Decidable.em (j = k) with ej | ej
      · rw [ej]; exact up2_eq
      · exact (up2_nj (by omega)).trans (h1 j (by omega))) (fun q hq => (funext fun j => up2_nq hq).trans (h2 q hq)) (fun j hj => (up2_nj (by omega)).trans (h3 j hj))
set_option maxHeartbeats 2000000 in
theorem op_tape {L I : Nat} {xs : Nat → Int32} {own : Nat → Nat} {d : Nat} {g : am_G} {fi : am_I} {fl : am_L} {P : Option Value → am_G → am_I → am_L → Prop} {i : Int32} (hi : i.toInt = (I : Int)) (hI6 : I + 6 ≤ L) (hL : L ≤ 3072) (hR : Rel L xs own g fi fl) (hnx : am_nx g ≤ 800000) (kk : ∀ own' g' fi' fl', Rel L xs own' g' fi' fl' → am_nx g' ≤ am_nx g + 30 → am_sl g' ≤ am_sl g + 1000 → WP (d + 60) 211 1359 [some (.retAddr 0), some (.ref 0), some (.ref 31), some (.int i)] [] g' fi' fl' P) : WP (d + 60) 211 1146 [some (.retAddr 0), some (.ref 0), some (.ref 31), some (.int i)] [] g fi fl P := by
  obtain ⟨hS, hsc, hC, hK, hX, hV, hT, hP, hB, hN, hQ, hZ, hI⟩ := id hR
  obtain ⟨⟨c0, c0a, c0b⟩, ⟨c1, c1a, c1b⟩, ⟨c2, c2a, c2b⟩, ⟨c3, c3a, c3b⟩, ⟨c4, c4a, c4b⟩, ⟨c5, c5a, c5b⟩, ⟨c6, c6a, c6b⟩, ⟨c7, c7a, c7b⟩, c8, c9⟩ := id hC
  obtain ⟨a1, e1⟩ : ∃ a, xs (I + 1) = a := ⟨_, rfl⟩
  obtain ⟨a2, e2⟩ : ∃ a, xs (I + 2) = a := ⟨_, rfl⟩
  obtain ⟨a3, e3⟩ : ∃ a, xs (I + 3) = a := ⟨_, rfl⟩
  by_cases hAT : 0 ≤ (a1).toInt ∧ (a1).toInt ≤ 5
  · skip
    obtain ⟨T, hTa⟩ : ∃ T : Nat, (a1).toInt = (T : Int) := ⟨(a1).toInt.toNat, by omega⟩
    have hTn := hTa
    have hT6 : T < 6 := by omega
    obtain ⟨p22T, p23T, ⟨paT, pbT⟩, ⟨pcT, pdT⟩, pzT, tvT⟩ := id (hP T (by omega))
    refine wi_aload_1 ct_211_1146 ?_
    refine wi_aloadT_0 ct_211_1147 ?_
    refine wi_iload_3 ct_211_1148 ?_
    refine wi_ic ct_211_1149 kc_1 ?_
    refine wi_iadd ct_211_1150 rfl ?_
    refine wi_ialdT (j := I + 1) (x := a1) ct_211_1151 (sL_SC hS) (i_in (i_add hi ki_1 (by omega)) (by omega)) (i_cl (i_add hi ki_1 (by omega)) (by omega)) (((hsc _).trans e1)) ?_
    refine wi_aloadT_0 ct_211_1152 ?_
    refine wi_iload_3 ct_211_1153 ?_
    refine wi_ic ct_211_1154 kc_2 ?_
    refine wi_iadd ct_211_1155 rfl ?_
    refine wi_ialdT (j := I + 2) (x := a2) ct_211_1156 (sL_SC hS) (i_in (i_add hi ki_2 (by omega)) (by omega)) (i_cl (i_add hi ki_2 (by omega)) (by omega)) (((hsc _).trans e2)) ?_
    refine wi_aloadT_0 ct_211_1157 ?_
    refine wi_iload_3 ct_211_1158 ?_
    refine wi_ic ct_211_1159 kc_3 ?_
    refine wi_iadd ct_211_1160 rfl ?_
    refine wi_ialdT (j := I + 3) (x := a3) ct_211_1161 (sL_SC hS) (i_in (i_add hi ki_3 (by omega)) (by omega)) (i_cl (i_add hi ki_3 (by omega)) (by omega)) (((hsc _).trans e3)) ?_
    refine wi_cv3 (ls' := [some _, some _, some _, some _, none, none]) ct_211_1162 (Nat.le_of_ble_eq_true rfl) (by decide) (sT_0 hS) rfl (by decide) rfl rfl (Nat.le_of_ble_eq_true rfl) ?_
    refine wi_iload_1 ct_99_0 ?_
    refine wi_cs1 (ls' := [some _]) ct_99_1 (Nat.le_of_ble_eq_true rfl) rfl (Nat.le_of_ble_eq_true rfl) ?_
    refine wi_iload_0 ct_114_0 ?_
    refine wi_ic ct_114_1 kc_0 ?_
    refine wi_ic ct_114_2 kc_5 ?_
    refine wi_cs3 (ls' := [some _, some _, some _]) ct_114_3 (Nat.le_of_ble_eq_true rfl) rfl (Nat.le_of_ble_eq_true rfl) ?_
    refine c_within hTn ki_0 ki_5 (fun _ => wk_i ?_) (fun h => absurd h (by omega))
    refine wi_iret ct_114_6 (by decide) (wk_i ?_)
    refine wi_ifne_t ct_99_4 ki_1 (by decide) ?_
    refine wi_iload_2 ct_99_9 ?_
    refine wi_ic ct_99_10 kc_m1 ?_
    refine wi_iclt ct_99_11 rfl ki_m1 (fun h1 => ?_) (fun h1 => ?_)
    · skip
      refine wi_ic ct_99_19 kc_m2 ?_
      refine wi_iret ct_99_21 rfl (wk_i ?_)
      refine wi_aload_2 ct_211_1165 ?_
      refine wi_aloadT_0 ct_211_1166 ?_
      refine wi_iload_3 ct_211_1167 ?_
      refine wi_ic ct_211_1168 kc_1 ?_
      refine wi_iadd ct_211_1169 rfl ?_
      refine wi_ialdT (j := I + 1) (x := a1) ct_211_1170 (sL_SC hS) (i_in (i_add hi ki_1 (by omega)) (by omega)) (i_cl (i_add hi ki_1 (by omega)) (by omega)) (((hsc _).trans e1)) ?_
      refine wi_aloadT_0 ct_211_1171 ?_
      refine wi_iload_3 ct_211_1172 ?_
      refine wi_ic ct_211_1173 kc_2 ?_
      refine wi_iadd ct_211_1174 rfl ?_
      refine wi_ialdT (j := I + 2) (x := a2) ct_211_1175 (sL_SC hS) (i_in (i_add hi ki_2 (by omega)) (by omega)) (i_cl (i_add hi ki_2 (by omega)) (by omega)) (((hsc _).trans e2)) ?_
      refine wi_aloadT_0 ct_211_1176 ?_
      refine wi_iload_3 ct_211_1177 ?_
      refine wi_ic ct_211_1178 kc_3 ?_
      refine wi_iadd ct_211_1179 rfl ?_
      refine wi_ialdT (j := I + 3) (x := a3) ct_211_1180 (sL_SC hS) (i_in (i_add hi ki_3 (by omega)) (by omega)) (i_cl (i_add hi ki_3 (by omega)) (by omega)) (((hsc _).trans e3)) ?_
      refine wi_cv3 (ls' := [some _, some _, some _, some _, none]) ct_211_1181 (Nat.le_of_ble_eq_true rfl) (by decide) (sT_31 hS) rfl (by decide) rfl rfl (Nat.le_of_ble_eq_true rfl) ?_
      refine wi_aload_0 ct_195_0 ?_
      refine wi_iload_1 ct_195_1 ?_
      refine wi_cv1 (ls' := [some _, some _]) ct_195_2 (Nat.le_of_ble_eq_true rfl) (by decide) (sT_31 hS) rfl (by decide) rfl rfl (Nat.le_of_ble_eq_true rfl) ?_
      refine wi_aload_0 ct_194_0 ?_
      refine wi_iload_1 ct_194_1 ?_
      refine wi_ic ct_194_2 kc_0 ?_
      refine wi_ic ct_194_3 kc_5 ?_
      refine wi_cv3 (ls' := [some _, some _, some _, some _]) ct_194_4 (Nat.le_of_ble_eq_true rfl) (by decide) (sT_31 hS) rfl (by decide) rfl rfl (Nat.le_of_ble_eq_true rfl) ?_
      refine c_in hTn ki_0 ki_5 (fun _ => wk_i ?_) (fun h => absurd h (by omega))
      refine wi_iret ct_194_7 (by decide) (wk_i ?_)
      refine wi_ifne_t ct_195_5 ki_1 (by decide) ?_
      refine wi_aload_0 ct_195_10 ?_
      refine wi_iload_2 ct_195_11 ?_
      refine wi_ic ct_195_12 kc_m1 ?_
      refine wi_ic ct_195_13 kc_4 ?_
      refine wi_cv3 (ls' := [some _, some _, some _, some _]) ct_195_14 (Nat.le_of_ble_eq_true rfl) (by decide) (sT_31 hS) rfl (by decide) rfl rfl (Nat.le_of_ble_eq_true rfl) ?_
      refine c_in rfl ki_m1 ki_4 (fun h => absurd h (by omega)) (fun _ => wk_i ?_)
      refine wi_ifeq_t ct_195_17 ki_0 (by decide) ?_
      refine wi_ic ct_195_30 kc_m2 ?_
      refine wi_iret ct_195_32 rfl (wk_i ?_)
      refine wi_iceq_t ct_211_1184 ki_m2 ki_m2 (by decide) ?_
      exact kk own g fi fl hR (by omega) (by omega)
    · skip
      refine wi_iload_2 ct_99_14 ?_
      refine wi_ic ct_99_15 kc_4 ?_
      refine wi_icle ct_99_16 rfl ki_4 (fun h2 => ?_) (fun h2 => ?_)
      · skip
        refine wi_iload_2 ct_99_22 ?_
        refine wi_ic ct_99_23 kc_m1 ?_
        refine wi_icne ct_99_24 rfl ki_m1 (fun h3 => ?_) (fun h3 => ?_)
        · skip
          refine wi_iload_3 ct_99_31 ?_
          refine wi_istore_4 rfl ct_99_32 ?_
          refine wi_iload_4 ct_99_34 ?_
          refine wi_ic ct_99_36 kc_60 ?_
          refine wi_icle ct_99_38 rfl ki_60 (fun h4 => ?_) (fun h4 => ?_)
          · skip
            refine wi_iload_4 ct_99_44 ?_
            refine wi_ifge ct_99_46 rfl (fun h5 => ?_) (fun h5 => ?_)
            · skip
              refine wi_aload_0 ct_99_52 ?_
              refine wi_gfr ct_99_53 (sT_0 hS) rfl (sR_0_11 hS) ?_
              refine wi_iload_1 ct_99_56 ?_
              refine wi_iload_2 ct_99_57 ?_
              refine wi_iast ct_99_58 (sT_22 hS) (sL_22 hS) (i_in hTn (by omega)) (i_cl (k := T) hTn (by omega)) ?_
              refine wi_aload_0 ct_99_59 ?_
              refine wi_gfr ct_99_60 (sT_0 hS) rfl (sR_0_12 hS) ?_
              refine wi_iload_1 ct_99_63 ?_
              refine wi_iload_4 ct_99_64 ?_
              refine wi_iast ct_99_66 (sT_23 hS) (sL_23 hS) (i_in hTn (by omega)) (i_cl (k := T) hTn (by omega)) ?_
              refine wi_ic ct_99_67 kc_0 ?_
              refine wi_istore_5 rfl ct_99_68 ?_
              obtain ⟨N7, hN7⟩ : ∃ k : Nat, (a3).toInt = (k : Int) := ⟨_, (i_cln (by omega)).symm⟩
              refine vl_tapec (N := N7) hS hT6 hTn hN7 (by omega) (fun fc6 zic6 hc61 hc62 => ?_) N7 0 _ _ (by omega) (ki_0.trans rfl) (fun j hj => absurd hj (by omega)) (fun _ _ => rfl)
              refine wi_ic ct_99_93 kc_1 ?_
              refine wi_iret ct_99_94 rfl (wk_i ?_)
              refine wi_aload_2 ct_211_1165 ?_
              refine wi_aloadT_0 ct_211_1166 ?_
              refine wi_iload_3 ct_211_1167 ?_
              refine wi_ic ct_211_1168 kc_1 ?_
              refine wi_iadd ct_211_1169 rfl ?_
              refine wi_ialdT (j := I + 1) (x := a1) ct_211_1170 (sL_SC hS) (i_in (i_add hi ki_1 (by omega)) (by omega)) (i_cl (i_add hi ki_1 (by omega)) (by omega)) ((Eq.trans (up2_nq (by decide)) (Eq.trans (up2_nq (by decide)) ((hsc _).trans e1)))) ?_
              refine wi_aloadT_0 ct_211_1171 ?_
              refine wi_iload_3 ct_211_1172 ?_
              refine wi_ic ct_211_1173 kc_2 ?_
              refine wi_iadd ct_211_1174 rfl ?_
              refine wi_ialdT (j := I + 2) (x := a2) ct_211_1175 (sL_SC hS) (i_in (i_add hi ki_2 (by omega)) (by omega)) (i_cl (i_add hi ki_2 (by omega)) (by omega)) ((Eq.trans (up2_nq (by decide)) (Eq.trans (up2_nq (by decide)) ((hsc _).trans e2)))) ?_
              refine wi_aloadT_0 ct_211_1176 ?_
              refine wi_iload_3 ct_211_1177 ?_
              refine wi_ic ct_211_1178 kc_3 ?_
              refine wi_iadd ct_211_1179 rfl ?_
              refine wi_ialdT (j := I + 3) (x := a3) ct_211_1180 (sL_SC hS) (i_in (i_add hi ki_3 (by omega)) (by omega)) (i_cl (i_add hi ki_3 (by omega)) (by omega)) ((Eq.trans (up2_nq (by decide)) (Eq.trans (up2_nq (by decide)) ((hsc _).trans e3)))) ?_
              refine wi_cv3 (ls' := [some _, some _, some _, some _, none]) ct_211_1181 (Nat.le_of_ble_eq_true rfl) (by decide) (sT_31 hS) rfl (by decide) rfl rfl (Nat.le_of_ble_eq_true rfl) ?_
              refine wi_aload_0 ct_195_0 ?_
              refine wi_iload_1 ct_195_1 ?_
              refine wi_cv1 (ls' := [some _, some _]) ct_195_2 (Nat.le_of_ble_eq_true rfl) (by decide) (sT_31 hS) rfl (by decide) rfl rfl (Nat.le_of_ble_eq_true rfl) ?_
              refine wi_aload_0 ct_194_0 ?_
              refine wi_iload_1 ct_194_1 ?_
              refine wi_ic ct_194_2 kc_0 ?_
              refine wi_ic ct_194_3 kc_5 ?_
              refine wi_cv3 (ls' := [some _, some _, some _, some _]) ct_194_4 (Nat.le_of_ble_eq_true rfl) (by decide) (sT_31 hS) rfl (by decide) rfl rfl (Nat.le_of_ble_eq_true rfl) ?_
              refine c_in hTn ki_0 ki_5 (fun _ => wk_i ?_) (fun h => absurd h (by omega))
              refine wi_iret ct_194_7 (by decide) (wk_i ?_)
              refine wi_ifne_t ct_195_5 ki_1 (by decide) ?_
              refine wi_aload_0 ct_195_10 ?_
              refine wi_iload_2 ct_195_11 ?_
              refine wi_ic ct_195_12 kc_m1 ?_
              refine wi_ic ct_195_13 kc_4 ?_
              refine wi_cv3 (ls' := [some _, some _, some _, some _]) ct_195_14 (Nat.le_of_ble_eq_true rfl) (by decide) (sT_31 hS) rfl (by decide) rfl rfl (Nat.le_of_ble_eq_true rfl) ?_
              refine c_in rfl ki_m1 ki_4 (fun _ => wk_i ?_) (fun h => absurd h (by omega))
              refine wi_ifeq_f ct_195_17 ki_1 (by decide) ?_
              refine wi_iload_2 ct_195_20 ?_
              refine wi_iflt_f ct_195_21 rfl (by omega) ?_
              refine wi_iload_3 ct_195_24 ?_
              refine wi_ic ct_195_25 kc_60 ?_
              refine wi_icle_t ct_195_27 hN7 ki_60 (by omega) ?_
              refine wi_iload_2 ct_195_33 ?_
              refine wi_iflt_f ct_195_34 rfl (by omega) ?_
              refine wi_iload_3 ct_195_37 ?_
              refine wi_ifge_t ct_195_38 hN7 (by omega) ?_
              refine wi_aload_0 ct_195_44 ?_
              refine wi_gfr ct_195_45 (sT_31 hS) rfl (sR_31_67 hS) ?_
              refine wi_iload_1 ct_195_48 ?_
              refine wi_iload_2 ct_195_49 ?_
              refine wi_iast ct_195_50 (sT_68 hS) (sL_68 hS) (i_in hTn (by omega)) (i_cl (k := T) hTn (by omega)) ?_
              refine wi_aload_0 ct_195_51 ?_
              refine wi_gfr ct_195_52 (sT_31 hS) rfl (sR_31_68 hS) ?_
              refine wi_iload_1 ct_195_55 ?_
              refine wi_iload_2 ct_195_56 ?_
              refine wi_ifge_t ct_195_57 rfl (by omega) ?_
              refine wi_iload_3 ct_195_64 ?_
              refine wi_iast ct_195_65 (sT_69 hS) (sL_69 hS) (i_in hTn (by omega)) (i_cl (k := T) hTn (by omega)) ?_
              refine wi_ic ct_195_66 kc_0 ?_
              refine wi_istore_4 rfl ct_195_67 ?_
              refine vl_tapem hS hT6 hTn (fun fm8 zim8 hm81 hm82 hm83 => ?_) 60 0 _ _ (by omega) (ki_0.trans rfl) (fun j hj => absurd hj (by omega)) (fun _ _ => rfl) (fun _ _ => rfl)
              refine wi_ic ct_195_95 kc_1 ?_
              refine wi_iret ct_195_96 rfl (wk_i ?_)
              refine wi_iceq_t ct_211_1184 ki_1 ki_1 (by decide) ?_
              have e69 : ((up2 (up2 (up2 (up2 fi 22 T (a2)) 23 T (a3)) 68 T (a2)) 69 T (a3)) 69 T).toInt = ((N7 : Nat) : Int) := (congrArg Int32.toInt up2_eq).trans hN7
              have e68 : (up2 (up2 (up2 (up2 fi 22 T (a2)) 23 T (a3)) 68 T (a2)) 69 T (a3)) 68 T = a2 := (Eq.trans (up2_nq (by decide)) up2_eq)
              refine kk own g _ _ (hR.tp (fun q h1 h2 h3 h4 => (Eq.trans (funext fun _ => up2_nq h4) (Eq.trans (funext fun _ => up2_nq h3) (Eq.trans (funext fun _ => up2_nq h2) (funext fun _ => up2_nq h1))))) (hP.put hT6 (fun t ht => ⟨(Eq.trans (up2_nq (by decide)) (Eq.trans (up2_nq (by decide)) (Eq.trans (up2_nq (by decide)) (up2_nj ht)))), (Eq.trans (up2_nq (by decide)) (Eq.trans (up2_nq (by decide)) (Eq.trans (up2_nj ht) (up2_nq (by decide))))), (Eq.trans (up2_nq (by decide)) (Eq.trans (up2_nj ht) (Eq.trans (up2_nq (by decide)) (up2_nq (by decide))))), (Eq.trans (up2_nj ht) (Eq.trans (up2_nq (by decide)) (Eq.trans (up2_nq (by decide)) (up2_nq (by decide)))))⟩) (fun t j ht hj hne => ⟨(congrFun (hm82 _ (by omega)) _).trans (congrFun (hc62 _ (by omega)) _), (hm83 _ (by omega)).trans (congrFun (hc62 _ (by omega)) _)⟩) ⟨((Eq.trans (up2_nq (by decide)) (Eq.trans (up2_nq (by decide)) (Eq.trans (up2_nq (by decide)) up2_eq)))).trans ((Eq.trans (up2_nq (by decide)) up2_eq)).symm, ((Eq.trans (up2_nq (by decide)) (Eq.trans (up2_nq (by decide)) up2_eq))).trans (up2_eq).symm, by rw [e68]; omega, by omega, by rw [e68]; omega, fun k hk => ?_⟩)) (by omega) (by omega)
              exact ((congrFun (hm82 _ (by omega)) _).trans (hc61 k (by omega))).trans (hm81 k (by omega)).symm
            · skip
              refine wi_ic ct_99_49 kc_m14 ?_
              refine wi_iret ct_99_51 rfl (wk_i ?_)
              refine wi_aload_2 ct_211_1165 ?_
              refine wi_aloadT_0 ct_211_1166 ?_
              refine wi_iload_3 ct_211_1167 ?_
              refine wi_ic ct_211_1168 kc_1 ?_
              refine wi_iadd ct_211_1169 rfl ?_
              refine wi_ialdT (j := I + 1) (x := a1) ct_211_1170 (sL_SC hS) (i_in (i_add hi ki_1 (by omega)) (by omega)) (i_cl (i_add hi ki_1 (by omega)) (by omega)) (((hsc _).trans e1)) ?_
              refine wi_aloadT_0 ct_211_1171 ?_
              refine wi_iload_3 ct_211_1172 ?_
              refine wi_ic ct_211_1173 kc_2 ?_
              refine wi_iadd ct_211_1174 rfl ?_
              refine wi_ialdT (j := I + 2) (x := a2) ct_211_1175 (sL_SC hS) (i_in (i_add hi ki_2 (by omega)) (by omega)) (i_cl (i_add hi ki_2 (by omega)) (by omega)) (((hsc _).trans e2)) ?_
              refine wi_aloadT_0 ct_211_1176 ?_
              refine wi_iload_3 ct_211_1177 ?_
              refine wi_ic ct_211_1178 kc_3 ?_
              refine wi_iadd ct_211_1179 rfl ?_
              refine wi_ialdT (j := I + 3) (x := a3) ct_211_1180 (sL_SC hS) (i_in (i_add hi ki_3 (by omega)) (by omega)) (i_cl (i_add hi ki_3 (by omega)) (by omega)) (((hsc _).trans e3)) ?_
              refine wi_cv3 (ls' := [some _, some _, some _, some _, none]) ct_211_1181 (Nat.le_of_ble_eq_true rfl) (by decide) (sT_31 hS) rfl (by decide) rfl rfl (Nat.le_of_ble_eq_true rfl) ?_
              refine wi_aload_0 ct_195_0 ?_
              refine wi_iload_1 ct_195_1 ?_
              refine wi_cv1 (ls' := [some _, some _]) ct_195_2 (Nat.le_of_ble_eq_true rfl) (by decide) (sT_31 hS) rfl (by decide) rfl rfl (Nat.le_of_ble_eq_true rfl) ?_
              refine wi_aload_0 ct_194_0 ?_
              refine wi_iload_1 ct_194_1 ?_
              refine wi_ic ct_194_2 kc_0 ?_
              refine wi_ic ct_194_3 kc_5 ?_
              refine wi_cv3 (ls' := [some _, some _, some _, some _]) ct_194_4 (Nat.le_of_ble_eq_true rfl) (by decide) (sT_31 hS) rfl (by decide) rfl rfl (Nat.le_of_ble_eq_true rfl) ?_
              refine c_in hTn ki_0 ki_5 (fun _ => wk_i ?_) (fun h => absurd h (by omega))
              refine wi_iret ct_194_7 (by decide) (wk_i ?_)
              refine wi_ifne_t ct_195_5 ki_1 (by decide) ?_
              refine wi_aload_0 ct_195_10 ?_
              refine wi_iload_2 ct_195_11 ?_
              refine wi_ic ct_195_12 kc_m1 ?_
              refine wi_ic ct_195_13 kc_4 ?_
              refine wi_cv3 (ls' := [some _, some _, some _, some _]) ct_195_14 (Nat.le_of_ble_eq_true rfl) (by decide) (sT_31 hS) rfl (by decide) rfl rfl (Nat.le_of_ble_eq_true rfl) ?_
              refine c_in rfl ki_m1 ki_4 (fun _ => wk_i ?_) (fun h => absurd h (by omega))
              refine wi_ifeq_f ct_195_17 ki_1 (by decide) ?_
              refine wi_iload_2 ct_195_20 ?_
              refine wi_iflt_f ct_195_21 rfl (by omega) ?_
              refine wi_iload_3 ct_195_24 ?_
              refine wi_ic ct_195_25 kc_60 ?_
              refine wi_icle_t ct_195_27 rfl ki_60 (by omega) ?_
              refine wi_iload_2 ct_195_33 ?_
              refine wi_iflt_f ct_195_34 rfl (by omega) ?_
              refine wi_iload_3 ct_195_37 ?_
              refine wi_ifge_f ct_195_38 rfl (by omega) ?_
              refine wi_ic ct_195_41 kc_m14 ?_
              refine wi_iret ct_195_43 rfl (wk_i ?_)
              refine wi_iceq_t ct_211_1184 ki_m14 ki_m14 (by decide) ?_
              exact kk own g fi fl hR (by omega) (by omega)
          · skip
            refine wi_ic ct_99_41 kc_m2 ?_
            refine wi_iret ct_99_43 rfl (wk_i ?_)
            refine wi_aload_2 ct_211_1165 ?_
            refine wi_aloadT_0 ct_211_1166 ?_
            refine wi_iload_3 ct_211_1167 ?_
            refine wi_ic ct_211_1168 kc_1 ?_
            refine wi_iadd ct_211_1169 rfl ?_
            refine wi_ialdT (j := I + 1) (x := a1) ct_211_1170 (sL_SC hS) (i_in (i_add hi ki_1 (by omega)) (by omega)) (i_cl (i_add hi ki_1 (by omega)) (by omega)) (((hsc _).trans e1)) ?_
            refine wi_aloadT_0 ct_211_1171 ?_
            refine wi_iload_3 ct_211_1172 ?_
            refine wi_ic ct_211_1173 kc_2 ?_
            refine wi_iadd ct_211_1174 rfl ?_
            refine wi_ialdT (j := I + 2) (x := a2) ct_211_1175 (sL_SC hS) (i_in (i_add hi ki_2 (by omega)) (by omega)) (i_cl (i_add hi ki_2 (by omega)) (by omega)) (((hsc _).trans e2)) ?_
            refine wi_aloadT_0 ct_211_1176 ?_
            refine wi_iload_3 ct_211_1177 ?_
            refine wi_ic ct_211_1178 kc_3 ?_
            refine wi_iadd ct_211_1179 rfl ?_
            refine wi_ialdT (j := I + 3) (x := a3) ct_211_1180 (sL_SC hS) (i_in (i_add hi ki_3 (by omega)) (by omega)) (i_cl (i_add hi ki_3 (by omega)) (by omega)) (((hsc _).trans e3)) ?_
            refine wi_cv3 (ls' := [some _, some _, some _, some _, none]) ct_211_1181 (Nat.le_of_ble_eq_true rfl) (by decide) (sT_31 hS) rfl (by decide) rfl rfl (Nat.le_of_ble_eq_true rfl) ?_
            refine wi_aload_0 ct_195_0 ?_
            refine wi_iload_1 ct_195_1 ?_
            refine wi_cv1 (ls' := [some _, some _]) ct_195_2 (Nat.le_of_ble_eq_true rfl) (by decide) (sT_31 hS) rfl (by decide) rfl rfl (Nat.le_of_ble_eq_true rfl) ?_
            refine wi_aload_0 ct_194_0 ?_
            refine wi_iload_1 ct_194_1 ?_
            refine wi_ic ct_194_2 kc_0 ?_
            refine wi_ic ct_194_3 kc_5 ?_
            refine wi_cv3 (ls' := [some _, some _, some _, some _]) ct_194_4 (Nat.le_of_ble_eq_true rfl) (by decide) (sT_31 hS) rfl (by decide) rfl rfl (Nat.le_of_ble_eq_true rfl) ?_
            refine c_in hTn ki_0 ki_5 (fun _ => wk_i ?_) (fun h => absurd h (by omega))
            refine wi_iret ct_194_7 (by decide) (wk_i ?_)
            refine wi_ifne_t ct_195_5 ki_1 (by decide) ?_
            refine wi_aload_0 ct_195_10 ?_
            refine wi_iload_2 ct_195_11 ?_
            refine wi_ic ct_195_12 kc_m1 ?_
            refine wi_ic ct_195_13 kc_4 ?_
            refine wi_cv3 (ls' := [some _, some _, some _, some _]) ct_195_14 (Nat.le_of_ble_eq_true rfl) (by decide) (sT_31 hS) rfl (by decide) rfl rfl (Nat.le_of_ble_eq_true rfl) ?_
            refine c_in rfl ki_m1 ki_4 (fun _ => wk_i ?_) (fun h => absurd h (by omega))
            refine wi_ifeq_f ct_195_17 ki_1 (by decide) ?_
            refine wi_iload_2 ct_195_20 ?_
            refine wi_iflt_f ct_195_21 rfl (by omega) ?_
            refine wi_iload_3 ct_195_24 ?_
            refine wi_ic ct_195_25 kc_60 ?_
            refine wi_icle_f ct_195_27 rfl ki_60 (by omega) ?_
            refine wi_ic ct_195_30 kc_m2 ?_
            refine wi_iret ct_195_32 rfl (wk_i ?_)
            refine wi_iceq_t ct_211_1184 ki_m2 ki_m2 (by decide) ?_
            exact kk own g fi fl hR (by omega) (by omega)
        · skip
          refine wi_ic ct_99_27 kc_0 ?_
          refine wi_goto ct_99_28 ?_
          refine wi_istore_4 rfl ct_99_32 ?_
          refine wi_iload_4 ct_99_34 ?_
          refine wi_ic ct_99_36 kc_60 ?_
          refine wi_icle_t ct_99_38 ki_0 ki_60 (by decide) ?_
          refine wi_iload_4 ct_99_44 ?_
          refine wi_ifge_t ct_99_46 ki_0 (by decide) ?_
          refine wi_aload_0 ct_99_52 ?_
          refine wi_gfr ct_99_53 (sT_0 hS) rfl (sR_0_11 hS) ?_
          refine wi_iload_1 ct_99_56 ?_
          refine wi_iload_2 ct_99_57 ?_
          refine wi_iast ct_99_58 (sT_22 hS) (sL_22 hS) (i_in hTn (by omega)) (i_cl (k := T) hTn (by omega)) ?_
          refine wi_aload_0 ct_99_59 ?_
          refine wi_gfr ct_99_60 (sT_0 hS) rfl (sR_0_12 hS) ?_
          refine wi_iload_1 ct_99_63 ?_
          refine wi_iload_4 ct_99_64 ?_
          refine wi_iast ct_99_66 (sT_23 hS) (sL_23 hS) (i_in hTn (by omega)) (i_cl (k := T) hTn (by omega)) ?_
          refine wi_ic ct_99_67 kc_0 ?_
          refine wi_istore_5 rfl ct_99_68 ?_
          refine vl_tapec (N := 0) hS hT6 hTn (ki_0.trans rfl) (by omega) (fun fc9 zic9 hc91 hc92 => ?_) 0 0 _ _ (by omega) (ki_0.trans rfl) (fun j hj => absurd hj (by omega)) (fun _ _ => rfl)
          refine wi_ic ct_99_93 kc_1 ?_
          refine wi_iret ct_99_94 rfl (wk_i ?_)
          refine wi_aload_2 ct_211_1165 ?_
          refine wi_aloadT_0 ct_211_1166 ?_
          refine wi_iload_3 ct_211_1167 ?_
          refine wi_ic ct_211_1168 kc_1 ?_
          refine wi_iadd ct_211_1169 rfl ?_
          refine wi_ialdT (j := I + 1) (x := a1) ct_211_1170 (sL_SC hS) (i_in (i_add hi ki_1 (by omega)) (by omega)) (i_cl (i_add hi ki_1 (by omega)) (by omega)) ((Eq.trans (up2_nq (by decide)) (Eq.trans (up2_nq (by decide)) ((hsc _).trans e1)))) ?_
          refine wi_aloadT_0 ct_211_1171 ?_
          refine wi_iload_3 ct_211_1172 ?_
          refine wi_ic ct_211_1173 kc_2 ?_
          refine wi_iadd ct_211_1174 rfl ?_
          refine wi_ialdT (j := I + 2) (x := a2) ct_211_1175 (sL_SC hS) (i_in (i_add hi ki_2 (by omega)) (by omega)) (i_cl (i_add hi ki_2 (by omega)) (by omega)) ((Eq.trans (up2_nq (by decide)) (Eq.trans (up2_nq (by decide)) ((hsc _).trans e2)))) ?_
          refine wi_aloadT_0 ct_211_1176 ?_
          refine wi_iload_3 ct_211_1177 ?_
          refine wi_ic ct_211_1178 kc_3 ?_
          refine wi_iadd ct_211_1179 rfl ?_
          refine wi_ialdT (j := I + 3) (x := a3) ct_211_1180 (sL_SC hS) (i_in (i_add hi ki_3 (by omega)) (by omega)) (i_cl (i_add hi ki_3 (by omega)) (by omega)) ((Eq.trans (up2_nq (by decide)) (Eq.trans (up2_nq (by decide)) ((hsc _).trans e3)))) ?_
          refine wi_cv3 (ls' := [some _, some _, some _, some _, none]) ct_211_1181 (Nat.le_of_ble_eq_true rfl) (by decide) (sT_31 hS) rfl (by decide) rfl rfl (Nat.le_of_ble_eq_true rfl) ?_
          refine wi_aload_0 ct_195_0 ?_
          refine wi_iload_1 ct_195_1 ?_
          refine wi_cv1 (ls' := [some _, some _]) ct_195_2 (Nat.le_of_ble_eq_true rfl) (by decide) (sT_31 hS) rfl (by decide) rfl rfl (Nat.le_of_ble_eq_true rfl) ?_
          refine wi_aload_0 ct_194_0 ?_
          refine wi_iload_1 ct_194_1 ?_
          refine wi_ic ct_194_2 kc_0 ?_
          refine wi_ic ct_194_3 kc_5 ?_
          refine wi_cv3 (ls' := [some _, some _, some _, some _]) ct_194_4 (Nat.le_of_ble_eq_true rfl) (by decide) (sT_31 hS) rfl (by decide) rfl rfl (Nat.le_of_ble_eq_true rfl) ?_
          refine c_in hTn ki_0 ki_5 (fun _ => wk_i ?_) (fun h => absurd h (by omega))
          refine wi_iret ct_194_7 (by decide) (wk_i ?_)
          refine wi_ifne_t ct_195_5 ki_1 (by decide) ?_
          refine wi_aload_0 ct_195_10 ?_
          refine wi_iload_2 ct_195_11 ?_
          refine wi_ic ct_195_12 kc_m1 ?_
          refine wi_ic ct_195_13 kc_4 ?_
          refine wi_cv3 (ls' := [some _, some _, some _, some _]) ct_195_14 (Nat.le_of_ble_eq_true rfl) (by decide) (sT_31 hS) rfl (by decide) rfl rfl (Nat.le_of_ble_eq_true rfl) ?_
          refine c_in rfl ki_m1 ki_4 (fun _ => wk_i ?_) (fun h => absurd h (by omega))
          refine wi_ifeq_f ct_195_17 ki_1 (by decide) ?_
          refine wi_iload_2 ct_195_20 ?_
          refine wi_iflt_t ct_195_21 rfl (by omega) ?_
          refine wi_iload_2 ct_195_33 ?_
          refine wi_iflt_t ct_195_34 rfl (by omega) ?_
          refine wi_aload_0 ct_195_44 ?_
          refine wi_gfr ct_195_45 (sT_31 hS) rfl (sR_31_67 hS) ?_
          refine wi_iload_1 ct_195_48 ?_
          refine wi_iload_2 ct_195_49 ?_
          refine wi_iast ct_195_50 (sT_68 hS) (sL_68 hS) (i_in hTn (by omega)) (i_cl (k := T) hTn (by omega)) ?_
          refine wi_aload_0 ct_195_51 ?_
          refine wi_gfr ct_195_52 (sT_31 hS) rfl (sR_31_68 hS) ?_
          refine wi_iload_1 ct_195_55 ?_
          refine wi_iload_2 ct_195_56 ?_
          refine wi_ifge_f ct_195_57 rfl (by omega) ?_
          refine wi_ic ct_195_60 kc_0 ?_
          refine wi_goto ct_195_61 ?_
          refine wi_iast ct_195_65 (sT_69 hS) (sL_69 hS) (i_in hTn (by omega)) (i_cl (k := T) hTn (by omega)) ?_
          refine wi_ic ct_195_66 kc_0 ?_
          refine wi_istore_4 rfl ct_195_67 ?_
          refine vl_tapem hS hT6 hTn (fun fm10 zim10 hm101 hm102 hm103 => ?_) 60 0 _ _ (by omega) (ki_0.trans rfl) (fun j hj => absurd hj (by omega)) (fun _ _ => rfl) (fun _ _ => rfl)
          refine wi_ic ct_195_95 kc_1 ?_
          refine wi_iret ct_195_96 rfl (wk_i ?_)
          refine wi_iceq_t ct_211_1184 ki_1 ki_1 (by decide) ?_
          have e69 : ((up2 (up2 (up2 (up2 fi 22 T (a2)) 23 T (0)) 68 T (a2)) 69 T (0)) 69 T).toInt = ((0 : Nat) : Int) := (congrArg Int32.toInt up2_eq).trans ki_0
          have e68 : (up2 (up2 (up2 (up2 fi 22 T (a2)) 23 T (0)) 68 T (a2)) 69 T (0)) 68 T = a2 := (Eq.trans (up2_nq (by decide)) up2_eq)
          refine kk own g _ _ (hR.tp (fun q h1 h2 h3 h4 => (Eq.trans (funext fun _ => up2_nq h4) (Eq.trans (funext fun _ => up2_nq h3) (Eq.trans (funext fun _ => up2_nq h2) (funext fun _ => up2_nq h1))))) (hP.put hT6 (fun t ht => ⟨(Eq.trans (up2_nq (by decide)) (Eq.trans (up2_nq (by decide)) (Eq.trans (up2_nq (by decide)) (up2_nj ht)))), (Eq.trans (up2_nq (by decide)) (Eq.trans (up2_nq (by decide)) (Eq.trans (up2_nj ht) (up2_nq (by decide))))), (Eq.trans (up2_nq (by decide)) (Eq.trans (up2_nj ht) (Eq.trans (up2_nq (by decide)) (up2_nq (by decide))))), (Eq.trans (up2_nj ht) (Eq.trans (up2_nq (by decide)) (Eq.trans (up2_nq (by decide)) (up2_nq (by decide)))))⟩) (fun t j ht hj hne => ⟨(congrFun (hm102 _ (by omega)) _).trans (congrFun (hc92 _ (by omega)) _), (hm103 _ (by omega)).trans (congrFun (hc92 _ (by omega)) _)⟩) ⟨((Eq.trans (up2_nq (by decide)) (Eq.trans (up2_nq (by decide)) (Eq.trans (up2_nq (by decide)) up2_eq)))).trans ((Eq.trans (up2_nq (by decide)) up2_eq)).symm, ((Eq.trans (up2_nq (by decide)) (Eq.trans (up2_nq (by decide)) up2_eq))).trans (up2_eq).symm, by rw [e68]; omega, by omega, by rw [e68]; omega, fun k hk => ?_⟩)) (by omega) (by omega)
          exact ((congrFun (hm102 _ (by omega)) _).trans (hc91 k (by omega))).trans (hm101 k (by omega)).symm
      · skip
        refine wi_ic ct_99_19 kc_m2 ?_
        refine wi_iret ct_99_21 rfl (wk_i ?_)
        refine wi_aload_2 ct_211_1165 ?_
        refine wi_aloadT_0 ct_211_1166 ?_
        refine wi_iload_3 ct_211_1167 ?_
        refine wi_ic ct_211_1168 kc_1 ?_
        refine wi_iadd ct_211_1169 rfl ?_
        refine wi_ialdT (j := I + 1) (x := a1) ct_211_1170 (sL_SC hS) (i_in (i_add hi ki_1 (by omega)) (by omega)) (i_cl (i_add hi ki_1 (by omega)) (by omega)) (((hsc _).trans e1)) ?_
        refine wi_aloadT_0 ct_211_1171 ?_
        refine wi_iload_3 ct_211_1172 ?_
        refine wi_ic ct_211_1173 kc_2 ?_
        refine wi_iadd ct_211_1174 rfl ?_
        refine wi_ialdT (j := I + 2) (x := a2) ct_211_1175 (sL_SC hS) (i_in (i_add hi ki_2 (by omega)) (by omega)) (i_cl (i_add hi ki_2 (by omega)) (by omega)) (((hsc _).trans e2)) ?_
        refine wi_aloadT_0 ct_211_1176 ?_
        refine wi_iload_3 ct_211_1177 ?_
        refine wi_ic ct_211_1178 kc_3 ?_
        refine wi_iadd ct_211_1179 rfl ?_
        refine wi_ialdT (j := I + 3) (x := a3) ct_211_1180 (sL_SC hS) (i_in (i_add hi ki_3 (by omega)) (by omega)) (i_cl (i_add hi ki_3 (by omega)) (by omega)) (((hsc _).trans e3)) ?_
        refine wi_cv3 (ls' := [some _, some _, some _, some _, none]) ct_211_1181 (Nat.le_of_ble_eq_true rfl) (by decide) (sT_31 hS) rfl (by decide) rfl rfl (Nat.le_of_ble_eq_true rfl) ?_
        refine wi_aload_0 ct_195_0 ?_
        refine wi_iload_1 ct_195_1 ?_
        refine wi_cv1 (ls' := [some _, some _]) ct_195_2 (Nat.le_of_ble_eq_true rfl) (by decide) (sT_31 hS) rfl (by decide) rfl rfl (Nat.le_of_ble_eq_true rfl) ?_
        refine wi_aload_0 ct_194_0 ?_
        refine wi_iload_1 ct_194_1 ?_
        refine wi_ic ct_194_2 kc_0 ?_
        refine wi_ic ct_194_3 kc_5 ?_
        refine wi_cv3 (ls' := [some _, some _, some _, some _]) ct_194_4 (Nat.le_of_ble_eq_true rfl) (by decide) (sT_31 hS) rfl (by decide) rfl rfl (Nat.le_of_ble_eq_true rfl) ?_
        refine c_in hTn ki_0 ki_5 (fun _ => wk_i ?_) (fun h => absurd h (by omega))
        refine wi_iret ct_194_7 (by decide) (wk_i ?_)
        refine wi_ifne_t ct_195_5 ki_1 (by decide) ?_
        refine wi_aload_0 ct_195_10 ?_
        refine wi_iload_2 ct_195_11 ?_
        refine wi_ic ct_195_12 kc_m1 ?_
        refine wi_ic ct_195_13 kc_4 ?_
        refine wi_cv3 (ls' := [some _, some _, some _, some _]) ct_195_14 (Nat.le_of_ble_eq_true rfl) (by decide) (sT_31 hS) rfl (by decide) rfl rfl (Nat.le_of_ble_eq_true rfl) ?_
        refine c_in rfl ki_m1 ki_4 (fun h => absurd h (by omega)) (fun _ => wk_i ?_)
        refine wi_ifeq_t ct_195_17 ki_0 (by decide) ?_
        refine wi_ic ct_195_30 kc_m2 ?_
        refine wi_iret ct_195_32 rfl (wk_i ?_)
        refine wi_iceq_t ct_211_1184 ki_m2 ki_m2 (by decide) ?_
        exact kk own g fi fl hR (by omega) (by omega)
  · skip
    refine wi_aload_1 ct_211_1146 ?_
    refine wi_aloadT_0 ct_211_1147 ?_
    refine wi_iload_3 ct_211_1148 ?_
    refine wi_ic ct_211_1149 kc_1 ?_
    refine wi_iadd ct_211_1150 rfl ?_
    refine wi_ialdT (j := I + 1) (x := a1) ct_211_1151 (sL_SC hS) (i_in (i_add hi ki_1 (by omega)) (by omega)) (i_cl (i_add hi ki_1 (by omega)) (by omega)) (((hsc _).trans e1)) ?_
    refine wi_aloadT_0 ct_211_1152 ?_
    refine wi_iload_3 ct_211_1153 ?_
    refine wi_ic ct_211_1154 kc_2 ?_
    refine wi_iadd ct_211_1155 rfl ?_
    refine wi_ialdT (j := I + 2) (x := a2) ct_211_1156 (sL_SC hS) (i_in (i_add hi ki_2 (by omega)) (by omega)) (i_cl (i_add hi ki_2 (by omega)) (by omega)) (((hsc _).trans e2)) ?_
    refine wi_aloadT_0 ct_211_1157 ?_
    refine wi_iload_3 ct_211_1158 ?_
    refine wi_ic ct_211_1159 kc_3 ?_
    refine wi_iadd ct_211_1160 rfl ?_
    refine wi_ialdT (j := I + 3) (x := a3) ct_211_1161 (sL_SC hS) (i_in (i_add hi ki_3 (by omega)) (by omega)) (i_cl (i_add hi ki_3 (by omega)) (by omega)) (((hsc _).trans e3)) ?_
    refine wi_cv3 (ls' := [some _, some _, some _, some _, none, none]) ct_211_1162 (Nat.le_of_ble_eq_true rfl) (by decide) (sT_0 hS) rfl (by decide) rfl rfl (Nat.le_of_ble_eq_true rfl) ?_
    refine wi_iload_1 ct_99_0 ?_
    refine wi_cs1 (ls' := [some _]) ct_99_1 (Nat.le_of_ble_eq_true rfl) rfl (Nat.le_of_ble_eq_true rfl) ?_
    refine wi_iload_0 ct_114_0 ?_
    refine wi_ic ct_114_1 kc_0 ?_
    refine wi_ic ct_114_2 kc_5 ?_
    refine wi_cs3 (ls' := [some _, some _, some _]) ct_114_3 (Nat.le_of_ble_eq_true rfl) rfl (Nat.le_of_ble_eq_true rfl) ?_
    refine c_within rfl ki_0 ki_5 (fun h => absurd h (by omega)) (fun _ => wk_i ?_)
    refine wi_iret ct_114_6 (by decide) (wk_i ?_)
    refine wi_ifne_f ct_99_4 ki_0 (by decide) ?_
    refine wi_ic ct_99_7 kc_m1 ?_
    refine wi_iret ct_99_8 rfl (wk_i ?_)
    refine wi_aload_2 ct_211_1165 ?_
    refine wi_aloadT_0 ct_211_1166 ?_
    refine wi_iload_3 ct_211_1167 ?_
    refine wi_ic ct_211_1168 kc_1 ?_
    refine wi_iadd ct_211_1169 rfl ?_
    refine wi_ialdT (j := I + 1) (x := a1) ct_211_1170 (sL_SC hS) (i_in (i_add hi ki_1 (by omega)) (by omega)) (i_cl (i_add hi ki_1 (by omega)) (by omega)) (((hsc _).trans e1)) ?_
    refine wi_aloadT_0 ct_211_1171 ?_
    refine wi_iload_3 ct_211_1172 ?_
    refine wi_ic ct_211_1173 kc_2 ?_
    refine wi_iadd ct_211_1174 rfl ?_
    refine wi_ialdT (j := I + 2) (x := a2) ct_211_1175 (sL_SC hS) (i_in (i_add hi ki_2 (by omega)) (by omega)) (i_cl (i_add hi ki_2 (by omega)) (by omega)) (((hsc _).trans e2)) ?_
    refine wi_aloadT_0 ct_211_1176 ?_
    refine wi_iload_3 ct_211_1177 ?_
    refine wi_ic ct_211_1178 kc_3 ?_
    refine wi_iadd ct_211_1179 rfl ?_
    refine wi_ialdT (j := I + 3) (x := a3) ct_211_1180 (sL_SC hS) (i_in (i_add hi ki_3 (by omega)) (by omega)) (i_cl (i_add hi ki_3 (by omega)) (by omega)) (((hsc _).trans e3)) ?_
    refine wi_cv3 (ls' := [some _, some _, some _, some _, none]) ct_211_1181 (Nat.le_of_ble_eq_true rfl) (by decide) (sT_31 hS) rfl (by decide) rfl rfl (Nat.le_of_ble_eq_true rfl) ?_
    refine wi_aload_0 ct_195_0 ?_
    refine wi_iload_1 ct_195_1 ?_
    refine wi_cv1 (ls' := [some _, some _]) ct_195_2 (Nat.le_of_ble_eq_true rfl) (by decide) (sT_31 hS) rfl (by decide) rfl rfl (Nat.le_of_ble_eq_true rfl) ?_
    refine wi_aload_0 ct_194_0 ?_
    refine wi_iload_1 ct_194_1 ?_
    refine wi_ic ct_194_2 kc_0 ?_
    refine wi_ic ct_194_3 kc_5 ?_
    refine wi_cv3 (ls' := [some _, some _, some _, some _]) ct_194_4 (Nat.le_of_ble_eq_true rfl) (by decide) (sT_31 hS) rfl (by decide) rfl rfl (Nat.le_of_ble_eq_true rfl) ?_
    refine c_in rfl ki_0 ki_5 (fun h => absurd h (by omega)) (fun _ => wk_i ?_)
    refine wi_iret ct_194_7 (by decide) (wk_i ?_)
    refine wi_ifne_f ct_195_5 ki_0 (by decide) ?_
    refine wi_ic ct_195_8 kc_m1 ?_
    refine wi_iret ct_195_9 rfl (wk_i ?_)
    refine wi_iceq_t ct_211_1184 ki_m1 ki_m1 (by decide) ?_
    exact kk own g fi fl hR (by omega) (by omega)
