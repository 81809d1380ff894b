section AUN
variable {L N : Nat} {xs : Nat → Int32} {own : Nat → Nat} {g g2 : am_G} {fi fi2 fi3 fi4 : am_I} {fl : am_L} {q a0 a2 a5 a6 a7 a9 a10 a12 : Nat} {ik : Nat → Nat}
/-- behind the copy back: the same blowers -/
theorem und_RO (hR : Rel L xs own g fi fl) (hp : RIp own g q a0 a2 a5 a6 a7 a9 a10 a12 ik) (hv : RIv g fi q a0 a2 a5 a6 a7 a9 a10 ik) (hrw : RW5 g g2 2 a0) (hcp : CPY fi fi2 1 3 4 5 6 7 8 q a2 a5 a6 a7 a9 a10) {b : Nat} (hb : (b : Int) < (fi 31 49).toInt) : ∃ p r, RO own g fi b p r ∧ RO own g2 fi2 b p r := by
  obtain ⟨hS, hsc, hC, hK, hX, hV, hT, hP, hB, hN, hQ, hZ, hI⟩ := hR
  obtain ⟨⟨v1, v1a, v1b⟩, v3, v4, v8, v11, vn, vb, vs, vk, vz, vB⟩ := hv
  have h5 := hC.1.2.2
  obtain ⟨hM, p, r, hO⟩ := hB b (by omega)
  obtain ⟨cf, c2, c5, c6, c7, c9, c10, cw⟩ := hcp
  have hw : ∀ x, ¬ (x = 1 ∨ 3 ≤ x ∧ x ≤ 8) → fi2 x = fi x := fun x h => cw x (by omega)
  have hf : rl_fr (fun _ => True) own own g g2 fi fi2 := ⟨by rw [hrw.nx.1]; exact Nat.le_refl _, fun x h1 _ _ => ⟨by rw [hrw.1.1], by rw [hrw.1.2.1], funext fun j => hrw.2.2 x j (Or.inl (by omega)), rfl, hw x (by omega)⟩⟩
  exact ⟨p, r, hO, hO.fr (by omega) hf (fun _ _ => trivial) ((hrw.2.1 b (by omega)).trans (vB b hb).1) (congrFun (hw 32 (by decide)) b) (congrFun (hw 33 (by decide)) b) (congrFun (hw 34 (by decide)) b) (congrFun (hw 35 (by decide)) b) (congrFun (hw 36 (by decide)) b) (fun j _ => congrFun (hw 37 (by decide)) _)⟩
theorem Rel.und (hR : Rel L xs own g fi fl) (hq : g.2.2.1 0 1 = some q) (h47 : fi 31 47 = 1) (hp : RIp own g q a0 a2 a5 a6 a7 a9 a10 a12 ik) (hv : RIv g fi q a0 a2 a5 a6 a7 a9 a10 ik) (hnx : am_nx g ≤ 800100) (hrw : RW5 g g2 2 a0) (hcp : CPY fi fi2 1 3 4 5 6 7 8 q a2 a5 a6 a7 a9 a10) (hN : (fi 31 49).toInt = (N : Int)) (hf3 : ∀ x, (¬ (72 ≤ x ∧ x < am_nx g2) ∨ ∀ b, b < N → own x ≠ 10 + b ∧ own x ≠ 20 + b) → fi3 x = fi2 x) (hG : ∀ b, b < N → ∀ p r, RO own g2 fi2 b p r → GVT fi2 fi3 p r (ik b) (fi2 32 b).toInt) (hm : MUN fi3 fi4) : Rel L xs own g2 fi4 fl := by
  have hro := fun (b : Nat) (hb : (b : Int) < (fi 31 49).toInt) => und_RO hR hp hv hrw hcp hb
  obtain ⟨hS, hsc, hC, hK, hX, hV, hT, hP, hB, hN2, hQ, hZ, hI⟩ := id hR
  obtain ⟨⟨c0, c0a, c0b⟩, ⟨c1, c1a, c1b⟩, ⟨c2, c2a, c2b⟩, ⟨c3, c3a, c3b⟩, ⟨c4, c4a, c4b⟩, ⟨c5, c5a, c5b⟩, ⟨c6, c6a, c6b⟩, ⟨c7, c7a, c7b⟩, c8, c9⟩ := hC
  obtain ⟨p0, pr, ⟨d, d0, d2, d5, d6, d7, d9, d10, d12⟩, pt, pl, pik⟩ := id hp
  obtain ⟨⟨v1, v1a, v1b⟩, ⟨v3, v3a, v3b⟩, ⟨v4, v4a, v4b⟩, ⟨v8, v8a, v8b⟩, ⟨v11, v11a, v11b⟩, vn, vb, vs, vk, vz, vB⟩ := id hv
  obtain ⟨⟨k1, k3, k4, k8, k11⟩, y2, y5, y6, y7, y9, y10, cw⟩ := hcp
  obtain ⟨⟨m0, m1, m10, m40, m44⟩, m, w, mb, mr, mk, ms, mB⟩ := hm
  have h9 : am_SC = 1000000 := rfl
  have hN5 : N ≤ 5 := by omega
  have hnx2 : am_nx g2 = am_nx g := hrw.nx.1
  have hS2 : SF L g2 := hrw.SF hS (Or.inr rfl)
  have e2 : ∀ x, ¬ (x = 1 ∨ 3 ≤ x ∧ x ≤ 8) → fi2 x = fi x := fun x h => cw x (by omega)
  have e3 : ∀ x, x < 72 → fi3 x = fi2 x := fun x h => hf3 x (Or.inl (by omega))
  have eS : fi4 am_SC = fi am_SC := (w am_SC (by omega)).trans ((hf3 am_SC (Or.inl (by omega))).trans (e2 am_SC (by omega)))
  -- fixed rows that nobody touched
  have ef : ∀ x, x < 72 → ¬ (x = 1 ∨ 3 ≤ x ∧ x ≤ 8) → ¬ (x = 31 ∨ 32 ≤ x ∧ x ≤ 38 ∨ 50 ≤ x ∧ x ≤ 54) → fi4 x = fi x := fun x a b c => (w x c).trans ((e3 x a).trans (e2 x b))
  -- the class's rows
  have ec : ∀ x, x = 1 ∨ 3 ≤ x ∧ x ≤ 8 → fi4 x = fi2 x := fun x a => (w x (by omega)).trans (e3 x (by omega))
  -- what the reference's rows were
  have er : ∀ x, x < 72 → ¬ (x = 1 ∨ 3 ≤ x ∧ x ≤ 8) → fi3 x = fi x := fun x a b => (e3 x a).trans (e2 x b)
  have e31 : ∀ j, ¬ (j = 0 ∨ j = 1 ∨ j = 10 ∨ j = 40 ∨ j = 44) → fi4 31 j = fi 31 j := fun j h => (m j h).trans (congrFun (er 31 (by decide) (by decide)) j)
  -- cells behind the fixed ones, none of the blowers'
  have ed : ∀ x o, 72 ≤ x → own x = o → (30 ≤ o) → fi4 x = fi x := fun x o a b c => (w x (by omega)).trans ((hf3 x (Or.inr (fun b2 hb2 => by rw [b]; omega))).trans (e2 x (by omega)))
  have er31 : fi3 31 = fi 31 := er 31 (by decide) (by decide)
  have n0 : fi4 31 0 = fi 31 49 := m0.trans (congrFun er31 49)
  have n1 : fi4 31 1 = fi 31 50 := m1.trans (congrFun er31 50)
  have n10 : fi4 31 10 = fi 31 48 := m10.trans (congrFun er31 48)
  have n40 : fi4 31 40 = fi 31 51 := m40.trans (congrFun er31 51)
  have n44 : fi4 31 44 = fi 31 52 := m44.trans (congrFun er31 52)
  have g2r : ∀ x, x ≠ 2 → g2.2.2.1 x = g.2.2.1 x := fun x h => funext fun j => hrw.2.2 x j (Or.inl h)
  have hf0 : rl_fr (fun o => 30 ≤ o) own own g g2 fi fi4 := ⟨by omega, fun x h1 h2 h3 => ⟨by rw [hrw.1.1], by rw [hrw.1.2.1], g2r x (by omega), rfl, ed x _ h1 rfl h3⟩⟩
  refine ⟨hS2, fun j => (congrFun eS j).trans (hsc j), ?_, ?_, ?_, ?_, ?_, ?_, ?_, ?_, ?_, ?_, ?_⟩
  · unfold RC
    rw [n0, n1, n10, n40, n44, e31 9 (by decide), e31 11 (by decide), e31 65 (by decide), e31 35 (by decide), e31 36 (by decide), ec 1 (by decide), ef 0 (by decide) (by decide) (by decide), ef 17 (by decide) (by decide) (by decide), ef 21 (by decide) (by decide) (by decide), k1, k3, k4, k8, k11]
    exact ⟨⟨v1, v1a, by omega⟩, ⟨v3, v3a, v3b⟩, ⟨v4, v4a, v4b⟩, ⟨c3, c3a, c3b⟩, ⟨c4, c4a, c4b⟩, ⟨v8, v8a, v8b⟩, ⟨v11, v11a, v11b⟩, ⟨c7, c7a, c7b⟩, c8, c9⟩
  · intro j hj
    rw [ec 3 (by decide), y2 j hj, mk j hj, er 61 (by decide) (by decide)]
    exact vb j hj
  · unfold RX RL
    rw [ef 18 (by decide) (by decide) (by decide), ef 39 (by decide) (by decide) (by decide), ef 47 (by decide) (by decide) (by decide), e31 11 (by decide)]
    exact hX
  · unfold RV
    rw [n0, n40, n44, ec 4 (by decide), ec 5 (by decide), ec 6 (by decide), ec 7 (by decide), ec 8 (by decide)]
    refine ⟨fun j hj => ?_, fun j hj => ?_, fun j hj => ?_⟩
    · obtain ⟨s1, s2, s3⟩ := ms j (by omega)
      rw [y5 j (by omega), y6 j (by omega), y7 j (by omega), s1, s2, s3, er 62 (by decide) (by decide), er 63 (by decide) (by decide), er 64 (by decide) (by decide)]
      exact vs j hj
    · obtain ⟨s1, s2⟩ := mB j (by omega)
      rw [y9 j (by omega), y10 j (by omega), s1, s2, er 65 (by decide) (by decide), er 66 (by decide) (by decide)]
      exact vk j hj
    · rw [y10 j hj, (mB j hj).2, er 66 (by decide) (by decide)]
      exact vz j hj
  · unfold RT
    rw [ef 21 (by decide) (by decide) (by decide), ef 67 (by decide) (by decide) (by decide), e31 65 (by decide)]
    exact hT
  · unfold RP
    rw [ef 22 (by decide) (by decide) (by decide), ef 23 (by decide) (by decide) (by decide), ef 68 (by decide) (by decide) (by decide), ef 69 (by decide) (by decide) (by decide)]
    exact hP
  · intro b hb
    rw [n0] at hb
    have hb5 : b < 5 := by omega
    obtain ⟨p, r, hO, hO2⟩ := hro b hb
    obtain ⟨⟨q0, q1, q2⟩, ⟨q3, q4, q5⟩, q6⟩ := hG b (by omega) p r hO2
    obtain ⟨s1, s2, s3, s4, s5⟩ := mb b hb5
    obtain ⟨x0, x1, x2, x3, x4, x5, x6, x7, x8, x9⟩ := vB b hb
    obtain ⟨⟨M0, M1, M2, M3, M4, M5⟩, -⟩ := hB b (by omega)
    have ik0 : fi2 (ik b) = fi (ik b) := e2 _ (by have := (pik b hb5).2.1.1; omega)
    rw [ik0] at q3 q4 q5 q6
    have j32 : fi4 32 b = fi 32 b := s1.trans ((congrFun (er 55 (by decide) (by decide)) b).trans x1)
    have j33 : fi4 33 b = fi 33 b := s2.trans ((congrFun (er 56 (by decide) (by decide)) b).trans x2)
    have j34 : fi4 34 b = fi 57 b := s3.trans (congrFun (er 57 (by decide) (by decide)) b)
    have j35 : fi4 35 b = fi 58 b := s4.trans (congrFun (er 58 (by decide) (by decide)) b)
    have j36 : fi4 36 b = fi 59 b := s5.trans (congrFun (er 59 (by decide) (by decide)) b)
    have j37 : ∀ j, j < 4 → fi4 37 (4 * b + j) = fi 60 (4 * b + j) := fun j hj => (mr _ (by omega)).trans (congrFun (er 60 (by decide) (by decide)) _)
    obtain ⟨o0, ⟨o72, onx, oow⟩, ot, ok, on, ov, oc, oa, om, orw⟩ := hO
    have p4 : fi4 p = fi3 p := w p (by omega)
    have pf : fi2 p = fi p := e2 p (by omega)
    refine ⟨?_, p, r, ?_⟩
    · unfold RM
      rw [j32, j33, j34, j35, j36]
      exact ⟨M0, M1, x6, x7, x8, fun j hj => by rw [j37 j hj]; exact (x9 j hj).1⟩
    · unfold RO
      rw [j32, j33, j34, j35, j36, p4, q0, q1, q2, q3, q4, q5, pf]
      refine ⟨hO2.1, ⟨o72, by omega, oow⟩, by rw [hrw.1.1]; exact ot, ok, on, ov, x3, x4, x5, fun h6 => ?_⟩
      obtain ⟨r0, ⟨r72, rnx, row⟩, r2, r3, r4⟩ := orw h6
      have h6b : (fi2 32 b).toInt = 6 := by rw [e2 32 (by decide)]; exact h6
      refine ⟨(hO2.2.2.2.2.2.2.2.2.2 h6b).1, ⟨r72, by omega, row⟩, by rw [hrw.1.1]; exact r2, by rw [hrw.1.2.1]; exact r3, fun j hj => ?_⟩
      rw [w r (by omega), q6 h6b j hj, j37 j hj]
      exact (x9 j hj).2 h6
  · intro i hi
    rcases vn i hi with h | ⟨p, h1, h2, h3⟩
    · exact Or.inl ((hrw.2.1 i hi).trans h)
    · exact Or.inr ⟨p, (hrw.2.1 i hi).trans h1, by rw [hrw.1.1]; exact h2, by omega⟩
  · exact hQ.fr hf0 (show 30 ≤ 30 by decide) (e31 9 (by decide)) (g2r 19 (by decide)) (ef 40 (by decide) (by decide) (by decide)) (ef 41 (by decide) (by decide) (by decide)) (ef 42 (by decide) (by decide) (by decide)) (ef 43 (by decide) (by decide) (by decide)) (ef 44 (by decide) (by decide) (by decide)) (ef 45 (by decide) (by decide) (by decide))
  · exact hZ.fr hf0 (fun o h1 _ => by show 30 ≤ o; omega) (congrFun (g2r 0 (by decide)) 6)
  · refine Or.inr ⟨(e31 47 (by decide)).trans h47, q, a0, a2, a5, a6, a7, a9, a10, a12, ik, (congrFun (g2r 0 (by decide)) 1).trans hq, hp.rw hrw ⟨ne_72 (by decide) d.1, ne_72 (by decide) d12.1⟩, ?_⟩
    unfold RIv
    rw [ed q 50 d.1 d.2.2 (by decide), ed a2 52 d2.1 d2.2.2 (by decide), ed a5 53 d5.1 d5.2.2 (by decide), ed a6 54 d6.1 d6.2.2 (by decide), ed a7 55 d7.1 d7.2.2 (by decide), ed a9 56 d9.1 d9.2.2 (by decide), ed a10 57 d10.1 d10.2.2 (by decide), e31 49 (by decide), e31 50 (by decide), e31 48 (by decide), e31 51 (by decide), e31 52 (by decide), e31 9 (by decide), n0, ef 61 (by decide) (by decide) (by decide), ef 62 (by decide) (by decide) (by decide), ef 63 (by decide) (by decide) (by decide), ef 64 (by decide) (by decide) (by decide), ef 65 (by decide) (by decide) (by decide), ef 66 (by decide) (by decide) (by decide), ef 55 (by decide) (by decide) (by decide), ef 56 (by decide) (by decide) (by decide), ef 57 (by decide) (by decide) (by decide), ef 58 (by decide) (by decide) (by decide), ef 59 (by decide) (by decide) (by decide), ef 60 (by decide) (by decide) (by decide)]
    refine ⟨⟨v1, v1a, Int.le_refl _⟩, ⟨v3, v3a, v3b⟩, ⟨v4, v4a, v4b⟩, ⟨v8, v8a, v8b⟩, ⟨v11, v11a, v11b⟩, vn.fr (fun i _ => congrFun (g2r a0 (by have := d0.1; omega)) i) (by omega) (fun x _ => by rw [hrw.1.1]), vb, vs, vk, vz, fun b hb => ?_⟩
    have hb5 : b < 5 := by omega
    obtain ⟨x0, x1, x2, x3, x4, x5, x6, x7, x8, x9⟩ := vB b hb
    obtain ⟨s1, s2, s3, s4, s5⟩ := mb b hb5
    have j32 : fi4 32 b = fi 55 b := s1.trans (congrFun (er 55 (by decide) (by decide)) b)
    have j33 : fi4 33 b = fi 56 b := s2.trans (congrFun (er 56 (by decide) (by decide)) b)
    rw [ed (ik b) _ (pik b hb5).2.1.1 (pik b hb5).2.1.2.2 (by omega), j32, j33, congrFun (g2r a0 (by have := d0.1; omega)) b, hrw.2.1 b hb5]
    refine ⟨rfl, rfl, rfl, x3, x4, x5, x6, x7, x8, fun j hj => ⟨(x9 j hj).1, fun h6 => (x9 j hj).2 ?_⟩⟩
    rw [← x1]
    exact h6
end AUN
set_option maxHeartbeats 2000000 in
theorem op_undo {L I : Nat} {xs : Nat → Int32} {own : Nat → Nat} {d : Nat} {g : am_G} {fi : am_I} {fl : am_L} {P : Option Value → am_G → am_I → am_L → Prop} {i : Int32} (hi : i.toInt = (I : Int)) (hI6 : I + 6 ≤ L) (hL : L ≤ 3072) (hR : Rel L xs own g fi fl) (hnx : am_nx g ≤ 800000) (kk : ∀ own' g' fi' fl', Rel L xs own' g' fi' fl' → am_nx g' ≤ am_nx g + 30 → am_sl g' ≤ am_sl g + 1000 → WP (d + 60) 211 1359 [some (.retAddr 0), some (.ref 0), some (.ref 31), some (.int i)] [] g' fi' fl' P) : WP (d + 60) 211 1011 [some (.retAddr 0), some (.ref 0), some (.ref 31), some (.int i)] [] g fi fl P := by
  obtain ⟨hS, hsc, hC, hK, hX, hV, hT, hP, hB, hN, hQ, hZ, hI⟩ := id hR
  obtain ⟨⟨c0, c0a, c0b⟩, ⟨c1, c1a, c1b⟩, ⟨c2, c2a, c2b⟩, ⟨c3, c3a, c3b⟩, ⟨c4, c4a, c4b⟩, ⟨c5, c5a, c5b⟩, ⟨c6, c6a, c6b⟩, ⟨c7, c7a, c7b⟩, c8, c9⟩ := id hC
  rcases id hI with ⟨n1, n2⟩ | ⟨n47, q, a0, a2, a5, a6, a7, a9, a10, a12, ik, n1, hp, hv⟩
  · skip
    refine wi_aload_1 ct_211_1011 ?_
    refine wi_cv0 (ls' := [some _]) ct_211_1012 (Nat.le_of_ble_eq_true rfl) (by decide) (sT_0 hS) rfl (by decide) rfl rfl (Nat.le_of_ble_eq_true rfl) ?_
    refine wi_aload_0 ct_94_0 ?_
    refine wi_gfn ct_94_1 (sT_0 hS) rfl n1 ?_
    refine wi_ifnonnull_n ct_94_4 ?_
    refine wi_ic ct_94_7 kc_m3 ?_
    refine wi_iret ct_94_9 rfl (wk_i ?_)
    refine wi_aload_2 ct_211_1015 ?_
    refine wi_cv0 (ls' := [some _, none]) ct_211_1016 (Nat.le_of_ble_eq_true rfl) (by decide) (sT_31 hS) rfl (by decide) rfl rfl (Nat.le_of_ble_eq_true rfl) ?_
    refine wi_aload_0 ct_181_0 ?_
    refine wi_gf (x := 0) ct_181_1 (sT_31 hS) rfl rfl n2 ?_
    refine wi_ifne_f ct_181_4 ki_0 (by decide) ?_
    refine wi_ic ct_181_7 kc_m3 ?_
    refine wi_iret ct_181_9 rfl (wk_i ?_)
    refine wi_iceq_t ct_211_1019 ki_m3 ki_m3 (by decide) ?_
    exact kk own g fi fl hR (by omega) (by omega)
  · skip
    obtain ⟨hst, how⟩ := STp.im hp
    obtain ⟨vv1, vv3, vv4, vv8, vv11, vvn, vvb, vvs, vvk, vvz, vvB⟩ := id hv
    obtain ⟨N, hN0⟩ : ∃ N : Nat, (fi 31 49).toInt = (N : Int) := ⟨(fi 31 49).toInt.toNat, by omega⟩
    refine wi_aload_1 ct_211_1011 ?_
    refine wi_cv0 (ls' := [some _]) ct_211_1012 (Nat.le_of_ble_eq_true rfl) (by decide) (sT_0 hS) rfl (by decide) rfl rfl (Nat.le_of_ble_eq_true rfl) ?_
    refine wi_aload_0 ct_94_0 ?_
    refine wi_gfr ct_94_1 (sT_0 hS) rfl n1 ?_
    refine wi_ifnonnull_r ct_94_4 ?_
    refine wi_aload_0 ct_94_10 ?_
    refine wi_gfr ct_94_11 (sT_0 hS) rfl (sR_0_0 hS) ?_
    refine wi_aload_0 ct_94_14 ?_
    refine wi_gfr ct_94_15 (sT_0 hS) rfl n1 ?_
    refine wi_cv1 (ls' := [some _, some _, none]) ct_94_18 (Nat.le_of_ble_eq_true rfl) (by decide) (sT_1 hS) rfl (by decide) rfl rfl (Nat.le_of_ble_eq_true rfl) ?_
    refine c_copy (ow := owC own) (STp.of hS) hst (OWn.of own) how (by decide) vvn.imp (fun j hj => (vvz j hj).1) (fun g2 fi2 hrw hcp => wk_v ?_)
    have hS2 : SF L g2 := hrw.SF hS (Or.inr rfl)
    have hp2 := hp.rw hrw ⟨ne_72 (by decide) hp.2.2.1.1.1, ne_72 (by decide) hp.2.2.1.2.2.2.2.2.2.2.2.1⟩
    have hq2 : g2.2.2.1 0 1 = some q := (hrw.2.2 0 1 (Or.inl (by decide))).trans n1
    refine wi_aload_0 ct_94_21 ?_
    refine wi_gfr ct_94_22 (sT_0 hS2) rfl hq2 ?_
    refine wi_cv0 (ls' := [some _, none, none]) ct_94_25 (Nat.le_of_ble_eq_true rfl) (by decide) hp2.1 rfl (by decide) rfl rfl (Nat.le_of_ble_eq_true rfl) ?_
    refine wi_ic ct_41_0 kc_0 ?_
    refine wi_istore_1 rfl ct_41_1 ?_
    obtain ⟨p0, ⟨r0, -, -, -, -, -, -, r12⟩, ⟨d, d0, -, -, -, -, -, -, d12⟩, ⟨t0, -, -, -, -, -, -, t12⟩, ⟨l0, -, -, -, -, -, -, l12⟩, pik⟩ := id hp2
    have e2q : fi2 q = fi q := hcp.2.2.2.2.2.2.2 q (by have := d.1; omega)
    refine vl_give (N := N) p0 r0 r12 t0 t12 l0 l12 d.2.2 pik (fun b hb => by
      obtain ⟨p, r, -, h⟩ := und_RO hR hp hv hrw hcp (b := b) (by omega)
      exact ⟨p, r, h⟩) ((congrArg Int32.toInt ((congrFun e2q 1).trans vv1.1)).trans hN0) (by omega) (fun b hb => (hrw.2.2 a0 b (Or.inl (by have := d0.1; omega))).trans (hrw.2.1 b (by omega)).symm) d.1 (fun fi3 hf3 hG3 => wk_v ?_) N 0 fi2 _ none (by omega) (ki_0.trans rfl) (fun _ _ => rfl) (fun b hb => absurd hb (by omega))
    have hf3x : ∀ x, x < 72 → fi3 x = fi2 x := fun x hx => hf3 x (Or.inl (by omega))
    have h31 : fi3 31 = fi 31 := (hf3x 31 (by decide)).trans (hcp.2.2.2.2.2.2.2 31 (by have := d.1; omega))
    have h66 : fi3 66 = fi 66 := (hf3x 66 (by decide)).trans (hcp.2.2.2.2.2.2.2 66 (by have := d.1; omega))
    have hsc4 : fi3 am_SC = fi am_SC := (hf3 am_SC (Or.inl (by have : am_SC = 1000000 := rfl; have := hrw.nx.1; omega))).trans (hcp.2.2.2.2.2.2.2 am_SC (by have : am_SC = 1000000 := rfl; omega))
    refine wi_aload_0 ct_94_28 ?_
    refine wi_gfr ct_94_29 (sT_0 hS2) rfl (sR_0_0 hS2) ?_
    refine wi_gf (x := fi 31 49) ct_94_32 (sT_1 hS2) rfl rfl ((congrFun (hf3x 1 (by decide)) 1).trans (hcp.1.1.trans vv1.1)) ?_
    refine wi_iret ct_94_35 rfl (wk_i ?_)
    refine wi_aload_2 ct_211_1015 ?_
    refine wi_cv0 (ls' := [some _, none]) ct_211_1016 (Nat.le_of_ble_eq_true rfl) (by decide) (sT_31 hS2) rfl (by decide) rfl rfl (Nat.le_of_ble_eq_true rfl) ?_
    refine c_mundo hS2 ((congrFun h31 47).trans n47) (fun j hj => by rw [h66]; exact (vvz j hj).2) (fun fi4 hm => wk_i ?_)
    refine wi_iceq_t ct_211_1019 rfl (congrArg Int32.toInt (congrFun h31 49)) (by omega) ?_
    exact kk own g2 _ fl (hR.und n1 n47 hp hv (by omega) hrw hcp hN0 hf3 hG3 hm) (by rw [hrw.nx.1]; omega) (by rw [hrw.nx.2]; omega)
