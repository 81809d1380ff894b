def oS (own : Nat → Nat) : Nat → Nat := fun x => if x = am_SC then 0 else own x
def oQ (own : Nat → Nat) : Nat → Nat := fun x => if 40 ≤ own x ∧ own x ≤ 46 then 30 else own x
theorem oS_fr {own : Nat → Nat} {x : Nat} (h : own x < 40 ∨ 46 < own x) : oS own x < 40 ∨ 46 < oS own x := by
  unfold oS
  split
  · exact Or.inl (by decide)
  · exact h
theorem oS_sc {own : Nat → Nat} : oS own am_SC < 40 ∨ 46 < oS own am_SC := Or.inl (by unfold oS; rw [if_pos rfl]; decide)
theorem oS_dy {own : Nat → Nat} {g : am_G} {q o : Nat} (hS : am_nx g ≤ 900000) (h : am_dy own g q o) : oS own q = o := by
  have h9 : am_SC = 1000000 := rfl
  unfold oS
  rw [if_neg (by have := h.2.1; omega)]
  exact h.2.2
theorem oQ_dy {own : Nat → Nat} {g g2 : am_G} {q o : Nat} (h : am_dy own g q o) (ho : 40 ≤ o ∧ o ≤ 46) (hnx : am_nx g2 = am_nx g) : am_dy (oQ own) g2 q 30 := ⟨h.1, by rw [hnx]; exact h.2.1, if_pos (by rw [h.2.2]; exact ho)⟩
section ASR
variable {L s p p2 q a0 a1 a2 a4 a5 a6 : Nat} {xs : Nat → Int32} {own : Nat → Nat} {g g2 : am_G} {fi fA fB fC fD : am_I} {fl : am_L} {cs ts : List tk_T}
theorem Rel.sqf (hR : Rel L xs own g fi fl) (hs : (fi 31 9).toInt = (s : Int)) (hs6 : s < 6) (hk : KFr (oS own) fi fA) (hB1 : ∀ x, x ≠ 17 → fB x = fA x) (hB2 : fB 17 1 = 0) (hm : MFr s fB fC) (hD1 : ∀ x, x ≠ 31 → fD x = fC x) (hD2 : ∀ j, j ≠ 11 → fD 31 j = fC 31 j) (hD3 : fD 31 11 = 0) : Rel L xs own g fD fl := by
  obtain ⟨m1, m2, m3, m4, m5⟩ := hm
  have hS := hR.1
  have hC := hR.2.2.1
  have hZ := hR.2.2.2.2.2.2.2.2.2.2.2.1
  have h31 : ∀ j, fB 31 j = fi 31 j := fun j => (congrFun (hB1 31 (by decide)) j).trans (congrFun (hk.1 31 (by decide) (Or.inl (by decide))) j)
  have hlow : ∀ x, x < 72 → x ≠ 17 → fB x = fi x := fun x h1 h2 => (hB1 x h2).trans (hk.1 x h2 (Or.inl h1))
  have hD31 : ∀ j, ¬ (9 ≤ j ∧ j ≤ 13 ∨ 22 ≤ j ∧ j ≤ 24) → fD 31 j = fi 31 j := fun j h => (hD2 j (by omega)).trans ((m2 j (by omega) (by omega) (by omega) (by omega) (by omega)).trans (h31 j))
  have hD9 : ∀ j, j = 9 ∨ j = 10 → fD 31 j = fi 31 j := fun j h => (hD2 j (by omega)).trans ((m2 j (by omega) (by omega) (by omega) (by omega) (by omega)).trans (h31 j))
  have hw : ∀ q, q < 72 → ¬ (q = 0 ∨ q = 1 ∨ q = 17 ∨ q = 31 ∨ 40 ≤ q ∧ q ≤ 46) → fD q = fi q := fun q h1 h2 => (hD1 q (by omega)).trans ((m1 q (by omega) (by omega)).trans (hlow q h1 (by omega)))
  have h0 : fD 0 = fi 0 := (hD1 0 (by decide)).trans ((m1 0 (by decide) (Or.inl (by decide))).trans (hlow 0 (by decide) (by decide)))
  have h1 : fD 1 = fi 1 := (hD1 1 (by decide)).trans ((m1 1 (by decide) (Or.inl (by decide))).trans (hlow 1 (by decide) (by decide)))
  have hsc9 : am_SC = 1000000 := rfl
  refine hR.sqr hs hS rfl (fun q h2 h3 => ?_) rfl rfl (fun _ _ _ _ => rfl) (fun _ _ => rfl) ?_ hw (fun j _ => congrFun h1 j) hD31 ⟨?_, hD3⟩ ?_ ?_ (fun j hj => ?_) (fun x x1 x2 j hj => ?_) (fun j hj => ?_) (fun s2 e1 e2 => ?_) hZ
  · exact (hD1 q (by omega)).trans ((m1 q (by omega) (Or.inr (by omega))).trans ((hB1 q (by omega)).trans (hk.1 q (by omega) (Or.inr (oS_fr h3)))))
  · exact (hD1 am_SC (by omega)).trans ((m1 am_SC (by omega) (Or.inr (by omega))).trans ((hB1 am_SC (by omega)).trans (hk.1 am_SC (by omega) (Or.inr oS_sc))))
  · rw [hD1 17 (by decide), m1 17 (by decide) (Or.inl (by decide))]
    exact hB2
  · rw [h1, hD9 10 (by decide), hD9 9 (by decide)]
    exact hC.2.2.1
  · rw [h0, hD9 9 (by decide)]
    exact ⟨hC.2.2.2.1.1, Int.le_refl _, hC.2.2.2.1.2.2⟩
  · rw [hD1 40 (by decide), m4 j (by omega), hlow 40 (by decide) (by decide)]
  · rw [hD1 x (by omega), m3 x x1 x2 j (Or.inl hj), hlow x (by omega) (by omega)]
  · rw [hD1 45 (by decide), m5 j (Or.inl hj), hlow 45 (by decide) (by decide)]
  · rw [hD9 9 (by decide)] at e1
    omega
theorem Rel.sqo (hR : Rel L xs own g fi fl) (hs : (fi 31 9).toInt = (s : Int)) (hs6 : s < 6) (hdy : am_dy own g q 40 ∧ am_dy own g a0 41 ∧ am_dy own g a1 42 ∧ am_dy own g a2 43 ∧ am_dy own g a4 44 ∧ am_dy own g a5 45 ∧ am_dy own g a6 46) (hp : SQp g q a0 a1 a2 a4 a5 a6) (hg2 : g2 = am_gr (am_gr g 19 s (some q)) 0 6 none) (hS2 : SF L g2) (hck : CK (oS own) q a0 a1 a2 a4 a5 a6 fi fA p cs ts) (hB1 : ∀ x, x ≠ 0 → x ≠ 1 → x ≠ 17 → fB x = fA x) (hB2 : ∀ j, j ≠ 4 → fB 1 j = fi 1 j) (hB3 : fB 1 4 = fi 0 5) (hB4 : fB 0 5 = fi 0 5 + 1) (hB5 : fB 17 1 = 0) (hmk : MK s fB fC p2 cs ts) (h40 : (fC 40 s).toInt = (cs.length : Int)) (hD1 : ∀ x, x ≠ 31 → fD x = fC x) (hD2 : ∀ j, j ≠ 9 → j ≠ 10 → j ≠ 11 → fD 31 j = fC 31 j) (hD3 : fD 31 11 = 0) (hD4 : fD 31 10 = fB 31 9) (hD5 : fD 31 9 = fB 31 9 + 1) (hv : tokv cs ts) (n1 : 1 ≤ cs.length) (n2 : cs.length ≤ 10) (n3 : ts.length ≤ 100) : Rel L xs (oQ own) g2 fD fl := by
  have hSm := sqOf_m hv hmk h40
  have hSc := sqOf_c hv hck
  obtain ⟨-, -, -, -, -, hk⟩ := hck
  obtain ⟨-, -, -, -, -, m1, m2, m3, m4, m5⟩ := hmk
  have hC := hR.2.2.1
  have h05 : fi 0 5 = fi 31 9 := hC.2.2.2.1.1
  have hlow : ∀ x, x < 72 → x ≠ 0 → x ≠ 1 → x ≠ 17 → fB x = fi x := fun x h1 h2 h3 h4 => (hB1 x h2 h3 h4).trans (hk.1 x h4 (Or.inl h1))
  have h31 : ∀ j, fB 31 j = fi 31 j := fun j => congrFun (hlow 31 (by decide) (by decide) (by decide) (by decide)) j
  have h9i : (fi 31 9 + 1).toInt = (s : Int) + 1 := i_add hs ki_1 (by omega)
  have hsc9 : am_SC = 1000000 := rfl
  have hup : ∀ x, 72 ≤ x → fD x = fA x := fun x h => (hD1 x (by omega)).trans ((m1 x (by omega) (Or.inr (by omega))).trans (hB1 x (by omega) (by omega) (by omega)))
  have hnx : am_nx g2 = am_nx g := by rw [hg2]; rfl
  obtain ⟨d, d0, d1, d2, d4, d5, d6⟩ := hdy
  refine hR.sqr hs hS2 hnx (fun q h2 h3 => ?_) (by rw [hg2]; rfl) (by rw [hg2]; rfl) (fun q j e1 e2 => ?_) (fun q h => if_neg (by omega)) ?_ (fun q e1 e2 => ?_) (fun j hj => ?_) (fun j hj => ?_) ⟨?_, hD3⟩ ?_ ?_ (fun j hj => ?_) (fun x x1 x2 j hj => ?_) (fun j hj => ?_) (fun s2 e1 e2 => ?_) ?_
  · exact (hup q h2).trans (hk.1 q (by omega) (Or.inr (oS_fr h3)))
  · rw [hg2]
    exact (if_neg (by omega)).trans (if_neg (by omega))
  · exact (hup am_SC (by omega)).trans (hk.1 am_SC (by omega) (Or.inr oS_sc))
  · exact (hD1 q (by omega)).trans ((m1 q (by omega) (by omega)).trans (hlow q e1 (by omega) (by omega) (by omega)))
  · rw [hD1 1 (by decide), m1 1 (by decide) (Or.inl (by decide))]
    exact hB2 j hj
  · exact (hD2 j (by omega) (by omega) (by omega)).trans ((m2 j (by omega) (by omega) (by omega) (by omega) (by omega)).trans (h31 j))
  · rw [hD1 17 (by decide), m1 17 (by decide) (Or.inl (by decide))]
    exact hB5
  · rw [hD1 1 (by decide), m1 1 (by decide) (Or.inl (by decide)), hB3, hD4, hD5, h31 9, h05, hs, h9i]
    exact ⟨rfl, by omega, by omega⟩
  · rw [hD1 0 (by decide), m1 0 (by decide) (Or.inl (by decide)), hB4, hD5, h31 9, h05, hs, h9i]
    exact ⟨rfl, by omega, by omega⟩
  · rw [hD1 40 (by decide), m4 j (by omega), hlow 40 (by decide) (by decide) (by decide) (by decide)]
  · rw [hD1 x (by omega), m3 x x1 x2 j (Or.inl hj), hlow x (by omega) (by omega) (by omega) (by omega)]
  · rw [hD1 45 (by decide), m5 j (Or.inl hj), hlow 45 (by decide) (by decide) (by decide) (by decide)]
  · rw [hD5, h31 9, h9i] at e1
    have e3 : s2 = s := by omega
    subst e3
    refine ⟨q, a0, a1, a2, a4, a5, a6, sqOf cs ts, ?_, ⟨oQ_dy d (by decide) hnx, oQ_dy d0 (by decide) hnx, oQ_dy d1 (by decide) hnx, oQ_dy d2 (by decide) hnx, oQ_dy d4 (by decide) hnx, oQ_dy d5 (by decide) hnx, oQ_dy d6 (by decide) hnx⟩, ?_, hSc.fr (hup q d.1) (hup a0 d0.1) (hup a1 d1.1) (hup a2 d2.1) (hup a4 d4.1) (hup a5 d5.1) (hup a6 d6.1), hSm.fr (hD1 40 (by decide)) (hD1 41 (by decide)) (hD1 42 (by decide)) (hD1 43 (by decide)) (hD1 44 (by decide)) (hD1 45 (by decide)), sqOf_v hv n1 n2 n3⟩
    · rw [hg2]
      exact (gr_nq (by decide)).trans gr_eq
    · subst hg2
      have h72 := d.1
      exact hp.fr (funext fun j => (gr_nq (by omega)).trans (gr_nq (by omega))) rfl ⟨rfl, rfl⟩ ⟨rfl, rfl⟩ ⟨rfl, rfl⟩ ⟨rfl, rfl⟩ ⟨rfl, rfl⟩ ⟨rfl, rfl⟩
  · refine Or.inl ?_
    rw [hg2]
    exact gr_eq
theorem gr_no {x : Option Nat} {q j a k : Nat} (h : q ≠ a ∨ j ≠ k) : (am_gr g a k x).2.2.1 q j = g.2.2.1 q j := if_neg (fun e => by omega)
end ASR
theorem rTx_pl (X : Nat → Int) (n : Nat) : ∀ (k p : Nat) (cs ts : List tk_T), p ≤ n → (rTx X n k p cs ts).2.1 ≤ n := by
  intro k
  induction k with
  | zero => intro p cs ts h; exact h
  | succ k ih =>
    intro p cs ts h
    obtain ⟨g1, g2, g3⟩ := rCl_gd X n p h
    unfold rTx
    split
    · split
      · exact g2
      · split
        · exact g2
        · split
          · rename_i e4
            have := pk_n (by decide) e4
            exact ih _ _ _ (by omega)
          · exact g2
    · exact g2
set_option maxHeartbeats 2000000 in
theorem c_new73 {L : Nat} {xs : Nat → Int32} {own : Nat → Nat} {d : Nat} {g : am_G} {fi : am_I} {fl : am_L} {P : Option Value → am_G → am_I → am_L → Prop} (hR : Rel L xs own g fi fl) (h06 : g.2.2.1 0 6 = none) (hnx : am_nx g ≤ 800000) (kk : ∀ own2 g2 fi2 fl2 q a0 a1 a2 a4 a5 a6, Rel L xs own2 g2 fi2 fl2 → g2.2.2.1 0 6 = some q → (am_dy own2 g2 q 40 ∧ am_dy own2 g2 a0 41 ∧ am_dy own2 g2 a1 42 ∧ am_dy own2 g2 a2 43 ∧ am_dy own2 g2 a4 44 ∧ am_dy own2 g2 a5 45 ∧ am_dy own2 g2 a6 46) → SQp g2 q a0 a1 a2 a4 a5 a6 → am_nx g2 = am_nx g + 7 → am_sl g2 ≤ am_sl g + 400 → fi2 31 = fi 31 → fi2 am_SC = fi am_SC → WP (d + 8) 73 30 [some (.ref 0), none] [] g2 fi2 fl2 P) : WP (d + 8) 73 19 [some (.ref 0), none] [] g fi fl P := by
  obtain ⟨p, hp⟩ : ∃ p, am_nx g = p := ⟨_, rfl⟩
  have hS := hR.1
  have hp72 : 72 ≤ p := hp ▸ hS.nx
  refine wi_aload_0 ct_73_19 ?_
  refine wi_newF (p := p) ct_73_20 hp (by omega) (fun gn1 fin1 fln1 hmn1 hzn1 hln1 => ?_)
  have hSn1 := hS.mkF hmn1 (by omega)
  refine wi_dup ct_73_23 rfl ?_
  refine wi_cp0 (ls' := [some _]) ct_73_24 (Nat.le_of_ble_eq_true rfl) hmn1.2.2.2.1 (by decide) rfl (Nat.le_of_ble_eq_true rfl) ?_
  refine wi_aload_0 ct_30_0 ?_
  refine wi_obj ct_30_1 (Nat.le_of_ble_eq_true rfl) ?_
  refine wi_aload_0 ct_30_4 ?_
  refine wi_ic ct_30_5 kc_10 ?_
  refine wi_newaF (p := (p + 1)) ct_30_7 (by decide) (by decide : _ = 10) (hmn1.2.1 : am_nx _ = p + 1) (by omega) (fun gn2 fin2 fln2 hmn2 hzn2 hln2 => ?_)
  have hSn2 := hSn1.mkF hmn2 (by omega)
  refine wi_pfr ct_30_9 (Eq.trans ((hmn2.2.2.2.2.2.2 _ (by omega)).1) hmn1.2.2.2.1) rfl ?_
  have hS3 := hSn2.grd (q := p) (a := 0) (x := (some (p + 1))) (by omega)
  refine wi_aload_0 ct_30_12 ?_
  refine wi_ic ct_30_13 kc_10 ?_
  refine wi_newaF (p := (p + 2)) ct_30_15 (by decide) (by decide : _ = 10) (hmn2.2.1 : am_nx _ = p + 2) (by omega) (fun gn4 fin4 fln4 hmn4 hzn4 hln4 => ?_)
  have hSn4 := hS3.mkF hmn4 (by omega)
  refine wi_pfr ct_30_17 (Eq.trans ((hmn4.2.2.2.2.2.2 _ (by omega)).1) (Eq.trans ((hmn2.2.2.2.2.2.2 _ (by omega)).1) hmn1.2.2.2.1)) rfl ?_
  have hS5 := hSn4.grd (q := p) (a := 1) (x := (some (p + 2))) (by omega)
  refine wi_aload_0 ct_30_20 ?_
  refine wi_ic ct_30_21 kc_10 ?_
  refine wi_newaF (p := (p + 3)) ct_30_23 (by decide) (by decide : _ = 10) (hmn4.2.1 : am_nx _ = p + 3) (by omega) (fun gn6 fin6 fln6 hmn6 hzn6 hln6 => ?_)
  have hSn6 := hS5.mkF hmn6 (by omega)
  refine wi_pfr ct_30_25 (Eq.trans ((hmn6.2.2.2.2.2.2 _ (by omega)).1) (Eq.trans ((hmn4.2.2.2.2.2.2 _ (by omega)).1) (Eq.trans ((hmn2.2.2.2.2.2.2 _ (by omega)).1) hmn1.2.2.2.1))) rfl ?_
  have hS7 := hSn6.grd (q := p) (a := 2) (x := (some (p + 3))) (by omega)
  refine wi_aload_0 ct_30_28 ?_
  refine wi_ic ct_30_29 kc_0 ?_
  refine wi_pf ct_30_30 (Eq.trans ((hmn6.2.2.2.2.2.2 _ (by omega)).1) (Eq.trans ((hmn4.2.2.2.2.2.2 _ (by omega)).1) (Eq.trans ((hmn2.2.2.2.2.2.2 _ (by omega)).1) hmn1.2.2.2.1))) rfl ?_
  refine wi_aload_0 ct_30_33 ?_
  refine wi_ic ct_30_34 kc_100 ?_
  refine wi_newaF (p := (p + 4)) ct_30_36 (by decide) (by decide : _ = 100) (hmn6.2.1 : am_nx _ = p + 4) (by omega) (fun gn8 fin8 fln8 hmn8 hzn8 hln8 => ?_)
  have hSn8 := hS7.mkF hmn8 (by omega)
  refine wi_pfr ct_30_38 (Eq.trans ((hmn8.2.2.2.2.2.2 _ (by omega)).1) (Eq.trans ((hmn6.2.2.2.2.2.2 _ (by omega)).1) (Eq.trans ((hmn4.2.2.2.2.2.2 _ (by omega)).1) (Eq.trans ((hmn2.2.2.2.2.2.2 _ (by omega)).1) hmn1.2.2.2.1)))) rfl ?_
  have hS9 := hSn8.grd (q := p) (a := 4) (x := (some (p + 4))) (by omega)
  refine wi_aload_0 ct_30_41 ?_
  refine wi_ic ct_30_42 kc_100 ?_
  refine wi_newaF (p := (p + 5)) ct_30_44 (by decide) (by decide : _ = 100) (hmn8.2.1 : am_nx _ = p + 5) (by omega) (fun gn10 fin10 fln10 hmn10 hzn10 hln10 => ?_)
  have hSn10 := hS9.mkF hmn10 (by omega)
  refine wi_pfr ct_30_46 (Eq.trans ((hmn10.2.2.2.2.2.2 _ (by omega)).1) (Eq.trans ((hmn8.2.2.2.2.2.2 _ (by omega)).1) (Eq.trans ((hmn6.2.2.2.2.2.2 _ (by omega)).1) (Eq.trans ((hmn4.2.2.2.2.2.2 _ (by omega)).1) (Eq.trans ((hmn2.2.2.2.2.2.2 _ (by omega)).1) hmn1.2.2.2.1))))) rfl ?_
  have hS11 := hSn10.grd (q := p) (a := 5) (x := (some (p + 5))) (by omega)
  refine wi_aload_0 ct_30_49 ?_
  refine wi_ic ct_30_50 kc_100 ?_
  refine wi_newaF (p := (p + 6)) ct_30_52 (by decide) (by decide : _ = 100) (hmn10.2.1 : am_nx _ = p + 6) (by omega) (fun gn12 fin12 fln12 hmn12 hzn12 hln12 => ?_)
  have hSn12 := hS11.mkF hmn12 (by omega)
  refine wi_pfr ct_30_54 (Eq.trans ((hmn12.2.2.2.2.2.2 _ (by omega)).1) (Eq.trans ((hmn10.2.2.2.2.2.2 _ (by omega)).1) (Eq.trans ((hmn8.2.2.2.2.2.2 _ (by omega)).1) (Eq.trans ((hmn6.2.2.2.2.2.2 _ (by omega)).1) (Eq.trans ((hmn4.2.2.2.2.2.2 _ (by omega)).1) (Eq.trans ((hmn2.2.2.2.2.2.2 _ (by omega)).1) hmn1.2.2.2.1)))))) rfl ?_
  have hS13 := hSn12.grd (q := p) (a := 6) (x := (some (p + 6))) (by omega)
  refine wi_aload_0 ct_30_57 ?_
  refine wi_ic ct_30_58 kc_0 ?_
  refine wi_pf ct_30_59 (Eq.trans ((hmn12.2.2.2.2.2.2 _ (by omega)).1) (Eq.trans ((hmn10.2.2.2.2.2.2 _ (by omega)).1) (Eq.trans ((hmn8.2.2.2.2.2.2 _ (by omega)).1) (Eq.trans ((hmn6.2.2.2.2.2.2 _ (by omega)).1) (Eq.trans ((hmn4.2.2.2.2.2.2 _ (by omega)).1) (Eq.trans ((hmn2.2.2.2.2.2.2 _ (by omega)).1) hmn1.2.2.2.1)))))) rfl ?_
  refine wi_ret ct_30_62 (wk_v ?_)
  refine wi_pfr ct_73_27 (sT_0 hS13) rfl ?_
  have hS14 := hS13.gr (q := 0) (a := 6) (x := (some p)) (by decide)
  have hnl := hmn12.2.1
  have hnf : am_nx (am_gr (am_gr gn12 p 6 (some (p + 6))) 0 6 (some p)) = am_nx gn12 := rfl
  have hsf : am_sl (am_gr (am_gr gn12 p 6 (some (p + 6))) 0 6 (some p)) = am_sl gn12 := rfl
  have hs0 : am_sl gn1 = am_sl g + am_nf 6 := hmn1.2.2.1
  have hs1 : am_sl gn2 = am_sl gn1 + 10 := hmn2.2.2.1
  have hs2 : am_sl gn4 = am_sl gn2 + 10 := hmn4.2.2.1
  have hs3 : am_sl gn6 = am_sl gn4 + 10 := hmn6.2.2.1
  have hs4 : am_sl gn8 = am_sl gn6 + 100 := hmn8.2.2.1
  have hs5 : am_sl gn10 = am_sl gn8 + 100 := hmn10.2.2.1
  have hs6 : am_sl gn12 = am_sl gn10 + 100 := hmn12.2.2.1
  have nf6 : am_nf 6 = 8 := rfl
  have hq2 : ((am_gr (am_gr gn12 p 6 (some (p + 6))) 0 6 (some p))).2.2.1 0 6 = some p := gr_eq
  have hdy2 : am_dy (fun x => if x < p then own x else 40 + (x - p)) (am_gr (am_gr gn12 p 6 (some (p + 6))) 0 6 (some p)) p 40 ∧ am_dy (fun x => if x < p then own x else 40 + (x - p)) (am_gr (am_gr gn12 p 6 (some (p + 6))) 0 6 (some p)) (p + 1) 41 ∧ am_dy (fun x => if x < p then own x else 40 + (x - p)) (am_gr (am_gr gn12 p 6 (some (p + 6))) 0 6 (some p)) (p + 2) 42 ∧ am_dy (fun x => if x < p then own x else 40 + (x - p)) (am_gr (am_gr gn12 p 6 (some (p + 6))) 0 6 (some p)) (p + 3) 43 ∧ am_dy (fun x => if x < p then own x else 40 + (x - p)) (am_gr (am_gr gn12 p 6 (some (p + 6))) 0 6 (some p)) (p + 4) 44 ∧ am_dy (fun x => if x < p then own x else 40 + (x - p)) (am_gr (am_gr gn12 p 6 (some (p + 6))) 0 6 (some p)) (p + 5) 45 ∧ am_dy (fun x => if x < p then own x else 40 + (x - p)) (am_gr (am_gr gn12 p 6 (some (p + 6))) 0 6 (some p)) (p + 6) 46 := ⟨⟨by omega, by omega, ((if_neg (by omega)).trans (by omega))⟩, ⟨by omega, by omega, ((if_neg (by omega)).trans (by omega))⟩, ⟨by omega, by omega, ((if_neg (by omega)).trans (by omega))⟩, ⟨by omega, by omega, ((if_neg (by omega)).trans (by omega))⟩, ⟨by omega, by omega, ((if_neg (by omega)).trans (by omega))⟩, ⟨by omega, by omega, ((if_neg (by omega)).trans (by omega))⟩, ⟨by omega, by omega, ((if_neg (by omega)).trans (by omega))⟩⟩
  have hp2 : SQp (am_gr (am_gr gn12 p 6 (some (p + 6))) 0 6 (some p)) p (p + 1) (p + 2) (p + 3) (p + 4) (p + 5) (p + 6) := ⟨(Eq.trans ((hmn12.2.2.2.2.2.2 _ (by omega)).1) (Eq.trans ((hmn10.2.2.2.2.2.2 _ (by omega)).1) (Eq.trans ((hmn8.2.2.2.2.2.2 _ (by omega)).1) (Eq.trans ((hmn6.2.2.2.2.2.2 _ (by omega)).1) (Eq.trans ((hmn4.2.2.2.2.2.2 _ (by omega)).1) (Eq.trans ((hmn2.2.2.2.2.2.2 _ (by omega)).1) hmn1.2.2.2.1)))))), ⟨(Eq.trans (gr_nq (by omega)) (Eq.trans (gr_nj (by decide)) (Eq.trans (congrFun (hmn12.2.2.2.2.2.2 _ (by omega)).2.2 _) (Eq.trans (gr_nj (by decide)) (Eq.trans (congrFun (hmn10.2.2.2.2.2.2 _ (by omega)).2.2 _) (Eq.trans (gr_nj (by decide)) (Eq.trans (congrFun (hmn8.2.2.2.2.2.2 _ (by omega)).2.2 _) (Eq.trans (gr_nj (by decide)) (Eq.trans (congrFun (hmn6.2.2.2.2.2.2 _ (by omega)).2.2 _) (Eq.trans (gr_nj (by decide)) (Eq.trans (congrFun (hmn4.2.2.2.2.2.2 _ (by omega)).2.2 _) gr_eq))))))))))), (Eq.trans (gr_nq (by omega)) (Eq.trans (gr_nj (by decide)) (Eq.trans (congrFun (hmn12.2.2.2.2.2.2 _ (by omega)).2.2 _) (Eq.trans (gr_nj (by decide)) (Eq.trans (congrFun (hmn10.2.2.2.2.2.2 _ (by omega)).2.2 _) (Eq.trans (gr_nj (by decide)) (Eq.trans (congrFun (hmn8.2.2.2.2.2.2 _ (by omega)).2.2 _) (Eq.trans (gr_nj (by decide)) (Eq.trans (congrFun (hmn6.2.2.2.2.2.2 _ (by omega)).2.2 _) gr_eq))))))))), (Eq.trans (gr_nq (by omega)) (Eq.trans (gr_nj (by decide)) (Eq.trans (congrFun (hmn12.2.2.2.2.2.2 _ (by omega)).2.2 _) (Eq.trans (gr_nj (by decide)) (Eq.trans (congrFun (hmn10.2.2.2.2.2.2 _ (by omega)).2.2 _) (Eq.trans (gr_nj (by decide)) (Eq.trans (congrFun (hmn8.2.2.2.2.2.2 _ (by omega)).2.2 _) gr_eq))))))), (Eq.trans (gr_nq (by omega)) (Eq.trans (gr_nj (by decide)) (Eq.trans (congrFun (hmn12.2.2.2.2.2.2 _ (by omega)).2.2 _) (Eq.trans (gr_nj (by decide)) (Eq.trans (congrFun (hmn10.2.2.2.2.2.2 _ (by omega)).2.2 _) gr_eq))))), (Eq.trans (gr_nq (by omega)) (Eq.trans (gr_nj (by decide)) (Eq.trans (congrFun (hmn12.2.2.2.2.2.2 _ (by omega)).2.2 _) gr_eq))), (Eq.trans (gr_nq (by omega)) gr_eq)⟩, ⟨(Eq.trans ((hmn12.2.2.2.2.2.2 _ (by omega)).1) (Eq.trans ((hmn10.2.2.2.2.2.2 _ (by omega)).1) (Eq.trans ((hmn8.2.2.2.2.2.2 _ (by omega)).1) (Eq.trans ((hmn6.2.2.2.2.2.2 _ (by omega)).1) (Eq.trans ((hmn4.2.2.2.2.2.2 _ (by omega)).1) hmn2.2.2.2.1))))), (Eq.trans ((hmn12.2.2.2.2.2.2 _ (by omega)).1) (Eq.trans ((hmn10.2.2.2.2.2.2 _ (by omega)).1) (Eq.trans ((hmn8.2.2.2.2.2.2 _ (by omega)).1) (Eq.trans ((hmn6.2.2.2.2.2.2 _ (by omega)).1) hmn4.2.2.2.1)))), (Eq.trans ((hmn12.2.2.2.2.2.2 _ (by omega)).1) (Eq.trans ((hmn10.2.2.2.2.2.2 _ (by omega)).1) (Eq.trans ((hmn8.2.2.2.2.2.2 _ (by omega)).1) hmn6.2.2.2.1))), (Eq.trans ((hmn12.2.2.2.2.2.2 _ (by omega)).1) (Eq.trans ((hmn10.2.2.2.2.2.2 _ (by omega)).1) hmn8.2.2.2.1)), (Eq.trans ((hmn12.2.2.2.2.2.2 _ (by omega)).1) hmn10.2.2.2.1), hmn12.2.2.2.1⟩, ⟨(Eq.trans ((hmn12.2.2.2.2.2.2 _ (by omega)).2.1) (Eq.trans ((hmn10.2.2.2.2.2.2 _ (by omega)).2.1) (Eq.trans ((hmn8.2.2.2.2.2.2 _ (by omega)).2.1) (Eq.trans ((hmn6.2.2.2.2.2.2 _ (by omega)).2.1) (Eq.trans ((hmn4.2.2.2.2.2.2 _ (by omega)).2.1) hmn2.2.2.2.2.1))))), (Eq.trans ((hmn12.2.2.2.2.2.2 _ (by omega)).2.1) (Eq.trans ((hmn10.2.2.2.2.2.2 _ (by omega)).2.1) (Eq.trans ((hmn8.2.2.2.2.2.2 _ (by omega)).2.1) (Eq.trans ((hmn6.2.2.2.2.2.2 _ (by omega)).2.1) hmn4.2.2.2.2.1)))), (Eq.trans ((hmn12.2.2.2.2.2.2 _ (by omega)).2.1) (Eq.trans ((hmn10.2.2.2.2.2.2 _ (by omega)).2.1) (Eq.trans ((hmn8.2.2.2.2.2.2 _ (by omega)).2.1) hmn6.2.2.2.2.1))), (Eq.trans ((hmn12.2.2.2.2.2.2 _ (by omega)).2.1) (Eq.trans ((hmn10.2.2.2.2.2.2 _ (by omega)).2.1) hmn8.2.2.2.2.1)), (Eq.trans ((hmn12.2.2.2.2.2.2 _ (by omega)).2.1) hmn10.2.2.2.2.1), hmn12.2.2.2.2.1⟩⟩
  refine kk (fun x => if x < p then own x else 40 + (x - p)) _ _ _ p (p + 1) (p + 2) (p + 3) (p + 4) (p + 5) (p + 6) (hR.spare hS14 ⟨by omega, fun q h1 h2 _ => ⟨(Eq.trans ((hmn12.2.2.2.2.2.2 _ (by omega)).1) (Eq.trans ((hmn10.2.2.2.2.2.2 _ (by omega)).1) (Eq.trans ((hmn8.2.2.2.2.2.2 _ (by omega)).1) (Eq.trans ((hmn6.2.2.2.2.2.2 _ (by omega)).1) (Eq.trans ((hmn4.2.2.2.2.2.2 _ (by omega)).1) (Eq.trans ((hmn2.2.2.2.2.2.2 _ (by omega)).1) ((hmn1.2.2.2.2.2.2 _ (by omega)).1))))))), (Eq.trans ((hmn12.2.2.2.2.2.2 _ (by omega)).2.1) (Eq.trans ((hmn10.2.2.2.2.2.2 _ (by omega)).2.1) (Eq.trans ((hmn8.2.2.2.2.2.2 _ (by omega)).2.1) (Eq.trans ((hmn6.2.2.2.2.2.2 _ (by omega)).2.1) (Eq.trans ((hmn4.2.2.2.2.2.2 _ (by omega)).2.1) (Eq.trans ((hmn2.2.2.2.2.2.2 _ (by omega)).2.1) ((hmn1.2.2.2.2.2.2 _ (by omega)).2.1))))))), funext fun j => (Eq.trans (gr_nq (by omega)) (Eq.trans (gr_nq (by omega)) (Eq.trans (congrFun (hmn12.2.2.2.2.2.2 _ (by omega)).2.2 _) (Eq.trans (gr_nq (by omega)) (Eq.trans (congrFun (hmn10.2.2.2.2.2.2 _ (by omega)).2.2 _) (Eq.trans (gr_nq (by omega)) (Eq.trans (congrFun (hmn8.2.2.2.2.2.2 _ (by omega)).2.2 _) (Eq.trans (gr_nq (by omega)) (Eq.trans (congrFun (hmn6.2.2.2.2.2.2 _ (by omega)).2.2 _) (Eq.trans (gr_nq (by omega)) (Eq.trans (congrFun (hmn4.2.2.2.2.2.2 _ (by omega)).2.2 _) (Eq.trans (gr_nq (by omega)) (Eq.trans (congrFun (hmn2.2.2.2.2.2.2 _ (by omega)).2.2 _) (congrFun (hmn1.2.2.2.2.2.2 _ (by omega)).2.2 _)))))))))))))), if_pos (by omega), (Eq.trans (funext fun _ => up2_nq (by omega)) (Eq.trans (hzn12.2 _ (by omega)) (Eq.trans (hzn10.2 _ (by omega)) (Eq.trans (hzn8.2 _ (by omega)) (Eq.trans (funext fun _ => up2_nq (by omega)) (Eq.trans (hzn6.2 _ (by omega)) (Eq.trans (hzn4.2 _ (by omega)) (Eq.trans (hzn2.2 _ (by omega)) (hzn1.2 _ (by omega))))))))))⟩⟩ (fun q hq => (Eq.trans ((hmn12.2.2.2.2.2.2 _ (by omega)).1) (Eq.trans ((hmn10.2.2.2.2.2.2 _ (by omega)).1) (Eq.trans ((hmn8.2.2.2.2.2.2 _ (by omega)).1) (Eq.trans ((hmn6.2.2.2.2.2.2 _ (by omega)).1) (Eq.trans ((hmn4.2.2.2.2.2.2 _ (by omega)).1) (Eq.trans ((hmn2.2.2.2.2.2.2 _ (by omega)).1) ((hmn1.2.2.2.2.2.2 _ (by omega)).1)))))))) (fun q j hq hj => (Eq.trans (gr_no hj) (Eq.trans (gr_nq (by omega)) (Eq.trans (congrFun (hmn12.2.2.2.2.2.2 _ (by omega)).2.2 _) (Eq.trans (gr_nq (by omega)) (Eq.trans (congrFun (hmn10.2.2.2.2.2.2 _ (by omega)).2.2 _) (Eq.trans (gr_nq (by omega)) (Eq.trans (congrFun (hmn8.2.2.2.2.2.2 _ (by omega)).2.2 _) (Eq.trans (gr_nq (by omega)) (Eq.trans (congrFun (hmn6.2.2.2.2.2.2 _ (by omega)).2.2 _) (Eq.trans (gr_nq (by omega)) (Eq.trans (congrFun (hmn4.2.2.2.2.2.2 _ (by omega)).2.2 _) (Eq.trans (gr_nq (by omega)) (Eq.trans (congrFun (hmn2.2.2.2.2.2.2 _ (by omega)).2.2 _) (congrFun (hmn1.2.2.2.2.2.2 _ (by omega)).2.2 _))))))))))))))) ((Eq.trans (funext fun _ => up2_nq (sc_nd (by omega))) (Eq.trans (hzn12.2 _ (sc_nd (by omega))) (Eq.trans (hzn10.2 _ (sc_nd (by omega))) (Eq.trans (hzn8.2 _ (sc_nd (by omega))) (Eq.trans (funext fun _ => up2_nq (sc_nd (by omega))) (Eq.trans (hzn6.2 _ (sc_nd (by omega))) (Eq.trans (hzn4.2 _ (sc_nd (by omega))) (Eq.trans (hzn2.2 _ (sc_nd (by omega))) (hzn1.2 _ (sc_nd (by omega)))))))))))) (fun q h1 => (Eq.trans (funext fun _ => up2_nq (by omega)) (Eq.trans (hzn12.2 _ (by omega)) (Eq.trans (hzn10.2 _ (by omega)) (Eq.trans (hzn8.2 _ (by omega)) (Eq.trans (funext fun _ => up2_nq (by omega)) (Eq.trans (hzn6.2 _ (by omega)) (Eq.trans (hzn4.2 _ (by omega)) (Eq.trans (hzn2.2 _ (by omega)) (hzn1.2 _ (by omega))))))))))) (fun q h1 => (Eq.trans (hln12.2 _ (by omega)) (Eq.trans (hln10.2 _ (by omega)) (Eq.trans (hln8.2 _ (by omega)) (Eq.trans (hln6.2 _ (by omega)) (Eq.trans (hln4.2 _ (by omega)) (Eq.trans (hln2.2 _ (by omega)) (hln1.2 _ (by omega))))))))) (Or.inr ⟨p, p + 1, p + 2, p + 3, p + 4, p + 5, p + 6, hq2, hdy2, hp2⟩)) hq2 hdy2 hp2 (by omega) (by omega) ((Eq.trans (funext fun _ => up2_nq (by omega)) (Eq.trans (hzn12.2 _ (by omega)) (Eq.trans (hzn10.2 _ (by omega)) (Eq.trans (hzn8.2 _ (by omega)) (Eq.trans (funext fun _ => up2_nq (by omega)) (Eq.trans (hzn6.2 _ (by omega)) (Eq.trans (hzn4.2 _ (by omega)) (Eq.trans (hzn2.2 _ (by omega)) (hzn1.2 _ (by omega))))))))))) ((Eq.trans (funext fun _ => up2_nq (sc_nd (by omega))) (Eq.trans (hzn12.2 _ (sc_nd (by omega))) (Eq.trans (hzn10.2 _ (sc_nd (by omega))) (Eq.trans (hzn8.2 _ (sc_nd (by omega))) (Eq.trans (funext fun _ => up2_nq (sc_nd (by omega))) (Eq.trans (hzn6.2 _ (sc_nd (by omega))) (Eq.trans (hzn4.2 _ (sc_nd (by omega))) (Eq.trans (hzn2.2 _ (sc_nd (by omega))) (hzn1.2 _ (sc_nd (by omega))))))))))))
set_option maxHeartbeats 1000000 in
theorem c_sq73 {L : Nat} {xs : Nat → Int32} {own : Nat → Nat} {d : Nat} {g : am_G} {fi : am_I} {fl : am_L} {P : Option Value → am_G → am_I → am_L → Prop} {q a0 a1 a2 a4 a5 a6 s n : Nat} {X : Nat → Int} (hR : Rel L xs own g fi fl) (hq : g.2.2.1 0 6 = some q) (hdy : (am_dy own g q 40 ∧ am_dy own g a0 41 ∧ am_dy own g a1 42 ∧ am_dy own g a2 43 ∧ am_dy own g a4 44 ∧ am_dy own g a5 45 ∧ am_dy own g a6 46)) (hp : SQp g q a0 a1 a2 a4 a5 a6) (hs : (fi 31 9).toInt = (s : Int)) (hs6 : s < 6) (hn : (fi 31 11).toInt = (n : Int)) (hXd : ∀ j, X j = (fi 39 j).toInt) (hnx9 : am_nx g ≤ 900000) (k1 : (rTx X n 10 0 [] []).1 = true → ∀ fA, CK (oS own) q a0 a1 a2 a4 a5 a6 fi fA (rTx X n 10 0 [] []).2.1 (rTx X n 10 0 [] []).2.2.1 (rTx X n 10 0 [] []).2.2.2 → ∀ fB, (∀ x, x ≠ 0 → x ≠ 1 → x ≠ 17 → fB x = fA x) → (∀ j, j ≠ 4 → fB 1 j = fi 1 j) → fB 1 4 = fi 0 5 → fB 0 5 = fi 0 5 + 1 → fB 17 1 = 0 → P (some (.int (fi 0 5))) (am_gr (am_gr g 19 s (some q)) 0 6 none) fB fl) (k0 : (rTx X n 10 0 [] []).1 = false → ∀ fA, KFr (oS own) fi fA → ∀ fB, (∀ x, x ≠ 17 → fB x = fA x) → fB 17 1 = 0 → ∀ z : Int32, z.toInt = -10 - ((rTx X n 10 0 [] []).2.1 : Int) → P (some (.int z)) g fB fl) : WP (d + 26) 73 30 [some (.ref 0), none] [] g fi fl P := by
  obtain ⟨hS, hsc, hC, -, hX, -⟩ := id hR
  obtain ⟨-, -, -, ⟨c3, c3a, c3b⟩, ⟨c4, c4a, c4b⟩, -⟩ := id hC
  obtain ⟨dq, d0, d1, d2, d4, d5, d6⟩ := id hdy
  have h05 : (fi 0 5).toInt = (s : Int) := (congrArg Int32.toInt c3).trans hs
  have odq := oS_dy hnx9 dq
  have od0 := oS_dy hnx9 d0
  have od1 := oS_dy hnx9 d1
  have od2 := oS_dy hnx9 d2
  have od4 := oS_dy hnx9 d4
  have od5 := oS_dy hnx9 d5
  have od6 := oS_dy hnx9 d6
  have hT2 : TXK (oS own) L g fi q a0 a1 a2 a4 a5 a6 X n := ⟨⟨hS, hp, ⟨dq.1, d4.1, d5.1, d6.1⟩, ⟨ne_ow odq od4 (by decide), ne_ow odq od5 (by decide), ne_ow odq od6 (by decide), ne_ow od4 od5 (by decide), ne_ow od4 od6 (by decide), ne_ow od5 od6 (by decide)⟩, (congrArg Int32.toInt c4).trans hn, fun j hj => (congrArg Int32.toInt (hX.1 j (by omega)).1).trans (hXd j).symm, by omega, fun j hj => by rw [hXd]; exact (hX.1 j (by omega)).2⟩, ⟨d0.1, d1.1, d2.1⟩, odq, od0, od1, od2, od4, od5, od6⟩
  have bT := rTx_pl X n 10 0 [] [] (Nat.zero_le _)
  have hn100 : n ≤ 100 := by omega
  refine wi_aload_0 ct_73_30 ?_
  refine wi_gfr ct_73_31 (sT_0 hS) rfl (sR_0_3 hS) ?_
  refine wi_aload_0 ct_73_34 ?_
  refine wi_gfr ct_73_35 (sT_0 hS) rfl hq ?_
  refine wi_cv1 (ls' := [some _, some _, none]) ct_73_38 (Nat.le_of_ble_eq_true rfl) (by decide) (sT_17 hS) rfl (by decide) rfl rfl (Nat.le_of_ble_eq_true rfl) ?_
  refine c_into (d := d) hT2 (fun e9 f9 h9 => wk_i ?_) (fun e9 f9 h9 h9p => wk_i ?_)
  · skip
    have hk9 := h9.2.2.2.2.2
    refine wi_istore_1 rfl ct_73_41 ?_
    refine wi_aload_0 ct_73_42 ?_
    refine wi_gfr ct_73_43 (sT_0 hS) rfl (sR_0_3 hS) ?_
    refine wi_ic ct_73_46 kc_0 ?_
    refine wi_pf ct_73_47 (sT_17 hS) rfl ?_
    refine wi_iload_1 ct_73_50 ?_
    refine wi_ifne_t ct_73_51 ki_1 (by decide) ?_
    refine wi_aload_0 ct_73_65 ?_
    refine wi_gfr ct_73_66 (sT_0 hS) rfl (sR_0_4 hS) ?_
    refine wi_aload_0 ct_73_69 ?_
    refine wi_gf (x := fi 0 5) ct_73_70 (sT_0 hS) rfl rfl (Eq.trans (up2_nq (by decide)) (congrFun (hk9.1 0 (by decide) (Or.inl (by decide))) 5)) ?_
    refine wi_aload_0 ct_73_73 ?_
    refine wi_gfr ct_73_74 (sT_0 hS) rfl hq ?_
    refine wi_aast ct_73_77 (Or.inr ⟨(sT_19 hS), hp.1⟩) (sL_19 hS) (i_in h05 (by omega)) (i_cl (k := s) h05 (by omega)) ?_
    have hS1 := hS.grq (q := 19) (a := s) (x := (some q)) (by decide)
    refine wi_aload_0 ct_73_78 ?_
    refine wi_null ct_73_79 ?_
    refine wi_pfn ct_73_80 (sT_0 hS1) rfl ?_
    have hS2 := hS1.gr (q := 0) (a := 6) (x := none) (by decide)
    refine wi_aload_0 ct_73_83 ?_
    refine wi_gfr ct_73_84 (sT_0 hS2) rfl (sR_0_0 hS2) ?_
    refine wi_aload_0 ct_73_87 ?_
    refine wi_gf (x := fi 0 5) ct_73_88 (sT_0 hS2) rfl rfl (Eq.trans (up2_nq (by decide)) (congrFun (hk9.1 0 (by decide) (Or.inl (by decide))) 5)) ?_
    refine wi_pf ct_73_91 (sT_1 hS2) rfl ?_
    refine wi_aload_0 ct_73_94 ?_
    refine wi_dup ct_73_95 rfl ?_
    refine wi_gf (x := fi 0 5) ct_73_96 (sT_0 hS2) rfl rfl (Eq.trans (up2_nq (by decide)) (Eq.trans (up2_nq (by decide)) (congrFun (hk9.1 0 (by decide) (Or.inl (by decide))) 5))) ?_
    refine wi_ic ct_73_99 kc_1 ?_
    refine wi_iadd ct_73_100 rfl ?_
    refine wi_pf ct_73_101 (sT_0 hS2) rfl ?_
    refine wi_aload_0 ct_73_104 ?_
    refine wi_gfr ct_73_105 (sT_0 hS2) rfl (sR_0_0 hS2) ?_
    refine wi_gf (x := fi 0 5) ct_73_108 (sT_1 hS2) rfl rfl (Eq.trans (up2_nq (by decide)) up2_eq) ?_
    refine wi_iret ct_73_111 rfl ?_
    exact k1 e9 f9 h9 _ (fun x e1 e2 e3 => (Eq.trans (funext fun _ => up2_nq e1) (Eq.trans (funext fun _ => up2_nq e2) (funext fun _ => up2_nq e3)))) (fun j hj => (Eq.trans (up2_nq (by decide)) (Eq.trans (up2_nj hj) (Eq.trans (up2_nq (by decide)) (congrFun (hk9.1 1 (by decide) (Or.inl (by decide))) j))))) (Eq.trans (up2_nq (by decide)) up2_eq) up2_eq (Eq.trans (up2_nq (by decide)) (Eq.trans (up2_nq (by decide)) up2_eq))
  · skip
    have hk9 := h9
    refine wi_istore_1 rfl ct_73_41 ?_
    refine wi_aload_0 ct_73_42 ?_
    refine wi_gfr ct_73_43 (sT_0 hS) rfl (sR_0_3 hS) ?_
    refine wi_ic ct_73_46 kc_0 ?_
    refine wi_pf ct_73_47 (sT_17 hS) rfl ?_
    refine wi_iload_1 ct_73_50 ?_
    refine wi_ifne_f ct_73_51 ki_0 (by decide) ?_
    refine wi_ic ct_73_54 kc_m10 ?_
    refine wi_aload_0 ct_73_56 ?_
    refine wi_gfr ct_73_57 (sT_0 hS) rfl (sR_0_3 hS) ?_
    refine wi_gf (x := f9 17 2) ct_73_60 (sT_17 hS) rfl rfl (up2_nj (by decide)) ?_
    refine wi_isub ct_73_63 rfl ?_
    refine wi_iret ct_73_64 rfl ?_
    exact k0 e9 f9 hk9 _ (fun x e => (funext fun _ => up2_nq e)) up2_eq _ ((i_sub ki_m10 h9p (by omega)).trans (by omega))
theorem c_sq141 {L n s : Nat} {d : Nat} {g : am_G} {fi : am_I} {fl : am_L} {P : Option Value → am_G → am_I → am_L → Prop} {X : Nat → Int} (hS : SF L g) (hs : (fi 31 9).toInt = (s : Int)) (hs6 : s < 6) (hl : (fi 31 11).toInt = (n : Int)) (hx : ∀ j, j < n → (fi 39 j).toInt = X j) (hn : n ≤ 100) (hxb : ∀ j, j < n → 0 ≤ X j ∧ X j ≤ 127) (hL : RL fi) (k1 : (rTx X n 10 0 [] []).1 = true → ∀ fC, MK s fi fC (rTx X n 10 0 [] []).2.1 (rTx X n 10 0 [] []).2.2.1 (rTx X n 10 0 [] []).2.2.2 → (fC 40 s).toInt = ((rTx X n 10 0 [] []).2.2.1.length : Int) → ∀ fD, (∀ x, x ≠ 31 → fD x = fC x) → (∀ j, j ≠ 9 → j ≠ 10 → j ≠ 11 → fD 31 j = fC 31 j) → fD 31 11 = 0 → fD 31 10 = fi 31 9 → fD 31 9 = fi 31 9 + 1 → P (some (.int (fi 31 9))) g fD fl) (k0 : (rTx X n 10 0 [] []).1 = false → ∀ fC, MFr s fi fC → ∀ fD, (∀ x, x ≠ 31 → fD x = fC x) → (∀ j, j ≠ 11 → fD 31 j = fC 31 j) → fD 31 11 = 0 → ∀ z : Int32, z.toInt = -10 - ((rTx X n 10 0 [] []).2.1 : Int) → P (some (.int z)) g fD fl) : WP (d + 8) 141 0 [some (.ref 31), none] [] g fi fl P := by
  have bT := rTx_pl X n 10 0 [] [] (Nat.zero_le _)
  refine wi_aload_0 ct_141_0 ?_
  refine wi_gf (x := fi 31 9) ct_141_1 (sT_31 hS) rfl rfl rfl ?_
  refine wi_ic ct_141_4 kc_6 ?_
  refine wi_icne_t ct_141_6 hs ki_6 (by omega) ?_
  refine wi_aload_0 ct_141_12 ?_
  refine wi_aload_0 ct_141_13 ?_
  refine wi_gf (x := fi 31 9) ct_141_14 (sT_31 hS) rfl rfl rfl ?_
  refine wi_cv1 (ls' := [some _, some _, none]) ct_141_17 (Nat.le_of_ble_eq_true rfl) (by decide) (sT_31 hS) rfl (by decide) rfl rfl (Nat.le_of_ble_eq_true rfl) ?_
  refine r_goes (d := d) hS hs6 hl hx hn hxb hL hs (fun e9 f9 h9 h40 => wk_i ?_) (fun e9 f9 h9 h9p => wk_i ?_)
  · skip
    have hm9 := h9.2.2.2.2.2
    refine wi_istore_1 rfl ct_141_20 ?_
    refine wi_aload_0 ct_141_21 ?_
    refine wi_ic ct_141_22 kc_0 ?_
    refine wi_pf ct_141_23 (sT_31 hS) rfl ?_
    refine wi_iload_1 ct_141_26 ?_
    refine wi_ifne_t ct_141_27 ki_1 (by decide) ?_
    refine wi_aload_0 ct_141_38 ?_
    refine wi_aload_0 ct_141_39 ?_
    refine wi_gf (x := fi 31 9) ct_141_40 (sT_31 hS) rfl rfl (Eq.trans (up2_nj (by decide)) (hm9.2.1 9 (by decide) (by decide) (by decide) (by decide) (by decide))) ?_
    refine wi_pf ct_141_43 (sT_31 hS) rfl ?_
    refine wi_aload_0 ct_141_46 ?_
    refine wi_dup ct_141_47 rfl ?_
    refine wi_gf (x := fi 31 9) ct_141_48 (sT_31 hS) rfl rfl (Eq.trans (up2_nj (by decide)) (Eq.trans (up2_nj (by decide)) (hm9.2.1 9 (by decide) (by decide) (by decide) (by decide) (by decide)))) ?_
    refine wi_ic ct_141_51 kc_1 ?_
    refine wi_iadd ct_141_52 rfl ?_
    refine wi_pf ct_141_53 (sT_31 hS) rfl ?_
    refine wi_aload_0 ct_141_56 ?_
    refine wi_gf (x := fi 31 9) ct_141_57 (sT_31 hS) rfl rfl (Eq.trans (up2_nj (by decide)) up2_eq) ?_
    refine wi_iret ct_141_60 rfl ?_
    exact k1 e9 f9 h9 h40 _ (fun x e => (Eq.trans (funext fun _ => up2_nq e) (Eq.trans (funext fun _ => up2_nq e) (funext fun _ => up2_nq e)))) (fun j e1 e2 e3 => (Eq.trans (up2_nj e1) (Eq.trans (up2_nj e2) (up2_nj e3)))) (Eq.trans (up2_nj (by decide)) (Eq.trans (up2_nj (by decide)) up2_eq)) (Eq.trans (up2_nj (by decide)) up2_eq) up2_eq
  · skip
    have hm9 := h9
    refine wi_istore_1 rfl ct_141_20 ?_
    refine wi_aload_0 ct_141_21 ?_
    refine wi_ic ct_141_22 kc_0 ?_
    refine wi_pf ct_141_23 (sT_31 hS) rfl ?_
    refine wi_iload_1 ct_141_26 ?_
    refine wi_ifne_f ct_141_27 ki_0 (by decide) ?_
    refine wi_ic ct_141_30 kc_m10 ?_
    refine wi_aload_0 ct_141_32 ?_
    refine wi_gf (x := f9 31 12) ct_141_33 (sT_31 hS) rfl rfl (up2_nj (by decide)) ?_
    refine wi_isub ct_141_36 rfl ?_
    refine wi_iret ct_141_37 rfl ?_
    exact k0 e9 f9 hm9 _ (fun x e => (funext fun _ => up2_nq e)) (fun j e => (up2_nj e)) up2_eq _ ((i_sub ki_m10 h9p (by omega)).trans (by omega))
set_option maxHeartbeats 2000000 in
theorem op_square {L I : Nat} {xs : Nat → Int32} {own : Nat → Nat} {d : Nat} {g : am_G} {fi : am_I} {fl : am_L} {P : Option Value → am_G → am_I → am_L → Prop} {i : Int32} (hi : i.toInt = (I : Int)) (hI6 : I + 6 ≤ L) (hL : L ≤ 3072) (hR : Rel L xs own g fi fl) (hnx : am_nx g ≤ 800000) (kk : ∀ own' g' fi' fl', Rel L xs own' g' fi' fl' → am_nx g' ≤ am_nx g + 30 → am_sl g' ≤ am_sl g + 1000 → WP (d + 60) 211 1359 [some (.retAddr 0), some (.ref 0), some (.ref 31), some (.int i)] [] g' fi' fl' P) : WP (d + 60) 211 420 [some (.retAddr 0), some (.ref 0), some (.ref 31), some (.int i)] [] g fi fl P := by
  obtain ⟨hS, hsc, hC, hK, hX, hV, hT, hP, hB, hN, hQ, hZ, hI⟩ := id hR
  obtain ⟨⟨c0, c0a, c0b⟩, ⟨c1, c1a, c1b⟩, ⟨c2, c2a, c2b⟩, ⟨c3, c3a, c3b⟩, ⟨c4, c4a, c4b⟩, ⟨c5, c5a, c5b⟩, ⟨c6, c6a, c6b⟩, ⟨c7, c7a, c7b⟩, c8, c9⟩ := id hC
  refine wi_aload_1 ct_211_420 ?_
  refine wi_cv0 (ls' := [some _, none]) ct_211_421 (Nat.le_of_ble_eq_true rfl) (by decide) (sT_0 hS) rfl (by decide) rfl rfl (Nat.le_of_ble_eq_true rfl) ?_
  refine wi_aload_0 ct_73_0 ?_
  refine wi_gf (x := fi 31 9) ct_73_1 (sT_0 hS) rfl rfl c3 ?_
  refine wi_ic ct_73_4 kc_6 ?_
  refine wi_iclt ct_73_6 rfl ki_6 (fun h1 => ?_) (fun h1 => ?_)
  · skip
    obtain ⟨n, hn0⟩ : ∃ n : Nat, (fi 31 11).toInt = (n : Int) := ⟨(fi 31 11).toInt.toNat, by omega⟩
    obtain ⟨s, hs0⟩ : ∃ s : Nat, (fi 31 9).toInt = (s : Int) := ⟨(fi 31 9).toInt.toNat, by omega⟩
    have hs6 : s < 6 := by omega
    have hn100 : n ≤ 100 := by omega
    rcases hZ with h06 | ⟨q, a0, a1, a2, a4, a5, a6, hq, hdy, hp⟩
    · skip
      refine wi_aload_0 ct_73_12 ?_
      refine wi_gfn ct_73_13 (sT_0 hS) rfl h06 ?_
      refine wi_ifnonnull_n ct_73_16 ?_
      refine c_new73 hR h06 hnx (fun own2 g2 fi2 fl2 q a0 a1 a2 a4 a5 a6 hR2 hq2 hdy2 hp2 hnx2 hsl2 h31 hsc2 => ?_)
      have hs1 : (fi2 31 9).toInt = (s : Int) := (by rw [h31]; exact hs0)
      have hn1 : (fi2 31 11).toInt = (n : Int) := (by rw [h31]; exact hn0)
      have hsc1 : fi2 am_SC = fi am_SC := hsc2
      obtain ⟨X, hXd⟩ : ∃ X : Nat → Int, ∀ j, X j = (fi2 39 j).toInt := ⟨_, fun _ => rfl⟩
      have hS1 := hR2.1
      have hX1 := hR2.2.2.2.2.1
      have c31 := hR2.2.2.1.2.2.2.1.1
      have h051 : (fi2 0 5).toInt = (s : Int) := (congrArg Int32.toInt c31).trans hs1
      have bT := rTx_pl X n 10 0 [] [] (Nat.zero_le _)
      have hxb : ∀ j, j < n → 0 ≤ X j ∧ X j ≤ 127 := fun j hj => by rw [hXd]; exact (hX1.1 j (by omega)).2
      refine c_sq73 (d := d + 33) hR2 hq2 hdy2 hp2 hs1 hs6 hn1 hXd (by omega) (fun e9 fA hA fB hB1 hB2 hB3 hB4 hB5 => ?_) (fun e9 fA hA fB hB1 hB2 z9 hz9 => ?_)
      · skip
        show am_K _ _ _ _ _ _ _ _ _ _
        refine wk_i ?_
        have hk9 := hA.2.2.2.2.2
        have hS7 := (hS1.grq (q := 19) (a := s) (x := some q) (by decide)).gr (q := 0) (a := 6) (x := none) (by decide)
        have hB31 : fB 31 = fi2 31 := (hB1 31 (by decide) (by decide) (by decide)).trans (hk9.1 31 (by decide) (Or.inl (by decide)))
        have hB39 : fB 39 = fi2 39 := (hB1 39 (by decide) (by decide) (by decide)).trans (hk9.1 39 (by decide) (Or.inl (by decide)))
        have hB47 : fB 47 = fi2 47 := (hB1 47 (by decide) (by decide) (by decide)).trans (hk9.1 47 (by decide) (Or.inl (by decide)))
        have hBsc : fB am_SC = fi am_SC := (hB1 am_SC (by decide) (by decide) (by decide)).trans ((hk9.1 am_SC (by decide) (Or.inr oS_sc)).trans hsc1)
        refine wi_aload_2 ct_211_424 ?_
        refine wi_cv0 (ls' := [some _, none]) ct_211_425 (Nat.le_of_ble_eq_true rfl) (by decide) (sT_31 hS7) rfl (by decide) rfl rfl (Nat.le_of_ble_eq_true rfl) ?_
        have hRL : RL fB := by unfold RL; rw [hB47]; exact hX1.2
        refine c_sq141 (d := d + 51) (s := s) (n := n) (X := X) hS7 (by rw [hB31]; exact hs1) hs6 (by rw [hB31]; exact hn1) (fun j _ => by rw [hB39]; exact (hXd j).symm) hn100 hxb hRL (fun e8 fC hC8 h408 fD hD1 hD2 hD3 hD4 hD5 => wk_i ?_) (fun e => absurd (e9.symm.trans e) (by decide))
        refine wi_iceq_t ct_211_428 h051 ((congrArg Int32.toInt (congrFun hB31 9)).trans hs1) (by omega) ?_
        obtain ⟨v1, v2, v3, v4⟩ := rTx_ok X n 10 0 [] [] (fun i h => absurd h (Nat.not_lt_zero i)) rfl rfl (Nat.le_refl _) (Nat.zero_le _) e9
        exact kk (oQ own2) _ _ _ (Rel.sqo hR2 hs1 hs6 hdy2 hp2 rfl hS7 hA hB1 hB2 hB3 hB4 hB5 hC8 h408 hD1 hD2 hD3 hD4 hD5 v1 v2 v3 (by omega)) (by show am_nx g2 ≤ _; omega) (by show am_sl g2 ≤ _; omega)
      · skip
        show am_K _ _ _ _ _ _ _ _ _ _
        refine wk_i ?_
        have hS7 := hS1
        have hB31 : fB 31 = fi2 31 := (hB1 31 (by decide)).trans (hA.1 31 (by decide) (Or.inl (by decide)))
        have hB39 : fB 39 = fi2 39 := (hB1 39 (by decide)).trans (hA.1 39 (by decide) (Or.inl (by decide)))
        have hB47 : fB 47 = fi2 47 := (hB1 47 (by decide)).trans (hA.1 47 (by decide) (Or.inl (by decide)))
        have hBsc : fB am_SC = fi am_SC := (hB1 am_SC (by decide)).trans ((hA.1 am_SC (by decide) (Or.inr oS_sc)).trans hsc1)
        refine wi_aload_2 ct_211_424 ?_
        refine wi_cv0 (ls' := [some _, none]) ct_211_425 (Nat.le_of_ble_eq_true rfl) (by decide) (sT_31 hS7) rfl (by decide) rfl rfl (Nat.le_of_ble_eq_true rfl) ?_
        have hRL : RL fB := by unfold RL; rw [hB47]; exact hX1.2
        refine c_sq141 (d := d + 51) (s := s) (n := n) (X := X) hS7 (by rw [hB31]; exact hs1) hs6 (by rw [hB31]; exact hn1) (fun j _ => by rw [hB39]; exact (hXd j).symm) hn100 hxb hRL (fun e => absurd (e9.symm.trans e) (by decide)) (fun e8 fC hC8 fD hD1 hD2 hD3 z8 hz8 => wk_i ?_)
        refine wi_iceq_t ct_211_428 hz9 hz8 (by omega) ?_
        exact kk own2 _ _ _ (Rel.sqf hR2 hs1 hs6 hA hB1 hB2 hC8 hD1 hD2 hD3) (by omega) (by omega)
    · skip
      refine wi_aload_0 ct_73_12 ?_
      refine wi_gfr ct_73_13 (sT_0 hS) rfl hq ?_
      refine wi_ifnonnull_r ct_73_16 ?_
      have hnx2 : am_nx g = am_nx g := rfl
      have hsl2 : am_sl g = am_sl g := rfl
      have hs1 : (fi 31 9).toInt = (s : Int) := hs0
      have hn1 : (fi 31 11).toInt = (n : Int) := hn0
      have hsc1 : fi am_SC = fi am_SC := (rfl : fi am_SC = fi am_SC)
      obtain ⟨X, hXd⟩ : ∃ X : Nat → Int, ∀ j, X j = (fi 39 j).toInt := ⟨_, fun _ => rfl⟩
      have hS1 := hR.1
      have hX1 := hR.2.2.2.2.1
      have c31 := hR.2.2.1.2.2.2.1.1
      have h051 : (fi 0 5).toInt = (s : Int) := (congrArg Int32.toInt c31).trans hs1
      have bT := rTx_pl X n 10 0 [] [] (Nat.zero_le _)
      have hxb : ∀ j, j < n → 0 ≤ X j ∧ X j ≤ 127 := fun j hj => by rw [hXd]; exact (hX1.1 j (by omega)).2
      refine c_sq73 (d := d + 33) hR hq hdy hp hs1 hs6 hn1 hXd (by omega) (fun e9 fA hA fB hB1 hB2 hB3 hB4 hB5 => ?_) (fun e9 fA hA fB hB1 hB2 z9 hz9 => ?_)
      · skip
        show am_K _ _ _ _ _ _ _ _ _ _
        refine wk_i ?_
        have hk9 := hA.2.2.2.2.2
        have hS7 := (hS1.grq (q := 19) (a := s) (x := some q) (by decide)).gr (q := 0) (a := 6) (x := none) (by decide)
        have hB31 : fB 31 = fi 31 := (hB1 31 (by decide) (by decide) (by decide)).trans (hk9.1 31 (by decide) (Or.inl (by decide)))
        have hB39 : fB 39 = fi 39 := (hB1 39 (by decide) (by decide) (by decide)).trans (hk9.1 39 (by decide) (Or.inl (by decide)))
        have hB47 : fB 47 = fi 47 := (hB1 47 (by decide) (by decide) (by decide)).trans (hk9.1 47 (by decide) (Or.inl (by decide)))
        have hBsc : fB am_SC = fi am_SC := (hB1 am_SC (by decide) (by decide) (by decide)).trans ((hk9.1 am_SC (by decide) (Or.inr oS_sc)).trans hsc1)
        refine wi_aload_2 ct_211_424 ?_
        refine wi_cv0 (ls' := [some _, none]) ct_211_425 (Nat.le_of_ble_eq_true rfl) (by decide) (sT_31 hS7) rfl (by decide) rfl rfl (Nat.le_of_ble_eq_true rfl) ?_
        have hRL : RL fB := by unfold RL; rw [hB47]; exact hX1.2
        refine c_sq141 (d := d + 51) (s := s) (n := n) (X := X) hS7 (by rw [hB31]; exact hs1) hs6 (by rw [hB31]; exact hn1) (fun j _ => by rw [hB39]; exact (hXd j).symm) hn100 hxb hRL (fun e8 fC hC8 h408 fD hD1 hD2 hD3 hD4 hD5 => wk_i ?_) (fun e => absurd (e9.symm.trans e) (by decide))
        refine wi_iceq_t ct_211_428 h051 ((congrArg Int32.toInt (congrFun hB31 9)).trans hs1) (by omega) ?_
        obtain ⟨v1, v2, v3, v4⟩ := rTx_ok X n 10 0 [] [] (fun i h => absurd h (Nat.not_lt_zero i)) rfl rfl (Nat.le_refl _) (Nat.zero_le _) e9
        exact kk (oQ own) _ _ _ (Rel.sqo hR hs1 hs6 hdy hp rfl hS7 hA hB1 hB2 hB3 hB4 hB5 hC8 h408 hD1 hD2 hD3 hD4 hD5 v1 v2 v3 (by omega)) (by show am_nx g ≤ _; omega) (by show am_sl g ≤ _; omega)
      · skip
        show am_K _ _ _ _ _ _ _ _ _ _
        refine wk_i ?_
        have hS7 := hS1
        have hB31 : fB 31 = fi 31 := (hB1 31 (by decide)).trans (hA.1 31 (by decide) (Or.inl (by decide)))
        have hB39 : fB 39 = fi 39 := (hB1 39 (by decide)).trans (hA.1 39 (by decide) (Or.inl (by decide)))
        have hB47 : fB 47 = fi 47 := (hB1 47 (by decide)).trans (hA.1 47 (by decide) (Or.inl (by decide)))
        have hBsc : fB am_SC = fi am_SC := (hB1 am_SC (by decide)).trans ((hA.1 am_SC (by decide) (Or.inr oS_sc)).trans hsc1)
        refine wi_aload_2 ct_211_424 ?_
        refine wi_cv0 (ls' := [some _, none]) ct_211_425 (Nat.le_of_ble_eq_true rfl) (by decide) (sT_31 hS7) rfl (by decide) rfl rfl (Nat.le_of_ble_eq_true rfl) ?_
        have hRL : RL fB := by unfold RL; rw [hB47]; exact hX1.2
        refine c_sq141 (d := d + 51) (s := s) (n := n) (X := X) hS7 (by rw [hB31]; exact hs1) hs6 (by rw [hB31]; exact hn1) (fun j _ => by rw [hB39]; exact (hXd j).symm) hn100 hxb hRL (fun e => absurd (e9.symm.trans e) (by decide)) (fun e8 fC hC8 fD hD1 hD2 hD3 z8 hz8 => wk_i ?_)
        refine wi_iceq_t ct_211_428 hz9 hz8 (by omega) ?_
        exact kk own _ _ _ (Rel.sqf hR hs1 hs6 hA hB1 hB2 hC8 hD1 hD2 hD3) (by omega) (by omega)
  · skip
    refine wi_ic ct_73_9 kc_m4 ?_
    refine wi_iret ct_73_11 rfl (wk_i ?_)
    refine wi_aload_2 ct_211_424 ?_
    refine wi_cv0 (ls' := [some _, none]) ct_211_425 (Nat.le_of_ble_eq_true rfl) (by decide) (sT_31 hS) rfl (by decide) rfl rfl (Nat.le_of_ble_eq_true rfl) ?_
    refine wi_aload_0 ct_141_0 ?_
    refine wi_gf (x := fi 31 9) ct_141_1 (sT_31 hS) rfl rfl rfl ?_
    refine wi_ic ct_141_4 kc_6 ?_
    refine wi_icne_f ct_141_6 rfl ki_6 (by omega) ?_
    refine wi_ic ct_141_9 kc_m4 ?_
    refine wi_iret ct_141_11 rfl (wk_i ?_)
    refine wi_iceq_t ct_211_428 ki_m4 ki_m4 (by decide) ?_
    exact kk own g fi fl hR (by omega) (by omega)
