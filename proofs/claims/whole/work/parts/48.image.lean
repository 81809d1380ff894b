theorem RW5.SF {L : Nat} {g g2 : am_G} {s0 o0 : Nat} (h : RW5 g g2 s0 o0) (hS : SF L g) (hs : 72 ≤ s0 ∨ s0 = 2) : SF L g2 := by
  obtain ⟨⟨h1, h2, h3⟩, h4, h5⟩ := h
  obtain ⟨k1, k2, k3, k4, k5⟩ := hS
  have hn2 : ∀ e ∈ am_tR, e.1 ≠ 2 := by decide
  refine ⟨fun q hq => by rw [h1]; exact k1 q hq, fun q hq => by rw [h2]; exact k2 q hq, fun e he => ?_, by rw [h2]; exact k4, ?_⟩
  · have a := am_tRlt e he
    have b := hn2 e he
    exact (h5 _ _ (Or.inl (by omega))).trans (k3 e he)
  · unfold am_nx
    rw [h3]
    exact k5
theorem RW5.nx {g g2 : am_G} {s0 o0 : Nat} (h : RW5 g g2 s0 o0) : am_nx g2 = am_nx g ∧ am_sl g2 = am_sl g := by
  unfold am_nx am_sl
  rw [h.1.2.2]
  exact ⟨rfl, rfl⟩
theorem RIp.rw {own : Nat → Nat} {g g2 : am_G} {q a0 a2 a5 a6 a7 a9 a10 a12 s0 o0 : Nat} {ik : Nat → Nat} (h : RIp own g q a0 a2 a5 a6 a7 a9 a10 a12 ik) (k : RW5 g g2 s0 o0) (hs : s0 ≠ q ∧ s0 ≠ a12) : RIp own g2 q a0 a2 a5 a6 a7 a9 a10 a12 ik := by
  obtain ⟨⟨h1, h2, h3⟩, h4, h5⟩ := k
  have hn : am_nx g2 = am_nx g := by
    unfold am_nx
    rw [h3]
  have er : g2.2.2.1 q = g.2.2.1 q := funext fun j => h5 q j (Or.inl (Ne.symm hs.1))
  have er2 : g2.2.2.1 a12 = g.2.2.1 a12 := funext fun j => h5 a12 j (Or.inl (Ne.symm hs.2))
  unfold RIp am_dy at *
  rw [h1, h2, er, er2, hn]
  exact h
def owC (own : Nat → Nat) (c : Nat) : Nat := if c < 72 then 1000 + c else own c
theorem owC_d {own : Nat → Nat} {c o : Nat} (h : 72 ≤ c) (e : own c = o) : owC own c = o := (if_neg (by omega)).trans e
theorem STp.of {L : Nat} {g : am_G} (hS : SF L g) : STp g 1 2 3 4 5 6 7 8 := ⟨sT_1 hS, ⟨sR_1_0 hS, sR_1_2 hS, sR_1_5 hS, sR_1_6 hS, sR_1_7 hS, sR_1_9 hS, sR_1_10 hS⟩, ⟨sT_2 hS, sT_3 hS, sT_4 hS, sT_5 hS, sT_6 hS, sT_7 hS, sT_8 hS⟩, ⟨sL_2 hS, sL_3 hS, sL_4 hS, sL_5 hS, sL_6 hS, sL_7 hS, sL_8 hS⟩⟩
theorem STp.im {own : Nat → Nat} {g : am_G} {q a0 a2 a5 a6 a7 a9 a10 a12 : Nat} {ik : Nat → Nat} (h : RIp own g q a0 a2 a5 a6 a7 a9 a10 a12 ik) : STp g q a0 a2 a5 a6 a7 a9 a10 ∧ OWn (owC own) 50 q a0 a2 a5 a6 a7 a9 a10 := by
  obtain ⟨p0, ⟨r0, r2, r5, r6, r7, r9, r10, r12⟩, ⟨d, d0, d2, d5, d6, d7, d9, d10, d12⟩, ⟨t0, t2, t5, t6, t7, t9, t10, t12⟩, ⟨l0, l2, l5, l6, l7, l9, l10, l12⟩, -⟩ := h
  exact ⟨⟨p0, ⟨r0, r2, r5, r6, r7, r9, r10⟩, ⟨t0, t2, t5, t6, t7, t9, t10⟩, ⟨l0, l2, l5, l6, l7, l9, l10⟩⟩, owC_d d.1 d.2.2, owC_d d0.1 d0.2.2, owC_d d2.1 d2.2.2, owC_d d5.1 d5.2.2, owC_d d6.1 d6.2.2, owC_d d7.1 d7.2.2, owC_d d9.1 d9.2.2, owC_d d10.1 d10.2.2⟩
theorem OWn.of (own : Nat → Nat) : OWn (owC own) 1001 1 2 3 4 5 6 7 8 := ⟨rfl, rfl, rfl, rfl, rfl, rfl, rfl, rfl⟩
theorem RN.imp {g : am_G} {q : Nat} (h : RN g q) : ∀ i, i < 5 → g.2.2.1 q i = none ∨ ∃ p, g.2.2.1 q i = some p ∧ am_sub (g.1 p) 0 = true := fun i hi => (h i hi).imp id (fun ⟨p, a, b, _⟩ => ⟨p, a, b⟩)
theorem ne_72 {x y : Nat} (h : x < 72) (h2 : 72 ≤ y) : x ≠ y := by omega
section AIM
variable {L : Nat} {xs : Nat → Int32} {own : Nat → Nat} {g : am_G} {fi : am_I} {fl : am_L} {q a0 a2 a5 a6 a7 a9 a10 a12 : Nat} {ik : Nat → Nat}
/-- the class's copy into the image -/
theorem RelX.cpy {g2 : am_G} {fi2 : am_I} (hnx : am_nx g ≤ 800100) (hX : RelX L xs own g fi fl) (hq : g.2.2.1 0 1 = some q) (hp : RIp own g q a0 a2 a5 a6 a7 a9 a10 a12 ik) (hrw : RW5 g g2 a0 2) (hc : CPY fi fi2 q a2 a5 a6 a7 a9 a10 1 3 4 5 6 7 8) : RelX L xs own g2 fi2 fl ∧ g2.2.2.1 0 1 = some q ∧ RIp own g2 q a0 a2 a5 a6 a7 a9 a10 a12 ik ∧ (∀ b, b < 5 → g2.2.2.1 a0 b = g2.2.2.1 2 b) ∧ ∀ x, x < 72 → fi2 x = fi x := by
  obtain ⟨p0, pr, ⟨d, d0, d2, d5, d6, d7, d9, d10, d12⟩, pt, pl, pik⟩ := id hp
  have hS2 : SF L g2 := hrw.SF hX.1 (Or.inl d0.1)
  obtain ⟨cf, c2, c5, c6, c7, c9, c10, cw⟩ := hc
  have hfx : ∀ x, x < 72 → fi2 x = fi x := fun x hx => cw x (by have := d.1; have := d2.1; have := d5.1; have := d6.1; have := d7.1; have := d9.1; have := d10.1; omega)
  have h9 : am_SC = 1000000 := rfl
  have e2 : g2.2.2.1 2 = g.2.2.1 2 := funext fun j => hrw.2.2 2 j (Or.inl (ne_72 (by decide) d0.1))
  have hd : ∀ x, 72 ≤ x → x < am_nx g → own x < 50 → fi2 x = fi x := fun x _ _ ho => cw x (fun h => by
    rcases h with h | h | h | h | h | h | h <;> rw [h] at ho <;> first | (have := d.2.2; omega) | (have := d2.2.2; omega) | (have := d5.2.2; omega) | (have := d6.2.2; omega) | (have := d7.2.2; omega) | (have := d9.2.2; omega) | (have := d10.2.2; omega))
  have hR : ∀ x, own x < 50 → g2.2.2.1 x = g.2.2.1 x := fun x ho => funext fun j => hrw.2.2 x j (Or.inl (fun h => by
    rw [h] at ho
    have := d0.2.2
    omega))
  refine ⟨hX.fr (G := fun o => o < 50) (own2 := own) hS2 ⟨by rw [hrw.nx.1]; exact Nat.le_refl _, fun x h1 h2 h3 => ⟨by rw [hrw.1.1], by rw [hrw.1.2.1], hR x h3, rfl, hd x h1 h2 h3⟩⟩ (fun o h => h) (fun x _ => by rw [hrw.1.1]) e2 (funext fun j => hrw.2.2 19 j (Or.inl (ne_72 (by decide) d0.1))) (hrw.2.2 0 6 (Or.inl (ne_72 (by decide) d0.1))) ?_ (fun x hx _ => hfx x hx) (fun j _ => congrFun (hfx 31 (by decide)) j) (fun _ _ => rfl), (hrw.2.2 0 1 (Or.inl (ne_72 (by decide) d0.1))).trans hq, hp.rw hrw ⟨ne_o d0.2.2 d.2.2 (by decide), ne_o d0.2.2 d12.2.2 (by decide)⟩, fun b hb => (hrw.2.1 b hb).trans (congrFun e2 b).symm, hfx⟩
  exact cw am_SC (fun h => by
    rcases h with h | h | h | h | h | h | h <;> first | (have := d.2.1; omega) | (have := d2.2.1; omega) | (have := d5.2.1; omega) | (have := d6.2.1; omega) | (have := d7.2.1; omega) | (have := d9.2.1; omega) | (have := d10.2.1; omega))
end AIM
set_option maxHeartbeats 2000000 in
theorem c_new93 {L : Nat} {xs : Nat → Int32} {own : Nat → Nat} {d : Nat} {g : am_G} {fi : am_I} {fl : am_L} {P : Option Value → am_G → am_I → am_L → Prop} (hX : RelX L xs own g fi fl) (h01 : g.2.2.1 0 1 = none) (hnx : am_nx g ≤ 800000) (kk : ∀ own2 g2 fi2 fl2 q a0 a2 a5 a6 a7 a9 a10 a12 ik, RelX L xs own2 g2 fi2 fl2 → g2.2.2.1 0 1 = some q → RIp own2 g2 q a0 a2 a5 a6 a7 a9 a10 a12 ik → am_nx g2 = am_nx g + 14 → am_sl g2 ≤ am_sl g + 200 → fi2 31 = fi 31 → fi2 am_SC = fi am_SC → WP (d + 8) 93 18 [some (.ref 0)] [] g2 fi2 fl2 P) : WP (d + 8) 93 7 [some (.ref 0)] [] g fi fl P := by
  obtain ⟨p, hp⟩ : ∃ p, am_nx g = p := ⟨_, rfl⟩
  have hS := hX.1
  have hp72 : 72 ≤ p := hp ▸ hS.nx
  refine wi_aload_0 ct_93_7 ?_
  refine wi_newF (p := p) ct_93_8 hp (by omega) (fun gn1 fin1 fln1 hmn1 hzn1 hln1 => ?_)
  have hSn1 := hS.mkF hmn1 (by omega)
  refine wi_dup ct_93_11 rfl ?_
  refine wi_cp0 (ls' := [some _]) ct_93_12 (Nat.le_of_ble_eq_true rfl) hmn1.2.2.2.1 (by decide) rfl (Nat.le_of_ble_eq_true rfl) ?_
  refine wi_aload_0 ct_36_0 ?_
  refine wi_obj ct_36_1 (Nat.le_of_ble_eq_true rfl) ?_
  refine wi_aload_0 ct_36_4 ?_
  refine wi_ic ct_36_5 kc_5 ?_
  refine wi_anewaF (p := (p + 1)) ct_36_6 (by decide) (by decide : _ = 5) (hmn1.2.1 : am_nx _ = p + 1) (by omega) (fun gn2 fin2 fln2 hmn2 hzn2 hln2 => ?_)
  have hSn2 := hSn1.mkF hmn2 (by omega)
  refine wi_pfr ct_36_9 (Eq.trans ((hmn2.2.2.2.2.2.2 _ (by omega)).1) hmn1.2.2.2.1) rfl ?_
  have hS3 := hSn2.grd (q := p) (a := 0) (x := (some (p + 1))) (by omega)
  refine wi_aload_0 ct_36_12 ?_
  refine wi_ic ct_36_13 kc_0 ?_
  refine wi_pf ct_36_14 (Eq.trans ((hmn2.2.2.2.2.2.2 _ (by omega)).1) hmn1.2.2.2.1) rfl ?_
  refine wi_aload_0 ct_36_17 ?_
  refine wi_ic ct_36_18 kc_4 ?_
  refine wi_newaF (p := (p + 2)) ct_36_19 (by decide) (by decide : _ = 4) (hmn2.2.1 : am_nx _ = p + 2) (by omega) (fun gn4 fin4 fln4 hmn4 hzn4 hln4 => ?_)
  have hSn4 := hS3.mkF hmn4 (by omega)
  refine wi_dup ct_36_21 rfl ?_
  refine wi_ic ct_36_22 kc_0 ?_
  refine wi_ic ct_36_23 kc_5 ?_
  refine wi_iast ct_36_24 hmn4.2.2.2.1 hmn4.2.2.2.2.1 (by decide) kn_c0 ?_
  refine wi_dup ct_36_25 rfl ?_
  refine wi_ic ct_36_26 kc_1 ?_
  refine wi_ic ct_36_27 kc_3 ?_
  refine wi_iast ct_36_28 hmn4.2.2.2.1 hmn4.2.2.2.2.1 (by decide) kn_c1 ?_
  refine wi_dup ct_36_29 rfl ?_
  refine wi_ic ct_36_30 kc_2 ?_
  refine wi_ic ct_36_31 kc_0 ?_
  refine wi_iast ct_36_32 hmn4.2.2.2.1 hmn4.2.2.2.2.1 (by decide) kn_c2 ?_
  refine wi_dup ct_36_33 rfl ?_
  refine wi_ic ct_36_34 kc_3 ?_
  refine wi_ic ct_36_35 kc_20 ?_
  refine wi_iast ct_36_37 hmn4.2.2.2.1 hmn4.2.2.2.2.1 (by decide) kn_c3 ?_
  refine wi_pfr ct_36_38 (Eq.trans ((hmn4.2.2.2.2.2.2 _ (by omega)).1) (Eq.trans ((hmn2.2.2.2.2.2.2 _ (by omega)).1) hmn1.2.2.2.1)) rfl ?_
  have hS5 := hSn4.grd (q := p) (a := 2) (x := (some (p + 2))) (by omega)
  refine wi_aload_0 ct_36_41 ?_
  refine wi_ic ct_36_42 kc_0 ?_
  refine wi_pf ct_36_43 (Eq.trans ((hmn4.2.2.2.2.2.2 _ (by omega)).1) (Eq.trans ((hmn2.2.2.2.2.2.2 _ (by omega)).1) hmn1.2.2.2.1)) rfl ?_
  refine wi_aload_0 ct_36_46 ?_
  refine wi_ic ct_36_47 kc_m1 ?_
  refine wi_pf ct_36_48 (Eq.trans ((hmn4.2.2.2.2.2.2 _ (by omega)).1) (Eq.trans ((hmn2.2.2.2.2.2.2 _ (by omega)).1) hmn1.2.2.2.1)) rfl ?_
  refine wi_aload_0 ct_36_51 ?_
  refine wi_ic ct_36_52 kc_6 ?_
  refine wi_newaF (p := (p + 3)) ct_36_54 (by decide) (by decide : _ = 6) (hmn4.2.1 : am_nx _ = p + 3) (by omega) (fun gn6 fin6 fln6 hmn6 hzn6 hln6 => ?_)
  have hSn6 := hS5.mkF hmn6 (by omega)
  refine wi_pfr ct_36_56 (Eq.trans ((hmn6.2.2.2.2.2.2 _ (by omega)).1) (Eq.trans ((hmn4.2.2.2.2.2.2 _ (by omega)).1) (Eq.trans ((hmn2.2.2.2.2.2.2 _ (by omega)).1) hmn1.2.2.2.1))) rfl ?_
  have hS7 := hSn6.grd (q := p) (a := 5) (x := (some (p + 3))) (by omega)
  refine wi_aload_0 ct_36_59 ?_
  refine wi_ic ct_36_60 kc_6 ?_
  refine wi_newaF (p := (p + 4)) ct_36_62 (by decide) (by decide : _ = 6) (hmn6.2.1 : am_nx _ = p + 4) (by omega) (fun gn8 fin8 fln8 hmn8 hzn8 hln8 => ?_)
  have hSn8 := hS7.mkF hmn8 (by omega)
  refine wi_pfr ct_36_64 (Eq.trans ((hmn8.2.2.2.2.2.2 _ (by omega)).1) (Eq.trans ((hmn6.2.2.2.2.2.2 _ (by omega)).1) (Eq.trans ((hmn4.2.2.2.2.2.2 _ (by omega)).1) (Eq.trans ((hmn2.2.2.2.2.2.2 _ (by omega)).1) hmn1.2.2.2.1)))) rfl ?_
  have hS9 := hSn8.grd (q := p) (a := 6) (x := (some (p + 4))) (by omega)
  refine wi_aload_0 ct_36_67 ?_
  refine wi_ic ct_36_68 kc_6 ?_
  refine wi_newaF (p := (p + 5)) ct_36_70 (by decide) (by decide : _ = 6) (hmn8.2.1 : am_nx _ = p + 5) (by omega) (fun gn10 fin10 fln10 hmn10 hzn10 hln10 => ?_)
  have hSn10 := hS9.mkF hmn10 (by omega)
  refine wi_pfr ct_36_72 (Eq.trans ((hmn10.2.2.2.2.2.2 _ (by omega)).1) (Eq.trans ((hmn8.2.2.2.2.2.2 _ (by omega)).1) (Eq.trans ((hmn6.2.2.2.2.2.2 _ (by omega)).1) (Eq.trans ((hmn4.2.2.2.2.2.2 _ (by omega)).1) (Eq.trans ((hmn2.2.2.2.2.2.2 _ (by omega)).1) hmn1.2.2.2.1))))) rfl ?_
  have hS11 := hSn10.grd (q := p) (a := 7) (x := (some (p + 5))) (by omega)
  refine wi_aload_0 ct_36_75 ?_
  refine wi_ic ct_36_76 kc_0 ?_
  refine wi_pf ct_36_77 (Eq.trans ((hmn10.2.2.2.2.2.2 _ (by omega)).1) (Eq.trans ((hmn8.2.2.2.2.2.2 _ (by omega)).1) (Eq.trans ((hmn6.2.2.2.2.2.2 _ (by omega)).1) (Eq.trans ((hmn4.2.2.2.2.2.2 _ (by omega)).1) (Eq.trans ((hmn2.2.2.2.2.2.2 _ (by omega)).1) hmn1.2.2.2.1))))) rfl ?_
  refine wi_aload_0 ct_36_80 ?_
  refine wi_ic ct_36_81 kc_12 ?_
  refine wi_newaF (p := (p + 6)) ct_36_83 (by decide) (by decide : _ = 12) (hmn10.2.1 : am_nx _ = p + 6) (by omega) (fun gn12 fin12 fln12 hmn12 hzn12 hln12 => ?_)
  have hSn12 := hS11.mkF hmn12 (by omega)
  refine wi_pfr ct_36_85 (Eq.trans ((hmn12.2.2.2.2.2.2 _ (by omega)).1) (Eq.trans ((hmn10.2.2.2.2.2.2 _ (by omega)).1) (Eq.trans ((hmn8.2.2.2.2.2.2 _ (by omega)).1) (Eq.trans ((hmn6.2.2.2.2.2.2 _ (by omega)).1) (Eq.trans ((hmn4.2.2.2.2.2.2 _ (by omega)).1) (Eq.trans ((hmn2.2.2.2.2.2.2 _ (by omega)).1) hmn1.2.2.2.1)))))) rfl ?_
  have hS13 := hSn12.grd (q := p) (a := 9) (x := (some (p + 6))) (by omega)
  refine wi_aload_0 ct_36_88 ?_
  refine wi_ic ct_36_89 kc_12 ?_
  refine wi_newaF (p := (p + 7)) ct_36_91 (by decide) (by decide : _ = 12) (hmn12.2.1 : am_nx _ = p + 7) (by omega) (fun gn14 fin14 fln14 hmn14 hzn14 hln14 => ?_)
  have hSn14 := hS13.mkF hmn14 (by omega)
  refine wi_pfr ct_36_93 (Eq.trans ((hmn14.2.2.2.2.2.2 _ (by omega)).1) (Eq.trans ((hmn12.2.2.2.2.2.2 _ (by omega)).1) (Eq.trans ((hmn10.2.2.2.2.2.2 _ (by omega)).1) (Eq.trans ((hmn8.2.2.2.2.2.2 _ (by omega)).1) (Eq.trans ((hmn6.2.2.2.2.2.2 _ (by omega)).1) (Eq.trans ((hmn4.2.2.2.2.2.2 _ (by omega)).1) (Eq.trans ((hmn2.2.2.2.2.2.2 _ (by omega)).1) hmn1.2.2.2.1))))))) rfl ?_
  have hS15 := hSn14.grd (q := p) (a := 10) (x := (some (p + 7))) (by omega)
  refine wi_aload_0 ct_36_96 ?_
  refine wi_ic ct_36_97 kc_0 ?_
  refine wi_pf ct_36_98 (Eq.trans ((hmn14.2.2.2.2.2.2 _ (by omega)).1) (Eq.trans ((hmn12.2.2.2.2.2.2 _ (by omega)).1) (Eq.trans ((hmn10.2.2.2.2.2.2 _ (by omega)).1) (Eq.trans ((hmn8.2.2.2.2.2.2 _ (by omega)).1) (Eq.trans ((hmn6.2.2.2.2.2.2 _ (by omega)).1) (Eq.trans ((hmn4.2.2.2.2.2.2 _ (by omega)).1) (Eq.trans ((hmn2.2.2.2.2.2.2 _ (by omega)).1) hmn1.2.2.2.1))))))) rfl ?_
  refine wi_aload_0 ct_36_101 ?_
  refine wi_ic ct_36_102 kc_5 ?_
  refine wi_ic ct_36_103 kc_7 ?_
  refine wi_multiF (p := (p + 8)) ct_36_105 (by decide) (by decide) (by decide : _ = 7) (by decide : _ = 5) (hmn14.2.1 : am_nx _ = p + 8) (by omega) (fun gn16 fin16 fln16 hmn16 hzn16 hln16 => ?_)
  have hSn16 := hS15.mk2F hmn16 (by omega)
  refine wi_pfr ct_36_109 (Eq.trans ((hmn16.2.2.2.2.2 _ (by omega)).1) (Eq.trans ((hmn14.2.2.2.2.2.2 _ (by omega)).1) (Eq.trans ((hmn12.2.2.2.2.2.2 _ (by omega)).1) (Eq.trans ((hmn10.2.2.2.2.2.2 _ (by omega)).1) (Eq.trans ((hmn8.2.2.2.2.2.2 _ (by omega)).1) (Eq.trans ((hmn6.2.2.2.2.2.2 _ (by omega)).1) (Eq.trans ((hmn4.2.2.2.2.2.2 _ (by omega)).1) (Eq.trans ((hmn2.2.2.2.2.2.2 _ (by omega)).1) hmn1.2.2.2.1)))))))) rfl ?_
  have hS17 := hSn16.grd (q := p) (a := 12) (x := (some (p + 8))) (by omega)
  refine wi_ret ct_36_112 (wk_v ?_)
  refine wi_pfr ct_93_15 (sT_0 hS17) rfl ?_
  have hS18 := hS17.gr (q := 0) (a := 1) (x := (some p)) (by decide)
  have hnl := hmn16.2.1
  have hnf : am_nx (am_gr (am_gr gn16 p 12 (some (p + 8))) 0 1 (some p)) = am_nx gn16 := rfl
  have hsf : am_sl (am_gr (am_gr gn16 p 12 (some (p + 8))) 0 1 (some p)) = am_sl gn16 := rfl
  have hs0 : am_sl gn1 = am_sl g + am_nf 7 := hmn1.2.2.1
  have hs1 : am_sl gn2 = am_sl gn1 + 5 := hmn2.2.2.1
  have hs2 : am_sl gn4 = am_sl gn2 + 4 := hmn4.2.2.1
  have hs3 : am_sl gn6 = am_sl gn4 + 6 := hmn6.2.2.1
  have hs4 : am_sl gn8 = am_sl gn6 + 6 := hmn8.2.2.1
  have hs5 : am_sl gn10 = am_sl gn8 + 6 := hmn10.2.2.1
  have hs6 : am_sl gn12 = am_sl gn10 + 12 := hmn12.2.2.1
  have hs7 : am_sl gn14 = am_sl gn12 + 12 := hmn14.2.2.1
  have hs8 : am_sl gn16 = am_sl gn14 + (5 + 5 * 7) := hmn16.2.2.1
  have nf7 : am_nf 7 = 13 := rfl
  refine kk (fun x => if x < p then own x else [50, 51, 52, 53, 54, 55, 56, 57, 58, 60, 61, 62, 63, 64].getD (x - p) 0) _ _ _ p (p + 1) (p + 2) (p + 3) (p + 4) (p + 5) (p + 6) (p + 7) (p + 8) (fun i => p + (9 + i)) (hX.fr (G := fun _ => True) hS18 ⟨by omega, fun q h1 h2 _ => ⟨(Eq.trans ((hmn16.2.2.2.2.2 _ (by omega)).1) (Eq.trans ((hmn14.2.2.2.2.2.2 _ (by omega)).1) (Eq.trans ((hmn12.2.2.2.2.2.2 _ (by omega)).1) (Eq.trans ((hmn10.2.2.2.2.2.2 _ (by omega)).1) (Eq.trans ((hmn8.2.2.2.2.2.2 _ (by omega)).1) (Eq.trans ((hmn6.2.2.2.2.2.2 _ (by omega)).1) (Eq.trans ((hmn4.2.2.2.2.2.2 _ (by omega)).1) (Eq.trans ((hmn2.2.2.2.2.2.2 _ (by omega)).1) ((hmn1.2.2.2.2.2.2 _ (by omega)).1))))))))), (Eq.trans ((hmn16.2.2.2.2.2 _ (by omega)).2.1) (Eq.trans ((hmn14.2.2.2.2.2.2 _ (by omega)).2.1) (Eq.trans ((hmn12.2.2.2.2.2.2 _ (by omega)).2.1) (Eq.trans ((hmn10.2.2.2.2.2.2 _ (by omega)).2.1) (Eq.trans ((hmn8.2.2.2.2.2.2 _ (by omega)).2.1) (Eq.trans ((hmn6.2.2.2.2.2.2 _ (by omega)).2.1) (Eq.trans ((hmn4.2.2.2.2.2.2 _ (by omega)).2.1) (Eq.trans ((hmn2.2.2.2.2.2.2 _ (by omega)).2.1) ((hmn1.2.2.2.2.2.2 _ (by omega)).2.1))))))))), funext fun j => (Eq.trans (gr_nq (by omega)) (Eq.trans (gr_nq (by omega)) (Eq.trans (congrFun (hmn16.2.2.2.2.2 _ (by omega)).2.2 _) (Eq.trans (gr_nq (by omega)) (Eq.trans (congrFun (hmn14.2.2.2.2.2.2 _ (by omega)).2.2 _) (Eq.trans (gr_nq (by omega)) (Eq.trans (congrFun (hmn12.2.2.2.2.2.2 _ (by omega)).2.2 _) (Eq.trans (gr_nq (by omega)) (Eq.trans (congrFun (hmn10.2.2.2.2.2.2 _ (by omega)).2.2 _) (Eq.trans (gr_nq (by omega)) (Eq.trans (congrFun (hmn8.2.2.2.2.2.2 _ (by omega)).2.2 _) (Eq.trans (gr_nq (by omega)) (Eq.trans (congrFun (hmn6.2.2.2.2.2.2 _ (by omega)).2.2 _) (Eq.trans (gr_nq (by omega)) (Eq.trans (congrFun (hmn4.2.2.2.2.2.2 _ (by omega)).2.2 _) (Eq.trans (gr_nq (by omega)) (Eq.trans (congrFun (hmn2.2.2.2.2.2.2 _ (by omega)).2.2 _) (congrFun (hmn1.2.2.2.2.2.2 _ (by omega)).2.2 _)))))))))))))))))), if_pos (by omega), (Eq.trans (hzn16.2 _ (by omega)) (Eq.trans (funext fun _ => up2_nq (by omega)) (Eq.trans (hzn14.2 _ (by omega)) (Eq.trans (hzn12.2 _ (by omega)) (Eq.trans (funext fun _ => up2_nq (by omega)) (Eq.trans (hzn10.2 _ (by omega)) (Eq.trans (hzn8.2 _ (by omega)) (Eq.trans (hzn6.2 _ (by omega)) (Eq.trans (funext fun _ => up2_nq (by omega)) (Eq.trans (funext fun _ => up2_nq (by omega)) (Eq.trans (funext fun _ => up2_nq (by omega)) (Eq.trans (funext fun _ => up2_nq (by omega)) (Eq.trans (funext fun _ => up2_nq (by omega)) (Eq.trans (funext fun _ => up2_nq (by omega)) (Eq.trans (hzn4.2 _ (by omega)) (Eq.trans (funext fun _ => up2_nq (by omega)) (Eq.trans (hzn2.2 _ (by omega)) (hzn1.2 _ (by omega)))))))))))))))))))⟩⟩ (fun _ _ => trivial) (fun q hq => (Eq.trans ((hmn16.2.2.2.2.2 _ (by omega)).1) (Eq.trans ((hmn14.2.2.2.2.2.2 _ (by omega)).1) (Eq.trans ((hmn12.2.2.2.2.2.2 _ (by omega)).1) (Eq.trans ((hmn10.2.2.2.2.2.2 _ (by omega)).1) (Eq.trans ((hmn8.2.2.2.2.2.2 _ (by omega)).1) (Eq.trans ((hmn6.2.2.2.2.2.2 _ (by omega)).1) (Eq.trans ((hmn4.2.2.2.2.2.2 _ (by omega)).1) (Eq.trans ((hmn2.2.2.2.2.2.2 _ (by omega)).1) ((hmn1.2.2.2.2.2.2 _ (by omega)).1)))))))))) (funext fun j => (Eq.trans (gr_nq (by omega)) (Eq.trans (gr_nq (by omega)) (Eq.trans (congrFun (hmn16.2.2.2.2.2 _ (by omega)).2.2 _) (Eq.trans (gr_nq (by omega)) (Eq.trans (congrFun (hmn14.2.2.2.2.2.2 _ (by omega)).2.2 _) (Eq.trans (gr_nq (by omega)) (Eq.trans (congrFun (hmn12.2.2.2.2.2.2 _ (by omega)).2.2 _) (Eq.trans (gr_nq (by omega)) (Eq.trans (congrFun (hmn10.2.2.2.2.2.2 _ (by omega)).2.2 _) (Eq.trans (gr_nq (by omega)) (Eq.trans (congrFun (hmn8.2.2.2.2.2.2 _ (by omega)).2.2 _) (Eq.trans (gr_nq (by omega)) (Eq.trans (congrFun (hmn6.2.2.2.2.2.2 _ (by omega)).2.2 _) (Eq.trans (gr_nq (by omega)) (Eq.trans (congrFun (hmn4.2.2.2.2.2.2 _ (by omega)).2.2 _) (Eq.trans (gr_nq (by omega)) (Eq.trans (congrFun (hmn2.2.2.2.2.2.2 _ (by omega)).2.2 _) (congrFun (hmn1.2.2.2.2.2.2 _ (by omega)).2.2 _))))))))))))))))))) (funext fun j => (Eq.trans (gr_nq (by omega)) (Eq.trans (gr_nq (by omega)) (Eq.trans (congrFun (hmn16.2.2.2.2.2 _ (by omega)).2.2 _) (Eq.trans (gr_nq (by omega)) (Eq.trans (congrFun (hmn14.2.2.2.2.2.2 _ (by omega)).2.2 _) (Eq.trans (gr_nq (by omega)) (Eq.trans (congrFun (hmn12.2.2.2.2.2.2 _ (by omega)).2.2 _) (Eq.trans (gr_nq (by omega)) (Eq.trans (congrFun (hmn10.2.2.2.2.2.2 _ (by omega)).2.2 _) (Eq.trans (gr_nq (by omega)) (Eq.trans (congrFun (hmn8.2.2.2.2.2.2 _ (by omega)).2.2 _) (Eq.trans (gr_nq (by omega)) (Eq.trans (congrFun (hmn6.2.2.2.2.2.2 _ (by omega)).2.2 _) (Eq.trans (gr_nq (by omega)) (Eq.trans (congrFun (hmn4.2.2.2.2.2.2 _ (by omega)).2.2 _) (Eq.trans (gr_nq (by omega)) (Eq.trans (congrFun (hmn2.2.2.2.2.2.2 _ (by omega)).2.2 _) (congrFun (hmn1.2.2.2.2.2.2 _ (by omega)).2.2 _))))))))))))))))))) ((Eq.trans (gr_nj (by decide)) (Eq.trans (gr_nq (by omega)) (Eq.trans (congrFun (hmn16.2.2.2.2.2 _ (by omega)).2.2 _) (Eq.trans (gr_nq (by omega)) (Eq.trans (congrFun (hmn14.2.2.2.2.2.2 _ (by omega)).2.2 _) (Eq.trans (gr_nq (by omega)) (Eq.trans (congrFun (hmn12.2.2.2.2.2.2 _ (by omega)).2.2 _) (Eq.trans (gr_nq (by omega)) (Eq.trans (congrFun (hmn10.2.2.2.2.2.2 _ (by omega)).2.2 _) (Eq.trans (gr_nq (by omega)) (Eq.trans (congrFun (hmn8.2.2.2.2.2.2 _ (by omega)).2.2 _) (Eq.trans (gr_nq (by omega)) (Eq.trans (congrFun (hmn6.2.2.2.2.2.2 _ (by omega)).2.2 _) (Eq.trans (gr_nq (by omega)) (Eq.trans (congrFun (hmn4.2.2.2.2.2.2 _ (by omega)).2.2 _) (Eq.trans (gr_nq (by omega)) (Eq.trans (congrFun (hmn2.2.2.2.2.2.2 _ (by omega)).2.2 _) (congrFun (hmn1.2.2.2.2.2.2 _ (by omega)).2.2 _))))))))))))))))))) (Eq.trans (hzn16.2 _ (Or.inr (by have : am_SC = 1000000 := rfl; omega))) (Eq.trans (funext fun _ => up2_nq (sc_nd (by omega))) (Eq.trans (hzn14.2 _ (sc_nd (by omega))) (Eq.trans (hzn12.2 _ (sc_nd (by omega))) (Eq.trans (funext fun _ => up2_nq (sc_nd (by omega))) (Eq.trans (hzn10.2 _ (sc_nd (by omega))) (Eq.trans (hzn8.2 _ (sc_nd (by omega))) (Eq.trans (hzn6.2 _ (sc_nd (by omega))) (Eq.trans (funext fun _ => up2_nq (sc_nd (by omega))) (Eq.trans (funext fun _ => up2_nq (sc_nd (by omega))) (Eq.trans (funext fun _ => up2_nq (sc_nd (by omega))) (Eq.trans (funext fun _ => up2_nq (sc_nd (by omega))) (Eq.trans (funext fun _ => up2_nq (sc_nd (by omega))) (Eq.trans (funext fun _ => up2_nq (sc_nd (by omega))) (Eq.trans (hzn4.2 _ (sc_nd (by omega))) (Eq.trans (funext fun _ => up2_nq (sc_nd (by omega))) (Eq.trans (hzn2.2 _ (sc_nd (by omega))) (hzn1.2 _ (sc_nd (by omega)))))))))))))))))))) (fun q h1 _ => (Eq.trans (hzn16.2 _ (by omega)) (Eq.trans (funext fun _ => up2_nq (by omega)) (Eq.trans (hzn14.2 _ (by omega)) (Eq.trans (hzn12.2 _ (by omega)) (Eq.trans (funext fun _ => up2_nq (by omega)) (Eq.trans (hzn10.2 _ (by omega)) (Eq.trans (hzn8.2 _ (by omega)) (Eq.trans (hzn6.2 _ (by omega)) (Eq.trans (funext fun _ => up2_nq (by omega)) (Eq.trans (funext fun _ => up2_nq (by omega)) (Eq.trans (funext fun _ => up2_nq (by omega)) (Eq.trans (funext fun _ => up2_nq (by omega)) (Eq.trans (funext fun _ => up2_nq (by omega)) (Eq.trans (funext fun _ => up2_nq (by omega)) (Eq.trans (hzn4.2 _ (by omega)) (Eq.trans (funext fun _ => up2_nq (by omega)) (Eq.trans (hzn2.2 _ (by omega)) (hzn1.2 _ (by omega)))))))))))))))))))) (fun j _ => (Eq.trans (congrFun (hzn16.2 _ (by omega)) _) (Eq.trans (up2_nq (by omega)) (Eq.trans (congrFun (hzn14.2 _ (by omega)) _) (Eq.trans (congrFun (hzn12.2 _ (by omega)) _) (Eq.trans (up2_nq (by omega)) (Eq.trans (congrFun (hzn10.2 _ (by omega)) _) (Eq.trans (congrFun (hzn8.2 _ (by omega)) _) (Eq.trans (congrFun (hzn6.2 _ (by omega)) _) (Eq.trans (up2_nq (by omega)) (Eq.trans (up2_nq (by omega)) (Eq.trans (up2_nq (by omega)) (Eq.trans (up2_nq (by omega)) (Eq.trans (up2_nq (by omega)) (Eq.trans (up2_nq (by omega)) (Eq.trans (congrFun (hzn4.2 _ (by omega)) _) (Eq.trans (up2_nq (by omega)) (Eq.trans (congrFun (hzn2.2 _ (by omega)) _) (congrFun (hzn1.2 _ (by omega)) _))))))))))))))))))) (fun q h1 => (Eq.trans (hln16.2 _ (by omega)) (Eq.trans (hln14.2 _ (by omega)) (Eq.trans (hln12.2 _ (by omega)) (Eq.trans (hln10.2 _ (by omega)) (Eq.trans (hln8.2 _ (by omega)) (Eq.trans (hln6.2 _ (by omega)) (Eq.trans (hln4.2 _ (by omega)) (Eq.trans (hln2.2 _ (by omega)) (hln1.2 _ (by omega)))))))))))) gr_eq ⟨(Eq.trans ((hmn16.2.2.2.2.2 _ (by omega)).1) (Eq.trans ((hmn14.2.2.2.2.2.2 _ (by omega)).1) (Eq.trans ((hmn12.2.2.2.2.2.2 _ (by omega)).1) (Eq.trans ((hmn10.2.2.2.2.2.2 _ (by omega)).1) (Eq.trans ((hmn8.2.2.2.2.2.2 _ (by omega)).1) (Eq.trans ((hmn6.2.2.2.2.2.2 _ (by omega)).1) (Eq.trans ((hmn4.2.2.2.2.2.2 _ (by omega)).1) (Eq.trans ((hmn2.2.2.2.2.2.2 _ (by omega)).1) hmn1.2.2.2.1)))))))), ⟨(Eq.trans (gr_nq (by omega)) (Eq.trans (gr_nj (by decide)) (Eq.trans (congrFun (hmn16.2.2.2.2.2 _ (by omega)).2.2 _) (Eq.trans (gr_nj (by decide)) (Eq.trans (congrFun (hmn14.2.2.2.2.2.2 _ (by omega)).2.2 _) (Eq.trans (gr_nj (by decide)) (Eq.trans (congrFun (hmn12.2.2.2.2.2.2 _ (by omega)).2.2 _) (Eq.trans (gr_nj (by decide)) (Eq.trans (congrFun (hmn10.2.2.2.2.2.2 _ (by omega)).2.2 _) (Eq.trans (gr_nj (by decide)) (Eq.trans (congrFun (hmn8.2.2.2.2.2.2 _ (by omega)).2.2 _) (Eq.trans (gr_nj (by decide)) (Eq.trans (congrFun (hmn6.2.2.2.2.2.2 _ (by omega)).2.2 _) (Eq.trans (gr_nj (by decide)) (Eq.trans (congrFun (hmn4.2.2.2.2.2.2 _ (by omega)).2.2 _) gr_eq))))))))))))))), (Eq.trans (gr_nq (by omega)) (Eq.trans (gr_nj (by decide)) (Eq.trans (congrFun (hmn16.2.2.2.2.2 _ (by omega)).2.2 _) (Eq.trans (gr_nj (by decide)) (Eq.trans (congrFun (hmn14.2.2.2.2.2.2 _ (by omega)).2.2 _) (Eq.trans (gr_nj (by decide)) (Eq.trans (congrFun (hmn12.2.2.2.2.2.2 _ (by omega)).2.2 _) (Eq.trans (gr_nj (by decide)) (Eq.trans (congrFun (hmn10.2.2.2.2.2.2 _ (by omega)).2.2 _) (Eq.trans (gr_nj (by decide)) (Eq.trans (congrFun (hmn8.2.2.2.2.2.2 _ (by omega)).2.2 _) (Eq.trans (gr_nj (by decide)) (Eq.trans (congrFun (hmn6.2.2.2.2.2.2 _ (by omega)).2.2 _) gr_eq))))))))))))), (Eq.trans (gr_nq (by omega)) (Eq.trans (gr_nj (by decide)) (Eq.trans (congrFun (hmn16.2.2.2.2.2 _ (by omega)).2.2 _) (Eq.trans (gr_nj (by decide)) (Eq.trans (congrFun (hmn14.2.2.2.2.2.2 _ (by omega)).2.2 _) (Eq.trans (gr_nj (by decide)) (Eq.trans (congrFun (hmn12.2.2.2.2.2.2 _ (by omega)).2.2 _) (Eq.trans (gr_nj (by decide)) (Eq.trans (congrFun (hmn10.2.2.2.2.2.2 _ (by omega)).2.2 _) (Eq.trans (gr_nj (by decide)) (Eq.trans (congrFun (hmn8.2.2.2.2.2.2 _ (by omega)).2.2 _) gr_eq))))))))))), (Eq.trans (gr_nq (by omega)) (Eq.trans (gr_nj (by decide)) (Eq.trans (congrFun (hmn16.2.2.2.2.2 _ (by omega)).2.2 _) (Eq.trans (gr_nj (by decide)) (Eq.trans (congrFun (hmn14.2.2.2.2.2.2 _ (by omega)).2.2 _) (Eq.trans (gr_nj (by decide)) (Eq.trans (congrFun (hmn12.2.2.2.2.2.2 _ (by omega)).2.2 _) (Eq.trans (gr_nj (by decide)) (Eq.trans (congrFun (hmn10.2.2.2.2.2.2 _ (by omega)).2.2 _) gr_eq))))))))), (Eq.trans (gr_nq (by omega)) (Eq.trans (gr_nj (by decide)) (Eq.trans (congrFun (hmn16.2.2.2.2.2 _ (by omega)).2.2 _) (Eq.trans (gr_nj (by decide)) (Eq.trans (congrFun (hmn14.2.2.2.2.2.2 _ (by omega)).2.2 _) (Eq.trans (gr_nj (by decide)) (Eq.trans (congrFun (hmn12.2.2.2.2.2.2 _ (by omega)).2.2 _) gr_eq))))))), (Eq.trans (gr_nq (by omega)) (Eq.trans (gr_nj (by decide)) (Eq.trans (congrFun (hmn16.2.2.2.2.2 _ (by omega)).2.2 _) (Eq.trans (gr_nj (by decide)) (Eq.trans (congrFun (hmn14.2.2.2.2.2.2 _ (by omega)).2.2 _) gr_eq))))), (Eq.trans (gr_nq (by omega)) (Eq.trans (gr_nj (by decide)) (Eq.trans (congrFun (hmn16.2.2.2.2.2 _ (by omega)).2.2 _) gr_eq))), (Eq.trans (gr_nq (by omega)) gr_eq)⟩, ⟨⟨by omega, by omega, ((if_neg (by omega)).trans (by rw [Nat.sub_self]; rfl))⟩, ⟨by omega, by omega, ((if_neg (by omega)).trans (by rw [Nat.add_sub_cancel_left]; rfl))⟩, ⟨by omega, by omega, ((if_neg (by omega)).trans (by rw [Nat.add_sub_cancel_left]; rfl))⟩, ⟨by omega, by omega, ((if_neg (by omega)).trans (by rw [Nat.add_sub_cancel_left]; rfl))⟩, ⟨by omega, by omega, ((if_neg (by omega)).trans (by rw [Nat.add_sub_cancel_left]; rfl))⟩, ⟨by omega, by omega, ((if_neg (by omega)).trans (by rw [Nat.add_sub_cancel_left]; rfl))⟩, ⟨by omega, by omega, ((if_neg (by omega)).trans (by rw [Nat.add_sub_cancel_left]; rfl))⟩, ⟨by omega, by omega, ((if_neg (by omega)).trans (by rw [Nat.add_sub_cancel_left]; rfl))⟩, ⟨by omega, by omega, ((if_neg (by omega)).trans (by rw [Nat.add_sub_cancel_left]; rfl))⟩⟩, ⟨(Eq.trans ((hmn16.2.2.2.2.2 _ (by omega)).1) (Eq.trans ((hmn14.2.2.2.2.2.2 _ (by omega)).1) (Eq.trans ((hmn12.2.2.2.2.2.2 _ (by omega)).1) (Eq.trans ((hmn10.2.2.2.2.2.2 _ (by omega)).1) (Eq.trans ((hmn8.2.2.2.2.2.2 _ (by omega)).1) (Eq.trans ((hmn6.2.2.2.2.2.2 _ (by omega)).1) (Eq.trans ((hmn4.2.2.2.2.2.2 _ (by omega)).1) hmn2.2.2.2.1))))))), (Eq.trans ((hmn16.2.2.2.2.2 _ (by omega)).1) (Eq.trans ((hmn14.2.2.2.2.2.2 _ (by omega)).1) (Eq.trans ((hmn12.2.2.2.2.2.2 _ (by omega)).1) (Eq.trans ((hmn10.2.2.2.2.2.2 _ (by omega)).1) (Eq.trans ((hmn8.2.2.2.2.2.2 _ (by omega)).1) (Eq.trans ((hmn6.2.2.2.2.2.2 _ (by omega)).1) hmn4.2.2.2.1)))))), (Eq.trans ((hmn16.2.2.2.2.2 _ (by omega)).1) (Eq.trans ((hmn14.2.2.2.2.2.2 _ (by omega)).1) (Eq.trans ((hmn12.2.2.2.2.2.2 _ (by omega)).1) (Eq.trans ((hmn10.2.2.2.2.2.2 _ (by omega)).1) (Eq.trans ((hmn8.2.2.2.2.2.2 _ (by omega)).1) hmn6.2.2.2.1))))), (Eq.trans ((hmn16.2.2.2.2.2 _ (by omega)).1) (Eq.trans ((hmn14.2.2.2.2.2.2 _ (by omega)).1) (Eq.trans ((hmn12.2.2.2.2.2.2 _ (by omega)).1) (Eq.trans ((hmn10.2.2.2.2.2.2 _ (by omega)).1) hmn8.2.2.2.1)))), (Eq.trans ((hmn16.2.2.2.2.2 _ (by omega)).1) (Eq.trans ((hmn14.2.2.2.2.2.2 _ (by omega)).1) (Eq.trans ((hmn12.2.2.2.2.2.2 _ (by omega)).1) hmn10.2.2.2.1))), (Eq.trans ((hmn16.2.2.2.2.2 _ (by omega)).1) (Eq.trans ((hmn14.2.2.2.2.2.2 _ (by omega)).1) hmn12.2.2.2.1)), (Eq.trans ((hmn16.2.2.2.2.2 _ (by omega)).1) hmn14.2.2.2.1), hmn16.2.2.2.1.1⟩, ⟨(Eq.trans ((hmn16.2.2.2.2.2 _ (by omega)).2.1) (Eq.trans ((hmn14.2.2.2.2.2.2 _ (by omega)).2.1) (Eq.trans ((hmn12.2.2.2.2.2.2 _ (by omega)).2.1) (Eq.trans ((hmn10.2.2.2.2.2.2 _ (by omega)).2.1) (Eq.trans ((hmn8.2.2.2.2.2.2 _ (by omega)).2.1) (Eq.trans ((hmn6.2.2.2.2.2.2 _ (by omega)).2.1) (Eq.trans ((hmn4.2.2.2.2.2.2 _ (by omega)).2.1) hmn2.2.2.2.2.1))))))), (Eq.trans ((hmn16.2.2.2.2.2 _ (by omega)).2.1) (Eq.trans ((hmn14.2.2.2.2.2.2 _ (by omega)).2.1) (Eq.trans ((hmn12.2.2.2.2.2.2 _ (by omega)).2.1) (Eq.trans ((hmn10.2.2.2.2.2.2 _ (by omega)).2.1) (Eq.trans ((hmn8.2.2.2.2.2.2 _ (by omega)).2.1) (Eq.trans ((hmn6.2.2.2.2.2.2 _ (by omega)).2.1) hmn4.2.2.2.2.1)))))), (Eq.trans ((hmn16.2.2.2.2.2 _ (by omega)).2.1) (Eq.trans ((hmn14.2.2.2.2.2.2 _ (by omega)).2.1) (Eq.trans ((hmn12.2.2.2.2.2.2 _ (by omega)).2.1) (Eq.trans ((hmn10.2.2.2.2.2.2 _ (by omega)).2.1) (Eq.trans ((hmn8.2.2.2.2.2.2 _ (by omega)).2.1) hmn6.2.2.2.2.1))))), (Eq.trans ((hmn16.2.2.2.2.2 _ (by omega)).2.1) (Eq.trans ((hmn14.2.2.2.2.2.2 _ (by omega)).2.1) (Eq.trans ((hmn12.2.2.2.2.2.2 _ (by omega)).2.1) (Eq.trans ((hmn10.2.2.2.2.2.2 _ (by omega)).2.1) hmn8.2.2.2.2.1)))), (Eq.trans ((hmn16.2.2.2.2.2 _ (by omega)).2.1) (Eq.trans ((hmn14.2.2.2.2.2.2 _ (by omega)).2.1) (Eq.trans ((hmn12.2.2.2.2.2.2 _ (by omega)).2.1) hmn10.2.2.2.2.1))), (Eq.trans ((hmn16.2.2.2.2.2 _ (by omega)).2.1) (Eq.trans ((hmn14.2.2.2.2.2.2 _ (by omega)).2.1) hmn12.2.2.2.2.1)), (Eq.trans ((hmn16.2.2.2.2.2 _ (by omega)).2.1) hmn14.2.2.2.2.1), hmn16.2.2.2.1.2.1⟩, ?_⟩ (by omega) (by omega) ((Eq.trans (hzn16.2 _ (by omega)) (Eq.trans (funext fun _ => up2_nq (by omega)) (Eq.trans (hzn14.2 _ (by omega)) (Eq.trans (hzn12.2 _ (by omega)) (Eq.trans (funext fun _ => up2_nq (by omega)) (Eq.trans (hzn10.2 _ (by omega)) (Eq.trans (hzn8.2 _ (by omega)) (Eq.trans (hzn6.2 _ (by omega)) (Eq.trans (funext fun _ => up2_nq (by omega)) (Eq.trans (funext fun _ => up2_nq (by omega)) (Eq.trans (funext fun _ => up2_nq (by omega)) (Eq.trans (funext fun _ => up2_nq (by omega)) (Eq.trans (funext fun _ => up2_nq (by omega)) (Eq.trans (funext fun _ => up2_nq (by omega)) (Eq.trans (hzn4.2 _ (by omega)) (Eq.trans (funext fun _ => up2_nq (by omega)) (Eq.trans (hzn2.2 _ (by omega)) (hzn1.2 _ (by omega)))))))))))))))))))) ((Eq.trans (hzn16.2 _ (Or.inr (by have : am_SC = 1000000 := rfl; omega))) (Eq.trans (funext fun _ => up2_nq (sc_nd (by omega))) (Eq.trans (hzn14.2 _ (sc_nd (by omega))) (Eq.trans (hzn12.2 _ (sc_nd (by omega))) (Eq.trans (funext fun _ => up2_nq (sc_nd (by omega))) (Eq.trans (hzn10.2 _ (sc_nd (by omega))) (Eq.trans (hzn8.2 _ (sc_nd (by omega))) (Eq.trans (hzn6.2 _ (sc_nd (by omega))) (Eq.trans (funext fun _ => up2_nq (sc_nd (by omega))) (Eq.trans (funext fun _ => up2_nq (sc_nd (by omega))) (Eq.trans (funext fun _ => up2_nq (sc_nd (by omega))) (Eq.trans (funext fun _ => up2_nq (sc_nd (by omega))) (Eq.trans (funext fun _ => up2_nq (sc_nd (by omega))) (Eq.trans (funext fun _ => up2_nq (sc_nd (by omega))) (Eq.trans (hzn4.2 _ (sc_nd (by omega))) (Eq.trans (funext fun _ => up2_nq (sc_nd (by omega))) (Eq.trans (hzn2.2 _ (sc_nd (by omega))) (hzn1.2 _ (sc_nd (by omega)))))))))))))))))))))
  intro i hi
  match i, hi with
  | 0, _ =>
    show ((am_gr (am_gr gn16 p 12 (some (p + 8))) 0 1 (some p))).2.2.1 (p + 8) 0 = some (p + 9) ∧ am_dy (fun x => if x < p then own x else [50, 51, 52, 53, 54, 55, 56, 57, 58, 60, 61, 62, 63, 64].getD (x - p) 0) (am_gr (am_gr gn16 p 12 (some (p + 8))) 0 1 (some p)) (p + 9) (60 + 0) ∧ ((am_gr (am_gr gn16 p 12 (some (p + 8))) 0 1 (some p))).1 (p + 9) = 20 ∧ ((am_gr (am_gr gn16 p 12 (some (p + 8))) 0 1 (some p))).2.1 (p + 9) = 7
    exact ⟨(Eq.trans (gr_nq (by omega)) (Eq.trans (gr_nq (by omega)) (hmn16.2.2.2.1.2.2 0 (by decide)))), ⟨by omega, by omega, ((if_neg (by omega)).trans (by rw [Nat.add_sub_cancel_left]; rfl))⟩, ((hmn16.2.2.2.2.1 0 (by decide)).1), ((hmn16.2.2.2.2.1 0 (by decide)).2)⟩
  | 1, _ =>
    show ((am_gr (am_gr gn16 p 12 (some (p + 8))) 0 1 (some p))).2.2.1 (p + 8) 1 = some (p + 10) ∧ am_dy (fun x => if x < p then own x else [50, 51, 52, 53, 54, 55, 56, 57, 58, 60, 61, 62, 63, 64].getD (x - p) 0) (am_gr (am_gr gn16 p 12 (some (p + 8))) 0 1 (some p)) (p + 10) (60 + 1) ∧ ((am_gr (am_gr gn16 p 12 (some (p + 8))) 0 1 (some p))).1 (p + 10) = 20 ∧ ((am_gr (am_gr gn16 p 12 (some (p + 8))) 0 1 (some p))).2.1 (p + 10) = 7
    exact ⟨(Eq.trans (gr_nq (by omega)) (Eq.trans (gr_nq (by omega)) (hmn16.2.2.2.1.2.2 1 (by decide)))), ⟨by omega, by omega, ((if_neg (by omega)).trans (by rw [Nat.add_sub_cancel_left]; rfl))⟩, ((hmn16.2.2.2.2.1 1 (by decide)).1), ((hmn16.2.2.2.2.1 1 (by decide)).2)⟩
  | 2, _ =>
    show ((am_gr (am_gr gn16 p 12 (some (p + 8))) 0 1 (some p))).2.2.1 (p + 8) 2 = some (p + 11) ∧ am_dy (fun x => if x < p then own x else [50, 51, 52, 53, 54, 55, 56, 57, 58, 60, 61, 62, 63, 64].getD (x - p) 0) (am_gr (am_gr gn16 p 12 (some (p + 8))) 0 1 (some p)) (p + 11) (60 + 2) ∧ ((am_gr (am_gr gn16 p 12 (some (p + 8))) 0 1 (some p))).1 (p + 11) = 20 ∧ ((am_gr (am_gr gn16 p 12 (some (p + 8))) 0 1 (some p))).2.1 (p + 11) = 7
    exact ⟨(Eq.trans (gr_nq (by omega)) (Eq.trans (gr_nq (by omega)) (hmn16.2.2.2.1.2.2 2 (by decide)))), ⟨by omega, by omega, ((if_neg (by omega)).trans (by rw [Nat.add_sub_cancel_left]; rfl))⟩, ((hmn16.2.2.2.2.1 2 (by decide)).1), ((hmn16.2.2.2.2.1 2 (by decide)).2)⟩
  | 3, _ =>
    show ((am_gr (am_gr gn16 p 12 (some (p + 8))) 0 1 (some p))).2.2.1 (p + 8) 3 = some (p + 12) ∧ am_dy (fun x => if x < p then own x else [50, 51, 52, 53, 54, 55, 56, 57, 58, 60, 61, 62, 63, 64].getD (x - p) 0) (am_gr (am_gr gn16 p 12 (some (p + 8))) 0 1 (some p)) (p + 12) (60 + 3) ∧ ((am_gr (am_gr gn16 p 12 (some (p + 8))) 0 1 (some p))).1 (p + 12) = 20 ∧ ((am_gr (am_gr gn16 p 12 (some (p + 8))) 0 1 (some p))).2.1 (p + 12) = 7
    exact ⟨(Eq.trans (gr_nq (by omega)) (Eq.trans (gr_nq (by omega)) (hmn16.2.2.2.1.2.2 3 (by decide)))), ⟨by omega, by omega, ((if_neg (by omega)).trans (by rw [Nat.add_sub_cancel_left]; rfl))⟩, ((hmn16.2.2.2.2.1 3 (by decide)).1), ((hmn16.2.2.2.2.1 3 (by decide)).2)⟩
  | 4, _ =>
    show ((am_gr (am_gr gn16 p 12 (some (p + 8))) 0 1 (some p))).2.2.1 (p + 8) 4 = some (p + 13) ∧ am_dy (fun x => if x < p then own x else [50, 51, 52, 53, 54, 55, 56, 57, 58, 60, 61, 62, 63, 64].getD (x - p) 0) (am_gr (am_gr gn16 p 12 (some (p + 8))) 0 1 (some p)) (p + 13) (60 + 4) ∧ ((am_gr (am_gr gn16 p 12 (some (p + 8))) 0 1 (some p))).1 (p + 13) = 20 ∧ ((am_gr (am_gr gn16 p 12 (some (p + 8))) 0 1 (some p))).2.1 (p + 13) = 7
    exact ⟨(Eq.trans (gr_nq (by omega)) (Eq.trans (gr_nq (by omega)) (hmn16.2.2.2.1.2.2 4 (by decide)))), ⟨by omega, by omega, ((if_neg (by omega)).trans (by rw [Nat.add_sub_cancel_left]; rfl))⟩, ((hmn16.2.2.2.2.1 4 (by decide)).1), ((hmn16.2.2.2.2.1 4 (by decide)).2)⟩
  | i + 5, h => exact absurd h (by omega)
theorem c_img93 {L : Nat} {xs : Nat → Int32} {own : Nat → Nat} {d : Nat} {g : am_G} {fi : am_I} {fl : am_L} {P : Option Value → am_G → am_I → am_L → Prop} {q a0 a2 a5 a6 a7 a9 a10 a12 : Nat} {ik : Nat → Nat} (hX : RelX L xs own g fi fl) (hq : g.2.2.1 0 1 = some q) (hp : RIp own g q a0 a2 a5 a6 a7 a9 a10 a12 ik) (hnx : am_nx g ≤ 800100) (kk : ∀ g3 fi3, RelX L xs own g3 fi3 fl → g3.2.2.1 0 1 = some q → RIp own g3 q a0 a2 a5 a6 a7 a9 a10 a12 ik → IMv g3 fi3 q a0 a2 a5 a6 a7 a9 a10 ik → am_nx g3 = am_nx g → am_sl g3 = am_sl g → fi3 31 = fi 31 → fi3 am_SC = fi am_SC → P (some (.int (fi 31 0))) g3 fi3 fl) : WP (d + 8) 93 18 [some (.ref 0)] [] g fi fl P := by
  obtain ⟨hS, hsc, hC, hK, -, hV, -, -, hB, hN, -, -⟩ := id hX
  obtain ⟨hst, how⟩ := STp.im hp
  obtain ⟨⟨c0, c0a, c0b⟩, ⟨c1, c1a, c1b⟩, ⟨c2, c2a, c2b⟩, -, -, ⟨c5, c5a, c5b⟩, ⟨c6, c6a, c6b⟩, -⟩ := id hC
  refine wi_aload_0 ct_93_18 ?_
  refine wi_gfr ct_93_19 (sT_0 hS) rfl hq ?_
  refine wi_aload_0 ct_93_22 ?_
  refine wi_gfr ct_93_23 (sT_0 hS) rfl (sR_0_0 hS) ?_
  refine wi_cv1 (ls' := [some _, some _, none]) ct_93_26 (Nat.le_of_ble_eq_true rfl) (by decide) hp.1 rfl (by decide) rfl rfl (Nat.le_of_ble_eq_true rfl) ?_
  refine c_copy (ow := owC own) hst (STp.of hS) how (OWn.of own) (by decide) hN.imp (fun j hj => (hV.2.2 j hj).1) (fun g2 fi2 hrw hcp => wk_v ?_)
  obtain ⟨hX2, hq2, hp2, h02, hfx⟩ := hX.cpy hnx hq hp hrw hcp
  have hS2 := hX2.1
  refine wi_aload_0 ct_93_29 ?_
  refine wi_gfr ct_93_30 (sT_0 hS2) rfl hq2 ?_
  refine wi_cv0 (ls' := [some _, none, none]) ct_93_33 (Nat.le_of_ble_eq_true rfl) (by decide) hp2.1 rfl (by decide) rfl rfl (Nat.le_of_ble_eq_true rfl) ?_
  refine wi_ic ct_40_0 kc_0 ?_
  refine wi_istore_1 rfl ct_40_1 ?_
  obtain ⟨hC2, hK2, hV2, hB2⟩ : RC fi2 ∧ RK fi2 ∧ RV fi2 ∧ RB own g2 fi2 := ⟨hX2.2.2.1, hX2.2.2.2.1, hX2.2.2.2.2.2.1, hX2.2.2.2.2.2.2.2.2.1⟩
  obtain ⟨N, hN0⟩ : ∃ N : Nat, (fi 31 0).toInt = (N : Int) := ⟨(fi 31 0).toInt.toNat, by omega⟩
  have hf31 : fi2 31 = fi 31 := hfx 31 (by decide)
  obtain ⟨p0, ⟨r0, -, -, -, -, -, -, r12⟩, ⟨d, d0, d2, d5, d6, d7, d9, d10, d12⟩, ⟨t0, -, -, -, -, -, -, t12⟩, ⟨l0, -, -, -, -, -, -, l12⟩, pik⟩ := id hp2
  refine vl_keep (N := N) p0 r0 r12 t0 t12 l0 l12 d.2.2 pik (fun b hb => (hB2 b (by rw [hf31]; omega)).2) ((congrArg Int32.toInt (hcp.1.1.trans c0)).trans hN0) (by omega) (fun b hb => h02 b (by omega)) (fun fi3 hf3 hk3 => wk_v ?_) N 0 fi2 _ none (by omega) (ki_0.trans rfl) (fun _ _ => rfl) (fun b hb => absurd hb (by omega))
  have hf3x : ∀ x, x < 72 → fi3 x = fi2 x := fun x hx => hf3 x (fun b hb => ne_72 hx (pik b hb).2.1.1)
  refine wi_aload_0 ct_93_36 ?_
  refine wi_gfr ct_93_37 (sT_0 hS2) rfl (sR_0_0 hS2) ?_
  refine wi_gf (x := fi 31 0) ct_93_40 (sT_1 hS2) rfl rfl ((congrFun (hf3x 1 (by decide)) 1).trans ((congrFun (hfx 1 (by decide)) 1).trans c0)) ?_
  refine wi_iret ct_93_43 rfl ?_
  have hsc9 : am_SC = 1000000 := rfl
  have hX3 : RelX L xs own g2 fi3 fl := hX2.fr (G := fun o => o < 50) (own2 := own) hX2.1 ⟨Nat.le_refl _, fun x _ _ h => ⟨rfl, rfl, rfl, rfl, hf3 x (fun b hb e => by rw [e, (pik b hb).2.1.2.2] at h; omega)⟩⟩ (fun o h => h) (fun _ _ => rfl) rfl rfl rfl (hf3 am_SC (fun b hb e => by have := (pik b hb).2.1.2.1; rw [← e, hrw.nx.1] at this; omega)) (fun x hx _ => hf3x x hx) (fun j _ => congrFun (hf3x 31 (by decide)) j) (fun _ _ => rfl)
  have h31 : fi3 31 = fi 31 := (hf3x 31 (by decide)).trans hf31
  have hr := fun x (hx : x < 72) => (hf3x x hx).trans (hfx x hx)
  have hz := fun x o (e : own x = o) (ho : o < 60) => hf3 x (fun b hb h => by rw [h, (pik b hb).2.1.2.2] at e; omega)
  refine kk g2 fi3 hX3 hq2 hp2 ?_ hrw.nx.1 hrw.nx.2 h31 (funext fun j => (hX3.2.1 j).trans (hX.2.1 j).symm)
  obtain ⟨⟨v1, v3, v4, v8, v11⟩, k2, k5, k6, k7, k9, k10, kw⟩ := hcp
  unfold IMv
  rw [hz q 50 d.2.2 (by decide), hz a2 52 d2.2.2 (by decide), hz a5 53 d5.2.2 (by decide), hz a6 54 d6.2.2 (by decide), hz a7 55 d7.2.2 (by decide), hz a9 56 d9.2.2 (by decide), hz a10 57 d10.2.2 (by decide), h31, hr 38 (by decide), hr 50 (by decide), hr 51 (by decide), hr 52 (by decide), hr 53 (by decide), hr 54 (by decide), hr 34 (by decide), hr 35 (by decide), hr 36 (by decide), hr 32 (by decide), hr 37 (by decide)]
  refine ⟨⟨v1.trans c0, v3.trans c1, v4.trans c2, v8.trans c5, v11.trans c6⟩, ?_, fun j hj => (k2 j hj).trans (hK j hj).1, fun j hj => ?_, fun j hj => ?_, fun j hj => ?_, fun b hb => ?_⟩
  · intro i hi
    rw [h02 i hi]
    exact (hX2.2.2.2.2.2.2.2.2.2.1 i hi)
  · obtain ⟨x1, x2, x3, -⟩ := hV.1 j hj
    exact ⟨(k5 j (by omega)).trans x1, (k6 j (by omega)).trans x2, (k7 j (by omega)).trans x3⟩
  · obtain ⟨x1, x2, -⟩ := hV.2.1 j hj
    exact ⟨(k9 j (by omega)).trans x1, (k10 j (by omega)).trans x2⟩
  · rw [k10 j hj]
    exact (hV.2.2 j hj).1
  · obtain ⟨⟨y1, y2, y3⟩, y4⟩ := hk3 b (by omega)
    rw [hfx 34 (by decide)] at y1
    rw [hfx 35 (by decide)] at y2
    rw [hfx 36 (by decide)] at y3
    rw [hfx 32 (by decide), hfx 37 (by decide)] at y4
    exact ⟨h02 b (by omega), ⟨y1, y2, y3⟩, y4⟩
set_option maxHeartbeats 2000000 in
theorem op_image {L I : Nat} {xs : Nat → Int32} {own : Nat → Nat} {d : Nat} {g : am_G} {fi : am_I} {fl : am_L} {P : Option Value → am_G → am_I → am_L → Prop} {i : Int32} (hi : i.toInt = (I : Int)) (hI6 : I + 6 ≤ L) (hL : L ≤ 3072) (hR : Rel L xs own g fi fl) (hnx : am_nx g ≤ 800000) (kk : ∀ own' g' fi' fl', Rel L xs own' g' fi' fl' → am_nx g' ≤ am_nx g + 30 → am_sl g' ≤ am_sl g + 1000 → WP (d + 60) 211 1359 [some (.retAddr 0), some (.ref 0), some (.ref 31), some (.int i)] [] g' fi' fl' P) : WP (d + 60) 211 998 [some (.retAddr 0), some (.ref 0), some (.ref 31), some (.int i)] [] g fi fl P := by
  obtain ⟨hS, hsc, hC, hK, hX, hV, hT, hP, hB, hN, hQ, hZ, hI⟩ := id hR
  obtain ⟨⟨c0, c0a, c0b⟩, ⟨c1, c1a, c1b⟩, ⟨c2, c2a, c2b⟩, ⟨c3, c3a, c3b⟩, ⟨c4, c4a, c4b⟩, ⟨c5, c5a, c5b⟩, ⟨c6, c6a, c6b⟩, ⟨c7, c7a, c7b⟩, c8, c9⟩ := id hC
  obtain ⟨hX0, hI0⟩ := hR.X
  rcases hI0 with ⟨n1, n2⟩ | ⟨n47, q, a0, a2, a5, a6, a7, a9, a10, a12, ik, n1, hp, -⟩
  · skip
    refine wi_aload_1 ct_211_998 ?_
    refine wi_cv0 (ls' := [some _]) ct_211_999 (Nat.le_of_ble_eq_true rfl) (by decide) (sT_0 hS) rfl (by decide) rfl rfl (Nat.le_of_ble_eq_true rfl) ?_
    refine wi_aload_0 ct_93_0 ?_
    refine wi_gfn ct_93_1 (sT_0 hS) rfl n1 ?_
    refine wi_ifnonnull_n ct_93_4 ?_
    refine c_new93 hX0 n1 hnx (fun own2 g2 fi2 fl2 q a0 a2 a5 a6 a7 a9 a10 a12 ik hX1 hq1 hp1 hnx1 hsl1 h31 hsc1 => ?_)
    refine c_img93 hX1 hq1 hp1 (by omega) (fun g3 fi3 hX3 hq3 hp3 hv3 hnx3 hsl3 h31b hsc3 => ?_)
    rw [h31] at h31b
    have hsc4 : fi3 am_SC = fi am_SC := hsc3.trans hsc1
    rw [h31]
    show am_K _ _ _ _ _ _ _ _ _ _
    refine wk_i ?_
    have hS3 := hX3.1
    refine wi_aload_2 ct_211_1002 ?_
    refine wi_cv0 (ls' := [some _, none]) ct_211_1003 (Nat.le_of_ble_eq_true rfl) (by decide) (sT_31 hS3) rfl (by decide) rfl rfl (Nat.le_of_ble_eq_true rfl) ?_
    refine c_mimage hS3 (fun j hj => (hX3.2.2.2.2.2.1.2.2 j hj).2) (fun fi4 hm => wk_i ?_)
    refine wi_iceq_t ct_211_1006 rfl (congrArg Int32.toInt (congrFun h31b 0)) (by omega) ?_
    exact kk own2 g3 _ _ (Rel.img hX3 hq3 hp3 hv3 hm) (by omega) (by omega)
  · skip
    refine wi_aload_1 ct_211_998 ?_
    refine wi_cv0 (ls' := [some _]) ct_211_999 (Nat.le_of_ble_eq_true rfl) (by decide) (sT_0 hS) rfl (by decide) rfl rfl (Nat.le_of_ble_eq_true rfl) ?_
    refine wi_aload_0 ct_93_0 ?_
    refine wi_gfr ct_93_1 (sT_0 hS) rfl n1 ?_
    refine wi_ifnonnull_r ct_93_4 ?_
    refine c_img93 hX0 n1 hp (by omega) (fun g3 fi3 hX3 hq3 hp3 hv3 hnx3 hsl3 h31b hsc4 => ?_)
    show am_K _ _ _ _ _ _ _ _ _ _
    refine wk_i ?_
    have hS3 := hX3.1
    refine wi_aload_2 ct_211_1002 ?_
    refine wi_cv0 (ls' := [some _, none]) ct_211_1003 (Nat.le_of_ble_eq_true rfl) (by decide) (sT_31 hS3) rfl (by decide) rfl rfl (Nat.le_of_ble_eq_true rfl) ?_
    refine c_mimage hS3 (fun j hj => (hX3.2.2.2.2.2.1.2.2 j hj).2) (fun fi4 hm => wk_i ?_)
    refine wi_iceq_t ct_211_1006 rfl (congrArg Int32.toInt (congrFun h31b 0)) (by omega) ?_
    exact kk own g3 _ _ (Rel.img hX3 hq3 hp3 hv3 hm) (by omega) (by omega)
