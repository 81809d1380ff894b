/-! Sums, fractions in lowest terms. -/
def smN (f : Nat → Nat) : Nat → Nat → Nat → Nat
  | 0, _, c => c
  | n + 1, k, c => smN f n (k + 1) (c + f k)
theorem smN_le {f : Nat → Nat} {M : Nat} (h : ∀ k, f k ≤ M) : ∀ n k c, smN f n k c ≤ c + n * M := by
  intro n
  induction n with
  | zero =>
    intro k c
    simp [smN]
  | succ n ih =>
    intro k c
    have h1 := ih (k + 1) (c + f k)
    have h2 := h k
    rw [Nat.succ_mul]
    show smN f n (k + 1) (c + f k) ≤ _
    omega
/-- part 0 above, else below the line -/
def lowV (X Y : Nat) (W : Int) : Int := if W = 0 then (X : Int) / (Nat.gcd X Y : Int) else (Y : Int) / (Nat.gcd X Y : Int)
theorem gcd_max {X Y c : Nat} (hY : 1 ≤ Y) (h1 : c ∣ X) (h2 : c ∣ Y) (h : ∀ e, e < Y + 1 → e ∣ X → e ∣ Y → e ≤ c) : c = Nat.gcd X Y := by
  have hg : 0 < Nat.gcd X Y := Nat.gcd_pos_of_pos_right _ (by omega)
  have h3 : Nat.gcd X Y ≤ Y := Nat.le_of_dvd (by omega) (Nat.gcd_dvd_right X Y)
  exact Nat.le_antisymm (Nat.le_of_dvd hg (Nat.dvd_gcd h1 h2)) (h _ (by omega) (Nat.gcd_dvd_left X Y) (Nat.gcd_dvd_right X Y))
theorem dvd_of0 {X k : Nat} (h : (X : Int) % (k : Int) = 0) : k ∣ X := Int.natCast_dvd_natCast.mp (Int.dvd_of_emod_eq_zero h)
theorem dvd_n0 {X k : Nat} (h : (X : Int) % (k : Int) ≠ 0) : ¬ k ∣ X := fun hd => h (Int.emod_eq_zero_of_dvd (Int.natCast_dvd_natCast.mpr hd))
section AJ
variable {x y : Int64} {X Y : Int}
theorem j_add (hx : x.toInt = X) (hy : y.toInt = Y) (h : -9223372036854775808 ≤ X + Y ∧ X + Y ≤ 9223372036854775807) : (x + y).toInt = X + Y := by
  subst hx; subst hy
  rw [Int64.toInt_add]
  exact Int.bmod_eq_of_le (by omega) (by omega)
theorem j_div (hx : x.toInt = X) (hy : y.toInt = Y) (h0 : 0 ≤ X) (h1 : 0 < Y) : (x / y).toInt = X / Y := by
  have h2 : y ≠ -1 := fun e => by
    rw [e] at hy
    have : (-1 : Int64).toInt = -1 := by decide
    omega
  rw [Int64.toInt_div_of_ne_right x y h2, hx, hy]
  exact Int.tdiv_eq_ediv_of_nonneg h0
theorem j_rem (hx : x.toInt = X) (hy : y.toInt = Y) (h0 : 0 ≤ X) (h1 : 0 < Y) : (x - x / y * y).toInt = X % Y := by
  have hl := x.toInt_lt
  have h3 := Int.mul_ediv_add_emod X Y
  have h4 := Int.emod_nonneg X (show Y ≠ 0 by omega)
  have h5 : X / Y * Y = Y * (X / Y) := Int.mul_comm _ _
  have h6 := Int.ediv_nonneg h0 (show (0 : Int) ≤ Y by omega)
  have h7 : 0 ≤ Y * (X / Y) := Int.mul_nonneg (by omega) h6
  have h8 : (x / y * y).toInt = X / Y * Y := by
    rw [Int64.toInt_mul, j_div hx hy h0 h1, hy]
    exact Int.bmod_eq_of_le (by omega) (by omega)
  rw [Int64.toInt_sub, hx, h8]
  have : X - X / Y * Y = X % Y := by omega
  rw [this]
  exact Int.bmod_eq_of_le (by omega) (by omega)
theorem j_nz (hy : y.toInt = Y) (h : Y ≠ 0) : y ≠ 0 := fun e => h (by rw [← hy, e]; rfl)
theorem j_eq (hx : x.toInt = X) (hy : y.toInt = X) : x = y := Int64.toInt.inj (by omega)
theorem lcmp_1 (hx : x.toInt = X) (hy : y.toInt = Y) (h : Y < X) : lg_cmp x y = 1 := by
  subst hx; subst hy
  unfold lg_cmp
  simp [Int64.lt_iff_toInt_lt, h, show ¬ x.toInt < y.toInt by omega]
end AJ
theorem vl_low {d : Nat} {g : am_G} {fi : am_I} {fl : am_L} {P : Option Value → am_G → am_I → am_L → Prop} {x y pt : Int32} {X Y : Nat} {Wi : Int} (hx : x.toInt = (X : Int)) (hy : y.toInt = (Y : Int)) (hw : pt.toInt = Wi) (hX : X ≤ 2000000) (hY : 1 ≤ Y ∧ Y ≤ 100) (kk : ∀ z : Int32, z.toInt = lowV X Y Wi → P (some (.int z)) g fi fl) : ∀ (n k c : Nat) (zc zd : Int32), k + n = Y + 1 → 2 ≤ k → zd.toInt = (k : Int) → zc.toInt = (c : Int) → 1 ≤ c → c ∣ X → c ∣ Y → (∀ e, e < k → e ∣ X → e ∣ Y → e ≤ c) → WP d 113 5 [some (.int x), some (.int y), some (.int pt), some (.int zc), some (.int zd)] [] g fi fl P := by
  intro n
  induction n with
  | zero =>
    intro k c zc zd hkn hk2 hzd hzc hc1 hcX hcY hmx
    have hg := gcd_max hY.1 hcX hcY (fun e he => hmx e (by omega))
    rcases Decidable.em (Wi = 0) with hW | hW
    · skip
      refine wi_iload_4 ct_113_5 ?_
      refine wi_iload_1 ct_113_7 ?_
      refine wi_icgt_t ct_113_8 hzd hy (by omega) ?_
      refine wi_iload_2 ct_113_34 ?_
      refine wi_ifne_f ct_113_35 hw (by omega) ?_
      refine wi_iload_0 ct_113_38 ?_
      refine wi_iload_3 ct_113_39 ?_
      refine wi_idiv ct_113_40 (i_nz hzc (by omega)) rfl ?_
      have hdv := i_div hx hzc (by omega) (by omega)
      refine wi_goto ct_113_41 ?_
      refine wi_iret ct_113_47 rfl ?_
      exact kk _ (hdv.trans (by unfold lowV; rw [if_pos hW, hg]))
    · skip
      refine wi_iload_4 ct_113_5 ?_
      refine wi_iload_1 ct_113_7 ?_
      refine wi_icgt_t ct_113_8 hzd hy (by omega) ?_
      refine wi_iload_2 ct_113_34 ?_
      refine wi_ifne_t ct_113_35 hw (by omega) ?_
      refine wi_iload_1 ct_113_44 ?_
      refine wi_iload_3 ct_113_45 ?_
      refine wi_idiv ct_113_46 (i_nz hzc (by omega)) rfl ?_
      have hdv := i_div hy hzc (by omega) (by omega)
      refine wi_iret ct_113_47 rfl ?_
      exact kk _ (hdv.trans (by unfold lowV; rw [if_neg hW, hg]))
  | succ n ih =>
    intro k c zc zd hkn hk2 hzd hzc hc1 hcX hcY hmx
    refine wi_iload_4 ct_113_5 ?_
    refine wi_iload_1 ct_113_7 ?_
    refine wi_icgt_f ct_113_8 hzd hy (by omega) ?_
    refine wi_iload_0 ct_113_11 ?_
    refine wi_iload_4 ct_113_12 ?_
    refine wi_irem ct_113_14 (i_nz hzd (by omega)) rfl ?_
    have hrX := i_rem hx hzd (by omega) (by omega)
    refine wi_ifne ct_113_15 hrX (fun h1 => ?_) (fun h1 => ?_)
    · skip
      refine wi_iinc_4 rfl (z := (zd + 1)) ct_113_28 (by rw [kc_1]) ?_
      refine wi_goto ct_113_31 ?_
      have hno : ¬ k ∣ X := dvd_n0 (by omega)
      exact ih (k + 1) c _ _ (by omega) (by omega) ((i_add hzd ki_1 (by omega)).trans (by omega)) hzc hc1 hcX hcY (fun e he h1 h2 => by
        rcases Decidable.em (e = k) with e1 | e1
        · exact absurd (e1 ▸ h1) hno
        · exact hmx e (by omega) h1 h2)
    · skip
      refine wi_iload_1 ct_113_18 ?_
      refine wi_iload_4 ct_113_19 ?_
      refine wi_irem ct_113_21 (i_nz hzd (by omega)) rfl ?_
      have hrY := i_rem hy hzd (by omega) (by omega)
      refine wi_ifne ct_113_22 hrY (fun h2 => ?_) (fun h2 => ?_)
      · skip
        refine wi_iinc_4 rfl (z := (zd + 1)) ct_113_28 (by rw [kc_1]) ?_
        refine wi_goto ct_113_31 ?_
        have hno : ¬ k ∣ Y := dvd_n0 (by omega)
        exact ih (k + 1) c _ _ (by omega) (by omega) ((i_add hzd ki_1 (by omega)).trans (by omega)) hzc hc1 hcX hcY (fun e he h1 h2 => by
          rcases Decidable.em (e = k) with e1 | e1
          · exact absurd (e1 ▸ h2) hno
          · exact hmx e (by omega) h1 h2)
      · skip
        refine wi_iload_4 ct_113_25 ?_
        refine wi_istore_3 rfl ct_113_27 ?_
        refine wi_iinc_4 rfl (z := (zd + 1)) ct_113_28 (by rw [kc_1]) ?_
        refine wi_goto ct_113_31 ?_
        exact ih (k + 1) k _ _ (by omega) (by omega) ((i_add hzd ki_1 (by omega)).trans (by omega)) hzd (by omega) (dvd_of0 (by omega)) (dvd_of0 (by omega)) (fun e he _ _ => by omega)
theorem c_low {d : Nat} {g : am_G} {fi : am_I} {fl : am_L} {P : Option Value → am_G → am_I → am_L → Prop} {x y pt : Int32} {X Y : Nat} {Wi : Int} (hx : x.toInt = (X : Int)) (hy : y.toInt = (Y : Int)) (hw : pt.toInt = Wi) (hX : X ≤ 2000000) (hY : 1 ≤ Y ∧ Y ≤ 100) (kk : ∀ z : Int32, z.toInt = lowV X Y Wi → P (some (.int z)) g fi fl) : WP d 113 0 [some (.int x), some (.int y), some (.int pt), none, none] [] g fi fl P := by
  refine wi_ic ct_113_0 kc_1 ?_
  refine wi_istore_3 rfl ct_113_1 ?_
  refine wi_ic ct_113_2 kc_2 ?_
  refine wi_istore_4 rfl ct_113_3 ?_
  exact vl_low hx hy hw hX hY kk (Y - 1) 2 1 _ _ (by omega) (by decide) (ki_2.trans rfl) (ki_1.trans rfl) (Nat.le_refl _) (Nat.one_dvd _) (Nat.one_dvd _) (fun e he _ _ => by omega)
theorem vl_div {L : Nat} {d : Nat} {g : am_G} {fi : am_I} {fl : am_L} {P : Option Value → am_G → am_I → am_L → Prop} {a b : Int64} : ∀ (n X Y : Nat) (p q : Int64) (l9 l10 : Option Value), Y ≤ n → X ≤ 2000000 → Y ≤ 2000000 → p.toInt = (X : Int) → q.toInt = (Y : Int) → (∀ z : Int64, z.toInt = ((Nat.gcd X Y : Nat) : Int) → P (some (.long z)) g fi fl) → WP d 173 6 [some (.ref 31), some (.long a), none, some (.long b), none, some (.long p), none, some (.long q), none, l9, l10] [] g fi fl P := by
  intro n
  induction n with
  | zero =>
    intro X Y p q l9 l10 hn hX hY hp hq kk
    have hY0 : Y = 0 := by omega
    subst hY0
    have hlc : lg_cmp q 0 = 0 := lcmp_eq (j_eq hq rfl)
    refine wi_lload_7 ct_173_6 ?_
    refine wi_lc ct_173_8 kl_0 ?_
    refine wi_lcmp ct_173_9 hlc ?_
    refine wi_ifeq_t ct_173_10 ki_0 (by decide) ?_
    refine wi_lload_5 ct_173_31 ?_
    refine wi_lret ct_173_33 ?_
    exact kk _ (hp.trans (by simp))
  | succ n ih =>
    intro X Y p q l9 l10 hn hX hY hp hq kk
    rcases Decidable.em (Y = 0) with hY0 | hY0
    · skip
      subst hY0
      have hlc : lg_cmp q 0 = 0 := lcmp_eq (j_eq hq rfl)
      refine wi_lload_7 ct_173_6 ?_
      refine wi_lc ct_173_8 kl_0 ?_
      refine wi_lcmp ct_173_9 hlc ?_
      refine wi_ifeq_t ct_173_10 ki_0 (by decide) ?_
      refine wi_lload_5 ct_173_31 ?_
      refine wi_lret ct_173_33 ?_
      exact kk _ (hp.trans (by simp))
    · skip
      have hlc : lg_cmp q 0 = 1 := lcmp_1 hq (show (0 : Int64).toInt = 0 from rfl) (by omega)
      refine wi_lload_7 ct_173_6 ?_
      refine wi_lc ct_173_8 kl_0 ?_
      refine wi_lcmp ct_173_9 hlc ?_
      refine wi_ifeq_f ct_173_10 ki_1 (by decide) ?_
      refine wi_lload_5 ct_173_13 ?_
      refine wi_lload_7 ct_173_15 ?_
      refine wi_lrem ct_173_17 (j_nz hq (by omega)) rfl ?_
      have hr := j_rem hp hq (by omega) (by omega)
      refine wi_lstore_9 rfl ct_173_18 ?_
      refine wi_lload_7 ct_173_20 ?_
      refine wi_lstore_5 rfl ct_173_22 ?_
      refine wi_lload_9 ct_173_24 ?_
      refine wi_lstore_7 rfl ct_173_26 ?_
      refine wi_goto ct_173_28 ?_
      have hlt : X % Y < Y := Nat.mod_lt _ (by omega)
      exact ih Y (X % Y) _ _ _ _ (by omega) hY (by omega) hq (hr.trans (by omega)) (fun z hz => kk z (hz.trans (by rw [Nat.gcd_comm X Y, Nat.gcd_rec Y X, Nat.gcd_comm Y (X % Y)])))
theorem c_lowm {L : Nat} {d : Nat} {g : am_G} {fi : am_I} {fl : am_L} {P : Option Value → am_G → am_I → am_L → Prop} {x y : Int64} {pt : Int32} {X Y : Nat} {Wi : Int} (hS : SF L g) (hx : x.toInt = (X : Int)) (hy : y.toInt = (Y : Int)) (hw : pt.toInt = Wi) (hX : X ≤ 2000000) (hY : 1 ≤ Y ∧ Y ≤ 100) (kk : ∀ z : Int64, z.toInt = lowV X Y Wi → P (some (.long z)) g fi fl) : WP (d + 1) 174 0 [some (.ref 31), some (.long x), none, some (.long y), none, some (.int pt), none, none] [] g fi fl P := by
  have hg : 0 < Nat.gcd X Y := Nat.gcd_pos_of_pos_right _ (by omega)
  rcases Decidable.em (Wi = 0) with hW | hW
  · skip
    refine wi_aload_0 ct_174_0 ?_
    refine wi_lload_1 ct_174_1 ?_
    refine wi_lload_3 ct_174_2 ?_
    refine wi_cv2 (ls' := [some _, some _, none, some _, none, none, none, none, none, none, none]) ct_174_3 (Nat.le_of_ble_eq_true rfl) (by decide) (sT_31 hS) rfl (by decide) rfl rfl (Nat.le_of_ble_eq_true rfl) ?_
    refine wi_lload_1 ct_173_0 ?_
    refine wi_lstore_5 rfl ct_173_1 ?_
    refine wi_lload_3 ct_173_3 ?_
    refine wi_lstore_7 rfl ct_173_4 ?_
    refine vl_div (L := L) Y X Y _ _ none none (Nat.le_refl _) hX (by omega) hx hy (fun zg hzg => wk_j ?_)
    refine wi_lstore_6 rfl ct_174_6 ?_
    refine wi_iload_5 ct_174_8 ?_
    refine wi_ifne_f ct_174_10 hw (by omega) ?_
    refine wi_lload_1 ct_174_13 ?_
    refine wi_lload_6 ct_174_14 ?_
    refine wi_ldiv ct_174_16 (j_nz hzg (by omega)) rfl ?_
    have hdv := j_div hx hzg (by omega) (by omega)
    refine wi_goto ct_174_17 ?_
    refine wi_lret ct_174_24 ?_
    exact kk _ (hdv.trans (by unfold lowV; rw [if_pos hW]))
  · skip
    refine wi_aload_0 ct_174_0 ?_
    refine wi_lload_1 ct_174_1 ?_
    refine wi_lload_3 ct_174_2 ?_
    refine wi_cv2 (ls' := [some _, some _, none, some _, none, none, none, none, none, none, none]) ct_174_3 (Nat.le_of_ble_eq_true rfl) (by decide) (sT_31 hS) rfl (by decide) rfl rfl (Nat.le_of_ble_eq_true rfl) ?_
    refine wi_lload_1 ct_173_0 ?_
    refine wi_lstore_5 rfl ct_173_1 ?_
    refine wi_lload_3 ct_173_3 ?_
    refine wi_lstore_7 rfl ct_173_4 ?_
    refine vl_div (L := L) Y X Y _ _ none none (Nat.le_refl _) hX (by omega) hx hy (fun zg hzg => wk_j ?_)
    refine wi_lstore_6 rfl ct_174_6 ?_
    refine wi_iload_5 ct_174_8 ?_
    refine wi_ifne_t ct_174_10 hw (by omega) ?_
    refine wi_lload_3 ct_174_20 ?_
    refine wi_lload_6 ct_174_21 ?_
    refine wi_ldiv ct_174_23 (j_nz hzg (by omega)) rfl ?_
    have hdv := j_div hy hzg (by omega) (by omega)
    refine wi_lret ct_174_24 ?_
    exact kk _ (hdv.trans (by unfold lowV; rw [if_neg hW]))
set_option maxHeartbeats 2000000 in
theorem vl_codds {L : Nat} {xs : Nat → Int32} {own : Nat → Nat} {d : Nat} {g : am_G} {fi : am_I} {fl : am_L} {P : Option Value → am_G → am_I → am_L → Prop} {sq : Option sq_T} {B p r : Nat} {kd v cd aim co : Int} {row : Nat → Int} {f : Nat → Nat} {w bl : Int32} (hR : Rel L xs own g fi fl) (hW : BLW own g fi B p r kd v cd aim co row) (hsq : SQs fi sq) (hsx : SQx g fi sq) (hf : ∀ k : Nat, f k = (bI (!(goL (mkLk sq B kd v) kd v aim row k false 30 0 ((fi 31 1).toInt) 0 (cd * (goodV (fi 38 0).toInt (fi 38 1).toInt (fi 38 2).toInt))).1)).toInt.toNat) (kk : ∀ (zt zi : Int32) (g3 : am_G) (fi3 : am_I), zt.toInt = ((smN f 10 0 0 : Nat) : Int) → SCR g g3 fi fi3 → WP (d + 9) 88 77 [some (.ref 0), some (.int (bl)), some (.int (w)), some (.ref p), some (.int (zt)), some (.int (zi))] [] g3 fi3 fl P) : ∀ (n k c : Nat) (g2 : am_G) (fi2 : am_I) (zt zi : Int32), k + n = 10 → SCR g g2 fi fi2 → zi.toInt = (k : Int) → zt.toInt = (c : Int) → c ≤ 1 * k → smN f n k c = smN f 10 0 0 → WP (d + 9) 88 29 [some (.ref 0), some (.int (bl)), some (.int (w)), some (.ref p), some (.int (zt)), some (.int (zi))] [] g2 fi2 fl P := by
  obtain ⟨hS, hsc, hC, hK, hX, hV, hT, hP, hB, hN, hQ, hZ, hI⟩ := id hR
  obtain ⟨⟨c0, c0a, c0b⟩, ⟨c1, c1a, c1b⟩, ⟨c2, c2a, c2b⟩, ⟨c3, c3a, c3b⟩, ⟨c4, c4a, c4b⟩, ⟨c5, c5a, c5b⟩, ⟨c6, c6a, c6b⟩, ⟨c7, c7a, c7b⟩, c8, c9⟩ := id hC
  obtain ⟨hB5, hO, w32, w33, w34, w35, w36, w37, k6, v9, d9, a60, co9, r9⟩ := id hW
  obtain ⟨o0, ⟨o72, onx, oow⟩, ot, ok, on, ov, oc, oa, om, orw⟩ := id hO
  have kq := fun j (h : j < 3) => (hK j (by omega)).2
  have hk0 := kq 0 (by decide)
  have hk1 := kq 1 (by decide)
  have hk2 := kq 2 (by decide)
  replace hk0 := And.intro hk0.1 (hk0.2.2 (by decide))
  replace hk1 := And.intro hk1.1 (hk1.2.2 (by decide))
  replace hk2 := And.intro hk2.1 (hk2.2.2 (by decide))
  have hGb := goodV_bd hk0 hk1 hk2
  intro n
  induction n with
  | zero =>
    intro k c g2 fi2 zt zi hkn hs hzi hzt hck hsm
    have hS2 := (hR.scr hs).1
    refine wi_iload_5 ct_88_29 ?_
    refine wi_ic ct_88_31 kc_10 ?_
    refine wi_icge_t ct_88_33 hzi ki_10 (by omega) ?_
    exact kk _ _ _ _ (hzt.trans (congrArg Nat.cast hsm)) hs
  | succ n ih =>
    intro k c g2 fi2 zt zi hkn hs hzi hzt hck hsm
    have hS2 := (hR.scr hs).1
    refine wi_iload_5 ct_88_29 ?_
    refine wi_ic ct_88_31 kc_10 ?_
    refine wi_icge_f ct_88_33 hzi ki_10 (by omega) ?_
    refine wi_aload_0 ct_88_36 ?_
    refine wi_aload_3 ct_88_37 ?_
    refine wi_cv1 (ls' := [some _, some _]) ct_88_38 (Nat.le_of_ble_eq_true rfl) (by decide) (sT_0 hS2) rfl (by decide) rfl rfl (Nat.le_of_ble_eq_true rfl) ?_
    refine c_begin hR hs hW hsq hsx (fun gb1 fb1 hsb1 hfb1 hkb1 hb1_1 hb1_2 hb1_3 hb1_4 hb1_5 hb1_6 => wk_v ?_)
    have hSb1 := (hR.scr hsb1).1
    refine wi_aload_0 ct_88_41 ?_
    refine wi_gfr ct_88_42 (sT_0 hSb1) rfl (sR_0_2 hSb1) ?_
    refine wi_iload_5 ct_88_45 ?_
    refine wi_pf ct_88_47 (sT_15 hSb1) rfl ?_
    refine wi_aload_0 ct_88_50 ?_
    refine wi_gfr ct_88_51 (sT_0 hSb1) rfl (sR_0_2 hSb1) ?_
    refine wi_aload_3 ct_88_54 ?_
    refine wi_cv1 (ls' := [some _, some _, none]) ct_88_55 (Nat.le_of_ble_eq_true rfl) (by decide) (sT_15 hSb1) rfl (by decide) rfl rfl (Nat.le_of_ble_eq_true rfl) ?_
    refine c_runR (cd2 := cd) (aim2 := aim) (G := (goodV (fi 38 0).toInt (fi 38 1).toInt (fi 38 2).toInt)) (m0 := (fi 31 1).toInt) (gust := (k : Int)) (calm := false) hR (hsb1.w (by omega)) hW (hkb1.fr (fun q hq => (funext fun _ => up2_nq (by omega)))) (((congrArg Int32.toInt (up2_nj (by decide))).trans hb1_1).trans (by omega)) (((congrArg Int32.toInt (up2_nj (by decide))).trans hb1_2).trans (by omega)) (((congrArg Int32.toInt (up2_nj (by decide))).trans hb1_3).trans (by omega)) ((congrArg Int32.toInt (Eq.trans (up2_nj (by decide)) hb1_4)).trans (by omega)) (((congrArg Int32.toInt up2_eq).trans hzi).trans (by omega)) ((Eq.trans (up2_nj (by decide)) hb1_6).trans rfl) (by omega) (by omega) (by omega) (by omega) (by omega) (fun Rr2 fr2 hr2_e hsr2 hr2_f hr2_7 hr2_11 hr2_12 hr2_10 hr2_4 hr2_13 hr2_j => wk_v ?_)
    have hSr2 := (hR.scr hsr2).1
    have hbdr2 := goR_bd (SQs_v hsq) (by omega) ((film_bd d9 hGb).2) hr2_e
    have hto := bI_bd (!Rr2.1)
    have hF : (fr2 15 13).toInt = (f k : Int) := (congrArg Int32.toInt hr2_13).trans (by rw [hf, ← hr2_e]; omega)
    have hF1 : f k ≤ 1 := by rw [hf, ← hr2_e]; omega
    refine wi_aload_0 ct_88_58 ?_
    refine wi_gfr ct_88_59 (sT_0 hSr2) rfl (sR_0_2 hSr2) ?_
    refine wi_gf (x := fr2 15 13) ct_88_62 (sT_15 hSr2) rfl rfl rfl ?_
    refine wi_ifeq ct_88_65 hF (fun h3 => ?_) (fun h3 => ?_)
    · skip
      refine wi_iinc_5 rfl (z := (zi + 1)) ct_88_71 (by rw [kc_1]) ?_
      refine wi_goto ct_88_74 ?_
      exact ih (k + 1) (c + f k) _ _ _ _ (by omega) hsr2 ((i_add hzi ki_1 (by omega)).trans (by omega)) (hzt.trans (by omega)) (by omega) hsm
    · skip
      refine wi_iinc_4 rfl (z := (zt + 1)) ct_88_68 (by rw [kc_1]) ?_
      refine wi_iinc_5 rfl (z := (zi + 1)) ct_88_71 (by rw [kc_1]) ?_
      refine wi_goto ct_88_74 ?_
      exact ih (k + 1) (c + f k) _ _ _ _ (by omega) hsr2 ((i_add hzi ki_1 (by omega)).trans (by omega)) ((i_add hzt ki_1 (by omega)).trans (by omega)) (by omega) hsm
set_option maxHeartbeats 2000000 in
theorem vl_cmean {L : Nat} {xs : Nat → Int32} {own : Nat → Nat} {d : Nat} {g : am_G} {fi : am_I} {fl : am_L} {P : Option Value → am_G → am_I → am_L → Prop} {sq : Option sq_T} {B p r : Nat} {kd v cd aim co : Int} {row : Nat → Int} {f : Nat → Nat} {w bl : Int32} (hR : Rel L xs own g fi fl) (hW : BLW own g fi B p r kd v cd aim co row) (hsq : SQs fi sq) (hsx : SQx g fi sq) (hf : ∀ k : Nat, f k = (gBr (mkLk sq B kd v) (goL (mkLk sq B kd v) kd v aim row 0 false 30 0 ((fi 31 1).toInt + k) 0 (cd * (goodV (fi 38 0).toInt (fi 38 1).toInt (fi 38 2).toInt)))).toNat) (kk : ∀ (zt zi : Int32) (g3 : am_G) (fi3 : am_I), zt.toInt = ((smN f 12 0 0 : Nat) : Int) → SCR g g3 fi fi3 → WP (d + 9) 89 61 [some (.ref 0), some (.int (bl)), some (.int (w)), some (.ref p), some (.int (zt)), some (.int (zi))] [] g3 fi3 fl P) : ∀ (n k c : Nat) (g2 : am_G) (fi2 : am_I) (zt zi : Int32), k + n = 12 → SCR g g2 fi fi2 → zi.toInt = (k : Int) → zt.toInt = (c : Int) → c ≤ 99999 * k → smN f n k c = smN f 12 0 0 → WP (d + 9) 89 29 [some (.ref 0), some (.int (bl)), some (.int (w)), some (.ref p), some (.int (zt)), some (.int (zi))] [] g2 fi2 fl P := by
  obtain ⟨hS, hsc, hC, hK, hX, hV, hT, hP, hB, hN, hQ, hZ, hI⟩ := id hR
  obtain ⟨⟨c0, c0a, c0b⟩, ⟨c1, c1a, c1b⟩, ⟨c2, c2a, c2b⟩, ⟨c3, c3a, c3b⟩, ⟨c4, c4a, c4b⟩, ⟨c5, c5a, c5b⟩, ⟨c6, c6a, c6b⟩, ⟨c7, c7a, c7b⟩, c8, c9⟩ := id hC
  obtain ⟨hB5, hO, w32, w33, w34, w35, w36, w37, k6, v9, d9, a60, co9, r9⟩ := id hW
  obtain ⟨o0, ⟨o72, onx, oow⟩, ot, ok, on, ov, oc, oa, om, orw⟩ := id hO
  have kq := fun j (h : j < 3) => (hK j (by omega)).2
  have hk0 := kq 0 (by decide)
  have hk1 := kq 1 (by decide)
  have hk2 := kq 2 (by decide)
  replace hk0 := And.intro hk0.1 (hk0.2.2 (by decide))
  replace hk1 := And.intro hk1.1 (hk1.2.2 (by decide))
  replace hk2 := And.intro hk2.1 (hk2.2.2 (by decide))
  have hGb := goodV_bd hk0 hk1 hk2
  intro n
  induction n with
  | zero =>
    intro k c g2 fi2 zt zi hkn hs hzi hzt hck hsm
    have hS2 := (hR.scr hs).1
    refine wi_iload_5 ct_89_29 ?_
    refine wi_ic ct_89_31 kc_12 ?_
    refine wi_icge_t ct_89_33 hzi ki_12 (by omega) ?_
    exact kk _ _ _ _ (hzt.trans (congrArg Nat.cast hsm)) hs
  | succ n ih =>
    intro k c g2 fi2 zt zi hkn hs hzi hzt hck hsm
    have hS2 := (hR.scr hs).1
    refine wi_iload_5 ct_89_29 ?_
    refine wi_ic ct_89_31 kc_12 ?_
    refine wi_icge_f ct_89_33 hzi ki_12 (by omega) ?_
    refine wi_aload_0 ct_89_36 ?_
    refine wi_aload_3 ct_89_37 ?_
    refine wi_iload_5 ct_89_38 ?_
    refine wi_cv2 (ls' := [some _, some _, some _]) ct_89_40 (Nat.le_of_ble_eq_true rfl) (by decide) (sT_0 hS2) rfl (by decide) rfl rfl (Nat.le_of_ble_eq_true rfl) ?_
    refine wi_aload_0 ct_108_0 ?_
    refine wi_aload_1 ct_108_1 ?_
    refine wi_cv1 (ls' := [some _, some _]) ct_108_2 (Nat.le_of_ble_eq_true rfl) (by decide) (sT_0 hS2) rfl (by decide) rfl rfl (Nat.le_of_ble_eq_true rfl) ?_
    refine c_begin hR hs hW hsq hsx (fun gb1 fb1 hsb1 hfb1 hkb1 hb1_1 hb1_2 hb1_3 hb1_4 hb1_5 hb1_6 => wk_v ?_)
    have hSb1 := (hR.scr hsb1).1
    refine wi_aload_0 ct_108_5 ?_
    refine wi_gfr ct_108_6 (sT_0 hSb1) rfl (sR_0_2 hSb1) ?_
    refine wi_dup ct_108_9 rfl ?_
    refine wi_gf (x := fi 31 1) ct_108_10 (sT_15 hSb1) rfl rfl hb1_4 ?_
    refine wi_iload_2 ct_108_13 ?_
    refine wi_iadd ct_108_14 rfl ?_
    refine wi_pf ct_108_15 (sT_15 hSb1) rfl ?_
    refine wi_aload_0 ct_108_18 ?_
    refine wi_gfr ct_108_19 (sT_0 hSb1) rfl (sR_0_2 hSb1) ?_
    refine wi_aload_1 ct_108_22 ?_
    refine wi_cv1 (ls' := [some _, some _, none]) ct_108_23 (Nat.le_of_ble_eq_true rfl) (by decide) (sT_15 hSb1) rfl (by decide) rfl rfl (Nat.le_of_ble_eq_true rfl) ?_
    refine c_runR (cd2 := cd) (aim2 := aim) (G := (goodV (fi 38 0).toInt (fi 38 1).toInt (fi 38 2).toInt)) (m0 := (fi 31 1).toInt + k) (gust := 0) (calm := false) hR (hsb1.w (by omega)) hW (hkb1.fr (fun q hq => (funext fun _ => up2_nq (by omega)))) (((congrArg Int32.toInt (up2_nj (by decide))).trans hb1_1).trans (by omega)) (((congrArg Int32.toInt (up2_nj (by decide))).trans hb1_2).trans (by omega)) (((congrArg Int32.toInt (up2_nj (by decide))).trans hb1_3).trans (by omega)) (((congrArg Int32.toInt up2_eq).trans (i_add rfl hzi (by omega))).trans (by omega)) (((congrArg Int32.toInt (Eq.trans (up2_nj (by decide)) hb1_5)).trans ki_0).trans (by omega)) ((Eq.trans (up2_nj (by decide)) hb1_6).trans rfl) (by omega) (by omega) (by omega) (by omega) (by omega) (fun Rr2 fr2 hr2_e hsr2 hr2_f hr2_7 hr2_11 hr2_12 hr2_10 hr2_4 hr2_13 hr2_j => wk_v ?_)
    have hSr2 := (hR.scr hsr2).1
    have hbdr2 := goR_bd (SQs_v hsq) (by omega) ((film_bd d9 hGb).2) hr2_e
    have hF : (fr2 15 12).toInt = (f k : Int) := hr2_12.trans (by rw [hf, ← hr2_e]; omega)
    have hF1 : f k ≤ 99999 := by rw [hf, ← hr2_e]; omega
    refine wi_ret ct_108_26 (wk_v ?_)
    refine wi_iload_4 ct_89_43 ?_
    refine wi_aload_0 ct_89_45 ?_
    refine wi_gfr ct_89_46 (sT_0 hSr2) rfl (sR_0_2 hSr2) ?_
    refine wi_gf (x := fr2 15 12) ct_89_49 (sT_15 hSr2) rfl rfl rfl ?_
    refine wi_iadd ct_89_52 rfl ?_
    refine wi_istore_4 rfl ct_89_53 ?_
    refine wi_iinc_5 rfl (z := (zi + 1)) ct_89_55 (by rw [kc_1]) ?_
    refine wi_goto ct_89_58 ?_
    exact ih (k + 1) (c + f k) _ _ _ _ (by omega) hsr2 ((i_add hzi ki_1 (by omega)).trans (by omega)) ((i_add hzt hF (by omega)).trans (by omega)) (by omega) hsm
set_option maxHeartbeats 2000000 in
theorem vl_modds {L : Nat} {xs : Nat → Int32} {own : Nat → Nat} {d : Nat} {g : am_G} {fi : am_I} {fl : am_L} {P : Option Value → am_G → am_I → am_L → Prop} {sq : Option sq_T} {B p r : Nat} {kd v cd aim co : Int} {row : Nat → Int} {f : Nat → Nat} {w bb : Int32} (hR : Rel L xs own g fi fl) (hW : BLW own g fi B p r kd v cd aim co row) (hsq : SQs fi sq) (hf : ∀ k : Nat, f k = (bI (!(goL (mkLk sq B kd v) kd v aim row k false 30 0 ((fi 31 1).toInt) 0 (cd * (goodV (fi 38 0).toInt (fi 38 1).toInt (fi 38 2).toInt))).1)).toInt.toNat) (hbb : bb.toInt = (B : Int)) : ∀ (n k c : Nat) (g2 : am_G) (fi2 : am_I) (x : Int32) (zt : Int32) (zi : Int32), k + n = 10 → SCR g g2 (up2 fi 31 36 x) fi2 → zi.toInt = (k : Int) → zt.toInt = (c : Int) → c ≤ 1 * k → smN f n k c = smN f 10 0 0 → (∀ (zt : Int32) (zi : Int32) (fi3 : am_I) (x : Int32), zt.toInt = ((smN f 10 0 0 : Nat) : Int) → SCR g g2 (up2 fi 31 36 x) fi3 → WP (d + 9) 175 70 [some (.ref 31), some (.int (bb)), some (.int (w)), some (.int (zt)), some (.int (zi))] [] g2 fi3 fl P) → WP (d + 9) 175 27 [some (.ref 31), some (.int (bb)), some (.int (w)), some (.int (zt)), some (.int (zi))] [] g2 fi2 fl P := by
  obtain ⟨hS, hsc, hC, hK, hX, hV, hT, hP, hB, hN, hQ, hZ, hI⟩ := id hR
  obtain ⟨⟨c0, c0a, c0b⟩, ⟨c1, c1a, c1b⟩, ⟨c2, c2a, c2b⟩, ⟨c3, c3a, c3b⟩, ⟨c4, c4a, c4b⟩, ⟨c5, c5a, c5b⟩, ⟨c6, c6a, c6b⟩, ⟨c7, c7a, c7b⟩, c8, c9⟩ := id hC
  obtain ⟨hB5, hO, w32, w33, w34, w35, w36, w37, k6, v9, d9, a60, co9, r9⟩ := id hW
  obtain ⟨o0, ⟨o72, onx, oow⟩, ot, ok, on, ov, oc, oa, om, orw⟩ := id hO
  have kq := fun j (h : j < 3) => (hK j (by omega)).2
  have hk0 := kq 0 (by decide)
  have hk1 := kq 1 (by decide)
  have hk2 := kq 2 (by decide)
  replace hk0 := And.intro hk0.1 (hk0.2.2 (by decide))
  replace hk1 := And.intro hk1.1 (hk1.2.2 (by decide))
  replace hk2 := And.intro hk2.1 (hk2.2.2 (by decide))
  have hGb := goodV_bd hk0 hk1 hk2
  have hmb := MB.of hR hW hsq
  intro n
  induction n with
  | zero =>
    intro k c g2 fi2 x zt zi hkn hs hzi hzt hck hsm kk
    have hS2 := hs.1.SF hS
    refine wi_iload_4 ct_175_27 ?_
    refine wi_ic ct_175_29 kc_10 ?_
    refine wi_icge_t ct_175_31 hzi ki_10 (by omega) ?_
    exact kk _ _ _ _ (hzt.trans (congrArg Nat.cast hsm)) hs
  | succ n ih =>
    intro k c g2 fi2 x zt zi hkn hs hzi hzt hck hsm kk
    have hS2 := hs.1.SF hS
    refine wi_iload_4 ct_175_27 ?_
    refine wi_ic ct_175_29 kc_10 ?_
    refine wi_icge_f ct_175_31 hzi ki_10 (by omega) ?_
    refine wi_aload_0 ct_175_34 ?_
    refine wi_iload_4 ct_175_35 ?_
    refine wi_pf ct_175_37 (sT_31 hS2) rfl ?_
    refine wi_aload_0 ct_175_40 ?_
    refine wi_iload_1 ct_175_41 ?_
    refine wi_aload_0 ct_175_42 ?_
    refine wi_gf (x := fi 31 1) ct_175_43 (sT_31 hS2) rfl rfl (Eq.trans (up2_nj (by decide)) (Eq.trans (hs.2.2.2 1 (by omega)) (up2_nj (by decide)))) ?_
    refine wi_cv2 (ls' := [some _, some _, some _, none, none, none, none]) ct_175_46 (Nat.le_of_ble_eq_true rfl) (by decide) (sT_31 hS2) rfl (by decide) rfl rfl (Nat.le_of_ble_eq_true rfl) ?_
    refine c_goR (m0 := (fi 31 1).toInt) hS2 (hmb.gustq hzi (by omega)) hs.wx hbb (by omega) (by omega) (fun Ro1 fo1 ho1_e hso1 ho1_f ho1_30 ho1_31 ho1_32 ho1_33 ho1_34 => wk_v ?_)
    have hbdo1 := goR_bd (SQs_v hsq) (by omega) ((film_bd d9 hGb).2) ho1_e
    have hto := bI_bd (!Ro1.1)
    have hF : (fo1 31 34).toInt = (f k : Int) := (congrArg Int32.toInt ho1_34).trans (by rw [hf, ← ho1_e]; omega)
    have hF1 : f k ≤ 1 := by rw [hf, ← ho1_e]; omega
    refine wi_iload_3 ct_175_49 ?_
    refine wi_aload_0 ct_175_50 ?_
    refine wi_gf (x := fo1 31 34) ct_175_51 (sT_31 hS2) rfl rfl rfl ?_
    refine wi_ifeq ct_175_54 hF (fun h2 => ?_) (fun h2 => ?_)
    · skip
      refine wi_ic ct_175_61 kc_0 ?_
      refine wi_iadd ct_175_62 rfl ?_
      refine wi_istore_3 rfl ct_175_63 ?_
      refine wi_iinc_4 rfl (z := (zi + 1)) ct_175_64 (by rw [kc_1]) ?_
      refine wi_goto ct_175_67 ?_
      exact ih (k + 1) (c + f k) _ _ zi _ _ (by omega) hso1 ((i_add hzi ki_1 (by omega)).trans (by omega)) ((i_add hzt ki_0 (by omega)).trans (by omega)) (by omega) hsm kk
    · skip
      refine wi_ic ct_175_57 kc_1 ?_
      refine wi_goto ct_175_58 ?_
      refine wi_iadd ct_175_62 rfl ?_
      refine wi_istore_3 rfl ct_175_63 ?_
      refine wi_iinc_4 rfl (z := (zi + 1)) ct_175_64 (by rw [kc_1]) ?_
      refine wi_goto ct_175_67 ?_
      exact ih (k + 1) (c + f k) _ _ zi _ _ (by omega) hso1 ((i_add hzi ki_1 (by omega)).trans (by omega)) ((i_add hzt ki_1 (by omega)).trans (by omega)) (by omega) hsm kk
set_option maxHeartbeats 2000000 in
theorem vl_mmean {L : Nat} {xs : Nat → Int32} {own : Nat → Nat} {d : Nat} {g : am_G} {fi : am_I} {fl : am_L} {P : Option Value → am_G → am_I → am_L → Prop} {sq : Option sq_T} {B p r : Nat} {kd v cd aim co : Int} {row : Nat → Int} {f : Nat → Nat} {w bb : Int32} (hR : Rel L xs own g fi fl) (hW : BLW own g fi B p r kd v cd aim co row) (hsq : SQs fi sq) (hf : ∀ k : Nat, f k = (gBr (mkLk sq B kd v) (goL (mkLk sq B kd v) kd v aim row 0 false 30 0 ((fi 31 1).toInt + k) 0 (cd * (goodV (fi 38 0).toInt (fi 38 1).toInt (fi 38 2).toInt)))).toNat) (hbb : bb.toInt = (B : Int)) : ∀ (n k c : Nat) (g2 : am_G) (fi2 : am_I) (x : Int32) (zt : Int64) (zi : Int32), k + n = 12 → SCR g g2 fi fi2 → zi.toInt = (k : Int) → zt.toInt = (c : Int) → c ≤ 99999 * k → smN f n k c = smN f 12 0 0 → (∀ (zt : Int64) (zi : Int32) (fi3 : am_I) (x : Int32), zt.toInt = ((smN f 12 0 0 : Nat) : Int) → SCR g g2 fi fi3 → WP (d + 9) 176 56 [some (.ref 31), some (.int (bb)), some (.int (w)), some (.long (zt)), none, some (.int (zi))] [] g2 fi3 fl P) → WP (d + 9) 176 27 [some (.ref 31), some (.int (bb)), some (.int (w)), some (.long (zt)), none, some (.int (zi))] [] g2 fi2 fl P := by
  obtain ⟨hS, hsc, hC, hK, hX, hV, hT, hP, hB, hN, hQ, hZ, hI⟩ := id hR
  obtain ⟨⟨c0, c0a, c0b⟩, ⟨c1, c1a, c1b⟩, ⟨c2, c2a, c2b⟩, ⟨c3, c3a, c3b⟩, ⟨c4, c4a, c4b⟩, ⟨c5, c5a, c5b⟩, ⟨c6, c6a, c6b⟩, ⟨c7, c7a, c7b⟩, c8, c9⟩ := id hC
  obtain ⟨hB5, hO, w32, w33, w34, w35, w36, w37, k6, v9, d9, a60, co9, r9⟩ := id hW
  obtain ⟨o0, ⟨o72, onx, oow⟩, ot, ok, on, ov, oc, oa, om, orw⟩ := id hO
  have kq := fun j (h : j < 3) => (hK j (by omega)).2
  have hk0 := kq 0 (by decide)
  have hk1 := kq 1 (by decide)
  have hk2 := kq 2 (by decide)
  replace hk0 := And.intro hk0.1 (hk0.2.2 (by decide))
  replace hk1 := And.intro hk1.1 (hk1.2.2 (by decide))
  replace hk2 := And.intro hk2.1 (hk2.2.2 (by decide))
  have hGb := goodV_bd hk0 hk1 hk2
  have hmb := MB.of hR hW hsq
  intro n
  induction n with
  | zero =>
    intro k c g2 fi2 x zt zi hkn hs hzi hzt hck hsm kk
    have hS2 := hs.1.SF hS
    refine wi_iload_5 ct_176_27 ?_
    refine wi_ic ct_176_29 kc_12 ?_
    refine wi_icge_t ct_176_31 hzi ki_12 (by omega) ?_
    exact kk _ _ _ 0 (hzt.trans (congrArg Nat.cast hsm)) hs
  | succ n ih =>
    intro k c g2 fi2 x zt zi hkn hs hzi hzt hck hsm kk
    have hS2 := hs.1.SF hS
    refine wi_iload_5 ct_176_27 ?_
    refine wi_ic ct_176_29 kc_12 ?_
    refine wi_icge_f ct_176_31 hzi ki_12 (by omega) ?_
    refine wi_lload_3 ct_176_34 ?_
    refine wi_aload_0 ct_176_35 ?_
    refine wi_iload_1 ct_176_36 ?_
    refine wi_aload_0 ct_176_37 ?_
    refine wi_gf (x := fi 31 1) ct_176_38 (sT_31 hS2) rfl rfl (hs.2.2.2 1 (by omega)) ?_
    refine wi_iload_5 ct_176_41 ?_
    refine wi_iadd ct_176_43 rfl ?_
    refine wi_cv2 (ls' := [some _, some _, some _]) ct_176_44 (Nat.le_of_ble_eq_true rfl) (by decide) (sT_31 hS2) rfl (by decide) rfl rfl (Nat.le_of_ble_eq_true rfl) ?_
    refine wi_aload_0 ct_160_0 ?_
    refine wi_iload_1 ct_160_1 ?_
    refine wi_iload_2 ct_160_2 ?_
    refine wi_cv2 (ls' := [some _, some _, some _, none, none, none, none]) ct_160_3 (Nat.le_of_ble_eq_true rfl) (by decide) (sT_31 hS2) rfl (by decide) rfl rfl (Nat.le_of_ble_eq_true rfl) ?_
    refine c_goR (m0 := (fi 31 1).toInt + (k : Int)) hS2 hmb hs hbb ((i_add rfl hzi (by omega)).trans (by omega)) (by omega) (fun Ro1 fo1 ho1_e hso1 ho1_f ho1_30 ho1_31 ho1_32 ho1_33 ho1_34 => wk_v ?_)
    have hbdo1 := goR_bd (SQs_v hsq) (by omega) ((film_bd d9 hGb).2) ho1_e
    have hF : (fo1 31 32).toInt = (f k : Int) := ho1_32.trans (by rw [hf, ← ho1_e]; omega)
    have hF1 : f k ≤ 99999 := by rw [hf, ← ho1_e]; omega
    refine wi_aload_0 ct_160_6 ?_
    refine wi_gf (x := fo1 31 32) ct_160_7 (sT_31 hS2) rfl rfl rfl ?_
    refine wi_iret ct_160_10 rfl (wk_i ?_)
    refine wi_i2l ct_176_47 rfl ?_
    refine wi_ladd ct_176_48 rfl ?_
    have hl := j_add hzt (j_of hF) (by omega)
    refine wi_lstore_3 rfl ct_176_49 ?_
    refine wi_iinc_5 rfl (z := (zi + 1)) ct_176_50 (by rw [kc_1]) ?_
    refine wi_goto ct_176_53 ?_
    exact ih (k + 1) (c + f k) _ _ 0 _ _ (by omega) hso1 ((i_add hzi ki_1 (by omega)).trans (by omega)) (hl.trans (by omega)) (by omega) hsm kk
set_option maxHeartbeats 2000000 in
theorem op_odds {L I : Nat} {xs : Nat → Int32} {own : Nat → Nat} {d : Nat} {g : am_G} {fi : am_I} {fl : am_L} {P : Option Value → am_G → am_I → am_L → Prop} {i : Int32} (hi : i.toInt = (I : Int)) (hI6 : I + 6 ≤ L) (hL : L ≤ 3072) (hR : Rel L xs own g fi fl) (hnx : am_nx g ≤ 800000) (kk : ∀ own' g' fi' fl', Rel L xs own' g' fi' fl' → am_nx g' ≤ am_nx g + 30 → am_sl g' ≤ am_sl g + 1000 → WP (d + 60) 211 1359 [some (.retAddr 0), some (.ref 0), some (.ref 31), some (.int i)] [] g' fi' fl' P) : WP (d + 60) 211 835 [some (.retAddr 0), some (.ref 0), some (.ref 31), some (.int i)] [] g fi fl P := by
  obtain ⟨hS, hsc, hC, hK, hX, hV, hT, hP, hB, hN, hQ, hZ, hI⟩ := id hR
  obtain ⟨⟨c0, c0a, c0b⟩, ⟨c1, c1a, c1b⟩, ⟨c2, c2a, c2b⟩, ⟨c3, c3a, c3b⟩, ⟨c4, c4a, c4b⟩, ⟨c5, c5a, c5b⟩, ⟨c6, c6a, c6b⟩, ⟨c7, c7a, c7b⟩, c8, c9⟩ := id hC
  obtain ⟨a1, e1⟩ : ∃ a, xs (I + 1) = a := ⟨_, rfl⟩
  obtain ⟨a2, e2⟩ : ∃ a, xs (I + 2) = a := ⟨_, rfl⟩
  by_cases hA : 0 ≤ (a1).toInt ∧ (a1).toInt < (fi 31 0).toInt
  · skip
    obtain ⟨B, hBa⟩ : ∃ B : Nat, (a1).toInt = (B : Int) := ⟨(a1).toInt.toNat, by omega⟩
    have hBn := hBa
    obtain ⟨p, r, kd, v, cd, aim, co, row, hW⟩ := BLW.of hB c0b (B := B) (by omega)
    obtain ⟨sq, hsq, hsx⟩ := sq_of hR
    obtain ⟨hB5, hO, w32, w33, w34, w35, w36, w37, k6, v9, d9, a60, co9, r9⟩ := id hW
    obtain ⟨o0, ⟨o72, onx, oow⟩, ot, ok, on, ov, oc, oa, om, orw⟩ := id hO
    have kq := fun j (h : j < 3) => (hK j (by omega)).2
    have hk0 := kq 0 (by decide)
    have hk1 := kq 1 (by decide)
    have hk2 := kq 2 (by decide)
    replace hk0 := And.intro hk0.1 (hk0.2.2 (by decide))
    replace hk1 := And.intro hk1.1 (hk1.2.2 (by decide))
    replace hk2 := And.intro hk2.1 (hk2.2.2 (by decide))
    have hGb := goodV_bd hk0 hk1 hk2
    obtain ⟨f, hf⟩ : ∃ f : Nat → Nat, ∀ k : Nat, f k = (bI (!(goL (mkLk sq B kd v) kd v aim row k false 30 0 ((fi 31 1).toInt) 0 (cd * (goodV (fi 38 0).toInt (fi 38 1).toInt (fi 38 2).toInt))).1)).toInt.toNat := ⟨fun k => (bI (!(goL (mkLk sq B kd v) kd v aim row k false 30 0 ((fi 31 1).toInt) 0 (cd * (goodV (fi 38 0).toInt (fi 38 1).toInt (fi 38 2).toInt))).1)).toInt.toNat, fun k => rfl⟩
    have hfM : ∀ k, f k ≤ 1 := fun k => by
      rw [hf]
      have := bI_bd (!(goL (mkLk sq B kd v) kd v aim row k false 30 0 ((fi 31 1).toInt) 0 (cd * (goodV (fi 38 0).toInt (fi 38 1).toInt (fi 38 2).toInt))).1)
      omega
    have hSM := smN_le hfM 10 0 0
    refine wi_aload_1 ct_211_835 ?_
    refine wi_aloadT_0 ct_211_836 ?_
    refine wi_iload_3 ct_211_837 ?_
    refine wi_ic ct_211_838 kc_1 ?_
    refine wi_iadd ct_211_839 rfl ?_
    refine wi_ialdT (j := I + 1) (x := a1) ct_211_840 (sL_SC hS) (i_in (i_add hi ki_1 (by omega)) (by omega)) (i_cl (i_add hi ki_1 (by omega)) (by omega)) (((hsc _).trans e1)) ?_
    refine wi_aloadT_0 ct_211_841 ?_
    refine wi_iload_3 ct_211_842 ?_
    refine wi_ic ct_211_843 kc_2 ?_
    refine wi_iadd ct_211_844 rfl ?_
    refine wi_ialdT (j := I + 2) (x := a2) ct_211_845 (sL_SC hS) (i_in (i_add hi ki_2 (by omega)) (by omega)) (i_cl (i_add hi ki_2 (by omega)) (by omega)) (((hsc _).trans e2)) ?_
    refine wi_cv2 (ls' := [some _, some _, some _, none, none, none]) ct_211_846 (Nat.le_of_ble_eq_true rfl) (by decide) (sT_0 hS) rfl (by decide) rfl rfl (Nat.le_of_ble_eq_true rfl) ?_
    refine wi_aload_0 ct_88_0 ?_
    refine wi_iload_1 ct_88_1 ?_
    refine wi_cv1 (ls' := [some _, some _]) ct_88_2 (Nat.le_of_ble_eq_true rfl) (by decide) (sT_0 hS) rfl (by decide) rfl rfl (Nat.le_of_ble_eq_true rfl) ?_
    refine wi_iload_1 ct_104_0 ?_
    refine wi_ic ct_104_1 kc_0 ?_
    refine wi_aload_0 ct_104_2 ?_
    refine wi_gfr ct_104_3 (sT_0 hS) rfl (sR_0_0 hS) ?_
    refine wi_gf (x := fi 31 0) ct_104_6 (sT_1 hS) rfl rfl c0 ?_
    refine wi_ic ct_104_9 kc_1 ?_
    refine wi_isub ct_104_10 rfl ?_
    refine wi_cs3 (ls' := [some _, some _, some _]) ct_104_11 (Nat.le_of_ble_eq_true rfl) rfl (Nat.le_of_ble_eq_true rfl) ?_
    refine c_within hBn ki_0 (i_sub rfl ki_1 (by omega)) (fun _ => wk_i ?_) (fun h => absurd h (by omega))
    refine wi_ifeq_f ct_104_14 ki_1 (by decide) ?_
    refine wi_aload_0 ct_104_17 ?_
    refine wi_gfr ct_104_18 (sT_0 hS) rfl (sR_0_0 hS) ?_
    refine wi_gfr ct_104_21 (sT_1 hS) rfl (sR_1_0 hS) ?_
    refine wi_iload_1 ct_104_24 ?_
    refine wi_aald ct_104_25 (sT_2 hS) (by decide) (sL_2 hS) (i_in hBn (by omega)) (i_cl (k := B) hBn (by omega)) o0 ?_
    refine wi_goto ct_104_26 ?_
    refine wi_aret ct_104_30 (wk_r ?_)
    refine wi_astore_3 rfl ct_88_5 ?_
    refine wi_aload_3 ct_88_6 ?_
    refine wi_ifnull_r ct_88_7 ?_
    refine wi_iload_2 ct_88_10 ?_
    refine wi_ic ct_88_11 kc_0 ?_
    refine wi_ic ct_88_12 kc_1 ?_
    refine wi_cs3 (ls' := [some _, some _, some _]) ct_88_13 (Nat.le_of_ble_eq_true rfl) rfl (Nat.le_of_ble_eq_true rfl) ?_
    refine c_within rfl ki_0 ki_1 (fun h1 => wk_i ?_) (fun h1 => wk_i ?_)
    · skip
      refine wi_ifne_t ct_88_16 ki_1 (by decide) ?_
      refine wi_ic ct_88_23 kc_0 ?_
      refine wi_istore_4 rfl ct_88_24 ?_
      refine wi_ic ct_88_26 kc_0 ?_
      refine wi_istore_5 rfl ct_88_27 ?_
      refine vl_codds hR hW hsq hsx hf (fun ztc2 zic2 gc2 fc2 hzc2 hsc2 => ?_) 10 0 0 _ _ _ _ (by omega) SCR.rfl (ki_0.trans rfl) (ki_0.trans rfl) (by omega) rfl
      have hSc2 := (hR.scr hsc2).1
      refine wi_iload_4 ct_88_77 ?_
      refine wi_ic ct_88_79 kc_10 ?_
      refine wi_iload_2 ct_88_81 ?_
      refine wi_cs3 (ls' := [some _, some _, some _, none, none]) ct_88_82 (Nat.le_of_ble_eq_true rfl) rfl (Nat.le_of_ble_eq_true rfl) ?_
      refine c_low (Y := 10) hzc2 (ki_10.trans rfl) rfl (by omega) (by omega) (fun z3 hz3 => wk_i ?_)
      refine wi_i2l ct_88_85 rfl ?_
      refine wi_lret ct_88_86 (wk_j ?_)
      refine wi_aload_2 ct_211_849 ?_
      refine wi_aloadT_0 ct_211_850 ?_
      refine wi_iload_3 ct_211_851 ?_
      refine wi_ic ct_211_852 kc_1 ?_
      refine wi_iadd ct_211_853 rfl ?_
      refine wi_ialdT (j := I + 1) (x := a1) ct_211_854 (sL_SC hSc2) (i_in (i_add hi ki_1 (by omega)) (by omega)) (i_cl (i_add hi ki_1 (by omega)) (by omega)) ((Eq.trans (congrFun (hsc2.2.1 am_SC (by unfold am_SC; decide)) _) ((hsc _).trans e1))) ?_
      refine wi_aloadT_0 ct_211_855 ?_
      refine wi_iload_3 ct_211_856 ?_
      refine wi_ic ct_211_857 kc_2 ?_
      refine wi_iadd ct_211_858 rfl ?_
      refine wi_ialdT (j := I + 2) (x := a2) ct_211_859 (sL_SC hSc2) (i_in (i_add hi ki_2 (by omega)) (by omega)) (i_cl (i_add hi ki_2 (by omega)) (by omega)) ((Eq.trans (congrFun (hsc2.2.1 am_SC (by unfold am_SC; decide)) _) ((hsc _).trans e2))) ?_
      refine wi_cv2 (ls' := [some _, some _, some _, none, none]) ct_211_860 (Nat.le_of_ble_eq_true rfl) (by decide) (sT_31 hSc2) rfl (by decide) rfl rfl (Nat.le_of_ble_eq_true rfl) ?_
      refine wi_aload_0 ct_175_0 ?_
      refine wi_iload_1 ct_175_1 ?_
      refine wi_cv1 (ls' := [some _, some _]) ct_175_2 (Nat.le_of_ble_eq_true rfl) (by decide) (sT_31 hSc2) rfl (by decide) rfl rfl (Nat.le_of_ble_eq_true rfl) ?_
      refine wi_aload_0 ct_120_0 ?_
      refine wi_iload_1 ct_120_1 ?_
      refine wi_ic ct_120_2 kc_0 ?_
      refine wi_aload_0 ct_120_3 ?_
      refine wi_gf (x := fi 31 0) ct_120_4 (sT_31 hSc2) rfl rfl (hsc2.2.2.2 0 (by omega)) ?_
      refine wi_ic ct_120_7 kc_1 ?_
      refine wi_isub ct_120_8 rfl ?_
      refine wi_cv3 (ls' := [some _, some _, some _, some _]) ct_120_9 (Nat.le_of_ble_eq_true rfl) (by decide) (sT_31 hSc2) rfl (by decide) rfl rfl (Nat.le_of_ble_eq_true rfl) ?_
      refine c_in hBn ki_0 (i_sub rfl ki_1 (by omega)) (fun _ => wk_i ?_) (fun h => absurd h (by omega))
      refine wi_iret ct_120_12 (by decide) (wk_i ?_)
      refine wi_ifeq_f ct_175_5 ki_1 (by decide) ?_
      refine wi_aload_0 ct_175_8 ?_
      refine wi_iload_2 ct_175_9 ?_
      refine wi_ic ct_175_10 kc_0 ?_
      refine wi_ic ct_175_11 kc_1 ?_
      refine wi_cv3 (ls' := [some _, some _, some _, some _]) ct_175_12 (Nat.le_of_ble_eq_true rfl) (by decide) (sT_31 hSc2) rfl (by decide) rfl rfl (Nat.le_of_ble_eq_true rfl) ?_
      refine c_in rfl ki_0 ki_1 (fun _ => wk_i ?_) (fun h => absurd h (by omega))
      refine wi_ifne_t ct_175_15 ki_1 (by decide) ?_
      refine wi_ic ct_175_22 kc_0 ?_
      refine wi_istore_3 rfl ct_175_23 ?_
      refine wi_ic ct_175_24 kc_0 ?_
      refine wi_istore_4 rfl ct_175_25 ?_
      refine vl_modds hR hW hsq hf hBa 10 0 0 _ _ _ _ _ (by omega) (SCR.wi hsc2) (ki_0.trans rfl) (ki_0.trans rfl) (by omega) rfl (fun ztm4 zim4 fm4 xm4 hzm4 hsm4 => ?_)
      refine wi_aload_0 ct_175_70 ?_
      refine wi_ic ct_175_71 kc_0 ?_
      refine wi_pf ct_175_72 (sT_31 hSc2) rfl ?_
      have hsw5 := hsm4.wr c9
      refine wi_aload_0 ct_175_75 ?_
      refine wi_iload_3 ct_175_76 ?_
      refine wi_i2l ct_175_77 rfl ?_
      refine wi_lc ct_175_78 kl_10 ?_
      refine wi_iload_2 ct_175_81 ?_
      refine wi_cv3 (ls' := [some _, some _, none, some _, none, some _, none, none]) ct_175_82 (Nat.le_of_ble_eq_true rfl) (by decide) (sT_31 hSc2) rfl (by decide) rfl rfl (Nat.le_of_ble_eq_true rfl) ?_
      refine c_lowm (Y := 10) hSc2 (j_of hzm4) (kj_10.trans rfl) rfl (by omega) (by omega) (fun z6 hz6 => wk_j ?_)
      refine wi_lret ct_175_85 (wk_j ?_)
      refine wi_lcmp ct_211_863 (lcmp_eq (j_eq (j_of hz3) hz6)) ?_
      refine wi_ifeq_t ct_211_864 ki_0 (by decide) ?_
      exact kk own _ _ fl (hR.scr hsw5) (by rw [hsw5.nx]; omega) (by rw [hsw5.sl]; omega)
    · skip
      refine wi_ifne_f ct_88_16 ki_0 (by decide) ?_
      refine wi_lc ct_88_19 kl_m9223372036854775808 ?_
      refine wi_lret ct_88_22 (wk_j ?_)
      refine wi_aload_2 ct_211_849 ?_
      refine wi_aloadT_0 ct_211_850 ?_
      refine wi_iload_3 ct_211_851 ?_
      refine wi_ic ct_211_852 kc_1 ?_
      refine wi_iadd ct_211_853 rfl ?_
      refine wi_ialdT (j := I + 1) (x := a1) ct_211_854 (sL_SC hS) (i_in (i_add hi ki_1 (by omega)) (by omega)) (i_cl (i_add hi ki_1 (by omega)) (by omega)) (((hsc _).trans e1)) ?_
      refine wi_aloadT_0 ct_211_855 ?_
      refine wi_iload_3 ct_211_856 ?_
      refine wi_ic ct_211_857 kc_2 ?_
      refine wi_iadd ct_211_858 rfl ?_
      refine wi_ialdT (j := I + 2) (x := a2) ct_211_859 (sL_SC hS) (i_in (i_add hi ki_2 (by omega)) (by omega)) (i_cl (i_add hi ki_2 (by omega)) (by omega)) (((hsc _).trans e2)) ?_
      refine wi_cv2 (ls' := [some _, some _, some _, none, none]) ct_211_860 (Nat.le_of_ble_eq_true rfl) (by decide) (sT_31 hS) rfl (by decide) rfl rfl (Nat.le_of_ble_eq_true rfl) ?_
      refine wi_aload_0 ct_175_0 ?_
      refine wi_iload_1 ct_175_1 ?_
      refine wi_cv1 (ls' := [some _, some _]) ct_175_2 (Nat.le_of_ble_eq_true rfl) (by decide) (sT_31 hS) rfl (by decide) rfl rfl (Nat.le_of_ble_eq_true rfl) ?_
      refine wi_aload_0 ct_120_0 ?_
      refine wi_iload_1 ct_120_1 ?_
      refine wi_ic ct_120_2 kc_0 ?_
      refine wi_aload_0 ct_120_3 ?_
      refine wi_gf (x := fi 31 0) ct_120_4 (sT_31 hS) rfl rfl rfl ?_
      refine wi_ic ct_120_7 kc_1 ?_
      refine wi_isub ct_120_8 rfl ?_
      refine wi_cv3 (ls' := [some _, some _, some _, some _]) ct_120_9 (Nat.le_of_ble_eq_true rfl) (by decide) (sT_31 hS) rfl (by decide) rfl rfl (Nat.le_of_ble_eq_true rfl) ?_
      refine c_in hBn ki_0 (i_sub rfl ki_1 (by omega)) (fun _ => wk_i ?_) (fun h => absurd h (by omega))
      refine wi_iret ct_120_12 (by decide) (wk_i ?_)
      refine wi_ifeq_f ct_175_5 ki_1 (by decide) ?_
      refine wi_aload_0 ct_175_8 ?_
      refine wi_iload_2 ct_175_9 ?_
      refine wi_ic ct_175_10 kc_0 ?_
      refine wi_ic ct_175_11 kc_1 ?_
      refine wi_cv3 (ls' := [some _, some _, some _, some _]) ct_175_12 (Nat.le_of_ble_eq_true rfl) (by decide) (sT_31 hS) rfl (by decide) rfl rfl (Nat.le_of_ble_eq_true rfl) ?_
      refine c_in rfl ki_0 ki_1 (fun h => absurd h (by omega)) (fun _ => wk_i ?_)
      refine wi_ifne_f ct_175_15 ki_0 (by decide) ?_
      refine wi_lc ct_175_18 kl_m9223372036854775808 ?_
      refine wi_lret ct_175_21 (wk_j ?_)
      refine wi_lcmp ct_211_863 (lcmp_eq rfl) ?_
      refine wi_ifeq_t ct_211_864 ki_0 (by decide) ?_
      exact kk own g fi fl hR (by omega) (by omega)
  · skip
    refine wi_aload_1 ct_211_835 ?_
    refine wi_aloadT_0 ct_211_836 ?_
    refine wi_iload_3 ct_211_837 ?_
    refine wi_ic ct_211_838 kc_1 ?_
    refine wi_iadd ct_211_839 rfl ?_
    refine wi_ialdT (j := I + 1) (x := a1) ct_211_840 (sL_SC hS) (i_in (i_add hi ki_1 (by omega)) (by omega)) (i_cl (i_add hi ki_1 (by omega)) (by omega)) (((hsc _).trans e1)) ?_
    refine wi_aloadT_0 ct_211_841 ?_
    refine wi_iload_3 ct_211_842 ?_
    refine wi_ic ct_211_843 kc_2 ?_
    refine wi_iadd ct_211_844 rfl ?_
    refine wi_ialdT (j := I + 2) (x := a2) ct_211_845 (sL_SC hS) (i_in (i_add hi ki_2 (by omega)) (by omega)) (i_cl (i_add hi ki_2 (by omega)) (by omega)) (((hsc _).trans e2)) ?_
    refine wi_cv2 (ls' := [some _, some _, some _, none, none, none]) ct_211_846 (Nat.le_of_ble_eq_true rfl) (by decide) (sT_0 hS) rfl (by decide) rfl rfl (Nat.le_of_ble_eq_true rfl) ?_
    refine wi_aload_0 ct_88_0 ?_
    refine wi_iload_1 ct_88_1 ?_
    refine wi_cv1 (ls' := [some _, some _]) ct_88_2 (Nat.le_of_ble_eq_true rfl) (by decide) (sT_0 hS) rfl (by decide) rfl rfl (Nat.le_of_ble_eq_true rfl) ?_
    refine wi_iload_1 ct_104_0 ?_
    refine wi_ic ct_104_1 kc_0 ?_
    refine wi_aload_0 ct_104_2 ?_
    refine wi_gfr ct_104_3 (sT_0 hS) rfl (sR_0_0 hS) ?_
    refine wi_gf (x := fi 31 0) ct_104_6 (sT_1 hS) rfl rfl c0 ?_
    refine wi_ic ct_104_9 kc_1 ?_
    refine wi_isub ct_104_10 rfl ?_
    refine wi_cs3 (ls' := [some _, some _, some _]) ct_104_11 (Nat.le_of_ble_eq_true rfl) rfl (Nat.le_of_ble_eq_true rfl) ?_
    refine c_within rfl ki_0 (i_sub rfl ki_1 (by omega)) (fun h => absurd h (by omega)) (fun _ => wk_i ?_)
    refine wi_ifeq_t ct_104_14 ki_0 (by decide) ?_
    refine wi_null ct_104_29 ?_
    refine wi_aretn ct_104_30 (wk_n ?_)
    refine wi_astoreN_3 rfl ct_88_5 ?_
    refine wi_aloadN_3 ct_88_6 ?_
    refine wi_ifnull_n ct_88_7 ?_
    refine wi_lc ct_88_19 kl_m9223372036854775808 ?_
    refine wi_lret ct_88_22 (wk_j ?_)
    refine wi_aload_2 ct_211_849 ?_
    refine wi_aloadT_0 ct_211_850 ?_
    refine wi_iload_3 ct_211_851 ?_
    refine wi_ic ct_211_852 kc_1 ?_
    refine wi_iadd ct_211_853 rfl ?_
    refine wi_ialdT (j := I + 1) (x := a1) ct_211_854 (sL_SC hS) (i_in (i_add hi ki_1 (by omega)) (by omega)) (i_cl (i_add hi ki_1 (by omega)) (by omega)) (((hsc _).trans e1)) ?_
    refine wi_aloadT_0 ct_211_855 ?_
    refine wi_iload_3 ct_211_856 ?_
    refine wi_ic ct_211_857 kc_2 ?_
    refine wi_iadd ct_211_858 rfl ?_
    refine wi_ialdT (j := I + 2) (x := a2) ct_211_859 (sL_SC hS) (i_in (i_add hi ki_2 (by omega)) (by omega)) (i_cl (i_add hi ki_2 (by omega)) (by omega)) (((hsc _).trans e2)) ?_
    refine wi_cv2 (ls' := [some _, some _, some _, none, none]) ct_211_860 (Nat.le_of_ble_eq_true rfl) (by decide) (sT_31 hS) rfl (by decide) rfl rfl (Nat.le_of_ble_eq_true rfl) ?_
    refine wi_aload_0 ct_175_0 ?_
    refine wi_iload_1 ct_175_1 ?_
    refine wi_cv1 (ls' := [some _, some _]) ct_175_2 (Nat.le_of_ble_eq_true rfl) (by decide) (sT_31 hS) rfl (by decide) rfl rfl (Nat.le_of_ble_eq_true rfl) ?_
    refine wi_aload_0 ct_120_0 ?_
    refine wi_iload_1 ct_120_1 ?_
    refine wi_ic ct_120_2 kc_0 ?_
    refine wi_aload_0 ct_120_3 ?_
    refine wi_gf (x := fi 31 0) ct_120_4 (sT_31 hS) rfl rfl rfl ?_
    refine wi_ic ct_120_7 kc_1 ?_
    refine wi_isub ct_120_8 rfl ?_
    refine wi_cv3 (ls' := [some _, some _, some _, some _]) ct_120_9 (Nat.le_of_ble_eq_true rfl) (by decide) (sT_31 hS) rfl (by decide) rfl rfl (Nat.le_of_ble_eq_true rfl) ?_
    refine c_in rfl ki_0 (i_sub rfl ki_1 (by omega)) (fun h => absurd h (by omega)) (fun _ => wk_i ?_)
    refine wi_iret ct_120_12 (by decide) (wk_i ?_)
    refine wi_ifeq_t ct_175_5 ki_0 (by decide) ?_
    refine wi_lc ct_175_18 kl_m9223372036854775808 ?_
    refine wi_lret ct_175_21 (wk_j ?_)
    refine wi_lcmp ct_211_863 (lcmp_eq rfl) ?_
    refine wi_ifeq_t ct_211_864 ki_0 (by decide) ?_
    exact kk own g fi fl hR (by omega) (by omega)
set_option maxHeartbeats 2000000 in
theorem op_mean {L I : Nat} {xs : Nat → Int32} {own : Nat → Nat} {d : Nat} {g : am_G} {fi : am_I} {fl : am_L} {P : Option Value → am_G → am_I → am_L → Prop} {i : Int32} (hi : i.toInt = (I : Int)) (hI6 : I + 6 ≤ L) (hL : L ≤ 3072) (hR : Rel L xs own g fi fl) (hnx : am_nx g ≤ 800000) (kk : ∀ own' g' fi' fl', Rel L xs own' g' fi' fl' → am_nx g' ≤ am_nx g + 30 → am_sl g' ≤ am_sl g + 1000 → WP (d + 60) 211 1359 [some (.retAddr 0), some (.ref 0), some (.ref 31), some (.int i)] [] g' fi' fl' P) : WP (d + 60) 211 869 [some (.retAddr 0), some (.ref 0), some (.ref 31), some (.int i)] [] g fi fl P := by
  obtain ⟨hS, hsc, hC, hK, hX, hV, hT, hP, hB, hN, hQ, hZ, hI⟩ := id hR
  obtain ⟨⟨c0, c0a, c0b⟩, ⟨c1, c1a, c1b⟩, ⟨c2, c2a, c2b⟩, ⟨c3, c3a, c3b⟩, ⟨c4, c4a, c4b⟩, ⟨c5, c5a, c5b⟩, ⟨c6, c6a, c6b⟩, ⟨c7, c7a, c7b⟩, c8, c9⟩ := id hC
  obtain ⟨a1, e1⟩ : ∃ a, xs (I + 1) = a := ⟨_, rfl⟩
  obtain ⟨a2, e2⟩ : ∃ a, xs (I + 2) = a := ⟨_, rfl⟩
  by_cases hA : 0 ≤ (a1).toInt ∧ (a1).toInt < (fi 31 0).toInt
  · skip
    obtain ⟨B, hBa⟩ : ∃ B : Nat, (a1).toInt = (B : Int) := ⟨(a1).toInt.toNat, by omega⟩
    have hBn := hBa
    obtain ⟨p, r, kd, v, cd, aim, co, row, hW⟩ := BLW.of hB c0b (B := B) (by omega)
    obtain ⟨sq, hsq, hsx⟩ := sq_of hR
    obtain ⟨hB5, hO, w32, w33, w34, w35, w36, w37, k6, v9, d9, a60, co9, r9⟩ := id hW
    obtain ⟨o0, ⟨o72, onx, oow⟩, ot, ok, on, ov, oc, oa, om, orw⟩ := id hO
    have kq := fun j (h : j < 3) => (hK j (by omega)).2
    have hk0 := kq 0 (by decide)
    have hk1 := kq 1 (by decide)
    have hk2 := kq 2 (by decide)
    replace hk0 := And.intro hk0.1 (hk0.2.2 (by decide))
    replace hk1 := And.intro hk1.1 (hk1.2.2 (by decide))
    replace hk2 := And.intro hk2.1 (hk2.2.2 (by decide))
    have hGb := goodV_bd hk0 hk1 hk2
    obtain ⟨f, hf⟩ : ∃ f : Nat → Nat, ∀ k : Nat, f k = (gBr (mkLk sq B kd v) (goL (mkLk sq B kd v) kd v aim row 0 false 30 0 ((fi 31 1).toInt + k) 0 (cd * (goodV (fi 38 0).toInt (fi 38 1).toInt (fi 38 2).toInt)))).toNat := ⟨fun k => (gBr (mkLk sq B kd v) (goL (mkLk sq B kd v) kd v aim row 0 false 30 0 ((fi 31 1).toInt + k) 0 (cd * (goodV (fi 38 0).toInt (fi 38 1).toInt (fi 38 2).toInt)))).toNat, fun k => rfl⟩
    have hfM : ∀ k, f k ≤ 99999 := fun k => by
      rw [hf]
      have := (goR_bd (SQs_v hsq) (by decide) (film_bd d9 hGb).2 (Eq.refl (goL (mkLk sq B kd v) kd v aim row 0 false 30 0 ((fi 31 1).toInt + k) 0 (cd * (goodV (fi 38 0).toInt (fi 38 1).toInt (fi 38 2).toInt))))).2.2.1
      omega
    have hSM := smN_le hfM 12 0 0
    refine wi_aload_1 ct_211_869 ?_
    refine wi_aloadT_0 ct_211_870 ?_
    refine wi_iload_3 ct_211_871 ?_
    refine wi_ic ct_211_872 kc_1 ?_
    refine wi_iadd ct_211_873 rfl ?_
    refine wi_ialdT (j := I + 1) (x := a1) ct_211_874 (sL_SC hS) (i_in (i_add hi ki_1 (by omega)) (by omega)) (i_cl (i_add hi ki_1 (by omega)) (by omega)) (((hsc _).trans e1)) ?_
    refine wi_aloadT_0 ct_211_875 ?_
    refine wi_iload_3 ct_211_876 ?_
    refine wi_ic ct_211_877 kc_2 ?_
    refine wi_iadd ct_211_878 rfl ?_
    refine wi_ialdT (j := I + 2) (x := a2) ct_211_879 (sL_SC hS) (i_in (i_add hi ki_2 (by omega)) (by omega)) (i_cl (i_add hi ki_2 (by omega)) (by omega)) (((hsc _).trans e2)) ?_
    refine wi_cv2 (ls' := [some _, some _, some _, none, none, none]) ct_211_880 (Nat.le_of_ble_eq_true rfl) (by decide) (sT_0 hS) rfl (by decide) rfl rfl (Nat.le_of_ble_eq_true rfl) ?_
    refine wi_aload_0 ct_89_0 ?_
    refine wi_iload_1 ct_89_1 ?_
    refine wi_cv1 (ls' := [some _, some _]) ct_89_2 (Nat.le_of_ble_eq_true rfl) (by decide) (sT_0 hS) rfl (by decide) rfl rfl (Nat.le_of_ble_eq_true rfl) ?_
    refine wi_iload_1 ct_104_0 ?_
    refine wi_ic ct_104_1 kc_0 ?_
    refine wi_aload_0 ct_104_2 ?_
    refine wi_gfr ct_104_3 (sT_0 hS) rfl (sR_0_0 hS) ?_
    refine wi_gf (x := fi 31 0) ct_104_6 (sT_1 hS) rfl rfl c0 ?_
    refine wi_ic ct_104_9 kc_1 ?_
    refine wi_isub ct_104_10 rfl ?_
    refine wi_cs3 (ls' := [some _, some _, some _]) ct_104_11 (Nat.le_of_ble_eq_true rfl) rfl (Nat.le_of_ble_eq_true rfl) ?_
    refine c_within hBn ki_0 (i_sub rfl ki_1 (by omega)) (fun _ => wk_i ?_) (fun h => absurd h (by omega))
    refine wi_ifeq_f ct_104_14 ki_1 (by decide) ?_
    refine wi_aload_0 ct_104_17 ?_
    refine wi_gfr ct_104_18 (sT_0 hS) rfl (sR_0_0 hS) ?_
    refine wi_gfr ct_104_21 (sT_1 hS) rfl (sR_1_0 hS) ?_
    refine wi_iload_1 ct_104_24 ?_
    refine wi_aald ct_104_25 (sT_2 hS) (by decide) (sL_2 hS) (i_in hBn (by omega)) (i_cl (k := B) hBn (by omega)) o0 ?_
    refine wi_goto ct_104_26 ?_
    refine wi_aret ct_104_30 (wk_r ?_)
    refine wi_astore_3 rfl ct_89_5 ?_
    refine wi_aload_3 ct_89_6 ?_
    refine wi_ifnull_r ct_89_7 ?_
    refine wi_iload_2 ct_89_10 ?_
    refine wi_ic ct_89_11 kc_0 ?_
    refine wi_ic ct_89_12 kc_1 ?_
    refine wi_cs3 (ls' := [some _, some _, some _]) ct_89_13 (Nat.le_of_ble_eq_true rfl) rfl (Nat.le_of_ble_eq_true rfl) ?_
    refine c_within rfl ki_0 ki_1 (fun h1 => wk_i ?_) (fun h1 => wk_i ?_)
    · skip
      refine wi_ifne_t ct_89_16 ki_1 (by decide) ?_
      refine wi_ic ct_89_23 kc_0 ?_
      refine wi_istore_4 rfl ct_89_24 ?_
      refine wi_ic ct_89_26 kc_0 ?_
      refine wi_istore_5 rfl ct_89_27 ?_
      refine vl_cmean hR hW hsq hsx hf (fun ztc2 zic2 gc2 fc2 hzc2 hsc2 => ?_) 12 0 0 _ _ _ _ (by omega) SCR.rfl (ki_0.trans rfl) (ki_0.trans rfl) (by omega) rfl
      have hSc2 := (hR.scr hsc2).1
      refine wi_iload_4 ct_89_61 ?_
      refine wi_ic ct_89_63 kc_12 ?_
      refine wi_iload_2 ct_89_65 ?_
      refine wi_cs3 (ls' := [some _, some _, some _, none, none]) ct_89_66 (Nat.le_of_ble_eq_true rfl) rfl (Nat.le_of_ble_eq_true rfl) ?_
      refine c_low (Y := 12) hzc2 (ki_12.trans rfl) rfl (by omega) (by omega) (fun z3 hz3 => wk_i ?_)
      refine wi_i2l ct_89_69 rfl ?_
      refine wi_lret ct_89_70 (wk_j ?_)
      refine wi_aload_2 ct_211_883 ?_
      refine wi_aloadT_0 ct_211_884 ?_
      refine wi_iload_3 ct_211_885 ?_
      refine wi_ic ct_211_886 kc_1 ?_
      refine wi_iadd ct_211_887 rfl ?_
      refine wi_ialdT (j := I + 1) (x := a1) ct_211_888 (sL_SC hSc2) (i_in (i_add hi ki_1 (by omega)) (by omega)) (i_cl (i_add hi ki_1 (by omega)) (by omega)) ((Eq.trans (congrFun (hsc2.2.1 am_SC (by unfold am_SC; decide)) _) ((hsc _).trans e1))) ?_
      refine wi_aloadT_0 ct_211_889 ?_
      refine wi_iload_3 ct_211_890 ?_
      refine wi_ic ct_211_891 kc_2 ?_
      refine wi_iadd ct_211_892 rfl ?_
      refine wi_ialdT (j := I + 2) (x := a2) ct_211_893 (sL_SC hSc2) (i_in (i_add hi ki_2 (by omega)) (by omega)) (i_cl (i_add hi ki_2 (by omega)) (by omega)) ((Eq.trans (congrFun (hsc2.2.1 am_SC (by unfold am_SC; decide)) _) ((hsc _).trans e2))) ?_
      refine wi_cv2 (ls' := [some _, some _, some _, none, none, none]) ct_211_894 (Nat.le_of_ble_eq_true rfl) (by decide) (sT_31 hSc2) rfl (by decide) rfl rfl (Nat.le_of_ble_eq_true rfl) ?_
      refine wi_aload_0 ct_176_0 ?_
      refine wi_iload_1 ct_176_1 ?_
      refine wi_cv1 (ls' := [some _, some _]) ct_176_2 (Nat.le_of_ble_eq_true rfl) (by decide) (sT_31 hSc2) rfl (by decide) rfl rfl (Nat.le_of_ble_eq_true rfl) ?_
      refine wi_aload_0 ct_120_0 ?_
      refine wi_iload_1 ct_120_1 ?_
      refine wi_ic ct_120_2 kc_0 ?_
      refine wi_aload_0 ct_120_3 ?_
      refine wi_gf (x := fi 31 0) ct_120_4 (sT_31 hSc2) rfl rfl (hsc2.2.2.2 0 (by omega)) ?_
      refine wi_ic ct_120_7 kc_1 ?_
      refine wi_isub ct_120_8 rfl ?_
      refine wi_cv3 (ls' := [some _, some _, some _, some _]) ct_120_9 (Nat.le_of_ble_eq_true rfl) (by decide) (sT_31 hSc2) rfl (by decide) rfl rfl (Nat.le_of_ble_eq_true rfl) ?_
      refine c_in hBn ki_0 (i_sub rfl ki_1 (by omega)) (fun _ => wk_i ?_) (fun h => absurd h (by omega))
      refine wi_iret ct_120_12 (by decide) (wk_i ?_)
      refine wi_ifeq_f ct_176_5 ki_1 (by decide) ?_
      refine wi_aload_0 ct_176_8 ?_
      refine wi_iload_2 ct_176_9 ?_
      refine wi_ic ct_176_10 kc_0 ?_
      refine wi_ic ct_176_11 kc_1 ?_
      refine wi_cv3 (ls' := [some _, some _, some _, some _]) ct_176_12 (Nat.le_of_ble_eq_true rfl) (by decide) (sT_31 hSc2) rfl (by decide) rfl rfl (Nat.le_of_ble_eq_true rfl) ?_
      refine c_in rfl ki_0 ki_1 (fun _ => wk_i ?_) (fun h => absurd h (by omega))
      refine wi_ifne_t ct_176_15 ki_1 (by decide) ?_
      refine wi_lc ct_176_22 kl_0 ?_
      refine wi_lstore_3 rfl ct_176_23 ?_
      refine wi_ic ct_176_24 kc_0 ?_
      refine wi_istore_5 rfl ct_176_25 ?_
      refine vl_mmean hR hW hsq hf hBa 12 0 0 _ _ 0 _ _ (by omega) hsc2 (ki_0.trans rfl) (kj_0.trans rfl) (by omega) rfl (fun ztm4 zim4 fm4 xm4 hzm4 hsm4 => ?_)
      refine wi_aload_0 ct_176_56 ?_
      refine wi_lload_3 ct_176_57 ?_
      refine wi_lc ct_176_58 kl_12 ?_
      refine wi_iload_2 ct_176_61 ?_
      refine wi_cv3 (ls' := [some _, some _, none, some _, none, some _, none, none]) ct_176_62 (Nat.le_of_ble_eq_true rfl) (by decide) (sT_31 hSc2) rfl (by decide) rfl rfl (Nat.le_of_ble_eq_true rfl) ?_
      refine c_lowm (Y := 12) hSc2 hzm4 (kj_12.trans rfl) rfl (by omega) (by omega) (fun z5 hz5 => wk_j ?_)
      refine wi_lret ct_176_65 (wk_j ?_)
      refine wi_lcmp ct_211_897 (lcmp_eq (j_eq (j_of hz3) hz5)) ?_
      refine wi_ifeq_t ct_211_898 ki_0 (by decide) ?_
      exact kk own _ _ fl (hR.scr hsm4) (by rw [hsm4.nx]; omega) (by rw [hsm4.sl]; omega)
    · skip
      refine wi_ifne_f ct_89_16 ki_0 (by decide) ?_
      refine wi_lc ct_89_19 kl_m9223372036854775808 ?_
      refine wi_lret ct_89_22 (wk_j ?_)
      refine wi_aload_2 ct_211_883 ?_
      refine wi_aloadT_0 ct_211_884 ?_
      refine wi_iload_3 ct_211_885 ?_
      refine wi_ic ct_211_886 kc_1 ?_
      refine wi_iadd ct_211_887 rfl ?_
      refine wi_ialdT (j := I + 1) (x := a1) ct_211_888 (sL_SC hS) (i_in (i_add hi ki_1 (by omega)) (by omega)) (i_cl (i_add hi ki_1 (by omega)) (by omega)) (((hsc _).trans e1)) ?_
      refine wi_aloadT_0 ct_211_889 ?_
      refine wi_iload_3 ct_211_890 ?_
      refine wi_ic ct_211_891 kc_2 ?_
      refine wi_iadd ct_211_892 rfl ?_
      refine wi_ialdT (j := I + 2) (x := a2) ct_211_893 (sL_SC hS) (i_in (i_add hi ki_2 (by omega)) (by omega)) (i_cl (i_add hi ki_2 (by omega)) (by omega)) (((hsc _).trans e2)) ?_
      refine wi_cv2 (ls' := [some _, some _, some _, none, none, none]) ct_211_894 (Nat.le_of_ble_eq_true rfl) (by decide) (sT_31 hS) rfl (by decide) rfl rfl (Nat.le_of_ble_eq_true rfl) ?_
      refine wi_aload_0 ct_176_0 ?_
      refine wi_iload_1 ct_176_1 ?_
      refine wi_cv1 (ls' := [some _, some _]) ct_176_2 (Nat.le_of_ble_eq_true rfl) (by decide) (sT_31 hS) rfl (by decide) rfl rfl (Nat.le_of_ble_eq_true rfl) ?_
      refine wi_aload_0 ct_120_0 ?_
      refine wi_iload_1 ct_120_1 ?_
      refine wi_ic ct_120_2 kc_0 ?_
      refine wi_aload_0 ct_120_3 ?_
      refine wi_gf (x := fi 31 0) ct_120_4 (sT_31 hS) rfl rfl rfl ?_
      refine wi_ic ct_120_7 kc_1 ?_
      refine wi_isub ct_120_8 rfl ?_
      refine wi_cv3 (ls' := [some _, some _, some _, some _]) ct_120_9 (Nat.le_of_ble_eq_true rfl) (by decide) (sT_31 hS) rfl (by decide) rfl rfl (Nat.le_of_ble_eq_true rfl) ?_
      refine c_in hBn ki_0 (i_sub rfl ki_1 (by omega)) (fun _ => wk_i ?_) (fun h => absurd h (by omega))
      refine wi_iret ct_120_12 (by decide) (wk_i ?_)
      refine wi_ifeq_f ct_176_5 ki_1 (by decide) ?_
      refine wi_aload_0 ct_176_8 ?_
      refine wi_iload_2 ct_176_9 ?_
      refine wi_ic ct_176_10 kc_0 ?_
      refine wi_ic ct_176_11 kc_1 ?_
      refine wi_cv3 (ls' := [some _, some _, some _, some _]) ct_176_12 (Nat.le_of_ble_eq_true rfl) (by decide) (sT_31 hS) rfl (by decide) rfl rfl (Nat.le_of_ble_eq_true rfl) ?_
      refine c_in rfl ki_0 ki_1 (fun h => absurd h (by omega)) (fun _ => wk_i ?_)
      refine wi_ifne_f ct_176_15 ki_0 (by decide) ?_
      refine wi_lc ct_176_18 kl_m9223372036854775808 ?_
      refine wi_lret ct_176_21 (wk_j ?_)
      refine wi_lcmp ct_211_897 (lcmp_eq rfl) ?_
      refine wi_ifeq_t ct_211_898 ki_0 (by decide) ?_
      exact kk own g fi fl hR (by omega) (by omega)
  · skip
    refine wi_aload_1 ct_211_869 ?_
    refine wi_aloadT_0 ct_211_870 ?_
    refine wi_iload_3 ct_211_871 ?_
    refine wi_ic ct_211_872 kc_1 ?_
    refine wi_iadd ct_211_873 rfl ?_
    refine wi_ialdT (j := I + 1) (x := a1) ct_211_874 (sL_SC hS) (i_in (i_add hi ki_1 (by omega)) (by omega)) (i_cl (i_add hi ki_1 (by omega)) (by omega)) (((hsc _).trans e1)) ?_
    refine wi_aloadT_0 ct_211_875 ?_
    refine wi_iload_3 ct_211_876 ?_
    refine wi_ic ct_211_877 kc_2 ?_
    refine wi_iadd ct_211_878 rfl ?_
    refine wi_ialdT (j := I + 2) (x := a2) ct_211_879 (sL_SC hS) (i_in (i_add hi ki_2 (by omega)) (by omega)) (i_cl (i_add hi ki_2 (by omega)) (by omega)) (((hsc _).trans e2)) ?_
    refine wi_cv2 (ls' := [some _, some _, some _, none, none, none]) ct_211_880 (Nat.le_of_ble_eq_true rfl) (by decide) (sT_0 hS) rfl (by decide) rfl rfl (Nat.le_of_ble_eq_true rfl) ?_
    refine wi_aload_0 ct_89_0 ?_
    refine wi_iload_1 ct_89_1 ?_
    refine wi_cv1 (ls' := [some _, some _]) ct_89_2 (Nat.le_of_ble_eq_true rfl) (by decide) (sT_0 hS) rfl (by decide) rfl rfl (Nat.le_of_ble_eq_true rfl) ?_
    refine wi_iload_1 ct_104_0 ?_
    refine wi_ic ct_104_1 kc_0 ?_
    refine wi_aload_0 ct_104_2 ?_
    refine wi_gfr ct_104_3 (sT_0 hS) rfl (sR_0_0 hS) ?_
    refine wi_gf (x := fi 31 0) ct_104_6 (sT_1 hS) rfl rfl c0 ?_
    refine wi_ic ct_104_9 kc_1 ?_
    refine wi_isub ct_104_10 rfl ?_
    refine wi_cs3 (ls' := [some _, some _, some _]) ct_104_11 (Nat.le_of_ble_eq_true rfl) rfl (Nat.le_of_ble_eq_true rfl) ?_
    refine c_within rfl ki_0 (i_sub rfl ki_1 (by omega)) (fun h => absurd h (by omega)) (fun _ => wk_i ?_)
    refine wi_ifeq_t ct_104_14 ki_0 (by decide) ?_
    refine wi_null ct_104_29 ?_
    refine wi_aretn ct_104_30 (wk_n ?_)
    refine wi_astoreN_3 rfl ct_89_5 ?_
    refine wi_aloadN_3 ct_89_6 ?_
    refine wi_ifnull_n ct_89_7 ?_
    refine wi_lc ct_89_19 kl_m9223372036854775808 ?_
    refine wi_lret ct_89_22 (wk_j ?_)
    refine wi_aload_2 ct_211_883 ?_
    refine wi_aloadT_0 ct_211_884 ?_
    refine wi_iload_3 ct_211_885 ?_
    refine wi_ic ct_211_886 kc_1 ?_
    refine wi_iadd ct_211_887 rfl ?_
    refine wi_ialdT (j := I + 1) (x := a1) ct_211_888 (sL_SC hS) (i_in (i_add hi ki_1 (by omega)) (by omega)) (i_cl (i_add hi ki_1 (by omega)) (by omega)) (((hsc _).trans e1)) ?_
    refine wi_aloadT_0 ct_211_889 ?_
    refine wi_iload_3 ct_211_890 ?_
    refine wi_ic ct_211_891 kc_2 ?_
    refine wi_iadd ct_211_892 rfl ?_
    refine wi_ialdT (j := I + 2) (x := a2) ct_211_893 (sL_SC hS) (i_in (i_add hi ki_2 (by omega)) (by omega)) (i_cl (i_add hi ki_2 (by omega)) (by omega)) (((hsc _).trans e2)) ?_
    refine wi_cv2 (ls' := [some _, some _, some _, none, none, none]) ct_211_894 (Nat.le_of_ble_eq_true rfl) (by decide) (sT_31 hS) rfl (by decide) rfl rfl (Nat.le_of_ble_eq_true rfl) ?_
    refine wi_aload_0 ct_176_0 ?_
    refine wi_iload_1 ct_176_1 ?_
    refine wi_cv1 (ls' := [some _, some _]) ct_176_2 (Nat.le_of_ble_eq_true rfl) (by decide) (sT_31 hS) rfl (by decide) rfl rfl (Nat.le_of_ble_eq_true rfl) ?_
    refine wi_aload_0 ct_120_0 ?_
    refine wi_iload_1 ct_120_1 ?_
    refine wi_ic ct_120_2 kc_0 ?_
    refine wi_aload_0 ct_120_3 ?_
    refine wi_gf (x := fi 31 0) ct_120_4 (sT_31 hS) rfl rfl rfl ?_
    refine wi_ic ct_120_7 kc_1 ?_
    refine wi_isub ct_120_8 rfl ?_
    refine wi_cv3 (ls' := [some _, some _, some _, some _]) ct_120_9 (Nat.le_of_ble_eq_true rfl) (by decide) (sT_31 hS) rfl (by decide) rfl rfl (Nat.le_of_ble_eq_true rfl) ?_
    refine c_in rfl ki_0 (i_sub rfl ki_1 (by omega)) (fun h => absurd h (by omega)) (fun _ => wk_i ?_)
    refine wi_iret ct_120_12 (by decide) (wk_i ?_)
    refine wi_ifeq_t ct_176_5 ki_0 (by decide) ?_
    refine wi_lc ct_176_18 kl_m9223372036854775808 ?_
    refine wi_lret ct_176_21 (wk_j ?_)
    refine wi_lcmp ct_211_897 (lcmp_eq rfl) ?_
    refine wi_ifeq_t ct_211_898 ki_0 (by decide) ?_
    exact kk own g fi fl hR (by omega) (by omega)
